/-! from 94.445 -/
/-! the reference (written by wip/tools/gen94m.py) -/
set_option maxRecDepth 100000 in
theorem hm_238 : ma_md 238 = some (12, yX12_setRoot, cX12_setRoot, 4, none) := rfl
set_option maxRecDepth 100000 in
theorem hm_239 : ma_md 239 = some (12, yX12_more, cX12_more, 2, none) := rfl
theorem v_12_484_12 : ma_vl 12 484 12 = some (1, 239, 1) := by decide +kernel
theorem v_12_487_12 : ma_vl 12 487 12 = some (1, 240, 2) := by decide +kernel
theorem v_12_490_12 : ma_vl 12 490 12 = some (1, 241, 1) := by decide +kernel
theorem dX12_setRoot_0 : decode cX12_setRoot 0 = .ok (.aload_n 0, 1) := by decide +kernel
theorem dX12_setRoot_4 : decode cX12_setRoot 4 = .ok (.iload_n 1, 1) := by decide +kernel
theorem dX12_setRoot_6 : decode cX12_setRoot 6 = .ok (.istore_n 3, 1) := by decide +kernel
theorem dX12_setRoot_7 : decode cX12_setRoot 7 = .ok (.aload_n 0, 1) := by decide +kernel
theorem dX12_setRoot_8 : decode cX12_setRoot 8 = .ok (.iload_n 2, 1) := by decide +kernel
theorem dX12_setRoot_9 : decode cX12_setRoot 9 = .ok (.invokevirtual 484, 3) := by decide +kernel
theorem dX12_more_0 : decode cX12_more 0 = .ok (.iload_n 1, 1) := by decide +kernel
theorem dX12_setRoot_12 : decode cX12_setRoot 12 = .ok (.aload_n 0, 1) := by decide +kernel
theorem dX12_setRoot_16 : decode cX12_setRoot 16 = .ok (.iload_n 1, 1) := by decide +kernel
theorem dX12_setRoot_17 : decode cX12_setRoot 17 = .ok (.iload_n 2, 1) := by decide +kernel
theorem dX12_setRoot_19 : decode cX12_setRoot 19 = .ok (.aload_n 0, 1) := by decide +kernel
theorem dX12_setRoot_20 : decode cX12_setRoot 20 = .ok (.iload_n 3, 1) := by decide +kernel
theorem dX12_setRoot_21 : decode cX12_setRoot 21 = .ok (.iload_n 2, 1) := by decide +kernel
theorem dX12_setRoot_22 : decode cX12_setRoot 22 = .ok (.invokevirtual 487, 3) := by decide +kernel
theorem dX12_setRoot_25 : decode cX12_setRoot 25 = .ok (.aload_n 0, 1) := by decide +kernel
theorem dX12_setRoot_26 : decode cX12_setRoot 26 = .ok (.iload_n 3, 1) := by decide +kernel
theorem dX12_setRoot_27 : decode cX12_setRoot 27 = .ok (.invokevirtual 490, 3) := by decide +kernel
theorem dX12_setRoot_30 : decode cX12_setRoot 30 = .ok (.return_, 1) := by decide +kernel
theorem dX12_setRoot_18 : decode cX12_setRoot 18 = .ok (.iastore, 1) := by decide +kernel
theorem dX12_setRoot_13 : decode cX12_setRoot 13 = .ok (.getfield 68, 3) := by decide +kernel
theorem dX12_more_22 : decode cX12_more 22 = .ok (.return_, 1) := by decide +kernel
theorem dX12_more_4 : decode cX12_more 4 = .ok (.aload_n 0, 1) := by decide +kernel
theorem dX12_more_8 : decode cX12_more 8 = .ok (.iconst 4, 1) := by decide +kernel
theorem dX12_more_12 : decode cX12_more 12 = .ok (.aload_n 0, 1) := by decide +kernel
theorem dX12_more_16 : decode cX12_more 16 = .ok (.iload_n 1, 1) := by decide +kernel
theorem dX12_more_17 : decode cX12_more 17 = .ok (.dup2, 1) := by decide +kernel
theorem dX12_more_19 : decode cX12_more 19 = .ok (.iconst 1, 1) := by decide +kernel
theorem dX12_more_20 : decode cX12_more 20 = .ok (.iadd, 1) := by decide +kernel
theorem dX12_more_21 : decode cX12_more 21 = .ok (.iastore, 1) := by decide +kernel
theorem dX12_more_18 : decode cX12_more 18 = .ok (.iaload, 1) := by decide +kernel
theorem dX12_more_13 : decode cX12_more 13 = .ok (.getfield 46, 3) := by decide +kernel
theorem dX12_more_9 : decode cX12_more 9 = .ok (.if_icmp .ne 13, 3) := by decide +kernel
theorem dX12_more_5 : decode cX12_more 5 = .ok (.getfield 199, 3) := by decide +kernel
theorem dX12_more_1 : decode cX12_more 1 = .ok (.ifCond .lt 21, 3) := by decide +kernel
theorem dX12_setRoot_5 : decode cX12_setRoot 5 = .ok (.iaload, 1) := by decide +kernel
theorem dX12_setRoot_1 : decode cX12_setRoot 1 = .ok (.getfield 68, 3) := by decide +kernel
def wr_238 (c k : Nat) : Bool := Nat.beq c 99 || Nat.beq c 105 || Nat.beq c 106 || Nat.beq c 109 || Nat.beq c 111 || Nat.beq c 112 || Nat.beq c 113 || Nat.beq c 114 || Nat.beq c 115 || Nat.beq c 120 || Nat.beq c 121 || (Nat.beq c 94 && (Nat.beq k 44 || Nat.beq k 45 || Nat.beq k 49 || Nat.beq k 55 || Nat.beq k 56 || Nat.beq k 80))
theorem ws_240_238 : ∀ c k, wr_240 c k = true → wr_238 c k = true := by
  intro c k h
  simp only [wr_240, Bool.or_eq_true, Bool.and_eq_true, Nat.beq_eq] at h
  rcases h with (rfl | rfl) | ⟨rfl, rfl⟩ <;> rfl
theorem ws_241_238 : ∀ c k, wr_241 c k = true → wr_238 c k = true := by
  intro c k h
  simp only [wr_241, Bool.or_eq_true, Bool.and_eq_true, Nat.beq_eq] at h
  rcases h with (((((((rfl | rfl) | rfl) | rfl) | rfl) | rfl) | rfl) | rfl) | ⟨rfl, ((((rfl | rfl) | rfl) | rfl) | rfl)⟩ <;> rfl
theorem g_238_0 {X : Nat × (Nat → Int32)} {m : Nat → Nat → Int32} {P : Option ma_V → (Nat → Nat → Int32) → Prop} (r1 : Int32) (s : Int32) (h : (0 ≤ r1 ∧ r1.toNatClampNeg < 16) ∧ (if s < 0 then ((0 ≤ r1 ∧ r1.toNatClampNeg < 16) ∧ (zm X 1 21 240 0 [(0, .inr (.inr (some 94))), (1, .inl (m 112 r1.toNatClampNeg)), (2, .inl s)] (ma_u m 112 r1.toNatClampNeg s) (zmv (fun m1 => zm X 3 64 241 0 [(0, .inr (.inr (some 94))), (1, .inl (m 112 r1.toNatClampNeg))] m1 (zmv (fun m3 => P none m3)))))) else (if (m 94 10) = (4 : Int32) then ((0 ≤ s ∧ s.toNatClampNeg < 3100) ∧ ((0 ≤ s ∧ s.toNatClampNeg < 3100) ∧ ((0 ≤ r1 ∧ r1.toNatClampNeg < 16) ∧ (zm X 1 21 240 0 [(0, .inr (.inr (some 94))), (1, .inl (m 112 r1.toNatClampNeg)), (2, .inl s)] (ma_u (ma_u m 105 s.toNatClampNeg ((m 105 s.toNatClampNeg) + (1 : Int32))) 112 r1.toNatClampNeg s) (zmv (fun m9 => zm X 3 64 241 0 [(0, .inr (.inr (some 94))), (1, .inl (m 112 r1.toNatClampNeg))] m9 (zmv (fun m11 => P none m11)))))))) else ((0 ≤ r1 ∧ r1.toNatClampNeg < 16) ∧ (zm X 1 21 240 0 [(0, .inr (.inr (some 94))), (1, .inl (m 112 r1.toNatClampNeg)), (2, .inl s)] (ma_u m 112 r1.toNatClampNeg s) (zmv (fun m5 => zm X 3 64 241 0 [(0, .inr (.inr (some 94))), (1, .inl (m 112 r1.toNatClampNeg))] m5 (zmv (fun m7 => P none m7))))))))) : zm X 4 88 238 0 [(0, .inr (.inr (some 94))), (1, .inl r1), (2, .inl s)] m P := by
  intro d w S Q hd hw hS hm HQ
  subst hm
  refine zw_push hm_238 dX12_setRoot_0 (v := .inr (.inr (some 94))) rfl ?_
  refine zw_gf hm_238 dX12_setRoot_1 (v := .inr (.inr (some 112))) (zT_is hS s_94) (zT_t hS s_94) rfl f_12_68_12 (zT_f hS r_94_51) ?_
  refine zw_push hm_238 dX12_setRoot_4 (v := .inl r1) rfl ?_
  obtain ⟨hg, h⟩ := h
  refine zw_ia hm_238 dX12_setRoot_5 (zT_is hS s_112) (zT_h hS s_112) rfl hg ?_
  show ma_wp X d w 238 6 [(0, .inr (.inr (some 94))), (1, .inl r1), (2, .inl s)] [.inl ((mI S) 112 r1.toNatClampNeg)] S _
  refine zw_sto hm_238 dX12_setRoot_6 [(3, .inl ((mI S) 112 r1.toNatClampNeg)), (0, .inr (.inr (some 94))), (1, .inl r1), (2, .inl s)] rfl rfl rfl ?_
  refine zw_push hm_238 dX12_setRoot_7 (v := .inr (.inr (some 94))) rfl ?_
  refine zw_push hm_238 dX12_setRoot_8 (v := .inl s) rfl ?_
  refine zw_cv hm_238 dX12_setRoot_9 v_12_484_12 hm_239 [.inl s] [] rfl (zT_rt hS s_94 rfl) ⟨by omega, by omega⟩ rfl ?_
  show ma_wp X (d - 1) (w - 21) 239 0 [(0, .inr (.inr (some 94))), (1, .inl s)] [] S _
  refine zw_push hm_239 dX12_more_0 (v := .inl s) rfl ?_
  refine zw_if0 hm_239 dX12_more_1 (t := 22) rfl zc0_lt ?_ ?_
  · intro hc
    rw [if_pos hc] at h
    refine zw_vret hm_239 dX12_more_22 ?_
    show ma_wp X d w 238 12 [(3, .inl ((mI S) 112 r1.toNatClampNeg)), (0, .inr (.inr (some 94))), (1, .inl r1), (2, .inl s)] [] S _
    refine zw_push hm_238 dX12_setRoot_12 (v := .inr (.inr (some 94))) rfl ?_
    refine zw_gf hm_238 dX12_setRoot_13 (v := .inr (.inr (some 112))) (zT_is hS s_94) (zT_t hS s_94) rfl f_12_68_12 (zT_f hS r_94_51) ?_
    refine zw_push hm_238 dX12_setRoot_16 (v := .inl r1) rfl ?_
    refine zw_push hm_238 dX12_setRoot_17 (v := .inl s) rfl ?_
    obtain ⟨hg, h⟩ := h
    refine zw_ias hm_238 dX12_setRoot_18 (zT_is hS s_112) (zT_h hS s_112) rfl hg ?_
    refine zw_push hm_238 dX12_setRoot_19 (v := .inr (.inr (some 94))) rfl ?_
    refine zw_push hm_238 dX12_setRoot_20 (v := .inl ((mI S) 112 r1.toNatClampNeg)) rfl ?_
    refine zw_push hm_238 dX12_setRoot_21 (v := .inl s) rfl ?_
    refine zw_cv hm_238 dX12_setRoot_22 v_12_487_12 hm_240 [.inl s, .inl ((mI S) 112 r1.toNatClampNeg)] [] rfl (zT_rt (zT_pi hS) s_94 rfl) ⟨by omega, by omega⟩ rfl (h _ _ (ma_put S 112 r1.toNatClampNeg (.inl s)) _ (by omega) (by omega) (zT_pi hS) rfl (fun o9 m1 hv => ?_))
    obtain ⟨rfl, h⟩ := zmv_of hv
    show ma_wp X d w 238 25 [(3, .inl ((mI S) 112 r1.toNatClampNeg)), (0, .inr (.inr (some 94))), (1, .inl r1), (2, .inl s)] [] (zst S m1) _
    refine zw_push hm_238 dX12_setRoot_25 (v := .inr (.inr (some 94))) rfl ?_
    refine zw_push hm_238 dX12_setRoot_26 (v := .inl ((mI S) 112 r1.toNatClampNeg)) rfl ?_
    refine zw_cv hm_238 dX12_setRoot_27 v_12_490_12 hm_241 [.inl ((mI S) 112 r1.toNatClampNeg)] [] rfl (zT_rt (zT_zst hS m1) s_94 rfl) ⟨by omega, by omega⟩ rfl (h _ _ (zst S m1) _ (by omega) (by omega) (zT_zst hS m1) rfl (fun o9 m3 hv => ?_))
    obtain ⟨rfl, h⟩ := zmv_of hv
    show ma_wp X d w 238 30 [(3, .inl ((mI S) 112 r1.toNatClampNeg)), (0, .inr (.inr (some 94))), (1, .inl r1), (2, .inl s)] [] (zst S m3) _
    exact zw_vret hm_238 dX12_setRoot_30 (HQ _ _ h)
  · intro hc
    rw [if_neg hc] at h
    refine zw_push hm_239 dX12_more_4 (v := .inr (.inr (some 94))) rfl ?_
    refine zw_gf hm_239 dX12_more_5 (v := .inl ((mI S) 94 10)) (zT_is hS s_94) (zT_t hS s_94) rfl f_12_199_12 rfl ?_
    refine zw_push hm_239 dX12_more_8 (v := .inl (4 : Int32)) rfl ?_
    refine zw_if2 hm_239 dX12_more_9 (t := 22) rfl zc2_ne ?_ ?_
    · intro hc
      rw [if_neg hc] at h
      refine zw_vret hm_239 dX12_more_22 ?_
      show ma_wp X d w 238 12 [(3, .inl ((mI S) 112 r1.toNatClampNeg)), (0, .inr (.inr (some 94))), (1, .inl r1), (2, .inl s)] [] S _
      refine zw_push hm_238 dX12_setRoot_12 (v := .inr (.inr (some 94))) rfl ?_
      refine zw_gf hm_238 dX12_setRoot_13 (v := .inr (.inr (some 112))) (zT_is hS s_94) (zT_t hS s_94) rfl f_12_68_12 (zT_f hS r_94_51) ?_
      refine zw_push hm_238 dX12_setRoot_16 (v := .inl r1) rfl ?_
      refine zw_push hm_238 dX12_setRoot_17 (v := .inl s) rfl ?_
      obtain ⟨hg, h⟩ := h
      refine zw_ias hm_238 dX12_setRoot_18 (zT_is hS s_112) (zT_h hS s_112) rfl hg ?_
      refine zw_push hm_238 dX12_setRoot_19 (v := .inr (.inr (some 94))) rfl ?_
      refine zw_push hm_238 dX12_setRoot_20 (v := .inl ((mI S) 112 r1.toNatClampNeg)) rfl ?_
      refine zw_push hm_238 dX12_setRoot_21 (v := .inl s) rfl ?_
      refine zw_cv hm_238 dX12_setRoot_22 v_12_487_12 hm_240 [.inl s, .inl ((mI S) 112 r1.toNatClampNeg)] [] rfl (zT_rt (zT_pi hS) s_94 rfl) ⟨by omega, by omega⟩ rfl (h _ _ (ma_put S 112 r1.toNatClampNeg (.inl s)) _ (by omega) (by omega) (zT_pi hS) rfl (fun o9 m5 hv => ?_))
      obtain ⟨rfl, h⟩ := zmv_of hv
      show ma_wp X d w 238 25 [(3, .inl ((mI S) 112 r1.toNatClampNeg)), (0, .inr (.inr (some 94))), (1, .inl r1), (2, .inl s)] [] (zst S m5) _
      refine zw_push hm_238 dX12_setRoot_25 (v := .inr (.inr (some 94))) rfl ?_
      refine zw_push hm_238 dX12_setRoot_26 (v := .inl ((mI S) 112 r1.toNatClampNeg)) rfl ?_
      refine zw_cv hm_238 dX12_setRoot_27 v_12_490_12 hm_241 [.inl ((mI S) 112 r1.toNatClampNeg)] [] rfl (zT_rt (zT_zst hS m5) s_94 rfl) ⟨by omega, by omega⟩ rfl (h _ _ (zst S m5) _ (by omega) (by omega) (zT_zst hS m5) rfl (fun o9 m7 hv => ?_))
      obtain ⟨rfl, h⟩ := zmv_of hv
      show ma_wp X d w 238 30 [(3, .inl ((mI S) 112 r1.toNatClampNeg)), (0, .inr (.inr (some 94))), (1, .inl r1), (2, .inl s)] [] (zst S m7) _
      exact zw_vret hm_238 dX12_setRoot_30 (HQ _ _ h)
    · intro hc
      rw [if_pos (Classical.not_not.mp hc)] at h
      refine zw_push hm_239 dX12_more_12 (v := .inr (.inr (some 94))) rfl ?_
      refine zw_gf hm_239 dX12_more_13 (v := .inr (.inr (some 105))) (zT_is hS s_94) (zT_t hS s_94) rfl f_12_46_12 (zT_f hS r_94_37) ?_
      refine zw_push hm_239 dX12_more_16 (v := .inl s) rfl ?_
      refine zw_stk hm_239 dX12_more_17 (st₉ := [.inl s, .inr (.inr (some 105)), .inl s, .inr (.inr (some 105))]) rfl rfl ?_
      obtain ⟨hg, h⟩ := h
      refine zw_ia hm_239 dX12_more_18 (zT_is hS s_105) (zT_h hS s_105) rfl hg ?_
      show ma_wp X (d - 1) (w - 21) 239 19 [(0, .inr (.inr (some 94))), (1, .inl s)] [.inl ((mI S) 105 s.toNatClampNeg), .inl s, .inr (.inr (some 105))] S _
      refine zw_push hm_239 dX12_more_19 (v := .inl (1 : Int32)) rfl ?_
      refine zw_stk hm_239 dX12_more_20 (st₉ := [.inl (((mI S) 105 s.toNatClampNeg) + (1 : Int32)), .inl s, .inr (.inr (some 105))]) rfl rfl ?_
      obtain ⟨hg, h⟩ := h
      refine zw_ias hm_239 dX12_more_21 (zT_is hS s_105) (zT_h hS s_105) rfl hg ?_
      refine zw_vret hm_239 dX12_more_22 ?_
      show ma_wp X d w 238 12 [(3, .inl ((mI S) 112 r1.toNatClampNeg)), (0, .inr (.inr (some 94))), (1, .inl r1), (2, .inl s)] [] (ma_put S 105 s.toNatClampNeg (.inl (((mI S) 105 s.toNatClampNeg) + (1 : Int32)))) _
      refine zw_push hm_238 dX12_setRoot_12 (v := .inr (.inr (some 94))) rfl ?_
      refine zw_gf hm_238 dX12_setRoot_13 (v := .inr (.inr (some 112))) (zT_is (zT_pi hS) s_94) (zT_t (zT_pi hS) s_94) rfl f_12_68_12 (zT_f (zT_pi hS) r_94_51) ?_
      refine zw_push hm_238 dX12_setRoot_16 (v := .inl r1) rfl ?_
      refine zw_push hm_238 dX12_setRoot_17 (v := .inl s) rfl ?_
      obtain ⟨hg, h⟩ := h
      refine zw_ias hm_238 dX12_setRoot_18 (zT_is (zT_pi hS) s_112) (zT_h (zT_pi hS) s_112) rfl hg ?_
      refine zw_push hm_238 dX12_setRoot_19 (v := .inr (.inr (some 94))) rfl ?_
      refine zw_push hm_238 dX12_setRoot_20 (v := .inl ((mI S) 112 r1.toNatClampNeg)) rfl ?_
      refine zw_push hm_238 dX12_setRoot_21 (v := .inl s) rfl ?_
      refine zw_cv hm_238 dX12_setRoot_22 v_12_487_12 hm_240 [.inl s, .inl ((mI S) 112 r1.toNatClampNeg)] [] rfl (zT_rt (zT_pi (zT_pi hS)) s_94 rfl) ⟨by omega, by omega⟩ rfl (h _ _ (ma_put (ma_put S 105 s.toNatClampNeg (.inl (((mI S) 105 s.toNatClampNeg) + (1 : Int32)))) 112 r1.toNatClampNeg (.inl s)) _ (by omega) (by omega) (zT_pi (zT_pi hS)) rfl (fun o9 m9 hv => ?_))
      obtain ⟨rfl, h⟩ := zmv_of hv
      show ma_wp X d w 238 25 [(3, .inl ((mI S) 112 r1.toNatClampNeg)), (0, .inr (.inr (some 94))), (1, .inl r1), (2, .inl s)] [] (zst S m9) _
      refine zw_push hm_238 dX12_setRoot_25 (v := .inr (.inr (some 94))) rfl ?_
      refine zw_push hm_238 dX12_setRoot_26 (v := .inl ((mI S) 112 r1.toNatClampNeg)) rfl ?_
      refine zw_cv hm_238 dX12_setRoot_27 v_12_490_12 hm_241 [.inl ((mI S) 112 r1.toNatClampNeg)] [] rfl (zT_rt (zT_zst hS m9) s_94 rfl) ⟨by omega, by omega⟩ rfl (h _ _ (zst S m9) _ (by omega) (by omega) (zT_zst hS m9) rfl (fun o9 m11 hv => ?_))
      obtain ⟨rfl, h⟩ := zmv_of hv
      show ma_wp X d w 238 30 [(3, .inl ((mI S) 112 r1.toNatClampNeg)), (0, .inr (.inr (some 94))), (1, .inl r1), (2, .inl s)] [] (zst S m11) _
      exact zw_vret hm_238 dX12_setRoot_30 (HQ _ _ h)
theorem sp_238 {X : Nat × (Nat → Int32)} {P : Option ma_V → (Nat → Nat → Int32) → Prop} {T : Nat} {m : Nat → Nat → Int32} (r1 : Int32) (s : Int32) (hV : zV m) (hpre0 : 0 ≤ r1.toInt) (hpre1 : r1.toInt ≤ 15) (hpre2 : -1 ≤ s.toInt) (hpre3 : s.toInt ≤ 3099) (r_SU : ((m 94 10).toInt = 2 ∨ (m 94 10).toInt = 3) → s.toInt < 0 ∨ (m 99) s.toNatClampNeg ≠ 0) (r_W : zW (m 94 7) (m 98) (m 101) (m 102) (m 108)) (r_GW : zGW T (m 94 55) (m 109)) (r_GU : zGU T (m 94 46) (m 99)) (r_OW : zOw (m 99) (m 103) (m 111)) (r_DX : zDX (m 94 10) (m 99) (m 112) (m 113) (m 114) (m 94 55) (m 98) (m 101) (m 102) (m 108)) (r_GG : zGG (m 94 58) (m 94 56) (m 94 57) (m 106)) (r_HA : zHA (m 94 10) (m 94 11) (m 94 13) (m 94 14) (m 94 16) (m 94 61) (m 94 59) (m 94 60) (m 99) (m 102) (m 103) (m 111) (m 117) (m 98) (m 101) (m 108)) (r_RGc : zRG (m 94 10) (m 94 18) (m 94 64) (m 94 63) (m 99) (m 103) (m 102) (m 116)) (hpre13 : (m 94 58).toInt = 0 ∨ (m 94 10).toInt = 5) (KZ : ∀ m₉, zV (zov wr_238 m m₉) → (zGW T (m₉ 94 55) (m₉ 109)) → (zGU T (m 94 46) (m₉ 99)) → (zOw (m₉ 99) (m 103) (m₉ 111)) → (zDX (m 94 10) (m₉ 99) (m₉ 112) (m₉ 113) (m₉ 114) (m₉ 94 55) (m 98) (m 101) (m 102) (m 108)) → (zGG (m 94 58) (m₉ 94 56) (m 94 57) (m₉ 106)) → (zHA (m 94 10) (m 94 11) (m 94 13) (m 94 14) (m 94 16) (m 94 61) (m 94 59) (m 94 60) (m₉ 99) (m 102) (m 103) (m₉ 111) (m 117) (m 98) (m 101) (m 108)) → (zRG (m 94 10) (m 94 18) (m 94 64) (m 94 63) (m₉ 99) (m 103) (m 102) (m 116)) → ((m 94 58).toInt = 0 ∨ (m 94 10).toInt = 5) → P none (zov wr_238 m m₉)) : zm X 4 88 238 0 [(0, .inr (.inr (some 94))), (1, .inl r1), (2, .inl s)] m P := by
  have K : ∀ m₉, zF wr_238 m m₉ → zV m₉ → (zGW T (m₉ 94 55) (m₉ 109)) → (zGU T (m₉ 94 46) (m₉ 99)) → (zOw (m₉ 99) (m₉ 103) (m₉ 111)) → (zDX (m₉ 94 10) (m₉ 99) (m₉ 112) (m₉ 113) (m₉ 114) (m₉ 94 55) (m₉ 98) (m₉ 101) (m₉ 102) (m₉ 108)) → (zGG (m₉ 94 58) (m₉ 94 56) (m₉ 94 57) (m₉ 106)) → (zHA (m₉ 94 10) (m₉ 94 11) (m₉ 94 13) (m₉ 94 14) (m₉ 94 16) (m₉ 94 61) (m₉ 94 59) (m₉ 94 60) (m₉ 99) (m₉ 102) (m₉ 103) (m₉ 111) (m₉ 117) (m₉ 98) (m₉ 101) (m₉ 108)) → (zRG (m₉ 94 10) (m₉ 94 18) (m₉ 94 64) (m₉ 94 63) (m₉ 99) (m₉ 103) (m₉ 102) (m₉ 116)) → ((m₉ 94 58).toInt = 0 ∨ (m₉ 94 10).toInt = 5) → P none m₉ := by
    intro m₉ hf z q0 q1 q2 q3 q4 q5 q6 q7
    have e := zov_eq hf
    rw [e] at z ⊢
    try rw [e] at q0
    try rw [e] at q1
    try rw [e] at q2
    try rw [e] at q3
    try rw [e] at q4
    try rw [e] at q5
    try rw [e] at q6
    try rw [e] at q7
    exact KZ m₉ z q0 q1 q2 q3 q4 q5 q6 q7
  refine g_238_0 r1 s ?_
  have f1 : 0 ≤ (m 94 58).toInt ∧ (m 94 58).toInt ≤ 1 := rs_94_58 (m := m) hV
  have f2 : 0 ≤ (m 94 10).toInt ∧ (m 94 10).toInt ≤ 6 := rs_94_10 (m := m) hV
  have b3 := i_bd r1
  have hg4 : (0 ≤ r1 ∧ r1.toNatClampNeg < 16) := i_ix (by omega) (by omega)
  refine ⟨hg4, ?_⟩
  have b5 := i_bd s
  have li6 : (0 : Int32).toInt = 0 := rfl
  refine zd (fun (h7 : s < (0 : Int32)) => ?_) (fun (h7 : ¬ s < (0 : Int32)) => ?_)
  · skip
    have g8 := i_lt h7
    have hg9 : (0 ≤ r1 ∧ r1.toNatClampNeg < 16) := i_ix (by omega) (by omega)
    refine ⟨hg9, ?_⟩
    first | have f10 : -1 ≤ (m 112 r1.toNatClampNeg).toInt ∧ (m 112 r1.toNatClampNeg).toInt ≤ 3099 := ra_112 (m := m) hV (k := r1.toNatClampNeg) (i_ix (n := 16) (by omega) (by omega)).2 | have b11 := i_bd (m 112 r1.toNatClampNeg)
    have hV12 : zV (ma_u m 112 r1.toNatClampNeg s) := ua_112 hV (by omega) (by omega)
    refine sp_240 ((m 112 r1.toNatClampNeg)) (s) hV12 (by omega) (by omega) r_GG (show (m 94 58).toInt = 0 ∨ (m 94 10).toInt = 5 from by omega) (fun m1 hV_m1 p0_m1 => zmv_n ?_)
    have p0_m1 : zGG (m 94 58) (m1 94 56) (m 94 57) (m1 106) := p0_m1
    refine sp_241 ((m 112 r1.toNatClampNeg)) hV_m1 (by omega) r_W r_GW r_GU r_OW (show zDX (m 94 10) (m 99) ((ma_u m 112 r1.toNatClampNeg s) 112) (m 113) (m 114) (m 94 55) (m 98) (m 101) (m 102) (m 108) from by first | (exact DX_root r_DX r_SU) | (exfalso; omega; done) | (exfalso; contradiction; done)) (fun m3 hV_m3 p0_m3 p1_m3 p2_m3 p3_m3 p4_m3 => zmv_n ?_)
    have p0_m3 : zGW T (m3 94 55) (m3 109) := p0_m3
    have p1_m3 : zGU T (m 94 46) (m3 99) := p1_m3
    have p2_m3 : zOw (m3 99) (m 103) (m3 111) := p2_m3
    have p3_m3 : zDX (m 94 10) (m3 99) ((ma_u m 112 r1.toNatClampNeg s) 112) (m3 113) (m3 114) (m3 94 55) (m 98) (m 101) (m 102) (m 108) := p3_m3
    have p4_m3 : (m 94 10).toInt ≠ 4 → ((m3 99) = (m 99) ∧ (m3 111) = (m 111) ∧ (m3 113) = (m 113) ∧ (m3 114) = (m 114) ∧ (m3 94 55) = (m 94 55) ∧ (m3 109) = (m 109)) := p4_m3
    exact K _ (zF_zov (zF_zov (zF_u zF_rfl rfl) ws_240_238) ws_241_238) hV_m3 p0_m3 p1_m3 p2_m3 p3_m3 p0_m1 (show zHA (m 94 10) (m 94 11) (m 94 13) (m 94 14) (m 94 16) (m 94 61) (m 94 59) (m 94 60) (m3 99) (m 102) (m 103) (m3 111) (m 117) (m 98) (m 101) (m 108) from by first | (exact HA_lq r_HA (fun z => ⟨(p4_m3 z).1, (p4_m3 z).2.1⟩)) | (exfalso; omega; done) | (exfalso; contradiction; done)) (show zRG (m 94 10) (m 94 18) (m 94 64) (m 94 63) (m3 99) (m 103) (m 102) (m 116) from by first | (exact RG_lq r_RGc (fun z => (p4_m3 z).1)) | (exfalso; omega; done) | (exfalso; contradiction; done)) (show (m 94 58).toInt = 0 ∨ (m 94 10).toInt = 5 from by omega)
  · skip
    have g13 := i_nlt h7
    have li14 : (4 : Int32).toInt = 4 := rfl
    refine zd (fun (h15 : (m 94 10) = (4 : Int32)) => ?_) (fun (h15 : ¬ (m 94 10) = (4 : Int32)) => ?_)
    · skip
      have g16 := i_eq h15
      have hg17 : (0 ≤ s ∧ s.toNatClampNeg < 3100) := i_ix (by omega) (by omega)
      refine ⟨hg17, ?_⟩
      have hg18 : (0 ≤ s ∧ s.toNatClampNeg < 3100) := i_ix (by omega) (by omega)
      refine ⟨hg18, ?_⟩
      have hg19 : (0 ≤ r1 ∧ r1.toNatClampNeg < 16) := i_ix (by omega) (by omega)
      refine ⟨hg19, ?_⟩
      first | have f20 : -1 ≤ (m 112 r1.toNatClampNeg).toInt ∧ (m 112 r1.toNatClampNeg).toInt ≤ 3099 := ra_112 (m := m) hV (k := r1.toNatClampNeg) (i_ix (n := 16) (by omega) (by omega)).2 | have b21 := i_bd (m 112 r1.toNatClampNeg)
      have hV22 : zV (ma_u m 105 s.toNatClampNeg ((m 105 s.toNatClampNeg) + (1 : Int32))) := ua_105 hV
      have hV23 : zV (ma_u (ma_u m 105 s.toNatClampNeg ((m 105 s.toNatClampNeg) + (1 : Int32))) 112 r1.toNatClampNeg s) := ua_112 hV22 (by omega) (by omega)
      refine sp_240 ((m 112 r1.toNatClampNeg)) (s) hV23 (by omega) (by omega) r_GG (show (m 94 58).toInt = 0 ∨ (m 94 10).toInt = 5 from by omega) (fun m9 hV_m9 p0_m9 => zmv_n ?_)
      have p0_m9 : zGG (m 94 58) (m9 94 56) (m 94 57) (m9 106) := p0_m9
      refine sp_241 ((m 112 r1.toNatClampNeg)) hV_m9 (by omega) r_W r_GW r_GU r_OW (show zDX (m 94 10) (m 99) ((ma_u m 112 r1.toNatClampNeg s) 112) (m 113) (m 114) (m 94 55) (m 98) (m 101) (m 102) (m 108) from by first | (exact DX_root r_DX r_SU) | (exfalso; omega; done) | (exfalso; contradiction; done)) (fun m11 hV_m11 p0_m11 p1_m11 p2_m11 p3_m11 p4_m11 => zmv_n ?_)
      have p0_m11 : zGW T (m11 94 55) (m11 109) := p0_m11
      have p1_m11 : zGU T (m 94 46) (m11 99) := p1_m11
      have p2_m11 : zOw (m11 99) (m 103) (m11 111) := p2_m11
      have p3_m11 : zDX (m 94 10) (m11 99) ((ma_u m 112 r1.toNatClampNeg s) 112) (m11 113) (m11 114) (m11 94 55) (m 98) (m 101) (m 102) (m 108) := p3_m11
      have p4_m11 : (m 94 10).toInt ≠ 4 → ((m11 99) = (m 99) ∧ (m11 111) = (m 111) ∧ (m11 113) = (m 113) ∧ (m11 114) = (m 114) ∧ (m11 94 55) = (m 94 55) ∧ (m11 109) = (m 109)) := p4_m11
      exact K _ (zF_zov (zF_zov (zF_u (zF_u zF_rfl rfl) rfl) ws_240_238) ws_241_238) hV_m11 p0_m11 p1_m11 p2_m11 p3_m11 p0_m9 (show zHA (m 94 10) (m 94 11) (m 94 13) (m 94 14) (m 94 16) (m 94 61) (m 94 59) (m 94 60) (m11 99) (m 102) (m 103) (m11 111) (m 117) (m 98) (m 101) (m 108) from by first | (exact HA_lq r_HA (fun z => ⟨(p4_m11 z).1, (p4_m11 z).2.1⟩)) | (exfalso; omega; done) | (exfalso; contradiction; done)) (show zRG (m 94 10) (m 94 18) (m 94 64) (m 94 63) (m11 99) (m 103) (m 102) (m 116) from by first | (exact RG_lq r_RGc (fun z => (p4_m11 z).1)) | (exfalso; omega; done) | (exfalso; contradiction; done)) (show (m 94 58).toInt = 0 ∨ (m 94 10).toInt = 5 from by omega)
    · skip
      have g24 := i_ne h15
      have hg25 : (0 ≤ r1 ∧ r1.toNatClampNeg < 16) := i_ix (by omega) (by omega)
      refine ⟨hg25, ?_⟩
      first | have f26 : -1 ≤ (m 112 r1.toNatClampNeg).toInt ∧ (m 112 r1.toNatClampNeg).toInt ≤ 3099 := ra_112 (m := m) hV (k := r1.toNatClampNeg) (i_ix (n := 16) (by omega) (by omega)).2 | have b27 := i_bd (m 112 r1.toNatClampNeg)
      have hV28 : zV (ma_u m 112 r1.toNatClampNeg s) := ua_112 hV (by omega) (by omega)
      refine sp_240 ((m 112 r1.toNatClampNeg)) (s) hV28 (by omega) (by omega) r_GG (show (m 94 58).toInt = 0 ∨ (m 94 10).toInt = 5 from by omega) (fun m5 hV_m5 p0_m5 => zmv_n ?_)
      have p0_m5 : zGG (m 94 58) (m5 94 56) (m 94 57) (m5 106) := p0_m5
      refine sp_241 ((m 112 r1.toNatClampNeg)) hV_m5 (by omega) r_W r_GW r_GU r_OW (show zDX (m 94 10) (m 99) ((ma_u m 112 r1.toNatClampNeg s) 112) (m 113) (m 114) (m 94 55) (m 98) (m 101) (m 102) (m 108) from by first | (exact DX_root r_DX r_SU) | (exfalso; omega; done) | (exfalso; contradiction; done)) (fun m7 hV_m7 p0_m7 p1_m7 p2_m7 p3_m7 p4_m7 => zmv_n ?_)
      have p0_m7 : zGW T (m7 94 55) (m7 109) := p0_m7
      have p1_m7 : zGU T (m 94 46) (m7 99) := p1_m7
      have p2_m7 : zOw (m7 99) (m 103) (m7 111) := p2_m7
      have p3_m7 : zDX (m 94 10) (m7 99) ((ma_u m 112 r1.toNatClampNeg s) 112) (m7 113) (m7 114) (m7 94 55) (m 98) (m 101) (m 102) (m 108) := p3_m7
      have p4_m7 : (m 94 10).toInt ≠ 4 → ((m7 99) = (m 99) ∧ (m7 111) = (m 111) ∧ (m7 113) = (m 113) ∧ (m7 114) = (m 114) ∧ (m7 94 55) = (m 94 55) ∧ (m7 109) = (m 109)) := p4_m7
      exact K _ (zF_zov (zF_zov (zF_u zF_rfl rfl) ws_240_238) ws_241_238) hV_m7 p0_m7 p1_m7 p2_m7 p3_m7 p0_m5 (show zHA (m 94 10) (m 94 11) (m 94 13) (m 94 14) (m 94 16) (m 94 61) (m 94 59) (m 94 60) (m7 99) (m 102) (m 103) (m7 111) (m 117) (m 98) (m 101) (m 108) from by first | (exact HA_lq r_HA (fun z => ⟨(p4_m7 z).1, (p4_m7 z).2.1⟩)) | (exfalso; omega; done) | (exfalso; contradiction; done)) (show zRG (m 94 10) (m 94 18) (m 94 64) (m 94 63) (m7 99) (m 103) (m 102) (m 116) from by first | (exact RG_lq r_RGc (fun z => (p4_m7 z).1)) | (exfalso; omega; done) | (exfalso; contradiction; done)) (show (m 94 58).toInt = 0 ∨ (m 94 10).toInt = 5 from by omega)

/-! from 94.446 -/
/-! words are read and written -/
section WD1
variable {m : Nat → Nat → Int32} {c k : Nat} {ks po ro yo ol ca hf tp ot wm : Int32} {kr kd ws wd us rt wk wi at₉ ow di : Nat → Int32} {s i x : Int32}
theorem zrf_ne {s₉ i₉ : Nat} (h : 60 * s₉ + i₉ ≠ k) : zrf kr kd (ma_u m c k x c) s₉ i₉ = zrf kr kd (m c) s₉ i₉ := by
  unfold zrf
  rw [mu_ne h]
theorem zrf_no {s₉ i₉ : Nat} (h1 : ¬ kd s₉ = 16) (h2 : ¬ (kd s₉ < 16 ∧ ((kr (kd s₉).toNatClampNeg >>> (Int32.ofNat i₉ &&& 31)) &&& 1) = 1)) (wd₉ : Nat → Int32) : zrf kr kd wd₉ s₉ i₉ = -1 := by
  unfold zrf
  rw [if_neg h1, if_neg h2]
theorem W_w1 (h : zW ks kr kd ws wd) (h1 : 0 ≤ s.toInt) (h2 : s.toInt ≤ 3099) (h3 : 0 ≤ i.toInt) (h4 : i.toInt < (ws s.toNatClampNeg).toInt) (h5 : (ws s.toNatClampNeg).toInt ≤ 60) (hk : kd s.toNatClampNeg = 16) : -1 ≤ (wd (s * (60 : Int32) + i).toNatClampNeg).toInt ∧ (wd (s * (60 : Int32) + i).toNatClampNeg).toInt ≤ 3099 := by
  have e := zrf_eq (kr := kr) (kd := kd) (wd := wd) h1 h2 h3 (by omega)
  rw [if_pos hk] at e
  exact W_ref h h1 h2 h3 h4 e.symm
theorem W_w2 (h : zW ks kr kd ws wd) (h1 : 0 ≤ s.toInt) (h2 : s.toInt ≤ 3099) (h3 : 0 ≤ i.toInt) (h4 : i.toInt < (ws s.toNatClampNeg).toInt) (h5 : (ws s.toNatClampNeg).toInt ≤ 60) (hk : ¬ kd s.toNatClampNeg = 16) (hk2 : ¬ (16 : Int32) ≤ kd s.toNatClampNeg) (hb : ((kr (kd s.toNatClampNeg).toNatClampNeg >>> (i &&& 31)) &&& 1) = 1) : -1 ≤ (wd (s * (60 : Int32) + i).toNatClampNeg).toInt ∧ (wd (s * (60 : Int32) + i).toNatClampNeg).toInt ≤ 3099 := by
  have e := zrf_eq (kr := kr) (kd := kd) (wd := wd) h1 h2 h3 (by omega)
  rw [if_neg hk, if_pos ⟨Int32.not_le.mp hk2, hb⟩] at e
  exact W_ref h h1 h2 h3 h4 e.symm
/-- an int is written: what words refer to is as it was -/
theorem zrf_put (h1 : 0 ≤ s.toInt) (h2 : s.toInt ≤ 3099) (h3 : 0 ≤ i.toInt) (h4 : i.toInt < 60) (hk : ¬ kd s.toNatClampNeg = 16) (hk2 : ¬ (kd s.toNatClampNeg < 16 ∧ ((kr (kd s.toNatClampNeg).toNatClampNeg >>> (i &&& 31)) &&& 1) = 1)) : ∀ s₉ i₉ : Nat, i₉ < 60 → zrf kr kd (ma_u m c (s * (60 : Int32) + i).toNatClampNeg x c) s₉ i₉ = zrf kr kd (m c) s₉ i₉ := by
  intro s₉ i₉ hi
  have e := ix_word h1 h2 h3 (by omega : i.toInt ≤ 60)
  by_cases z : 60 * s₉ + i₉ = (s * (60 : Int32) + i).toNatClampNeg
  · have hi2 : i.toNatClampNeg < 60 := by rw [tn_eq]; omega
    have es : s₉ = s.toNatClampNeg := by omega
    have ei : i₉ = i.toNatClampNeg := by omega
    rw [es, ei]
    rw [zrf_no hk (by rw [ofNat_tn h3]; exact hk2), zrf_no hk (by rw [ofNat_tn h3]; exact hk2)]
  · exact zrf_ne z
section WD2
variable {kr₉ wd₉ : Nat → Int32}
theorem W_same {ks₉ : Int32} (h : zW ks kr kd ws wd) (hk : ks.toInt ≤ ks₉.toInt) (e : ∀ s₉ i₉ : Nat, s₉ < 3100 → (i₉ : Int) < (ws s₉).toInt → zrf kr₉ kd wd₉ s₉ i₉ = zrf kr kd wd s₉ i₉) : zW ks₉ kr₉ kd ws wd₉ := by
  intro s hs
  refine ⟨fun i hi => ?_, ?_⟩
  · rw [e s i hs hi]
    exact (h s hs).1 i hi
  · rcases (h s hs).2 with q | q | q
    · exact Or.inl q
    · exact Or.inr (Or.inl q)
    · exact Or.inr (Or.inr (by omega))
theorem DX_same (h : zDX po us rt wk wi wm kr kd ws wd) (e : ∀ s₉ i₉ : Nat, s₉ < 3100 → (i₉ : Int) < (ws s₉).toInt → zrf kr₉ kd wd₉ s₉ i₉ = zrf kr kd wd s₉ i₉) : zDX po us rt wk wi wm kr₉ kd ws wd₉ := by
  intro hp
  obtain ⟨a1, a2, a3, a4⟩ := h hp
  refine ⟨a1, a2, a3, fun s hs hu i hi => ?_⟩
  unfold zcl
  rw [e s i hs hi]
  exact a4 s hs hu i hi
theorem HA_same (h : zHA po ro yo ol ca hf tp ot us ws at₉ ow di kr kd wd) (e : ∀ s₉ i₉ : Nat, s₉ < 3100 → (i₉ : Int) < (ws s₉).toInt → zrf kr₉ kd wd₉ s₉ i₉ = zrf kr kd wd s₉ i₉) : zHA po ro yo ol ca hf tp ot us ws at₉ ow di kr₉ kd wd₉ := by
  refine ⟨h.1, fun hp => ?_⟩
  obtain ⟨a1, a2, a3, a4, a5⟩ := h.2 hp
  refine ⟨a1, a2, a3, a4, fun s hs hu ha i hi => ?_⟩
  rw [e s i hs hi]
  exact a5 s hs hu ha i hi
/-- a kind is told -/
theorem zrf_kind {ma : Nat → Nat → Int32} {ca₉ : Nat} (h : zW ks (ma ca₉) kd ws wd) (hk : (k : Int) = ks.toInt) (hd : ∀ s, s < 3100 → 0 ≤ (kd s).toInt) : ∀ s₉ i₉ : Nat, s₉ < 3100 → (i₉ : Int) < (ws s₉).toInt → zrf (ma_u ma ca₉ k x ca₉) kd wd s₉ i₉ = zrf (ma ca₉) kd wd s₉ i₉ := by
  intro s₉ i₉ hs hi
  unfold zrf
  by_cases h16 : kd s₉ = 16
  · rw [if_pos h16, if_pos h16]
  · rw [if_neg h16, if_neg h16]
    by_cases hl : (kd s₉).toInt < ks.toInt
    · have hn : (kd s₉).toNatClampNeg ≠ k := by rw [tn_eq]; have := hd s₉ hs; omega
      rw [mu_ne hn]
    · have h2 := (h s₉ hs).2
      have h3 : ¬ kd s₉ < 16 := fun z => by
        have z2 := Int32.lt_iff_toInt_lt.mp z
        have z3 : (16 : Int32).toInt = 16 := rfl
        rcases h2 with q | q | q <;> omega
      rw [if_neg (fun z => h3 z.1), if_neg (fun z => h3 z.1)]
/-- a REFERENCE is set -/
theorem zrf_link (h1 : 0 ≤ s.toInt) (h2 : s.toInt ≤ 3099) (h3 : 0 ≤ i.toInt) (h4 : i.toInt < 60) (hk : kd s.toNatClampNeg = 16 ∨ (kd s.toNatClampNeg < 16 ∧ ((kr (kd s.toNatClampNeg).toNatClampNeg >>> (i &&& 31)) &&& 1) = 1)) : ∀ s₉ i₉ : Nat, i₉ < 60 → zrf kr kd (ma_u m c (s * (60 : Int32) + i).toNatClampNeg x c) s₉ i₉ = if s₉ = s.toNatClampNeg ∧ i₉ = i.toNatClampNeg then x else zrf kr kd (m c) s₉ i₉ := by
  intro s₉ i₉ hi
  have e := ix_word h1 h2 h3 (by omega : i.toInt ≤ 60)
  have hi2 : i.toNatClampNeg < 60 := by rw [tn_eq]; omega
  by_cases z : 60 * s₉ + i₉ = (s * (60 : Int32) + i).toNatClampNeg
  · have es : s₉ = s.toNatClampNeg := by omega
    have ei : i₉ = i.toNatClampNeg := by omega
    rw [if_pos ⟨es, ei⟩, es, ei]
    unfold zrf
    rw [ofNat_tn h3, ← e, mu_self]
    rcases hk with q | q
    · rw [if_pos q]
    · by_cases q2 : kd s.toNatClampNeg = 16
      · rw [if_pos q2]
      · rw [if_neg q2, if_pos q]
  · rw [if_neg (fun q => z (by rw [q.1, q.2]; exact e.symm))]
    exact zrf_ne z
end WD2
end WD1
theorem GW_up {T : Nat} {z : Int32} {r : Nat → Int32} (h : zGW T z r) (ht : T + 1 ≤ 3000) : zGW (T + 1) z r := ⟨by have := h.1; omega, ht⟩
theorem GW_more {T : Nat} {m : Nat → Nat → Int32} {c k : Nat} {z x : Int32} (h : zGW T z (m c)) (ht : T + 1 ≤ 3000) : zGW (T + 1) z (ma_u m c k x c) := by
  have := cnt_ub (m := m) (c := c) (k := k) (x := x) (n := 3100)
  exact ⟨by have := h.1; omega, ht⟩

/-! from 94.447 -/
/-! the reference (written by wip/tools/gen94m.py) -/
theorem lp_246b_2 {X : Nat × (Nat → Int32)} {P : Option ma_V → (Nat → Nat → Int32) → Prop} {nu : Int32} {m0 : Nat → Nat → Int32} (h0 : zV m0) (K : ∀ v m₉, zF wr_246 m0 m₉ → zV m₉ → (-1 ≤ v.toInt ∧ v.toInt ≤ 3099) → (v.toInt < 0 ∨ (m₉ 99) v.toNatClampNeg ≠ 0) → P (some (.inl v)) m₉) : ∀ (n : Nat) (m : Nat → Nat → Int32) (l1 : Int32) (l2 : Int32), (3100 - l2.toInt).toNat = n → zF wr_246 m0 m → zV m → (0 ≤ l2.toInt) → zm X 0 0 246 2 [(0, .inr (.inr (some 94))), (1, .inl l1), (2, .inl l2)] m P := by
  intro n
  induction n using Nat.strongRecOn with
  | _ n IH =>
    intro m l1 l2 hmu hF hV hi0
    refine g_246_2 l1 l2 ?_
    have li1 : (3100 : Int32).toInt = 3100 := rfl
    have b2 := i_bd l2
    refine zd (fun (h3 : (3100 : Int32) ≤ l2) => ?_) (fun (h3 : ¬ (3100 : Int32) ≤ l2) => ?_)
    · skip
      have g4 := i_le h3
      have li5 : (-1 : Int32).toInt = -1 := rfl
      exact K ((-1 : Int32)) _ hF hV (show -1 ≤ (-1 : Int32).toInt ∧ (-1 : Int32).toInt ≤ 3099 from by omega) (show (-1 : Int32).toInt < 0 ∨ (m 99) (-1 : Int32).toNatClampNeg ≠ 0 from by first | (exact Or.inl (by decide)) | (exact Or.inr (by assumption)) | (exact Or.inl (by omega)) | (exfalso; omega; done) | (exfalso; contradiction; done))
    · skip
      have g6 := i_nle h3
      have hg7 : (0 ≤ l2 ∧ l2.toNatClampNeg < 3100) := i_ix (by omega) (by omega)
      refine ⟨hg7, ?_⟩
      first | have f8 : 0 ≤ (m 99 l2.toNatClampNeg).toInt ∧ (m 99 l2.toNatClampNeg).toInt ≤ 1 := ra_99 (m := m) hV (k := l2.toNatClampNeg) (i_ix (n := 3100) (by omega) (by omega)).2 | have b9 := i_bd (m 99 l2.toNatClampNeg)
      have li10 : (0 : Int32).toInt = 0 := rfl
      refine zd (fun (h11 : (m 99 l2.toNatClampNeg) = (0 : Int32)) => ?_) (fun (h11 : ¬ (m 99 l2.toNatClampNeg) = (0 : Int32)) => ?_)
      · skip
        have g12 := i_eq h11
        have b13 := i_bd l1
        first | have e14 : (l2 + (1 : Int32)).toInt = l2.toInt + (1) := i_addk rfl (by omega) (by omega) | have b15 := i_bd (l2 + (1 : Int32))
        exact IH (3100 - (l2 + (1 : Int32)).toInt).toNat (by omega) _ (l1) ((l2 + (1 : Int32))) rfl hF hV (by omega)
      · skip
        have g16 := i_ne h11
        have hg17 : (0 ≤ l2 ∧ l2.toNatClampNeg < 3100) := i_ix (by omega) (by omega)
        refine ⟨hg17, ?_⟩
        first | have f18 : 0 ≤ (m 100 l2.toNatClampNeg).toInt ∧ (m 100 l2.toNatClampNeg).toInt ≤ 100000 := ra_100 (m := m) hV (k := l2.toNatClampNeg) (i_ix (n := 3100) (by omega) (by omega)).2 | have b19 := i_bd (m 100 l2.toNatClampNeg)
        have b20 := i_bd l1
        refine zd (fun (h21 : (m 100 l2.toNatClampNeg) = l1) => ?_) (fun (h21 : ¬ (m 100 l2.toNatClampNeg) = l1) => ?_)
        · skip
          have g22 := i_eq h21
          exact K (l2) _ hF hV (show -1 ≤ l2.toInt ∧ l2.toInt ≤ 3099 from by omega) (show l2.toInt < 0 ∨ (m 99) l2.toNatClampNeg ≠ 0 from by first | (exact Or.inl (by decide)) | (exact Or.inr (by assumption)) | (exact Or.inl (by omega)) | (exfalso; omega; done) | (exfalso; contradiction; done))
        · skip
          have g23 := i_ne h21
          first | have e24 : (l2 + (1 : Int32)).toInt = l2.toInt + (1) := i_addk rfl (by omega) (by omega) | have b25 := i_bd (l2 + (1 : Int32))
          exact IH (3100 - (l2 + (1 : Int32)).toInt).toNat (by omega) _ (l1) ((l2 + (1 : Int32))) rfl hF hV (by omega)
theorem sp_246b {X : Nat × (Nat → Int32)} {P : Option ma_V → (Nat → Nat → Int32) → Prop} {m : Nat → Nat → Int32} (nu : Int32) (hV : zV m)  (KZ : ∀ v m₉, zV (zov wr_246 m m₉) → (-1 ≤ v.toInt ∧ v.toInt ≤ 3099) → (v.toInt < 0 ∨ (m 99) v.toNatClampNeg ≠ 0) → P (some (.inl v)) (zov wr_246 m m₉)) : zm X 0 0 246 0 [(0, .inr (.inr (some 94))), (1, .inl nu)] m P := by
  have K : ∀ v m₉, zF wr_246 m m₉ → zV m₉ → (-1 ≤ v.toInt ∧ v.toInt ≤ 3099) → (v.toInt < 0 ∨ (m₉ 99) v.toNatClampNeg ≠ 0) → P (some (.inl v)) m₉ := by
    intro v m₉ hf z q0 q1
    have e := zov_eq hf
    rw [e] at z ⊢
    try rw [e] at q0
    try rw [e] at q1
    exact KZ v m₉ z q0 q1
  refine g_246_0 nu ?_
  have b1 := i_bd nu
  have li2 : (0 : Int32).toInt = 0 := rfl
  exact lp_246b_2 (nu := nu) hV K _ _ (nu) ((0 : Int32)) rfl zF_rfl hV (by omega)
set_option maxRecDepth 100000 in
theorem hm_245 : ma_md 245 = some (12, yX12_reached, cX12_reached, 3, (some (FieldType.int))) := rfl
theorem v_12_307_12 : ma_vl 12 307 12 = some (1, 246, 1) := by decide +kernel
theorem dX12_reached_0 : decode cX12_reached 0 = .ok (.aload_n 0, 1) := by decide +kernel
theorem dX12_reached_1 : decode cX12_reached 1 = .ok (.iload_n 1, 1) := by decide +kernel
theorem dX12_reached_2 : decode cX12_reached 2 = .ok (.invokevirtual 307, 3) := by decide +kernel
theorem dX12_reached_5 : decode cX12_reached 5 = .ok (.istore_n 2, 1) := by decide +kernel
theorem dX12_reached_6 : decode cX12_reached 6 = .ok (.iload_n 2, 1) := by decide +kernel
theorem dX12_reached_12 : decode cX12_reached 12 = .ok (.aload_n 0, 1) := by decide +kernel
theorem dX12_reached_13 : decode cX12_reached 13 = .ok (.invokevirtual 311, 3) := by decide +kernel
theorem dX12_reached_16 : decode cX12_reached 16 = .ok (.aload_n 0, 1) := by decide +kernel
theorem dX12_reached_20 : decode cX12_reached 20 = .ok (.iload_n 2, 1) := by decide +kernel
theorem dX12_reached_29 : decode cX12_reached 29 = .ok (.iconst (-1), 1) := by decide +kernel
theorem dX12_reached_30 : decode cX12_reached 30 = .ok (.ireturn, 1) := by decide +kernel
theorem dX12_reached_25 : decode cX12_reached 25 = .ok (.iload_n 2, 1) := by decide +kernel
theorem dX12_reached_26 : decode cX12_reached 26 = .ok (.goto 4, 3) := by decide +kernel
theorem dX12_reached_22 : decode cX12_reached 22 = .ok (.ifCond .eq 7, 3) := by decide +kernel
theorem dX12_reached_21 : decode cX12_reached 21 = .ok (.baload, 1) := by decide +kernel
theorem dX12_reached_17 : decode cX12_reached 17 = .ok (.getfield 62, 3) := by decide +kernel
theorem dX12_reached_10 : decode cX12_reached 10 = .ok (.iconst (-1), 1) := by decide +kernel
theorem dX12_reached_11 : decode cX12_reached 11 = .ok (.ireturn, 1) := by decide +kernel
theorem dX12_reached_7 : decode cX12_reached 7 = .ok (.ifCond .ge 5, 3) := by decide +kernel
def wr_245 (c k : Nat) : Bool := Nat.beq c 110 || Nat.beq c 118 || (Nat.beq c 94 && (Nat.beq k 73))
theorem ws_188_245 : ∀ c k, wr_188 c k = true → wr_245 c k = true := by
  intro c k h
  simp only [wr_188, Bool.or_eq_true, Bool.and_eq_true, Nat.beq_eq] at h
  rcases h with (rfl | rfl) | ⟨rfl, rfl⟩ <;> rfl
theorem ws_246_245 : ∀ c k, wr_246 c k = true → wr_245 c k = true := fun _ _ h => by cases h
theorem g_245_0 {X : Nat × (Nat → Int32)} {m : Nat → Nat → Int32} {P : Option ma_V → (Nat → Nat → Int32) → Prop} (ob : Int32) (h : zm X 0 0 246 0 [(0, .inr (.inr (some 94))), (1, .inl ob)] m (zmi (fun v2 m1 => if 0 ≤ v2 then (zm X 3 66 188 0 [(0, .inr (.inr (some 94)))] m1 (zmv (fun m3 => (0 ≤ v2 ∧ v2.toNatClampNeg < 3100) ∧ (if (m3 110 v2.toNatClampNeg) = 0 then (P (some (.inl (-1 : Int32))) m3) else (P (some (.inl v2)) m3))))) else (P (some (.inl (-1 : Int32))) m1)))) : zm X 4 87 245 0 [(0, .inr (.inr (some 94))), (1, .inl ob)] m P := by
  intro d w S Q hd hw hS hm HQ
  subst hm
  refine zw_push hm_245 dX12_reached_0 (v := .inr (.inr (some 94))) rfl ?_
  refine zw_push hm_245 dX12_reached_1 (v := .inl ob) rfl ?_
  refine zw_cv hm_245 dX12_reached_2 v_12_307_12 hm_246 [.inl ob] [] rfl (zT_rt hS s_94 rfl) ⟨by omega, by omega⟩ rfl (h _ _ S _ (by omega) (by omega) hS rfl (fun o9 m1 hv => ?_))
  obtain ⟨v2, rfl, h⟩ := zmi_of hv
  show ma_wp X d w 245 5 [(0, .inr (.inr (some 94))), (1, .inl ob)] [.inl v2] (zst S m1) _
  refine zw_sto hm_245 dX12_reached_5 [(2, .inl v2), (0, .inr (.inr (some 94))), (1, .inl ob)] rfl rfl rfl ?_
  refine zw_push hm_245 dX12_reached_6 (v := .inl v2) rfl ?_
  refine zw_if0 hm_245 dX12_reached_7 (t := 12) rfl zc0_ge ?_ ?_
  · intro hc
    rw [if_pos hc] at h
    refine zw_push hm_245 dX12_reached_12 (v := .inr (.inr (some 94))) rfl ?_
    refine zw_cv hm_245 dX12_reached_13 v_12_311_12 hm_188 [] [] rfl (zT_rt (zT_zst hS m1) s_94 rfl) ⟨by omega, by omega⟩ rfl (h _ _ (zst S m1) _ (by omega) (by omega) (zT_zst hS m1) rfl (fun o9 m3 hv => ?_))
    obtain ⟨rfl, h⟩ := zmv_of hv
    show ma_wp X d w 245 16 [(2, .inl v2), (0, .inr (.inr (some 94))), (1, .inl ob)] [] (zst S m3) _
    refine zw_push hm_245 dX12_reached_16 (v := .inr (.inr (some 94))) rfl ?_
    refine zw_gf hm_245 dX12_reached_17 (v := .inr (.inr (some 110))) (zT_is (zT_zst hS m3) s_94) (zT_t (zT_zst hS m3) s_94) rfl f_12_62_12 (zT_f (zT_zst hS m3) r_94_42) ?_
    refine zw_push hm_245 dX12_reached_20 (v := .inl v2) rfl ?_
    obtain ⟨hg, h⟩ := h
    refine zw_ba hm_245 dX12_reached_21 (zT_is (zT_zst hS m3) s_110) (zT_h (zT_zst hS m3) s_110) rfl rfl hg ?_
    show ma_wp X d w 245 22 [(2, .inl v2), (0, .inr (.inr (some 94))), (1, .inl ob)] [.inl (m3 110 v2.toNatClampNeg)] (zst S m3) _
    refine zw_if0 hm_245 dX12_reached_22 (t := 29) rfl zc0_eq ?_ ?_
    · intro hc
      rw [if_pos hc] at h
      refine zw_push hm_245 dX12_reached_29 (v := .inl (-1 : Int32)) rfl ?_
      exact zw_iret hm_245 dX12_reached_30 (HQ _ _ h)
    · intro hc
      rw [if_neg hc] at h
      refine zw_push hm_245 dX12_reached_25 (v := .inl v2) rfl ?_
      refine zw_goto hm_245 dX12_reached_26 (t := 30) rfl ?_
      exact zw_iret hm_245 dX12_reached_30 (HQ _ _ h)
  · intro hc
    rw [if_neg hc] at h
    refine zw_push hm_245 dX12_reached_10 (v := .inl (-1 : Int32)) rfl ?_
    exact zw_iret hm_245 dX12_reached_11 (HQ _ _ h)
theorem sp_245 {X : Nat × (Nat → Int32)} {P : Option ma_V → (Nat → Nat → Int32) → Prop} {m : Nat → Nat → Int32} (ob : Int32) (hV : zV m) (r_W : zW (m 94 7) (m 98) (m 101) (m 102) (m 108)) (r_DX : zDX (m 94 10) (m 99) (m 112) (m 113) (m 114) (m 94 55) (m 98) (m 101) (m 102) (m 108)) (KZ : ∀ v m₉, zV (zov wr_245 m m₉) → (-1 ≤ v.toInt ∧ v.toInt ≤ 3099) → (v.toInt < 0 ∨ (m 99) v.toNatClampNeg ≠ 0) → P (some (.inl v)) (zov wr_245 m m₉)) : zm X 4 87 245 0 [(0, .inr (.inr (some 94))), (1, .inl ob)] m P := by
  have K : ∀ v m₉, zF wr_245 m m₉ → zV m₉ → (-1 ≤ v.toInt ∧ v.toInt ≤ 3099) → (v.toInt < 0 ∨ (m₉ 99) v.toNatClampNeg ≠ 0) → P (some (.inl v)) m₉ := by
    intro v m₉ hf z q0 q1
    have e := zov_eq hf
    rw [e] at z ⊢
    try rw [e] at q0
    try rw [e] at q1
    exact KZ v m₉ z q0 q1
  refine g_245_0 ob ?_
  have b1 := i_bd ob
  refine sp_246b (ob) hV  (fun v2 m1 hV_m1 p0_m1 p1_m1 => zmi_n ?_)
  have p0_m1 : -1 ≤ v2.toInt ∧ v2.toInt ≤ 3099 := p0_m1
  have p1_m1 : v2.toInt < 0 ∨ (m 99) v2.toNatClampNeg ≠ 0 := p1_m1
  have li2 : (0 : Int32).toInt = 0 := rfl
  have b3 := i_bd v2
  refine zd (fun (h4 : (0 : Int32) ≤ v2) => ?_) (fun (h4 : ¬ (0 : Int32) ≤ v2) => ?_)
  · skip
    have g5 := i_le h4
    refine sp_188  hV_m1 r_W r_DX (fun m3 hV_m3 p0_m3 p1_m3 p2_m3 p3_m3 p4_m3 => zmv_n ?_)
    have p0_m3 : (m3 94 73).toInt = 0 := p0_m3
    have p1_m3 : ((m 94 10).toInt = 2 ∨ (m 94 10).toInt = 3) → zCL (m3 110) (m 98) (m 101) (m 102) (m 108) (m3 118) (m3 94 73) 3100 0 := p1_m3
    have p2_m3 : zKU (m 94 10) (m 99) (m3 110) := p2_m3
    have p3_m3 : ((m 94 10).toInt = 2 ∨ (m 94 10).toInt = 3) → zcov (m3 110) (m 112) 16 := p3_m3
    have p4_m3 : ((m 94 10).toInt = 2 ∨ (m 94 10).toInt = 3) → zcov (m3 110) (m 114) (m 94 55).toInt := p4_m3
    have f6 : 0 ≤ (m3 94 73).toInt ∧ (m3 94 73).toInt ≤ 3100 := rs_94_73 (m := (zov wr_188 (zov wr_246 m m1) m3)) hV_m3
    have hg7 : (0 ≤ v2 ∧ v2.toNatClampNeg < 3100) := i_ix (by omega) (by omega)
    refine ⟨hg7, ?_⟩
    first | have f8 : 0 ≤ (m3 110 v2.toNatClampNeg).toInt ∧ (m3 110 v2.toNatClampNeg).toInt ≤ 1 := ra_110 (m := (zov wr_188 (zov wr_246 m m1) m3)) hV_m3 (k := v2.toNatClampNeg) (i_ix (n := 3100) (by omega) (by omega)).2 | have b9 := i_bd (m3 110 v2.toNatClampNeg)
    refine zd (fun (h10 : (m3 110 v2.toNatClampNeg) = (0 : Int32)) => ?_) (fun (h10 : ¬ (m3 110 v2.toNatClampNeg) = (0 : Int32)) => ?_)
    · skip
      have g11 := i_eq h10
      have li12 : (-1 : Int32).toInt = -1 := rfl
      exact K ((-1 : Int32)) _ (zF_zov (zF_zov zF_rfl ws_246_245) ws_188_245) hV_m3 (show -1 ≤ (-1 : Int32).toInt ∧ (-1 : Int32).toInt ≤ 3099 from by omega) (show (-1 : Int32).toInt < 0 ∨ (m 99) (-1 : Int32).toNatClampNeg ≠ 0 from by first | (exact Or.inl (by decide)) | (exact Or.inr (by assumption)) | (exact p1_m1) | (exact Or.inl (by omega)) | (exfalso; omega; done) | (exfalso; contradiction; done))
    · skip
      have g13 := i_ne h10
      exact K (v2) _ (zF_zov (zF_zov zF_rfl ws_246_245) ws_188_245) hV_m3 (show -1 ≤ v2.toInt ∧ v2.toInt ≤ 3099 from by omega) p1_m1
  · skip
    have g14 := i_nle h4
    have li15 : (-1 : Int32).toInt = -1 := rfl
    exact K ((-1 : Int32)) _ (zF_zov zF_rfl ws_246_245) hV_m1 (show -1 ≤ (-1 : Int32).toInt ∧ (-1 : Int32).toInt ≤ 3099 from by omega) (show (-1 : Int32).toInt < 0 ∨ (m 99) (-1 : Int32).toNatClampNeg ≠ 0 from by first | (exact Or.inl (by decide)) | (exact Or.inr (by assumption)) | (exact p1_m1) | (exact Or.inl (by omega)) | (exfalso; omega; done) | (exfalso; contradiction; done))

/-! from 94.448 -/
/-! the reference (written by wip/tools/gen94m.py) -/
set_option maxRecDepth 100000 in
theorem hm_167 : ma_md 167 = some (12, yX12_fails, cX12_fails, 2, (some (FieldType.boolean))) := rfl
set_option maxRecDepth 100000 in
theorem hm_244 : ma_md 244 = some (12, yX12_put, cX12_put, 6, (some (FieldType.int))) := rfl
theorem f_12_237_12 : ma_fld 12 237 12 = some 8 := by decide +kernel
theorem p_12_1_12 : ma_pk 12 1 12 0 = true := by decide +kernel
theorem v_12_110_12 : ma_vl 12 110 12 = some (1, 167, 1) := by decide +kernel
theorem v_12_499_12 : ma_vl 12 499 12 = some (1, 245, 1) := by decide +kernel
theorem dX12_put_0 : decode cX12_put 0 = .ok (.aload_n 0, 1) := by decide +kernel
theorem dX12_put_1 : decode cX12_put 1 = .ok (.aload_n 0, 1) := by decide +kernel
theorem dX12_put_12 : decode cX12_put 12 = .ok (.iconst 0, 1) := by decide +kernel
theorem dX12_put_13 : decode cX12_put 13 = .ok (.invokevirtual 110, 3) := by decide +kernel
theorem dX12_fails_0 : decode cX12_fails 0 = .ok (.aload_n 0, 1) := by decide +kernel
theorem dX12_fails_1 : decode cX12_fails 1 = .ok (.iload_n 1, 1) := by decide +kernel
theorem dX12_fails_5 : decode cX12_fails 5 = .ok (.iload_n 1, 1) := by decide +kernel
theorem dX12_fails_6 : decode cX12_fails 6 = .ok (.ifCond .eq 7, 3) := by decide +kernel
theorem dX12_fails_13 : decode cX12_fails 13 = .ok (.iconst 0, 1) := by decide +kernel
theorem dX12_put_16 : decode cX12_put 16 = .ok (.ifCond .eq 5, 3) := by decide +kernel
theorem dX12_put_21 : decode cX12_put 21 = .ok (.aload_n 0, 1) := by decide +kernel
theorem dX12_put_22 : decode cX12_put 22 = .ok (.iload_n 1, 1) := by decide +kernel
theorem dX12_put_23 : decode cX12_put 23 = .ok (.invokevirtual 499, 3) := by decide +kernel
theorem dX12_put_26 : decode cX12_put 26 = .ok (.istore 4, 2) := by decide +kernel
theorem dX12_put_28 : decode cX12_put 28 = .ok (.aload_n 0, 1) := by decide +kernel
theorem dX12_put_29 : decode cX12_put 29 = .ok (.iload 4, 2) := by decide +kernel
theorem dX12_put_38 : decode cX12_put 38 = .ok (.iload_n 2, 1) := by decide +kernel
theorem dX12_put_53 : decode cX12_put 53 = .ok (.iconst 3, 1) := by decide +kernel
theorem dX12_put_54 : decode cX12_put 54 = .ok (.goto 18, 3) := by decide +kernel
theorem dX12_put_72 : decode cX12_put 72 = .ok (.invokevirtual 110, 3) := by decide +kernel
theorem dX12_fails_9 : decode cX12_fails 9 = .ok (.iconst 1, 1) := by decide +kernel
theorem dX12_fails_10 : decode cX12_fails 10 = .ok (.goto 4, 3) := by decide +kernel
theorem dX12_put_75 : decode cX12_put 75 = .ok (.ifCond .eq 5, 3) := by decide +kernel
theorem dX12_put_78 : decode cX12_put 78 = .ok (.iconst 0, 1) := by decide +kernel
theorem dX12_put_79 : decode cX12_put 79 = .ok (.ireturn, 1) := by decide +kernel
theorem dX12_fails_14 : decode cX12_fails 14 = .ok (.ireturn, 1) := by decide +kernel
theorem dX12_fails_2 : decode cX12_fails 2 = .ok (.putfield 1, 3) := by decide +kernel
theorem dX12_put_42 : decode cX12_put 42 = .ok (.iload_n 2, 1) := by decide +kernel
theorem dX12_put_43 : decode cX12_put 43 = .ok (.aload_n 0, 1) := by decide +kernel
theorem dX12_put_47 : decode cX12_put 47 = .ok (.iload 4, 2) := by decide +kernel
theorem dX12_put_57 : decode cX12_put 57 = .ok (.aload_n 0, 1) := by decide +kernel
theorem dX12_put_58 : decode cX12_put 58 = .ok (.iload 4, 2) := by decide +kernel
theorem dX12_put_60 : decode cX12_put 60 = .ok (.iload_n 2, 1) := by decide +kernel
theorem dX12_put_61 : decode cX12_put 61 = .ok (.invokevirtual 288, 3) := by decide +kernel
theorem dX12_put_64 : decode cX12_put 64 = .ok (.ifCond .eq 7, 3) := by decide +kernel
theorem dX12_put_67 : decode cX12_put 67 = .ok (.iconst 4, 1) := by decide +kernel
theorem dX12_put_68 : decode cX12_put 68 = .ok (.goto 4, 3) := by decide +kernel
theorem dX12_put_71 : decode cX12_put 71 = .ok (.iconst 0, 1) := by decide +kernel
theorem dX12_put_80 : decode cX12_put 80 = .ok (.aload_n 0, 1) := by decide +kernel
theorem dX12_put_84 : decode cX12_put 84 = .ok (.iload 4, 2) := by decide +kernel
theorem dX12_put_86 : decode cX12_put 86 = .ok (.bipush 60, 2) := by decide +kernel
theorem dX12_put_88 : decode cX12_put 88 = .ok (.imul, 1) := by decide +kernel
theorem dX12_put_89 : decode cX12_put 89 = .ok (.iload_n 2, 1) := by decide +kernel
theorem dX12_put_90 : decode cX12_put 90 = .ok (.iadd, 1) := by decide +kernel
theorem dX12_put_92 : decode cX12_put 92 = .ok (.istore 5, 2) := by decide +kernel
theorem dX12_put_94 : decode cX12_put 94 = .ok (.aload_n 0, 1) := by decide +kernel
theorem dX12_put_98 : decode cX12_put 98 = .ok (.iload 4, 2) := by decide +kernel
theorem dX12_put_100 : decode cX12_put 100 = .ok (.bipush 60, 2) := by decide +kernel
theorem dX12_put_102 : decode cX12_put 102 = .ok (.imul, 1) := by decide +kernel
theorem dX12_put_103 : decode cX12_put 103 = .ok (.iload_n 2, 1) := by decide +kernel
theorem dX12_put_104 : decode cX12_put 104 = .ok (.iadd, 1) := by decide +kernel
theorem dX12_put_105 : decode cX12_put 105 = .ok (.iload_n 3, 1) := by decide +kernel
theorem dX12_put_107 : decode cX12_put 107 = .ok (.iload 5, 2) := by decide +kernel
theorem dX12_put_109 : decode cX12_put 109 = .ok (.ireturn, 1) := by decide +kernel
theorem dX12_put_106 : decode cX12_put 106 = .ok (.iastore, 1) := by decide +kernel
theorem dX12_put_95 : decode cX12_put 95 = .ok (.getfield 56, 3) := by decide +kernel
theorem dX12_put_91 : decode cX12_put 91 = .ok (.iaload, 1) := by decide +kernel
theorem dX12_put_81 : decode cX12_put 81 = .ok (.getfield 56, 3) := by decide +kernel
theorem dX12_put_50 : decode cX12_put 50 = .ok (.if_icmp .lt 7, 3) := by decide +kernel
theorem dX12_put_49 : decode cX12_put 49 = .ok (.iaload, 1) := by decide +kernel
theorem dX12_put_44 : decode cX12_put 44 = .ok (.getfield 37, 3) := by decide +kernel
theorem dX12_put_39 : decode cX12_put 39 = .ok (.ifCond .lt 14, 3) := by decide +kernel
theorem dX12_put_34 : decode cX12_put 34 = .ok (.iconst 2, 1) := by decide +kernel
theorem dX12_put_35 : decode cX12_put 35 = .ok (.goto 37, 3) := by decide +kernel
theorem dX12_put_31 : decode cX12_put 31 = .ok (.ifCond .ge 7, 3) := by decide +kernel
theorem dX12_put_8 : decode cX12_put 8 = .ok (.iconst 1, 1) := by decide +kernel
theorem dX12_put_9 : decode cX12_put 9 = .ok (.goto 4, 3) := by decide +kernel
theorem dX12_put_19 : decode cX12_put 19 = .ok (.iconst 0, 1) := by decide +kernel
theorem dX12_put_20 : decode cX12_put 20 = .ok (.ireturn, 1) := by decide +kernel
theorem dX12_put_5 : decode cX12_put 5 = .ok (.ifCond .ne 7, 3) := by decide +kernel
theorem dX12_put_2 : decode cX12_put 2 = .ok (.getfield 237, 3) := by decide +kernel
def wr_244 (c k : Nat) : Bool := Nat.beq c 108 || Nat.beq c 110 || Nat.beq c 118 || (Nat.beq c 94 && (Nat.beq k 0 || Nat.beq k 73))
theorem ws_245_244 : ∀ c k, wr_245 c k = true → wr_244 c k = true := by
  intro c k h
  simp only [wr_245, Bool.or_eq_true, Bool.and_eq_true, Nat.beq_eq] at h
  rcases h with (rfl | rfl) | ⟨rfl, rfl⟩ <;> rfl
theorem g_244_0 {X : Nat × (Nat → Int32)} {m : Nat → Nat → Int32} {P : Option ma_V → (Nat → Nat → Int32) → Prop} (ob : Int32) (ix : Int32) (va : Int32) (h : if (m 94 8) = 0 then (P (some (.inl (0 : Int32))) (ma_u m 94 0 (1 : Int32))) else (zm X 4 87 245 0 [(0, .inr (.inr (some 94))), (1, .inl ob)] (ma_u m 94 0 (0 : Int32)) (zmi (fun v2 m1 => if 0 ≤ v2 then (if ix < 0 then (P (some (.inl (0 : Int32))) (ma_u m1 94 0 (3 : Int32))) else ((0 ≤ v2 ∧ v2.toNatClampNeg < 3100) ∧ (if ix < (m1 102 v2.toNatClampNeg) then ((0 ≤ v2 ∧ v2.toNatClampNeg < 3100) ∧ (if (m1 101 v2.toNatClampNeg) = (16 : Int32) then (P (some (.inl (0 : Int32))) (ma_u m1 94 0 (4 : Int32))) else ((0 ≤ v2 ∧ v2.toNatClampNeg < 3100) ∧ (if (16 : Int32) ≤ (m1 101 v2.toNatClampNeg) then ((0 ≤ ((v2 * (60 : Int32)) + ix) ∧ ((v2 * (60 : Int32)) + ix).toNatClampNeg < 186000) ∧ ((0 ≤ ((v2 * (60 : Int32)) + ix) ∧ ((v2 * (60 : Int32)) + ix).toNatClampNeg < 186000) ∧ (P (some (.inl (m1 108 ((v2 * (60 : Int32)) + ix).toNatClampNeg))) (ma_u (ma_u m1 94 0 (0 : Int32)) 108 ((v2 * (60 : Int32)) + ix).toNatClampNeg va)))) else ((0 ≤ v2 ∧ v2.toNatClampNeg < 3100) ∧ ((0 ≤ (m1 101 v2.toNatClampNeg) ∧ (m1 101 v2.toNatClampNeg).toNatClampNeg < 16) ∧ (if (((m1 98 (m1 101 v2.toNatClampNeg).toNatClampNeg) >>> (ix &&& 31)) &&& (1 : Int32)) = (1 : Int32) then (P (some (.inl (0 : Int32))) (ma_u m1 94 0 (4 : Int32))) else ((0 ≤ ((v2 * (60 : Int32)) + ix) ∧ ((v2 * (60 : Int32)) + ix).toNatClampNeg < 186000) ∧ ((0 ≤ ((v2 * (60 : Int32)) + ix) ∧ ((v2 * (60 : Int32)) + ix).toNatClampNeg < 186000) ∧ (P (some (.inl (m1 108 ((v2 * (60 : Int32)) + ix).toNatClampNeg))) (ma_u (ma_u m1 94 0 (0 : Int32)) 108 ((v2 * (60 : Int32)) + ix).toNatClampNeg va))))))))))) else (P (some (.inl (0 : Int32))) (ma_u m1 94 0 (3 : Int32)))))) else (P (some (.inl (0 : Int32))) (ma_u m1 94 0 (2 : Int32))))))) : zm X 5 109 244 0 [(0, .inr (.inr (some 94))), (1, .inl ob), (2, .inl ix), (3, .inl va)] m P := by
  intro d w S Q hd hw hS hm HQ
  subst hm
  refine zw_push hm_244 dX12_put_0 (v := .inr (.inr (some 94))) rfl ?_
  refine zw_push hm_244 dX12_put_1 (v := .inr (.inr (some 94))) rfl ?_
  refine zw_gf hm_244 dX12_put_2 (v := .inl ((mI S) 94 8)) (zT_is hS s_94) (zT_t hS s_94) rfl f_12_237_12 rfl ?_
  refine zw_if0 hm_244 dX12_put_5 (t := 12) rfl zc0_ne ?_ ?_
  · intro hc
    rw [if_neg hc] at h
    refine zw_push hm_244 dX12_put_12 (v := .inl (0 : Int32)) rfl ?_
    refine zw_cv hm_244 dX12_put_13 v_12_110_12 hm_167 [.inl (0 : Int32)] [] rfl (zT_rt hS s_94 rfl) ⟨by omega, by omega⟩ rfl ?_
    show ma_wp X (d - 1) (w - 21) 167 0 [(0, .inr (.inr (some 94))), (1, .inl (0 : Int32))] [] S _
    refine zw_push hm_167 dX12_fails_0 (v := .inr (.inr (some 94))) rfl ?_
    refine zw_push hm_167 dX12_fails_1 (v := .inl (0 : Int32)) rfl ?_
    refine zw_pf hm_167 dX12_fails_2 (zT_is hS s_94) (zT_t hS s_94) p_12_1_12 zk_int ?_
    refine zw_push hm_167 dX12_fails_5 (v := .inl (0 : Int32)) rfl ?_
    refine zw_if0 hm_167 dX12_fails_6 (t := 13) rfl zc0_eq (fun _ => ?_) (fun hc => absurd (by decide) hc)
    refine zw_push hm_167 dX12_fails_13 (v := .inl (0 : Int32)) rfl ?_
    refine zw_bret hm_167 dX12_fails_14 (by decide) ?_
    show ma_wp X d w 244 16 [(0, .inr (.inr (some 94))), (1, .inl ob), (2, .inl ix), (3, .inl va)] [.inl (0 : Int32)] (ma_put S 94 0 (.inl (0 : Int32))) _
    refine zw_if0 hm_244 dX12_put_16 (t := 21) rfl zc0_eq (fun _ => ?_) (fun hc => absurd (by decide) hc)
    refine zw_push hm_244 dX12_put_21 (v := .inr (.inr (some 94))) rfl ?_
    refine zw_push hm_244 dX12_put_22 (v := .inl ob) rfl ?_
    refine zw_cv hm_244 dX12_put_23 v_12_499_12 hm_245 [.inl ob] [] rfl (zT_rt (zT_pi hS) s_94 rfl) ⟨by omega, by omega⟩ rfl (h _ _ (ma_put S 94 0 (.inl (0 : Int32))) _ (by omega) (by omega) (zT_pi hS) rfl (fun o9 m1 hv => ?_))
    obtain ⟨v2, rfl, h⟩ := zmi_of hv
    show ma_wp X d w 244 26 [(0, .inr (.inr (some 94))), (1, .inl ob), (2, .inl ix), (3, .inl va)] [.inl v2] (zst S m1) _
    refine zw_sto hm_244 dX12_put_26 [(4, .inl v2), (0, .inr (.inr (some 94))), (1, .inl ob), (2, .inl ix), (3, .inl va)] rfl rfl rfl ?_
    refine zw_push hm_244 dX12_put_28 (v := .inr (.inr (some 94))) rfl ?_
    refine zw_push hm_244 dX12_put_29 (v := .inl v2) rfl ?_
    refine zw_if0 hm_244 dX12_put_31 (t := 38) rfl zc0_ge ?_ ?_
    · intro hc
      rw [if_pos hc] at h
      refine zw_push hm_244 dX12_put_38 (v := .inl ix) rfl ?_
      refine zw_if0 hm_244 dX12_put_39 (t := 53) rfl zc0_lt ?_ ?_
      · intro hc
        rw [if_pos hc] at h
        refine zw_push hm_244 dX12_put_53 (v := .inl (3 : Int32)) rfl ?_
        refine zw_goto hm_244 dX12_put_54 (t := 72) rfl ?_
        refine zw_cv hm_244 dX12_put_72 v_12_110_12 hm_167 [.inl (3 : Int32)] [] rfl (zT_rt (zT_zst hS m1) s_94 rfl) ⟨by omega, by omega⟩ rfl ?_
        show ma_wp X (d - 1) (w - 21) 167 0 [(0, .inr (.inr (some 94))), (1, .inl (3 : Int32))] [] (zst S m1) _
        refine zw_push hm_167 dX12_fails_0 (v := .inr (.inr (some 94))) rfl ?_
        refine zw_push hm_167 dX12_fails_1 (v := .inl (3 : Int32)) rfl ?_
        refine zw_pf hm_167 dX12_fails_2 (zT_is (zT_zst hS m1) s_94) (zT_t (zT_zst hS m1) s_94) p_12_1_12 zk_int ?_
        refine zw_push hm_167 dX12_fails_5 (v := .inl (3 : Int32)) rfl ?_
        refine zw_if0 hm_167 dX12_fails_6 (t := 13) rfl zc0_eq (fun hc => absurd hc (by decide)) (fun _ => ?_)
        refine zw_push hm_167 dX12_fails_9 (v := .inl (1 : Int32)) rfl ?_
        refine zw_goto hm_167 dX12_fails_10 (t := 14) rfl ?_
        refine zw_bret hm_167 dX12_fails_14 (by decide) ?_
        show ma_wp X d w 244 75 [(4, .inl v2), (0, .inr (.inr (some 94))), (1, .inl ob), (2, .inl ix), (3, .inl va)] [.inl (1 : Int32)] (ma_put (zst S m1) 94 0 (.inl (3 : Int32))) _
        refine zw_if0 hm_244 dX12_put_75 (t := 80) rfl zc0_eq (fun hc => absurd hc (by decide)) (fun _ => ?_)
        refine zw_push hm_244 dX12_put_78 (v := .inl (0 : Int32)) rfl ?_
        exact zw_iret hm_244 dX12_put_79 (HQ _ _ h)
      · intro hc
        rw [if_neg hc] at h
        refine zw_push hm_244 dX12_put_42 (v := .inl ix) rfl ?_
        refine zw_push hm_244 dX12_put_43 (v := .inr (.inr (some 94))) rfl ?_
        refine zw_gf hm_244 dX12_put_44 (v := .inr (.inr (some 102))) (zT_is (zT_zst hS m1) s_94) (zT_t (zT_zst hS m1) s_94) rfl f_12_37_12 (zT_f (zT_zst hS m1) r_94_34) ?_
        refine zw_push hm_244 dX12_put_47 (v := .inl v2) rfl ?_
        obtain ⟨hg, h⟩ := h
        refine zw_ia hm_244 dX12_put_49 (zT_is (zT_zst hS m1) s_102) (zT_h (zT_zst hS m1) s_102) rfl hg ?_
        show ma_wp X d w 244 50 [(4, .inl v2), (0, .inr (.inr (some 94))), (1, .inl ob), (2, .inl ix), (3, .inl va)] [.inl (m1 102 v2.toNatClampNeg), .inl ix, .inr (.inr (some 94))] (zst S m1) _
        refine zw_if2 hm_244 dX12_put_50 (t := 57) rfl zc2_lt ?_ ?_
        · intro hc
          rw [if_pos hc] at h
          refine zw_push hm_244 dX12_put_57 (v := .inr (.inr (some 94))) rfl ?_
          refine zw_push hm_244 dX12_put_58 (v := .inl v2) rfl ?_
          refine zw_push hm_244 dX12_put_60 (v := .inl ix) rfl ?_
          refine zw_cv hm_244 dX12_put_61 v_12_288_12 hm_193 [.inl ix, .inl v2] [.inr (.inr (some 94))] rfl (zT_rt (zT_zst hS m1) s_94 rfl) ⟨by omega, by omega⟩ rfl ?_
          show ma_wp X (d - 1) (w - 22) 193 0 [(0, .inr (.inr (some 94))), (1, .inl v2), (2, .inl ix)] [] (zst S m1) _
          refine zw_push hm_193 dX12_isReference_0 (v := .inr (.inr (some 94))) rfl ?_
          refine zw_gf hm_193 dX12_isReference_1 (v := .inr (.inr (some 101))) (zT_is (zT_zst hS m1) s_94) (zT_t (zT_zst hS m1) s_94) rfl f_12_34_12 (zT_f (zT_zst hS m1) r_94_33) ?_
          refine zw_push hm_193 dX12_isReference_4 (v := .inl v2) rfl ?_
          obtain ⟨hg, h⟩ := h
          refine zw_ia hm_193 dX12_isReference_5 (zT_is (zT_zst hS m1) s_101) (zT_h (zT_zst hS m1) s_101) rfl hg ?_
          show ma_wp X (d - 1) (w - 22) 193 6 [(0, .inr (.inr (some 94))), (1, .inl v2), (2, .inl ix)] [.inl (m1 101 v2.toNatClampNeg)] (zst S m1) _
          refine zw_push hm_193 dX12_isReference_6 (v := .inl (16 : Int32)) rfl ?_
          refine zw_if2 hm_193 dX12_isReference_8 (t := 41) rfl zc2_eq ?_ ?_
          · intro hc
            rw [if_pos hc] at h
            refine zw_push hm_193 dX12_isReference_41 (v := .inl (1 : Int32)) rfl ?_
            refine zw_goto hm_193 dX12_isReference_42 (t := 46) rfl ?_
            refine zw_bret hm_193 dX12_isReference_46 (by decide) ?_
            show ma_wp X d w 244 64 [(4, .inl v2), (0, .inr (.inr (some 94))), (1, .inl ob), (2, .inl ix), (3, .inl va)] [.inl (1 : Int32), .inr (.inr (some 94))] (zst S m1) _
            refine zw_if0 hm_244 dX12_put_64 (t := 71) rfl zc0_eq (fun hc => absurd hc (by decide)) (fun _ => ?_)
            refine zw_push hm_244 dX12_put_67 (v := .inl (4 : Int32)) rfl ?_
            refine zw_goto hm_244 dX12_put_68 (t := 72) rfl ?_
            refine zw_cv hm_244 dX12_put_72 v_12_110_12 hm_167 [.inl (4 : Int32)] [] rfl (zT_rt (zT_zst hS m1) s_94 rfl) ⟨by omega, by omega⟩ rfl ?_
            show ma_wp X (d - 1) (w - 21) 167 0 [(0, .inr (.inr (some 94))), (1, .inl (4 : Int32))] [] (zst S m1) _
            refine zw_push hm_167 dX12_fails_0 (v := .inr (.inr (some 94))) rfl ?_
            refine zw_push hm_167 dX12_fails_1 (v := .inl (4 : Int32)) rfl ?_
            refine zw_pf hm_167 dX12_fails_2 (zT_is (zT_zst hS m1) s_94) (zT_t (zT_zst hS m1) s_94) p_12_1_12 zk_int ?_
            refine zw_push hm_167 dX12_fails_5 (v := .inl (4 : Int32)) rfl ?_
            refine zw_if0 hm_167 dX12_fails_6 (t := 13) rfl zc0_eq (fun hc => absurd hc (by decide)) (fun _ => ?_)
            refine zw_push hm_167 dX12_fails_9 (v := .inl (1 : Int32)) rfl ?_
            refine zw_goto hm_167 dX12_fails_10 (t := 14) rfl ?_
            refine zw_bret hm_167 dX12_fails_14 (by decide) ?_
            show ma_wp X d w 244 75 [(4, .inl v2), (0, .inr (.inr (some 94))), (1, .inl ob), (2, .inl ix), (3, .inl va)] [.inl (1 : Int32)] (ma_put (zst S m1) 94 0 (.inl (4 : Int32))) _
            refine zw_if0 hm_244 dX12_put_75 (t := 80) rfl zc0_eq (fun hc => absurd hc (by decide)) (fun _ => ?_)
            refine zw_push hm_244 dX12_put_78 (v := .inl (0 : Int32)) rfl ?_
            exact zw_iret hm_244 dX12_put_79 (HQ _ _ h)
          · intro hc
            rw [if_neg hc] at h
            refine zw_push hm_193 dX12_isReference_11 (v := .inr (.inr (some 94))) rfl ?_
            refine zw_gf hm_193 dX12_isReference_12 (v := .inr (.inr (some 101))) (zT_is (zT_zst hS m1) s_94) (zT_t (zT_zst hS m1) s_94) rfl f_12_34_12 (zT_f (zT_zst hS m1) r_94_33) ?_
            refine zw_push hm_193 dX12_isReference_15 (v := .inl v2) rfl ?_
            obtain ⟨hg, h⟩ := h
            refine zw_ia hm_193 dX12_isReference_16 (zT_is (zT_zst hS m1) s_101) (zT_h (zT_zst hS m1) s_101) rfl hg ?_
            show ma_wp X (d - 1) (w - 22) 193 17 [(0, .inr (.inr (some 94))), (1, .inl v2), (2, .inl ix)] [.inl (m1 101 v2.toNatClampNeg)] (zst S m1) _
            refine zw_push hm_193 dX12_isReference_17 (v := .inl (16 : Int32)) rfl ?_
            refine zw_if2 hm_193 dX12_isReference_19 (t := 45) rfl zc2_ge ?_ ?_
            · intro hc
              rw [if_pos hc] at h
              refine zw_push hm_193 dX12_isReference_45 (v := .inl (0 : Int32)) rfl ?_
              refine zw_bret hm_193 dX12_isReference_46 (by decide) ?_
              show ma_wp X d w 244 64 [(4, .inl v2), (0, .inr (.inr (some 94))), (1, .inl ob), (2, .inl ix), (3, .inl va)] [.inl (0 : Int32), .inr (.inr (some 94))] (zst S m1) _
              refine zw_if0 hm_244 dX12_put_64 (t := 71) rfl zc0_eq (fun _ => ?_) (fun hc => absurd (by decide) hc)
              refine zw_push hm_244 dX12_put_71 (v := .inl (0 : Int32)) rfl ?_
              refine zw_cv hm_244 dX12_put_72 v_12_110_12 hm_167 [.inl (0 : Int32)] [] rfl (zT_rt (zT_zst hS m1) s_94 rfl) ⟨by omega, by omega⟩ rfl ?_
              show ma_wp X (d - 1) (w - 21) 167 0 [(0, .inr (.inr (some 94))), (1, .inl (0 : Int32))] [] (zst S m1) _
              refine zw_push hm_167 dX12_fails_0 (v := .inr (.inr (some 94))) rfl ?_
              refine zw_push hm_167 dX12_fails_1 (v := .inl (0 : Int32)) rfl ?_
              refine zw_pf hm_167 dX12_fails_2 (zT_is (zT_zst hS m1) s_94) (zT_t (zT_zst hS m1) s_94) p_12_1_12 zk_int ?_
              refine zw_push hm_167 dX12_fails_5 (v := .inl (0 : Int32)) rfl ?_
              refine zw_if0 hm_167 dX12_fails_6 (t := 13) rfl zc0_eq (fun _ => ?_) (fun hc => absurd (by decide) hc)
              refine zw_push hm_167 dX12_fails_13 (v := .inl (0 : Int32)) rfl ?_
              refine zw_bret hm_167 dX12_fails_14 (by decide) ?_
              show ma_wp X d w 244 75 [(4, .inl v2), (0, .inr (.inr (some 94))), (1, .inl ob), (2, .inl ix), (3, .inl va)] [.inl (0 : Int32)] (ma_put (zst S m1) 94 0 (.inl (0 : Int32))) _
              refine zw_if0 hm_244 dX12_put_75 (t := 80) rfl zc0_eq (fun _ => ?_) (fun hc => absurd (by decide) hc)
              refine zw_push hm_244 dX12_put_80 (v := .inr (.inr (some 94))) rfl ?_
              refine zw_gf hm_244 dX12_put_81 (v := .inr (.inr (some 108))) (zT_is (zT_pi (zT_zst hS m1)) s_94) (zT_t (zT_pi (zT_zst hS m1)) s_94) rfl f_12_56_12 (zT_f (zT_pi (zT_zst hS m1)) r_94_40) ?_
              refine zw_push hm_244 dX12_put_84 (v := .inl v2) rfl ?_
              refine zw_push hm_244 dX12_put_86 (v := .inl (60 : Int32)) rfl ?_
              refine zw_stk hm_244 dX12_put_88 (st₉ := [.inl (v2 * (60 : Int32)), .inr (.inr (some 108))]) rfl rfl ?_
              refine zw_push hm_244 dX12_put_89 (v := .inl ix) rfl ?_
              refine zw_stk hm_244 dX12_put_90 (st₉ := [.inl ((v2 * (60 : Int32)) + ix), .inr (.inr (some 108))]) rfl rfl ?_
              obtain ⟨hg, h⟩ := h
              refine zw_ia hm_244 dX12_put_91 (zT_is (zT_pi (zT_zst hS m1)) s_108) (zT_h (zT_pi (zT_zst hS m1)) s_108) rfl hg ?_
              show ma_wp X d w 244 92 [(4, .inl v2), (0, .inr (.inr (some 94))), (1, .inl ob), (2, .inl ix), (3, .inl va)] [.inl (m1 108 ((v2 * (60 : Int32)) + ix).toNatClampNeg)] (ma_put (zst S m1) 94 0 (.inl (0 : Int32))) _
              refine zw_sto hm_244 dX12_put_92 [(5, .inl (m1 108 ((v2 * (60 : Int32)) + ix).toNatClampNeg)), (4, .inl v2), (0, .inr (.inr (some 94))), (1, .inl ob), (2, .inl ix), (3, .inl va)] rfl rfl rfl ?_
              refine zw_push hm_244 dX12_put_94 (v := .inr (.inr (some 94))) rfl ?_
              refine zw_gf hm_244 dX12_put_95 (v := .inr (.inr (some 108))) (zT_is (zT_pi (zT_zst hS m1)) s_94) (zT_t (zT_pi (zT_zst hS m1)) s_94) rfl f_12_56_12 (zT_f (zT_pi (zT_zst hS m1)) r_94_40) ?_
              refine zw_push hm_244 dX12_put_98 (v := .inl v2) rfl ?_
              refine zw_push hm_244 dX12_put_100 (v := .inl (60 : Int32)) rfl ?_
              refine zw_stk hm_244 dX12_put_102 (st₉ := [.inl (v2 * (60 : Int32)), .inr (.inr (some 108))]) rfl rfl ?_
              refine zw_push hm_244 dX12_put_103 (v := .inl ix) rfl ?_
              refine zw_stk hm_244 dX12_put_104 (st₉ := [.inl ((v2 * (60 : Int32)) + ix), .inr (.inr (some 108))]) rfl rfl ?_
              refine zw_push hm_244 dX12_put_105 (v := .inl va) rfl ?_
              obtain ⟨hg, h⟩ := h
              refine zw_ias hm_244 dX12_put_106 (zT_is (zT_pi (zT_zst hS m1)) s_108) (zT_h (zT_pi (zT_zst hS m1)) s_108) rfl hg ?_
              refine zw_push hm_244 dX12_put_107 (v := .inl (m1 108 ((v2 * (60 : Int32)) + ix).toNatClampNeg)) rfl ?_
              exact zw_iret hm_244 dX12_put_109 (HQ _ _ h)
            · intro hc
              rw [if_neg hc] at h
              refine zw_push hm_193 dX12_isReference_22 (v := .inr (.inr (some 94))) rfl ?_
              refine zw_gf hm_193 dX12_isReference_23 (v := .inr (.inr (some 98))) (zT_is (zT_zst hS m1) s_94) (zT_t (zT_zst hS m1) s_94) rfl f_12_24_12 (zT_f (zT_zst hS m1) r_94_6) ?_
              refine zw_push hm_193 dX12_isReference_26 (v := .inr (.inr (some 94))) rfl ?_
              refine zw_gf hm_193 dX12_isReference_27 (v := .inr (.inr (some 101))) (zT_is (zT_zst hS m1) s_94) (zT_t (zT_zst hS m1) s_94) rfl f_12_34_12 (zT_f (zT_zst hS m1) r_94_33) ?_
              refine zw_push hm_193 dX12_isReference_30 (v := .inl v2) rfl ?_
              obtain ⟨hg, h⟩ := h
              refine zw_ia hm_193 dX12_isReference_31 (zT_is (zT_zst hS m1) s_101) (zT_h (zT_zst hS m1) s_101) rfl hg ?_
              show ma_wp X (d - 1) (w - 22) 193 32 [(0, .inr (.inr (some 94))), (1, .inl v2), (2, .inl ix)] [.inl (m1 101 v2.toNatClampNeg), .inr (.inr (some 98))] (zst S m1) _
              obtain ⟨hg, h⟩ := h
              refine zw_ia hm_193 dX12_isReference_32 (zT_is (zT_zst hS m1) s_98) (zT_h (zT_zst hS m1) s_98) rfl hg ?_
              show ma_wp X (d - 1) (w - 22) 193 33 [(0, .inr (.inr (some 94))), (1, .inl v2), (2, .inl ix)] [.inl (m1 98 (m1 101 v2.toNatClampNeg).toNatClampNeg)] (zst S m1) _
              refine zw_push hm_193 dX12_isReference_33 (v := .inl ix) rfl ?_
              refine zw_stk hm_193 dX12_isReference_34 (st₉ := [.inl ((m1 98 (m1 101 v2.toNatClampNeg).toNatClampNeg) >>> (ix &&& 31))]) rfl rfl ?_
              refine zw_push hm_193 dX12_isReference_35 (v := .inl (1 : Int32)) rfl ?_
              refine zw_stk hm_193 dX12_isReference_36 (st₉ := [.inl (((m1 98 (m1 101 v2.toNatClampNeg).toNatClampNeg) >>> (ix &&& 31)) &&& (1 : Int32))]) rfl rfl ?_
              refine zw_push hm_193 dX12_isReference_37 (v := .inl (1 : Int32)) rfl ?_
              refine zw_if2 hm_193 dX12_isReference_38 (t := 45) rfl zc2_ne ?_ ?_
              · intro hc
                rw [if_neg hc] at h
                refine zw_push hm_193 dX12_isReference_45 (v := .inl (0 : Int32)) rfl ?_
                refine zw_bret hm_193 dX12_isReference_46 (by decide) ?_
                show ma_wp X d w 244 64 [(4, .inl v2), (0, .inr (.inr (some 94))), (1, .inl ob), (2, .inl ix), (3, .inl va)] [.inl (0 : Int32), .inr (.inr (some 94))] (zst S m1) _
                refine zw_if0 hm_244 dX12_put_64 (t := 71) rfl zc0_eq (fun _ => ?_) (fun hc => absurd (by decide) hc)
                refine zw_push hm_244 dX12_put_71 (v := .inl (0 : Int32)) rfl ?_
                refine zw_cv hm_244 dX12_put_72 v_12_110_12 hm_167 [.inl (0 : Int32)] [] rfl (zT_rt (zT_zst hS m1) s_94 rfl) ⟨by omega, by omega⟩ rfl ?_
                show ma_wp X (d - 1) (w - 21) 167 0 [(0, .inr (.inr (some 94))), (1, .inl (0 : Int32))] [] (zst S m1) _
                refine zw_push hm_167 dX12_fails_0 (v := .inr (.inr (some 94))) rfl ?_
                refine zw_push hm_167 dX12_fails_1 (v := .inl (0 : Int32)) rfl ?_
                refine zw_pf hm_167 dX12_fails_2 (zT_is (zT_zst hS m1) s_94) (zT_t (zT_zst hS m1) s_94) p_12_1_12 zk_int ?_
                refine zw_push hm_167 dX12_fails_5 (v := .inl (0 : Int32)) rfl ?_
                refine zw_if0 hm_167 dX12_fails_6 (t := 13) rfl zc0_eq (fun _ => ?_) (fun hc => absurd (by decide) hc)
                refine zw_push hm_167 dX12_fails_13 (v := .inl (0 : Int32)) rfl ?_
                refine zw_bret hm_167 dX12_fails_14 (by decide) ?_
                show ma_wp X d w 244 75 [(4, .inl v2), (0, .inr (.inr (some 94))), (1, .inl ob), (2, .inl ix), (3, .inl va)] [.inl (0 : Int32)] (ma_put (zst S m1) 94 0 (.inl (0 : Int32))) _
                refine zw_if0 hm_244 dX12_put_75 (t := 80) rfl zc0_eq (fun _ => ?_) (fun hc => absurd (by decide) hc)
                refine zw_push hm_244 dX12_put_80 (v := .inr (.inr (some 94))) rfl ?_
                refine zw_gf hm_244 dX12_put_81 (v := .inr (.inr (some 108))) (zT_is (zT_pi (zT_zst hS m1)) s_94) (zT_t (zT_pi (zT_zst hS m1)) s_94) rfl f_12_56_12 (zT_f (zT_pi (zT_zst hS m1)) r_94_40) ?_
                refine zw_push hm_244 dX12_put_84 (v := .inl v2) rfl ?_
                refine zw_push hm_244 dX12_put_86 (v := .inl (60 : Int32)) rfl ?_
                refine zw_stk hm_244 dX12_put_88 (st₉ := [.inl (v2 * (60 : Int32)), .inr (.inr (some 108))]) rfl rfl ?_
                refine zw_push hm_244 dX12_put_89 (v := .inl ix) rfl ?_
                refine zw_stk hm_244 dX12_put_90 (st₉ := [.inl ((v2 * (60 : Int32)) + ix), .inr (.inr (some 108))]) rfl rfl ?_
                obtain ⟨hg, h⟩ := h
                refine zw_ia hm_244 dX12_put_91 (zT_is (zT_pi (zT_zst hS m1)) s_108) (zT_h (zT_pi (zT_zst hS m1)) s_108) rfl hg ?_
                show ma_wp X d w 244 92 [(4, .inl v2), (0, .inr (.inr (some 94))), (1, .inl ob), (2, .inl ix), (3, .inl va)] [.inl (m1 108 ((v2 * (60 : Int32)) + ix).toNatClampNeg)] (ma_put (zst S m1) 94 0 (.inl (0 : Int32))) _
                refine zw_sto hm_244 dX12_put_92 [(5, .inl (m1 108 ((v2 * (60 : Int32)) + ix).toNatClampNeg)), (4, .inl v2), (0, .inr (.inr (some 94))), (1, .inl ob), (2, .inl ix), (3, .inl va)] rfl rfl rfl ?_
                refine zw_push hm_244 dX12_put_94 (v := .inr (.inr (some 94))) rfl ?_
                refine zw_gf hm_244 dX12_put_95 (v := .inr (.inr (some 108))) (zT_is (zT_pi (zT_zst hS m1)) s_94) (zT_t (zT_pi (zT_zst hS m1)) s_94) rfl f_12_56_12 (zT_f (zT_pi (zT_zst hS m1)) r_94_40) ?_
                refine zw_push hm_244 dX12_put_98 (v := .inl v2) rfl ?_
                refine zw_push hm_244 dX12_put_100 (v := .inl (60 : Int32)) rfl ?_
                refine zw_stk hm_244 dX12_put_102 (st₉ := [.inl (v2 * (60 : Int32)), .inr (.inr (some 108))]) rfl rfl ?_
                refine zw_push hm_244 dX12_put_103 (v := .inl ix) rfl ?_
                refine zw_stk hm_244 dX12_put_104 (st₉ := [.inl ((v2 * (60 : Int32)) + ix), .inr (.inr (some 108))]) rfl rfl ?_
                refine zw_push hm_244 dX12_put_105 (v := .inl va) rfl ?_
                obtain ⟨hg, h⟩ := h
                refine zw_ias hm_244 dX12_put_106 (zT_is (zT_pi (zT_zst hS m1)) s_108) (zT_h (zT_pi (zT_zst hS m1)) s_108) rfl hg ?_
                refine zw_push hm_244 dX12_put_107 (v := .inl (m1 108 ((v2 * (60 : Int32)) + ix).toNatClampNeg)) rfl ?_
                exact zw_iret hm_244 dX12_put_109 (HQ _ _ h)
              · intro hc
                rw [if_pos (Classical.not_not.mp hc)] at h
                refine zw_push hm_193 dX12_isReference_41 (v := .inl (1 : Int32)) rfl ?_
                refine zw_goto hm_193 dX12_isReference_42 (t := 46) rfl ?_
                refine zw_bret hm_193 dX12_isReference_46 (by decide) ?_
                show ma_wp X d w 244 64 [(4, .inl v2), (0, .inr (.inr (some 94))), (1, .inl ob), (2, .inl ix), (3, .inl va)] [.inl (1 : Int32), .inr (.inr (some 94))] (zst S m1) _
                refine zw_if0 hm_244 dX12_put_64 (t := 71) rfl zc0_eq (fun hc => absurd hc (by decide)) (fun _ => ?_)
                refine zw_push hm_244 dX12_put_67 (v := .inl (4 : Int32)) rfl ?_
                refine zw_goto hm_244 dX12_put_68 (t := 72) rfl ?_
                refine zw_cv hm_244 dX12_put_72 v_12_110_12 hm_167 [.inl (4 : Int32)] [] rfl (zT_rt (zT_zst hS m1) s_94 rfl) ⟨by omega, by omega⟩ rfl ?_
                show ma_wp X (d - 1) (w - 21) 167 0 [(0, .inr (.inr (some 94))), (1, .inl (4 : Int32))] [] (zst S m1) _
                refine zw_push hm_167 dX12_fails_0 (v := .inr (.inr (some 94))) rfl ?_
                refine zw_push hm_167 dX12_fails_1 (v := .inl (4 : Int32)) rfl ?_
                refine zw_pf hm_167 dX12_fails_2 (zT_is (zT_zst hS m1) s_94) (zT_t (zT_zst hS m1) s_94) p_12_1_12 zk_int ?_
                refine zw_push hm_167 dX12_fails_5 (v := .inl (4 : Int32)) rfl ?_
                refine zw_if0 hm_167 dX12_fails_6 (t := 13) rfl zc0_eq (fun hc => absurd hc (by decide)) (fun _ => ?_)
                refine zw_push hm_167 dX12_fails_9 (v := .inl (1 : Int32)) rfl ?_
                refine zw_goto hm_167 dX12_fails_10 (t := 14) rfl ?_
                refine zw_bret hm_167 dX12_fails_14 (by decide) ?_
                show ma_wp X d w 244 75 [(4, .inl v2), (0, .inr (.inr (some 94))), (1, .inl ob), (2, .inl ix), (3, .inl va)] [.inl (1 : Int32)] (ma_put (zst S m1) 94 0 (.inl (4 : Int32))) _
                refine zw_if0 hm_244 dX12_put_75 (t := 80) rfl zc0_eq (fun hc => absurd hc (by decide)) (fun _ => ?_)
                refine zw_push hm_244 dX12_put_78 (v := .inl (0 : Int32)) rfl ?_
                exact zw_iret hm_244 dX12_put_79 (HQ _ _ h)
        · intro hc
          rw [if_neg hc] at h
          refine zw_push hm_244 dX12_put_53 (v := .inl (3 : Int32)) rfl ?_
          refine zw_goto hm_244 dX12_put_54 (t := 72) rfl ?_
          refine zw_cv hm_244 dX12_put_72 v_12_110_12 hm_167 [.inl (3 : Int32)] [] rfl (zT_rt (zT_zst hS m1) s_94 rfl) ⟨by omega, by omega⟩ rfl ?_
          show ma_wp X (d - 1) (w - 21) 167 0 [(0, .inr (.inr (some 94))), (1, .inl (3 : Int32))] [] (zst S m1) _
          refine zw_push hm_167 dX12_fails_0 (v := .inr (.inr (some 94))) rfl ?_
          refine zw_push hm_167 dX12_fails_1 (v := .inl (3 : Int32)) rfl ?_
          refine zw_pf hm_167 dX12_fails_2 (zT_is (zT_zst hS m1) s_94) (zT_t (zT_zst hS m1) s_94) p_12_1_12 zk_int ?_
          refine zw_push hm_167 dX12_fails_5 (v := .inl (3 : Int32)) rfl ?_
          refine zw_if0 hm_167 dX12_fails_6 (t := 13) rfl zc0_eq (fun hc => absurd hc (by decide)) (fun _ => ?_)
          refine zw_push hm_167 dX12_fails_9 (v := .inl (1 : Int32)) rfl ?_
          refine zw_goto hm_167 dX12_fails_10 (t := 14) rfl ?_
          refine zw_bret hm_167 dX12_fails_14 (by decide) ?_
          show ma_wp X d w 244 75 [(4, .inl v2), (0, .inr (.inr (some 94))), (1, .inl ob), (2, .inl ix), (3, .inl va)] [.inl (1 : Int32)] (ma_put (zst S m1) 94 0 (.inl (3 : Int32))) _
          refine zw_if0 hm_244 dX12_put_75 (t := 80) rfl zc0_eq (fun hc => absurd hc (by decide)) (fun _ => ?_)
          refine zw_push hm_244 dX12_put_78 (v := .inl (0 : Int32)) rfl ?_
          exact zw_iret hm_244 dX12_put_79 (HQ _ _ h)
    · intro hc
      rw [if_neg hc] at h
      refine zw_push hm_244 dX12_put_34 (v := .inl (2 : Int32)) rfl ?_
      refine zw_goto hm_244 dX12_put_35 (t := 72) rfl ?_
      refine zw_cv hm_244 dX12_put_72 v_12_110_12 hm_167 [.inl (2 : Int32)] [] rfl (zT_rt (zT_zst hS m1) s_94 rfl) ⟨by omega, by omega⟩ rfl ?_
      show ma_wp X (d - 1) (w - 21) 167 0 [(0, .inr (.inr (some 94))), (1, .inl (2 : Int32))] [] (zst S m1) _
      refine zw_push hm_167 dX12_fails_0 (v := .inr (.inr (some 94))) rfl ?_
      refine zw_push hm_167 dX12_fails_1 (v := .inl (2 : Int32)) rfl ?_
      refine zw_pf hm_167 dX12_fails_2 (zT_is (zT_zst hS m1) s_94) (zT_t (zT_zst hS m1) s_94) p_12_1_12 zk_int ?_
      refine zw_push hm_167 dX12_fails_5 (v := .inl (2 : Int32)) rfl ?_
      refine zw_if0 hm_167 dX12_fails_6 (t := 13) rfl zc0_eq (fun hc => absurd hc (by decide)) (fun _ => ?_)
      refine zw_push hm_167 dX12_fails_9 (v := .inl (1 : Int32)) rfl ?_
      refine zw_goto hm_167 dX12_fails_10 (t := 14) rfl ?_
      refine zw_bret hm_167 dX12_fails_14 (by decide) ?_
      show ma_wp X d w 244 75 [(4, .inl v2), (0, .inr (.inr (some 94))), (1, .inl ob), (2, .inl ix), (3, .inl va)] [.inl (1 : Int32)] (ma_put (zst S m1) 94 0 (.inl (2 : Int32))) _
      refine zw_if0 hm_244 dX12_put_75 (t := 80) rfl zc0_eq (fun hc => absurd hc (by decide)) (fun _ => ?_)
      refine zw_push hm_244 dX12_put_78 (v := .inl (0 : Int32)) rfl ?_
      exact zw_iret hm_244 dX12_put_79 (HQ _ _ h)
  · intro hc
    rw [if_pos (Classical.not_not.mp hc)] at h
    refine zw_push hm_244 dX12_put_8 (v := .inl (1 : Int32)) rfl ?_
    refine zw_goto hm_244 dX12_put_9 (t := 13) rfl ?_
    refine zw_cv hm_244 dX12_put_13 v_12_110_12 hm_167 [.inl (1 : Int32)] [] rfl (zT_rt hS s_94 rfl) ⟨by omega, by omega⟩ rfl ?_
    show ma_wp X (d - 1) (w - 21) 167 0 [(0, .inr (.inr (some 94))), (1, .inl (1 : Int32))] [] S _
    refine zw_push hm_167 dX12_fails_0 (v := .inr (.inr (some 94))) rfl ?_
    refine zw_push hm_167 dX12_fails_1 (v := .inl (1 : Int32)) rfl ?_
    refine zw_pf hm_167 dX12_fails_2 (zT_is hS s_94) (zT_t hS s_94) p_12_1_12 zk_int ?_
    refine zw_push hm_167 dX12_fails_5 (v := .inl (1 : Int32)) rfl ?_
    refine zw_if0 hm_167 dX12_fails_6 (t := 13) rfl zc0_eq (fun hc => absurd hc (by decide)) (fun _ => ?_)
    refine zw_push hm_167 dX12_fails_9 (v := .inl (1 : Int32)) rfl ?_
    refine zw_goto hm_167 dX12_fails_10 (t := 14) rfl ?_
    refine zw_bret hm_167 dX12_fails_14 (by decide) ?_
    show ma_wp X d w 244 16 [(0, .inr (.inr (some 94))), (1, .inl ob), (2, .inl ix), (3, .inl va)] [.inl (1 : Int32)] (ma_put S 94 0 (.inl (1 : Int32))) _
    refine zw_if0 hm_244 dX12_put_16 (t := 21) rfl zc0_eq (fun hc => absurd hc (by decide)) (fun _ => ?_)
    refine zw_push hm_244 dX12_put_19 (v := .inl (0 : Int32)) rfl ?_
    exact zw_iret hm_244 dX12_put_20 (HQ _ _ h)
theorem sp_244 {X : Nat × (Nat → Int32)} {P : Option ma_V → (Nat → Nat → Int32) → Prop} {T : Nat} {m : Nat → Nat → Int32} (ob : Int32) (ix : Int32) (va : Int32) (hV : zV m) (r_W : zW (m 94 7) (m 98) (m 101) (m 102) (m 108)) (r_GW : zGW T (m 94 55) (m 109)) (r_GU : zGU T (m 94 46) (m 99)) (r_OW : zOw (m 99) (m 103) (m 111)) (r_DX : zDX (m 94 10) (m 99) (m 112) (m 113) (m 114) (m 94 55) (m 98) (m 101) (m 102) (m 108)) (r_GG : zGG (m 94 58) (m 94 56) (m 94 57) (m 106)) (r_HA : zHA (m 94 10) (m 94 11) (m 94 13) (m 94 14) (m 94 16) (m 94 61) (m 94 59) (m 94 60) (m 99) (m 102) (m 103) (m 111) (m 117) (m 98) (m 101) (m 108)) (r_RGc : zRG (m 94 10) (m 94 18) (m 94 64) (m 94 63) (m 99) (m 103) (m 102) (m 116)) (hpre8 : (m 94 58).toInt = 0 ∨ (m 94 10).toInt = 5) (KZ : ∀ v m₉, zV (zov wr_244 m m₉) → (zW (m 94 7) (m 98) (m 101) (m 102) (m₉ 108)) → (zGW T (m 94 55) (m 109)) → (zGU T (m 94 46) (m 99)) → (zOw (m 99) (m 103) (m 111)) → (zDX (m 94 10) (m 99) (m 112) (m 113) (m 114) (m 94 55) (m 98) (m 101) (m 102) (m₉ 108)) → (zGG (m 94 58) (m 94 56) (m 94 57) (m 106)) → (zHA (m 94 10) (m 94 11) (m 94 13) (m 94 14) (m 94 16) (m 94 61) (m 94 59) (m 94 60) (m 99) (m 102) (m 103) (m 111) (m 117) (m 98) (m 101) (m₉ 108)) → (zRG (m 94 10) (m 94 18) (m 94 64) (m 94 63) (m 99) (m 103) (m 102) (m 116)) → ((m 94 58).toInt = 0 ∨ (m 94 10).toInt = 5) → P (some (.inl v)) (zov wr_244 m m₉)) : zm X 5 109 244 0 [(0, .inr (.inr (some 94))), (1, .inl ob), (2, .inl ix), (3, .inl va)] m P := by
  have K : ∀ v m₉, zF wr_244 m m₉ → zV m₉ → (zW (m₉ 94 7) (m₉ 98) (m₉ 101) (m₉ 102) (m₉ 108)) → (zGW T (m₉ 94 55) (m₉ 109)) → (zGU T (m₉ 94 46) (m₉ 99)) → (zOw (m₉ 99) (m₉ 103) (m₉ 111)) → (zDX (m₉ 94 10) (m₉ 99) (m₉ 112) (m₉ 113) (m₉ 114) (m₉ 94 55) (m₉ 98) (m₉ 101) (m₉ 102) (m₉ 108)) → (zGG (m₉ 94 58) (m₉ 94 56) (m₉ 94 57) (m₉ 106)) → (zHA (m₉ 94 10) (m₉ 94 11) (m₉ 94 13) (m₉ 94 14) (m₉ 94 16) (m₉ 94 61) (m₉ 94 59) (m₉ 94 60) (m₉ 99) (m₉ 102) (m₉ 103) (m₉ 111) (m₉ 117) (m₉ 98) (m₉ 101) (m₉ 108)) → (zRG (m₉ 94 10) (m₉ 94 18) (m₉ 94 64) (m₉ 94 63) (m₉ 99) (m₉ 103) (m₉ 102) (m₉ 116)) → ((m₉ 94 58).toInt = 0 ∨ (m₉ 94 10).toInt = 5) → P (some (.inl v)) m₉ := by
    intro v m₉ hf z q0 q1 q2 q3 q4 q5 q6 q7 q8
    have e := zov_eq hf
    rw [e] at z ⊢
    try rw [e] at q0
    try rw [e] at q1
    try rw [e] at q2
    try rw [e] at q3
    try rw [e] at q4
    try rw [e] at q5
    try rw [e] at q6
    try rw [e] at q7
    try rw [e] at q8
    exact KZ v m₉ z q0 q1 q2 q3 q4 q5 q6 q7 q8
  refine g_244_0 ob ix va ?_
  have f1 : 0 ≤ (m 94 58).toInt ∧ (m 94 58).toInt ≤ 1 := rs_94_58 (m := m) hV
  have f2 : 0 ≤ (m 94 10).toInt ∧ (m 94 10).toInt ≤ 6 := rs_94_10 (m := m) hV
  have f3 : 0 ≤ (m 94 8).toInt ∧ (m 94 8).toInt ≤ 1 := rs_94_8 (m := m) hV
  have li4 : (0 : Int32).toInt = 0 := rfl
  refine zd (fun (h5 : (m 94 8) = (0 : Int32)) => ?_) (fun (h5 : ¬ (m 94 8) = (0 : Int32)) => ?_)
  · skip
    have g6 := i_eq h5
    have hV7 : zV (ma_u m 94 0 (1 : Int32)) := uf_94_0 hV
    exact K ((0 : Int32)) _ (zF_u zF_rfl rfl) hV7 r_W r_GW r_GU r_OW r_DX r_GG r_HA r_RGc (show (m 94 58).toInt = 0 ∨ (m 94 10).toInt = 5 from by omega)
  · skip
    have g8 := i_ne h5
    have b9 := i_bd ob
    have hV10 : zV (ma_u m 94 0 (0 : Int32)) := uf_94_0 hV
    refine sp_245 (ob) hV10 r_W r_DX (fun v2 m1 hV_m1 p0_m1 p1_m1 => zmi_n ?_)
    have p0_m1 : -1 ≤ v2.toInt ∧ v2.toInt ≤ 3099 := p0_m1
    have p1_m1 : v2.toInt < 0 ∨ (m 99) v2.toNatClampNeg ≠ 0 := p1_m1
    have b11 := i_bd v2
    refine zd (fun (h12 : (0 : Int32) ≤ v2) => ?_) (fun (h12 : ¬ (0 : Int32) ≤ v2) => ?_)
    · skip
      have g13 := i_le h12
      have b14 := i_bd ix
      refine zd (fun (h15 : ix < (0 : Int32)) => ?_) (fun (h15 : ¬ ix < (0 : Int32)) => ?_)
      · skip
        have g16 := i_lt h15
        have hV17 : zV (ma_u (zov wr_245 (ma_u m 94 0 (0 : Int32)) m1) 94 0 (3 : Int32)) := uf_94_0 hV_m1
        exact K ((0 : Int32)) _ (zF_u (zF_zov (zF_u zF_rfl rfl) ws_245_244) rfl) hV17 r_W r_GW r_GU r_OW r_DX r_GG r_HA r_RGc (show (m 94 58).toInt = 0 ∨ (m 94 10).toInt = 5 from by omega)
      · skip
        have g18 := i_nlt h15
        have hg19 : (0 ≤ v2 ∧ v2.toNatClampNeg < 3100) := i_ix (by omega) (by omega)
        refine ⟨hg19, ?_⟩
        first | have f20 : 0 ≤ (m 102 v2.toNatClampNeg).toInt ∧ (m 102 v2.toNatClampNeg).toInt ≤ 60 := ra_102 (m := m) hV (k := v2.toNatClampNeg) (i_ix (n := 3100) (by omega) (by omega)).2 | have b21 := i_bd (m 102 v2.toNatClampNeg)
        refine zd (fun (h22 : ix < (m 102 v2.toNatClampNeg)) => ?_) (fun (h22 : ¬ ix < (m 102 v2.toNatClampNeg)) => ?_)
        · skip
          have g23 := i_lt h22
          have hg24 : (0 ≤ v2 ∧ v2.toNatClampNeg < 3100) := i_ix (by omega) (by omega)
          refine ⟨hg24, ?_⟩
          first | have f25 : 0 ≤ (m 101 v2.toNatClampNeg).toInt ∧ (m 101 v2.toNatClampNeg).toInt ≤ 17 := ra_101 (m := m) hV (k := v2.toNatClampNeg) (i_ix (n := 3100) (by omega) (by omega)).2 | have b26 := i_bd (m 101 v2.toNatClampNeg)
          have li27 : (16 : Int32).toInt = 16 := rfl
          refine zd (fun (h28 : (m 101 v2.toNatClampNeg) = (16 : Int32)) => ?_) (fun (h28 : ¬ (m 101 v2.toNatClampNeg) = (16 : Int32)) => ?_)
          · skip
            have g29 := i_eq h28
            have hV30 : zV (ma_u (zov wr_245 (ma_u m 94 0 (0 : Int32)) m1) 94 0 (4 : Int32)) := uf_94_0 hV_m1
            exact K ((0 : Int32)) _ (zF_u (zF_zov (zF_u zF_rfl rfl) ws_245_244) rfl) hV30 r_W r_GW r_GU r_OW r_DX r_GG r_HA r_RGc (show (m 94 58).toInt = 0 ∨ (m 94 10).toInt = 5 from by omega)
          · skip
            have g31 := i_ne h28
            have hg32 : (0 ≤ v2 ∧ v2.toNatClampNeg < 3100) := i_ix (by omega) (by omega)
            refine ⟨hg32, ?_⟩
            refine zd (fun (h33 : (16 : Int32) ≤ (m 101 v2.toNatClampNeg)) => ?_) (fun (h33 : ¬ (16 : Int32) ≤ (m 101 v2.toNatClampNeg)) => ?_)
            · skip
              have g34 := i_le h33
              have li35 : (60 : Int32).toInt = 60 := rfl
              first | have e36 : (v2 * (60 : Int32)).toInt = v2.toInt * 60 := i_mulk rfl (by omega) (by omega) | have b37 := i_bd (v2 * (60 : Int32))
              first | have e38 : ((v2 * (60 : Int32)) + ix).toInt = (v2 * (60 : Int32)).toInt + ix.toInt := i_add (by omega) (by omega) | have b39 := i_bd ((v2 * (60 : Int32)) + ix)
              have hg40 : (0 ≤ ((v2 * (60 : Int32)) + ix) ∧ ((v2 * (60 : Int32)) + ix).toNatClampNeg < 186000) := i_ix (by omega) (by omega)
              refine ⟨hg40, ?_⟩
              have hg41 : (0 ≤ ((v2 * (60 : Int32)) + ix) ∧ ((v2 * (60 : Int32)) + ix).toNatClampNeg < 186000) := i_ix (by omega) (by omega)
              refine ⟨hg41, ?_⟩
              have hV42 : zV (ma_u (zov wr_245 (ma_u m 94 0 (0 : Int32)) m1) 94 0 (0 : Int32)) := uf_94_0 hV_m1
              have hV43 : zV (ma_u (ma_u (zov wr_245 (ma_u m 94 0 (0 : Int32)) m1) 94 0 (0 : Int32)) 108 ((v2 * (60 : Int32)) + ix).toNatClampNeg va) := ua_108 hV42
              have b44 := i_bd (m 108 ((v2 * (60 : Int32)) + ix).toNatClampNeg)
              exact K ((m 108 ((v2 * (60 : Int32)) + ix).toNatClampNeg)) _ (zF_u (zF_u (zF_zov (zF_u zF_rfl rfl) ws_245_244) rfl) rfl) hV43 (show zW (m 94 7) (m 98) (m 101) (m 102) ((ma_u m 108 ((v2 * (60 : Int32)) + ix).toNatClampNeg va) 108) from by first | (exact W_same r_W (by omega) (fun s2 i2 hs2 hi2 => zrf_put (by omega) (by omega) (by omega) (by omega) (by assumption) (fun z => by first | exact absurd (Int32.lt_iff_toInt_lt.mp z.1) (by omega) | exact absurd z.2 (by assumption)) s2 i2 (by have := (ra_102 hV hs2).2; omega))) | (exfalso; omega; done) | (exfalso; contradiction; done)) r_GW r_GU r_OW (show zDX (m 94 10) (m 99) (m 112) (m 113) (m 114) (m 94 55) (m 98) (m 101) (m 102) ((ma_u m 108 ((v2 * (60 : Int32)) + ix).toNatClampNeg va) 108) from by first | (exact DX_same r_DX (fun s2 i2 hs2 hi2 => zrf_put (by omega) (by omega) (by omega) (by omega) (by assumption) (fun z => by first | exact absurd (Int32.lt_iff_toInt_lt.mp z.1) (by omega) | exact absurd z.2 (by assumption)) s2 i2 (by have := (ra_102 hV hs2).2; omega))) | (exfalso; omega; done) | (exfalso; contradiction; done)) r_GG (show zHA (m 94 10) (m 94 11) (m 94 13) (m 94 14) (m 94 16) (m 94 61) (m 94 59) (m 94 60) (m 99) (m 102) (m 103) (m 111) (m 117) (m 98) (m 101) ((ma_u m 108 ((v2 * (60 : Int32)) + ix).toNatClampNeg va) 108) from by first | (exact HA_same r_HA (fun s2 i2 hs2 hi2 => zrf_put (by omega) (by omega) (by omega) (by omega) (by assumption) (fun z => by first | exact absurd (Int32.lt_iff_toInt_lt.mp z.1) (by omega) | exact absurd z.2 (by assumption)) s2 i2 (by have := (ra_102 hV hs2).2; omega))) | (exfalso; omega; done) | (exfalso; contradiction; done)) r_RGc (show (m 94 58).toInt = 0 ∨ (m 94 10).toInt = 5 from by omega)
            · skip
              have g45 := i_nle h33
              have hg46 : (0 ≤ v2 ∧ v2.toNatClampNeg < 3100) := i_ix (by omega) (by omega)
              refine ⟨hg46, ?_⟩
              have hg47 : (0 ≤ (m 101 v2.toNatClampNeg) ∧ (m 101 v2.toNatClampNeg).toNatClampNeg < 16) := i_ix (by omega) (by omega)
              refine ⟨hg47, ?_⟩
              have b48 := i_bd (((m 98 (m 101 v2.toNatClampNeg).toNatClampNeg) >>> (ix &&& 31)) &&& (1 : Int32))
              have li49 : (1 : Int32).toInt = 1 := rfl
              refine zd (fun (h50 : (((m 98 (m 101 v2.toNatClampNeg).toNatClampNeg) >>> (ix &&& 31)) &&& (1 : Int32)) = (1 : Int32)) => ?_) (fun (h50 : ¬ (((m 98 (m 101 v2.toNatClampNeg).toNatClampNeg) >>> (ix &&& 31)) &&& (1 : Int32)) = (1 : Int32)) => ?_)
              · skip
                have g51 := i_eq h50
                have hV52 : zV (ma_u (zov wr_245 (ma_u m 94 0 (0 : Int32)) m1) 94 0 (4 : Int32)) := uf_94_0 hV_m1
                exact K ((0 : Int32)) _ (zF_u (zF_zov (zF_u zF_rfl rfl) ws_245_244) rfl) hV52 r_W r_GW r_GU r_OW r_DX r_GG r_HA r_RGc (show (m 94 58).toInt = 0 ∨ (m 94 10).toInt = 5 from by omega)
              · skip
                have g53 := i_ne h50
                have li54 : (60 : Int32).toInt = 60 := rfl
                first | have e55 : (v2 * (60 : Int32)).toInt = v2.toInt * 60 := i_mulk rfl (by omega) (by omega) | have b56 := i_bd (v2 * (60 : Int32))
                first | have e57 : ((v2 * (60 : Int32)) + ix).toInt = (v2 * (60 : Int32)).toInt + ix.toInt := i_add (by omega) (by omega) | have b58 := i_bd ((v2 * (60 : Int32)) + ix)
                have hg59 : (0 ≤ ((v2 * (60 : Int32)) + ix) ∧ ((v2 * (60 : Int32)) + ix).toNatClampNeg < 186000) := i_ix (by omega) (by omega)
                refine ⟨hg59, ?_⟩
                have hg60 : (0 ≤ ((v2 * (60 : Int32)) + ix) ∧ ((v2 * (60 : Int32)) + ix).toNatClampNeg < 186000) := i_ix (by omega) (by omega)
                refine ⟨hg60, ?_⟩
                have hV61 : zV (ma_u (zov wr_245 (ma_u m 94 0 (0 : Int32)) m1) 94 0 (0 : Int32)) := uf_94_0 hV_m1
                have hV62 : zV (ma_u (ma_u (zov wr_245 (ma_u m 94 0 (0 : Int32)) m1) 94 0 (0 : Int32)) 108 ((v2 * (60 : Int32)) + ix).toNatClampNeg va) := ua_108 hV61
                have b63 := i_bd (m 108 ((v2 * (60 : Int32)) + ix).toNatClampNeg)
                exact K ((m 108 ((v2 * (60 : Int32)) + ix).toNatClampNeg)) _ (zF_u (zF_u (zF_zov (zF_u zF_rfl rfl) ws_245_244) rfl) rfl) hV62 (show zW (m 94 7) (m 98) (m 101) (m 102) ((ma_u m 108 ((v2 * (60 : Int32)) + ix).toNatClampNeg va) 108) from by first | (exact W_same r_W (by omega) (fun s2 i2 hs2 hi2 => zrf_put (by omega) (by omega) (by omega) (by omega) (by assumption) (fun z => by first | exact absurd (Int32.lt_iff_toInt_lt.mp z.1) (by omega) | exact absurd z.2 (by assumption)) s2 i2 (by have := (ra_102 hV hs2).2; omega))) | (exfalso; omega; done) | (exfalso; contradiction; done)) r_GW r_GU r_OW (show zDX (m 94 10) (m 99) (m 112) (m 113) (m 114) (m 94 55) (m 98) (m 101) (m 102) ((ma_u m 108 ((v2 * (60 : Int32)) + ix).toNatClampNeg va) 108) from by first | (exact DX_same r_DX (fun s2 i2 hs2 hi2 => zrf_put (by omega) (by omega) (by omega) (by omega) (by assumption) (fun z => by first | exact absurd (Int32.lt_iff_toInt_lt.mp z.1) (by omega) | exact absurd z.2 (by assumption)) s2 i2 (by have := (ra_102 hV hs2).2; omega))) | (exfalso; omega; done) | (exfalso; contradiction; done)) r_GG (show zHA (m 94 10) (m 94 11) (m 94 13) (m 94 14) (m 94 16) (m 94 61) (m 94 59) (m 94 60) (m 99) (m 102) (m 103) (m 111) (m 117) (m 98) (m 101) ((ma_u m 108 ((v2 * (60 : Int32)) + ix).toNatClampNeg va) 108) from by first | (exact HA_same r_HA (fun s2 i2 hs2 hi2 => zrf_put (by omega) (by omega) (by omega) (by omega) (by assumption) (fun z => by first | exact absurd (Int32.lt_iff_toInt_lt.mp z.1) (by omega) | exact absurd z.2 (by assumption)) s2 i2 (by have := (ra_102 hV hs2).2; omega))) | (exfalso; omega; done) | (exfalso; contradiction; done)) r_RGc (show (m 94 58).toInt = 0 ∨ (m 94 10).toInt = 5 from by omega)
        · skip
          have g64 := i_nlt h22
          have hV65 : zV (ma_u (zov wr_245 (ma_u m 94 0 (0 : Int32)) m1) 94 0 (3 : Int32)) := uf_94_0 hV_m1
          exact K ((0 : Int32)) _ (zF_u (zF_zov (zF_u zF_rfl rfl) ws_245_244) rfl) hV65 r_W r_GW r_GU r_OW r_DX r_GG r_HA r_RGc (show (m 94 58).toInt = 0 ∨ (m 94 10).toInt = 5 from by omega)
    · skip
      have g66 := i_nle h12
      have hV67 : zV (ma_u (zov wr_245 (ma_u m 94 0 (0 : Int32)) m1) 94 0 (2 : Int32)) := uf_94_0 hV_m1
      exact K ((0 : Int32)) _ (zF_u (zF_zov (zF_u zF_rfl rfl) ws_245_244) rfl) hV67 r_W r_GW r_GU r_OW r_DX r_GG r_HA r_RGc (show (m 94 58).toInt = 0 ∨ (m 94 10).toInt = 5 from by omega)

/-! from 94.449 -/
/-! the reference (written by wip/tools/gen94m.py) -/
set_option maxRecDepth 100000 in
theorem hm_248 : ma_md 248 = some (12, yX12_numberOf, cX12_numberOf, 2, (some (FieldType.int))) := rfl
set_option maxRecDepth 100000 in
theorem hm_249 : ma_md 249 = some (12, yX12_get, cX12_get, 4, (some (FieldType.int))) := rfl
theorem v_12_502_12 : ma_vl 12 502 12 = some (1, 248, 1) := by decide +kernel
theorem dX12_get_0 : decode cX12_get 0 = .ok (.aload_n 0, 1) := by decide +kernel
theorem dX12_get_1 : decode cX12_get 1 = .ok (.aload_n 0, 1) := by decide +kernel
theorem dX12_get_12 : decode cX12_get 12 = .ok (.iconst 0, 1) := by decide +kernel
theorem dX12_get_13 : decode cX12_get 13 = .ok (.invokevirtual 110, 3) := by decide +kernel
theorem dX12_get_16 : decode cX12_get 16 = .ok (.ifCond .eq 5, 3) := by decide +kernel
theorem dX12_get_21 : decode cX12_get 21 = .ok (.aload_n 0, 1) := by decide +kernel
theorem dX12_get_22 : decode cX12_get 22 = .ok (.iload_n 1, 1) := by decide +kernel
theorem dX12_get_23 : decode cX12_get 23 = .ok (.invokevirtual 499, 3) := by decide +kernel
theorem dX12_get_26 : decode cX12_get 26 = .ok (.istore_n 3, 1) := by decide +kernel
theorem dX12_get_27 : decode cX12_get 27 = .ok (.aload_n 0, 1) := by decide +kernel
theorem dX12_get_28 : decode cX12_get 28 = .ok (.iload_n 3, 1) := by decide +kernel
theorem dX12_get_36 : decode cX12_get 36 = .ok (.iload_n 2, 1) := by decide +kernel
theorem dX12_get_50 : decode cX12_get 50 = .ok (.iconst 3, 1) := by decide +kernel
theorem dX12_get_51 : decode cX12_get 51 = .ok (.goto 4, 3) := by decide +kernel
theorem dX12_get_55 : decode cX12_get 55 = .ok (.invokevirtual 110, 3) := by decide +kernel
theorem dX12_get_58 : decode cX12_get 58 = .ok (.ifCond .eq 5, 3) := by decide +kernel
theorem dX12_get_61 : decode cX12_get 61 = .ok (.iconst 0, 1) := by decide +kernel
theorem dX12_get_62 : decode cX12_get 62 = .ok (.ireturn, 1) := by decide +kernel
theorem dX12_get_40 : decode cX12_get 40 = .ok (.iload_n 2, 1) := by decide +kernel
theorem dX12_get_41 : decode cX12_get 41 = .ok (.aload_n 0, 1) := by decide +kernel
theorem dX12_get_45 : decode cX12_get 45 = .ok (.iload_n 3, 1) := by decide +kernel
theorem dX12_get_54 : decode cX12_get 54 = .ok (.iconst 0, 1) := by decide +kernel
theorem dX12_get_63 : decode cX12_get 63 = .ok (.aload_n 0, 1) := by decide +kernel
theorem dX12_get_64 : decode cX12_get 64 = .ok (.iload_n 3, 1) := by decide +kernel
theorem dX12_get_65 : decode cX12_get 65 = .ok (.iload_n 2, 1) := by decide +kernel
theorem dX12_get_66 : decode cX12_get 66 = .ok (.invokevirtual 288, 3) := by decide +kernel
theorem dX12_get_69 : decode cX12_get 69 = .ok (.ifCond .eq 21, 3) := by decide +kernel
theorem dX12_get_72 : decode cX12_get 72 = .ok (.aload_n 0, 1) := by decide +kernel
theorem dX12_get_73 : decode cX12_get 73 = .ok (.aload_n 0, 1) := by decide +kernel
theorem dX12_get_77 : decode cX12_get 77 = .ok (.iload_n 3, 1) := by decide +kernel
theorem dX12_get_78 : decode cX12_get 78 = .ok (.bipush 60, 2) := by decide +kernel
theorem dX12_get_80 : decode cX12_get 80 = .ok (.imul, 1) := by decide +kernel
theorem dX12_get_81 : decode cX12_get 81 = .ok (.iload_n 2, 1) := by decide +kernel
theorem dX12_get_82 : decode cX12_get 82 = .ok (.iadd, 1) := by decide +kernel
theorem dX12_get_84 : decode cX12_get 84 = .ok (.invokevirtual 502, 3) := by decide +kernel
theorem dX12_numberOf_0 : decode cX12_numberOf 0 = .ok (.iload_n 1, 1) := by decide +kernel
theorem dX12_numberOf_8 : decode cX12_numberOf 8 = .ok (.aload_n 0, 1) := by decide +kernel
theorem dX12_numberOf_12 : decode cX12_numberOf 12 = .ok (.iload_n 1, 1) := by decide +kernel
theorem dX12_get_87 : decode cX12_get 87 = .ok (.goto 14, 3) := by decide +kernel
theorem dX12_get_101 : decode cX12_get 101 = .ok (.ireturn, 1) := by decide +kernel
theorem dX12_numberOf_14 : decode cX12_numberOf 14 = .ok (.ireturn, 1) := by decide +kernel
theorem dX12_numberOf_13 : decode cX12_numberOf 13 = .ok (.iaload, 1) := by decide +kernel
theorem dX12_numberOf_9 : decode cX12_numberOf 9 = .ok (.getfield 31, 3) := by decide +kernel
theorem dX12_numberOf_4 : decode cX12_numberOf 4 = .ok (.iconst (-1), 1) := by decide +kernel
theorem dX12_numberOf_5 : decode cX12_numberOf 5 = .ok (.goto 9, 3) := by decide +kernel
theorem dX12_numberOf_1 : decode cX12_numberOf 1 = .ok (.ifCond .ge 7, 3) := by decide +kernel
theorem dX12_get_83 : decode cX12_get 83 = .ok (.iaload, 1) := by decide +kernel
theorem dX12_get_74 : decode cX12_get 74 = .ok (.getfield 56, 3) := by decide +kernel
theorem dX12_get_90 : decode cX12_get 90 = .ok (.aload_n 0, 1) := by decide +kernel
theorem dX12_get_94 : decode cX12_get 94 = .ok (.iload_n 3, 1) := by decide +kernel
theorem dX12_get_95 : decode cX12_get 95 = .ok (.bipush 60, 2) := by decide +kernel
theorem dX12_get_97 : decode cX12_get 97 = .ok (.imul, 1) := by decide +kernel
theorem dX12_get_98 : decode cX12_get 98 = .ok (.iload_n 2, 1) := by decide +kernel
theorem dX12_get_99 : decode cX12_get 99 = .ok (.iadd, 1) := by decide +kernel
theorem dX12_get_100 : decode cX12_get 100 = .ok (.iaload, 1) := by decide +kernel
theorem dX12_get_91 : decode cX12_get 91 = .ok (.getfield 56, 3) := by decide +kernel
theorem dX12_get_47 : decode cX12_get 47 = .ok (.if_icmp .lt 7, 3) := by decide +kernel
theorem dX12_get_46 : decode cX12_get 46 = .ok (.iaload, 1) := by decide +kernel
theorem dX12_get_42 : decode cX12_get 42 = .ok (.getfield 37, 3) := by decide +kernel
theorem dX12_get_37 : decode cX12_get 37 = .ok (.ifCond .lt 13, 3) := by decide +kernel
theorem dX12_get_32 : decode cX12_get 32 = .ok (.iconst 2, 1) := by decide +kernel
theorem dX12_get_33 : decode cX12_get 33 = .ok (.goto 22, 3) := by decide +kernel
theorem dX12_get_29 : decode cX12_get 29 = .ok (.ifCond .ge 7, 3) := by decide +kernel
theorem dX12_get_8 : decode cX12_get 8 = .ok (.iconst 1, 1) := by decide +kernel
theorem dX12_get_9 : decode cX12_get 9 = .ok (.goto 4, 3) := by decide +kernel
theorem dX12_get_19 : decode cX12_get 19 = .ok (.iconst 0, 1) := by decide +kernel
theorem dX12_get_20 : decode cX12_get 20 = .ok (.ireturn, 1) := by decide +kernel
theorem dX12_get_5 : decode cX12_get 5 = .ok (.ifCond .ne 7, 3) := by decide +kernel
theorem dX12_get_2 : decode cX12_get 2 = .ok (.getfield 237, 3) := by decide +kernel
def wr_249 (c k : Nat) : Bool := Nat.beq c 110 || Nat.beq c 118 || (Nat.beq c 94 && (Nat.beq k 0 || Nat.beq k 73))
theorem ws_245_249 : ∀ c k, wr_245 c k = true → wr_249 c k = true := by
  intro c k h
  simp only [wr_245, Bool.or_eq_true, Bool.and_eq_true, Nat.beq_eq] at h
  rcases h with (rfl | rfl) | ⟨rfl, rfl⟩ <;> rfl
theorem g_249_0 {X : Nat × (Nat → Int32)} {m : Nat → Nat → Int32} {P : Option ma_V → (Nat → Nat → Int32) → Prop} (ob : Int32) (ix : Int32) (h : if (m 94 8) = 0 then (P (some (.inl (0 : Int32))) (ma_u m 94 0 (1 : Int32))) else (zm X 4 87 245 0 [(0, .inr (.inr (some 94))), (1, .inl ob)] (ma_u m 94 0 (0 : Int32)) (zmi (fun v2 m1 => if 0 ≤ v2 then (if ix < 0 then (P (some (.inl (0 : Int32))) (ma_u m1 94 0 (3 : Int32))) else ((0 ≤ v2 ∧ v2.toNatClampNeg < 3100) ∧ (if ix < (m1 102 v2.toNatClampNeg) then ((0 ≤ v2 ∧ v2.toNatClampNeg < 3100) ∧ (if (m1 101 v2.toNatClampNeg) = (16 : Int32) then ((0 ≤ ((v2 * (60 : Int32)) + ix) ∧ ((v2 * (60 : Int32)) + ix).toNatClampNeg < 186000) ∧ (if 0 ≤ (m1 108 ((v2 * (60 : Int32)) + ix).toNatClampNeg) then ((0 ≤ (m1 108 ((v2 * (60 : Int32)) + ix).toNatClampNeg) ∧ (m1 108 ((v2 * (60 : Int32)) + ix).toNatClampNeg).toNatClampNeg < 3100) ∧ (P (some (.inl (m1 100 (m1 108 ((v2 * (60 : Int32)) + ix).toNatClampNeg).toNatClampNeg))) (ma_u m1 94 0 (0 : Int32)))) else (P (some (.inl (-1 : Int32))) (ma_u m1 94 0 (0 : Int32))))) else ((0 ≤ v2 ∧ v2.toNatClampNeg < 3100) ∧ (if (16 : Int32) ≤ (m1 101 v2.toNatClampNeg) then ((0 ≤ ((v2 * (60 : Int32)) + ix) ∧ ((v2 * (60 : Int32)) + ix).toNatClampNeg < 186000) ∧ (P (some (.inl (m1 108 ((v2 * (60 : Int32)) + ix).toNatClampNeg))) (ma_u m1 94 0 (0 : Int32)))) else ((0 ≤ v2 ∧ v2.toNatClampNeg < 3100) ∧ ((0 ≤ (m1 101 v2.toNatClampNeg) ∧ (m1 101 v2.toNatClampNeg).toNatClampNeg < 16) ∧ (if (((m1 98 (m1 101 v2.toNatClampNeg).toNatClampNeg) >>> (ix &&& 31)) &&& (1 : Int32)) = (1 : Int32) then ((0 ≤ ((v2 * (60 : Int32)) + ix) ∧ ((v2 * (60 : Int32)) + ix).toNatClampNeg < 186000) ∧ (if 0 ≤ (m1 108 ((v2 * (60 : Int32)) + ix).toNatClampNeg) then ((0 ≤ (m1 108 ((v2 * (60 : Int32)) + ix).toNatClampNeg) ∧ (m1 108 ((v2 * (60 : Int32)) + ix).toNatClampNeg).toNatClampNeg < 3100) ∧ (P (some (.inl (m1 100 (m1 108 ((v2 * (60 : Int32)) + ix).toNatClampNeg).toNatClampNeg))) (ma_u m1 94 0 (0 : Int32)))) else (P (some (.inl (-1 : Int32))) (ma_u m1 94 0 (0 : Int32))))) else ((0 ≤ ((v2 * (60 : Int32)) + ix) ∧ ((v2 * (60 : Int32)) + ix).toNatClampNeg < 186000) ∧ (P (some (.inl (m1 108 ((v2 * (60 : Int32)) + ix).toNatClampNeg))) (ma_u m1 94 0 (0 : Int32))))))))))) else (P (some (.inl (0 : Int32))) (ma_u m1 94 0 (3 : Int32)))))) else (P (some (.inl (0 : Int32))) (ma_u m1 94 0 (2 : Int32))))))) : zm X 5 109 249 0 [(0, .inr (.inr (some 94))), (1, .inl ob), (2, .inl ix)] m P := by
  intro d w S Q hd hw hS hm HQ
  subst hm
  refine zw_push hm_249 dX12_get_0 (v := .inr (.inr (some 94))) rfl ?_
  refine zw_push hm_249 dX12_get_1 (v := .inr (.inr (some 94))) rfl ?_
  refine zw_gf hm_249 dX12_get_2 (v := .inl ((mI S) 94 8)) (zT_is hS s_94) (zT_t hS s_94) rfl f_12_237_12 rfl ?_
  refine zw_if0 hm_249 dX12_get_5 (t := 12) rfl zc0_ne ?_ ?_
  · intro hc
    rw [if_neg hc] at h
    refine zw_push hm_249 dX12_get_12 (v := .inl (0 : Int32)) rfl ?_
    refine zw_cv hm_249 dX12_get_13 v_12_110_12 hm_167 [.inl (0 : Int32)] [] rfl (zT_rt hS s_94 rfl) ⟨by omega, by omega⟩ rfl ?_
    show ma_wp X (d - 1) (w - 21) 167 0 [(0, .inr (.inr (some 94))), (1, .inl (0 : Int32))] [] S _
    refine zw_push hm_167 dX12_fails_0 (v := .inr (.inr (some 94))) rfl ?_
    refine zw_push hm_167 dX12_fails_1 (v := .inl (0 : Int32)) rfl ?_
    refine zw_pf hm_167 dX12_fails_2 (zT_is hS s_94) (zT_t hS s_94) p_12_1_12 zk_int ?_
    refine zw_push hm_167 dX12_fails_5 (v := .inl (0 : Int32)) rfl ?_
    refine zw_if0 hm_167 dX12_fails_6 (t := 13) rfl zc0_eq (fun _ => ?_) (fun hc => absurd (by decide) hc)
    refine zw_push hm_167 dX12_fails_13 (v := .inl (0 : Int32)) rfl ?_
    refine zw_bret hm_167 dX12_fails_14 (by decide) ?_
    show ma_wp X d w 249 16 [(0, .inr (.inr (some 94))), (1, .inl ob), (2, .inl ix)] [.inl (0 : Int32)] (ma_put S 94 0 (.inl (0 : Int32))) _
    refine zw_if0 hm_249 dX12_get_16 (t := 21) rfl zc0_eq (fun _ => ?_) (fun hc => absurd (by decide) hc)
    refine zw_push hm_249 dX12_get_21 (v := .inr (.inr (some 94))) rfl ?_
    refine zw_push hm_249 dX12_get_22 (v := .inl ob) rfl ?_
    refine zw_cv hm_249 dX12_get_23 v_12_499_12 hm_245 [.inl ob] [] rfl (zT_rt (zT_pi hS) s_94 rfl) ⟨by omega, by omega⟩ rfl (h _ _ (ma_put S 94 0 (.inl (0 : Int32))) _ (by omega) (by omega) (zT_pi hS) rfl (fun o9 m1 hv => ?_))
    obtain ⟨v2, rfl, h⟩ := zmi_of hv
    show ma_wp X d w 249 26 [(0, .inr (.inr (some 94))), (1, .inl ob), (2, .inl ix)] [.inl v2] (zst S m1) _
    refine zw_sto hm_249 dX12_get_26 [(3, .inl v2), (0, .inr (.inr (some 94))), (1, .inl ob), (2, .inl ix)] rfl rfl rfl ?_
    refine zw_push hm_249 dX12_get_27 (v := .inr (.inr (some 94))) rfl ?_
    refine zw_push hm_249 dX12_get_28 (v := .inl v2) rfl ?_
    refine zw_if0 hm_249 dX12_get_29 (t := 36) rfl zc0_ge ?_ ?_
    · intro hc
      rw [if_pos hc] at h
      refine zw_push hm_249 dX12_get_36 (v := .inl ix) rfl ?_
      refine zw_if0 hm_249 dX12_get_37 (t := 50) rfl zc0_lt ?_ ?_
      · intro hc
        rw [if_pos hc] at h
        refine zw_push hm_249 dX12_get_50 (v := .inl (3 : Int32)) rfl ?_
        refine zw_goto hm_249 dX12_get_51 (t := 55) rfl ?_
        refine zw_cv hm_249 dX12_get_55 v_12_110_12 hm_167 [.inl (3 : Int32)] [] rfl (zT_rt (zT_zst hS m1) s_94 rfl) ⟨by omega, by omega⟩ rfl ?_
        show ma_wp X (d - 1) (w - 21) 167 0 [(0, .inr (.inr (some 94))), (1, .inl (3 : Int32))] [] (zst S m1) _
        refine zw_push hm_167 dX12_fails_0 (v := .inr (.inr (some 94))) rfl ?_
        refine zw_push hm_167 dX12_fails_1 (v := .inl (3 : Int32)) rfl ?_
        refine zw_pf hm_167 dX12_fails_2 (zT_is (zT_zst hS m1) s_94) (zT_t (zT_zst hS m1) s_94) p_12_1_12 zk_int ?_
        refine zw_push hm_167 dX12_fails_5 (v := .inl (3 : Int32)) rfl ?_
        refine zw_if0 hm_167 dX12_fails_6 (t := 13) rfl zc0_eq (fun hc => absurd hc (by decide)) (fun _ => ?_)
        refine zw_push hm_167 dX12_fails_9 (v := .inl (1 : Int32)) rfl ?_
        refine zw_goto hm_167 dX12_fails_10 (t := 14) rfl ?_
        refine zw_bret hm_167 dX12_fails_14 (by decide) ?_
        show ma_wp X d w 249 58 [(3, .inl v2), (0, .inr (.inr (some 94))), (1, .inl ob), (2, .inl ix)] [.inl (1 : Int32)] (ma_put (zst S m1) 94 0 (.inl (3 : Int32))) _
        refine zw_if0 hm_249 dX12_get_58 (t := 63) rfl zc0_eq (fun hc => absurd hc (by decide)) (fun _ => ?_)
        refine zw_push hm_249 dX12_get_61 (v := .inl (0 : Int32)) rfl ?_
        exact zw_iret hm_249 dX12_get_62 (HQ _ _ h)
      · intro hc
        rw [if_neg hc] at h
        refine zw_push hm_249 dX12_get_40 (v := .inl ix) rfl ?_
        refine zw_push hm_249 dX12_get_41 (v := .inr (.inr (some 94))) rfl ?_
        refine zw_gf hm_249 dX12_get_42 (v := .inr (.inr (some 102))) (zT_is (zT_zst hS m1) s_94) (zT_t (zT_zst hS m1) s_94) rfl f_12_37_12 (zT_f (zT_zst hS m1) r_94_34) ?_
        refine zw_push hm_249 dX12_get_45 (v := .inl v2) rfl ?_
        obtain ⟨hg, h⟩ := h
        refine zw_ia hm_249 dX12_get_46 (zT_is (zT_zst hS m1) s_102) (zT_h (zT_zst hS m1) s_102) rfl hg ?_
        show ma_wp X d w 249 47 [(3, .inl v2), (0, .inr (.inr (some 94))), (1, .inl ob), (2, .inl ix)] [.inl (m1 102 v2.toNatClampNeg), .inl ix, .inr (.inr (some 94))] (zst S m1) _
        refine zw_if2 hm_249 dX12_get_47 (t := 54) rfl zc2_lt ?_ ?_
        · intro hc
          rw [if_pos hc] at h
          refine zw_push hm_249 dX12_get_54 (v := .inl (0 : Int32)) rfl ?_
          refine zw_cv hm_249 dX12_get_55 v_12_110_12 hm_167 [.inl (0 : Int32)] [] rfl (zT_rt (zT_zst hS m1) s_94 rfl) ⟨by omega, by omega⟩ rfl ?_
          show ma_wp X (d - 1) (w - 21) 167 0 [(0, .inr (.inr (some 94))), (1, .inl (0 : Int32))] [] (zst S m1) _
          refine zw_push hm_167 dX12_fails_0 (v := .inr (.inr (some 94))) rfl ?_
          refine zw_push hm_167 dX12_fails_1 (v := .inl (0 : Int32)) rfl ?_
          refine zw_pf hm_167 dX12_fails_2 (zT_is (zT_zst hS m1) s_94) (zT_t (zT_zst hS m1) s_94) p_12_1_12 zk_int ?_
          refine zw_push hm_167 dX12_fails_5 (v := .inl (0 : Int32)) rfl ?_
          refine zw_if0 hm_167 dX12_fails_6 (t := 13) rfl zc0_eq (fun _ => ?_) (fun hc => absurd (by decide) hc)
          refine zw_push hm_167 dX12_fails_13 (v := .inl (0 : Int32)) rfl ?_
          refine zw_bret hm_167 dX12_fails_14 (by decide) ?_
          show ma_wp X d w 249 58 [(3, .inl v2), (0, .inr (.inr (some 94))), (1, .inl ob), (2, .inl ix)] [.inl (0 : Int32)] (ma_put (zst S m1) 94 0 (.inl (0 : Int32))) _
          refine zw_if0 hm_249 dX12_get_58 (t := 63) rfl zc0_eq (fun _ => ?_) (fun hc => absurd (by decide) hc)
          refine zw_push hm_249 dX12_get_63 (v := .inr (.inr (some 94))) rfl ?_
          refine zw_push hm_249 dX12_get_64 (v := .inl v2) rfl ?_
          refine zw_push hm_249 dX12_get_65 (v := .inl ix) rfl ?_
          refine zw_cv hm_249 dX12_get_66 v_12_288_12 hm_193 [.inl ix, .inl v2] [] rfl (zT_rt (zT_pi (zT_zst hS m1)) s_94 rfl) ⟨by omega, by omega⟩ rfl ?_
          show ma_wp X (d - 1) (w - 22) 193 0 [(0, .inr (.inr (some 94))), (1, .inl v2), (2, .inl ix)] [] (ma_put (zst S m1) 94 0 (.inl (0 : Int32))) _
          refine zw_push hm_193 dX12_isReference_0 (v := .inr (.inr (some 94))) rfl ?_
          refine zw_gf hm_193 dX12_isReference_1 (v := .inr (.inr (some 101))) (zT_is (zT_pi (zT_zst hS m1)) s_94) (zT_t (zT_pi (zT_zst hS m1)) s_94) rfl f_12_34_12 (zT_f (zT_pi (zT_zst hS m1)) r_94_33) ?_
          refine zw_push hm_193 dX12_isReference_4 (v := .inl v2) rfl ?_
          obtain ⟨hg, h⟩ := h
          refine zw_ia hm_193 dX12_isReference_5 (zT_is (zT_pi (zT_zst hS m1)) s_101) (zT_h (zT_pi (zT_zst hS m1)) s_101) rfl hg ?_
          show ma_wp X (d - 1) (w - 22) 193 6 [(0, .inr (.inr (some 94))), (1, .inl v2), (2, .inl ix)] [.inl (m1 101 v2.toNatClampNeg)] (ma_put (zst S m1) 94 0 (.inl (0 : Int32))) _
          refine zw_push hm_193 dX12_isReference_6 (v := .inl (16 : Int32)) rfl ?_
          refine zw_if2 hm_193 dX12_isReference_8 (t := 41) rfl zc2_eq ?_ ?_
          · intro hc
            rw [if_pos hc] at h
            refine zw_push hm_193 dX12_isReference_41 (v := .inl (1 : Int32)) rfl ?_
            refine zw_goto hm_193 dX12_isReference_42 (t := 46) rfl ?_
            refine zw_bret hm_193 dX12_isReference_46 (by decide) ?_
            show ma_wp X d w 249 69 [(3, .inl v2), (0, .inr (.inr (some 94))), (1, .inl ob), (2, .inl ix)] [.inl (1 : Int32)] (ma_put (zst S m1) 94 0 (.inl (0 : Int32))) _
            refine zw_if0 hm_249 dX12_get_69 (t := 90) rfl zc0_eq (fun hc => absurd hc (by decide)) (fun _ => ?_)
            refine zw_push hm_249 dX12_get_72 (v := .inr (.inr (some 94))) rfl ?_
            refine zw_push hm_249 dX12_get_73 (v := .inr (.inr (some 94))) rfl ?_
            refine zw_gf hm_249 dX12_get_74 (v := .inr (.inr (some 108))) (zT_is (zT_pi (zT_zst hS m1)) s_94) (zT_t (zT_pi (zT_zst hS m1)) s_94) rfl f_12_56_12 (zT_f (zT_pi (zT_zst hS m1)) r_94_40) ?_
            refine zw_push hm_249 dX12_get_77 (v := .inl v2) rfl ?_
            refine zw_push hm_249 dX12_get_78 (v := .inl (60 : Int32)) rfl ?_
            refine zw_stk hm_249 dX12_get_80 (st₉ := [.inl (v2 * (60 : Int32)), .inr (.inr (some 108)), .inr (.inr (some 94))]) rfl rfl ?_
            refine zw_push hm_249 dX12_get_81 (v := .inl ix) rfl ?_
            refine zw_stk hm_249 dX12_get_82 (st₉ := [.inl ((v2 * (60 : Int32)) + ix), .inr (.inr (some 108)), .inr (.inr (some 94))]) rfl rfl ?_
            obtain ⟨hg, h⟩ := h
            refine zw_ia hm_249 dX12_get_83 (zT_is (zT_pi (zT_zst hS m1)) s_108) (zT_h (zT_pi (zT_zst hS m1)) s_108) rfl hg ?_
            show ma_wp X d w 249 84 [(3, .inl v2), (0, .inr (.inr (some 94))), (1, .inl ob), (2, .inl ix)] [.inl (m1 108 ((v2 * (60 : Int32)) + ix).toNatClampNeg), .inr (.inr (some 94))] (ma_put (zst S m1) 94 0 (.inl (0 : Int32))) _
            refine zw_cv hm_249 dX12_get_84 v_12_502_12 hm_248 [.inl (m1 108 ((v2 * (60 : Int32)) + ix).toNatClampNeg)] [] rfl (zT_rt (zT_pi (zT_zst hS m1)) s_94 rfl) ⟨by omega, by omega⟩ rfl ?_
            show ma_wp X (d - 1) (w - 21) 248 0 [(0, .inr (.inr (some 94))), (1, .inl (m1 108 ((v2 * (60 : Int32)) + ix).toNatClampNeg))] [] (ma_put (zst S m1) 94 0 (.inl (0 : Int32))) _
            refine zw_push hm_248 dX12_numberOf_0 (v := .inl (m1 108 ((v2 * (60 : Int32)) + ix).toNatClampNeg)) rfl ?_
            refine zw_if0 hm_248 dX12_numberOf_1 (t := 8) rfl zc0_ge ?_ ?_
            · intro hc
              rw [if_pos hc] at h
              refine zw_push hm_248 dX12_numberOf_8 (v := .inr (.inr (some 94))) rfl ?_
              refine zw_gf hm_248 dX12_numberOf_9 (v := .inr (.inr (some 100))) (zT_is (zT_pi (zT_zst hS m1)) s_94) (zT_t (zT_pi (zT_zst hS m1)) s_94) rfl f_12_31_12 (zT_f (zT_pi (zT_zst hS m1)) r_94_32) ?_
              refine zw_push hm_248 dX12_numberOf_12 (v := .inl (m1 108 ((v2 * (60 : Int32)) + ix).toNatClampNeg)) rfl ?_
              obtain ⟨hg, h⟩ := h
              refine zw_ia hm_248 dX12_numberOf_13 (zT_is (zT_pi (zT_zst hS m1)) s_100) (zT_h (zT_pi (zT_zst hS m1)) s_100) rfl hg ?_
              show ma_wp X (d - 1) (w - 21) 248 14 [(0, .inr (.inr (some 94))), (1, .inl (m1 108 ((v2 * (60 : Int32)) + ix).toNatClampNeg))] [.inl (m1 100 (m1 108 ((v2 * (60 : Int32)) + ix).toNatClampNeg).toNatClampNeg)] (ma_put (zst S m1) 94 0 (.inl (0 : Int32))) _
              refine zw_iret hm_248 dX12_numberOf_14 ?_
              show ma_wp X d w 249 87 [(3, .inl v2), (0, .inr (.inr (some 94))), (1, .inl ob), (2, .inl ix)] [.inl (m1 100 (m1 108 ((v2 * (60 : Int32)) + ix).toNatClampNeg).toNatClampNeg)] (ma_put (zst S m1) 94 0 (.inl (0 : Int32))) _
              refine zw_goto hm_249 dX12_get_87 (t := 101) rfl ?_
              exact zw_iret hm_249 dX12_get_101 (HQ _ _ h)
            · intro hc
              rw [if_neg hc] at h
              refine zw_push hm_248 dX12_numberOf_4 (v := .inl (-1 : Int32)) rfl ?_
              refine zw_goto hm_248 dX12_numberOf_5 (t := 14) rfl ?_
              refine zw_iret hm_248 dX12_numberOf_14 ?_
              show ma_wp X d w 249 87 [(3, .inl v2), (0, .inr (.inr (some 94))), (1, .inl ob), (2, .inl ix)] [.inl (-1 : Int32)] (ma_put (zst S m1) 94 0 (.inl (0 : Int32))) _
              refine zw_goto hm_249 dX12_get_87 (t := 101) rfl ?_
              exact zw_iret hm_249 dX12_get_101 (HQ _ _ h)
          · intro hc
            rw [if_neg hc] at h
            refine zw_push hm_193 dX12_isReference_11 (v := .inr (.inr (some 94))) rfl ?_
            refine zw_gf hm_193 dX12_isReference_12 (v := .inr (.inr (some 101))) (zT_is (zT_pi (zT_zst hS m1)) s_94) (zT_t (zT_pi (zT_zst hS m1)) s_94) rfl f_12_34_12 (zT_f (zT_pi (zT_zst hS m1)) r_94_33) ?_
            refine zw_push hm_193 dX12_isReference_15 (v := .inl v2) rfl ?_
            obtain ⟨hg, h⟩ := h
            refine zw_ia hm_193 dX12_isReference_16 (zT_is (zT_pi (zT_zst hS m1)) s_101) (zT_h (zT_pi (zT_zst hS m1)) s_101) rfl hg ?_
            show ma_wp X (d - 1) (w - 22) 193 17 [(0, .inr (.inr (some 94))), (1, .inl v2), (2, .inl ix)] [.inl (m1 101 v2.toNatClampNeg)] (ma_put (zst S m1) 94 0 (.inl (0 : Int32))) _
            refine zw_push hm_193 dX12_isReference_17 (v := .inl (16 : Int32)) rfl ?_
            refine zw_if2 hm_193 dX12_isReference_19 (t := 45) rfl zc2_ge ?_ ?_
            · intro hc
              rw [if_pos hc] at h
              refine zw_push hm_193 dX12_isReference_45 (v := .inl (0 : Int32)) rfl ?_
              refine zw_bret hm_193 dX12_isReference_46 (by decide) ?_
              show ma_wp X d w 249 69 [(3, .inl v2), (0, .inr (.inr (some 94))), (1, .inl ob), (2, .inl ix)] [.inl (0 : Int32)] (ma_put (zst S m1) 94 0 (.inl (0 : Int32))) _
              refine zw_if0 hm_249 dX12_get_69 (t := 90) rfl zc0_eq (fun _ => ?_) (fun hc => absurd (by decide) hc)
              refine zw_push hm_249 dX12_get_90 (v := .inr (.inr (some 94))) rfl ?_
              refine zw_gf hm_249 dX12_get_91 (v := .inr (.inr (some 108))) (zT_is (zT_pi (zT_zst hS m1)) s_94) (zT_t (zT_pi (zT_zst hS m1)) s_94) rfl f_12_56_12 (zT_f (zT_pi (zT_zst hS m1)) r_94_40) ?_
              refine zw_push hm_249 dX12_get_94 (v := .inl v2) rfl ?_
              refine zw_push hm_249 dX12_get_95 (v := .inl (60 : Int32)) rfl ?_
              refine zw_stk hm_249 dX12_get_97 (st₉ := [.inl (v2 * (60 : Int32)), .inr (.inr (some 108))]) rfl rfl ?_
              refine zw_push hm_249 dX12_get_98 (v := .inl ix) rfl ?_
              refine zw_stk hm_249 dX12_get_99 (st₉ := [.inl ((v2 * (60 : Int32)) + ix), .inr (.inr (some 108))]) rfl rfl ?_
              obtain ⟨hg, h⟩ := h
              refine zw_ia hm_249 dX12_get_100 (zT_is (zT_pi (zT_zst hS m1)) s_108) (zT_h (zT_pi (zT_zst hS m1)) s_108) rfl hg ?_
              show ma_wp X d w 249 101 [(3, .inl v2), (0, .inr (.inr (some 94))), (1, .inl ob), (2, .inl ix)] [.inl (m1 108 ((v2 * (60 : Int32)) + ix).toNatClampNeg)] (ma_put (zst S m1) 94 0 (.inl (0 : Int32))) _
              exact zw_iret hm_249 dX12_get_101 (HQ _ _ h)
            · intro hc
              rw [if_neg hc] at h
              refine zw_push hm_193 dX12_isReference_22 (v := .inr (.inr (some 94))) rfl ?_
              refine zw_gf hm_193 dX12_isReference_23 (v := .inr (.inr (some 98))) (zT_is (zT_pi (zT_zst hS m1)) s_94) (zT_t (zT_pi (zT_zst hS m1)) s_94) rfl f_12_24_12 (zT_f (zT_pi (zT_zst hS m1)) r_94_6) ?_
              refine zw_push hm_193 dX12_isReference_26 (v := .inr (.inr (some 94))) rfl ?_
              refine zw_gf hm_193 dX12_isReference_27 (v := .inr (.inr (some 101))) (zT_is (zT_pi (zT_zst hS m1)) s_94) (zT_t (zT_pi (zT_zst hS m1)) s_94) rfl f_12_34_12 (zT_f (zT_pi (zT_zst hS m1)) r_94_33) ?_
              refine zw_push hm_193 dX12_isReference_30 (v := .inl v2) rfl ?_
              obtain ⟨hg, h⟩ := h
              refine zw_ia hm_193 dX12_isReference_31 (zT_is (zT_pi (zT_zst hS m1)) s_101) (zT_h (zT_pi (zT_zst hS m1)) s_101) rfl hg ?_
              show ma_wp X (d - 1) (w - 22) 193 32 [(0, .inr (.inr (some 94))), (1, .inl v2), (2, .inl ix)] [.inl (m1 101 v2.toNatClampNeg), .inr (.inr (some 98))] (ma_put (zst S m1) 94 0 (.inl (0 : Int32))) _
              obtain ⟨hg, h⟩ := h
              refine zw_ia hm_193 dX12_isReference_32 (zT_is (zT_pi (zT_zst hS m1)) s_98) (zT_h (zT_pi (zT_zst hS m1)) s_98) rfl hg ?_
              show ma_wp X (d - 1) (w - 22) 193 33 [(0, .inr (.inr (some 94))), (1, .inl v2), (2, .inl ix)] [.inl (m1 98 (m1 101 v2.toNatClampNeg).toNatClampNeg)] (ma_put (zst S m1) 94 0 (.inl (0 : Int32))) _
              refine zw_push hm_193 dX12_isReference_33 (v := .inl ix) rfl ?_
              refine zw_stk hm_193 dX12_isReference_34 (st₉ := [.inl ((m1 98 (m1 101 v2.toNatClampNeg).toNatClampNeg) >>> (ix &&& 31))]) rfl rfl ?_
              refine zw_push hm_193 dX12_isReference_35 (v := .inl (1 : Int32)) rfl ?_
              refine zw_stk hm_193 dX12_isReference_36 (st₉ := [.inl (((m1 98 (m1 101 v2.toNatClampNeg).toNatClampNeg) >>> (ix &&& 31)) &&& (1 : Int32))]) rfl rfl ?_
              refine zw_push hm_193 dX12_isReference_37 (v := .inl (1 : Int32)) rfl ?_
              refine zw_if2 hm_193 dX12_isReference_38 (t := 45) rfl zc2_ne ?_ ?_
              · intro hc
                rw [if_neg hc] at h
                refine zw_push hm_193 dX12_isReference_45 (v := .inl (0 : Int32)) rfl ?_
                refine zw_bret hm_193 dX12_isReference_46 (by decide) ?_
                show ma_wp X d w 249 69 [(3, .inl v2), (0, .inr (.inr (some 94))), (1, .inl ob), (2, .inl ix)] [.inl (0 : Int32)] (ma_put (zst S m1) 94 0 (.inl (0 : Int32))) _
                refine zw_if0 hm_249 dX12_get_69 (t := 90) rfl zc0_eq (fun _ => ?_) (fun hc => absurd (by decide) hc)
                refine zw_push hm_249 dX12_get_90 (v := .inr (.inr (some 94))) rfl ?_
                refine zw_gf hm_249 dX12_get_91 (v := .inr (.inr (some 108))) (zT_is (zT_pi (zT_zst hS m1)) s_94) (zT_t (zT_pi (zT_zst hS m1)) s_94) rfl f_12_56_12 (zT_f (zT_pi (zT_zst hS m1)) r_94_40) ?_
                refine zw_push hm_249 dX12_get_94 (v := .inl v2) rfl ?_
                refine zw_push hm_249 dX12_get_95 (v := .inl (60 : Int32)) rfl ?_
                refine zw_stk hm_249 dX12_get_97 (st₉ := [.inl (v2 * (60 : Int32)), .inr (.inr (some 108))]) rfl rfl ?_
                refine zw_push hm_249 dX12_get_98 (v := .inl ix) rfl ?_
                refine zw_stk hm_249 dX12_get_99 (st₉ := [.inl ((v2 * (60 : Int32)) + ix), .inr (.inr (some 108))]) rfl rfl ?_
                obtain ⟨hg, h⟩ := h
                refine zw_ia hm_249 dX12_get_100 (zT_is (zT_pi (zT_zst hS m1)) s_108) (zT_h (zT_pi (zT_zst hS m1)) s_108) rfl hg ?_
                show ma_wp X d w 249 101 [(3, .inl v2), (0, .inr (.inr (some 94))), (1, .inl ob), (2, .inl ix)] [.inl (m1 108 ((v2 * (60 : Int32)) + ix).toNatClampNeg)] (ma_put (zst S m1) 94 0 (.inl (0 : Int32))) _
                exact zw_iret hm_249 dX12_get_101 (HQ _ _ h)
              · intro hc
                rw [if_pos (Classical.not_not.mp hc)] at h
                refine zw_push hm_193 dX12_isReference_41 (v := .inl (1 : Int32)) rfl ?_
                refine zw_goto hm_193 dX12_isReference_42 (t := 46) rfl ?_
                refine zw_bret hm_193 dX12_isReference_46 (by decide) ?_
                show ma_wp X d w 249 69 [(3, .inl v2), (0, .inr (.inr (some 94))), (1, .inl ob), (2, .inl ix)] [.inl (1 : Int32)] (ma_put (zst S m1) 94 0 (.inl (0 : Int32))) _
                refine zw_if0 hm_249 dX12_get_69 (t := 90) rfl zc0_eq (fun hc => absurd hc (by decide)) (fun _ => ?_)
                refine zw_push hm_249 dX12_get_72 (v := .inr (.inr (some 94))) rfl ?_
                refine zw_push hm_249 dX12_get_73 (v := .inr (.inr (some 94))) rfl ?_
                refine zw_gf hm_249 dX12_get_74 (v := .inr (.inr (some 108))) (zT_is (zT_pi (zT_zst hS m1)) s_94) (zT_t (zT_pi (zT_zst hS m1)) s_94) rfl f_12_56_12 (zT_f (zT_pi (zT_zst hS m1)) r_94_40) ?_
                refine zw_push hm_249 dX12_get_77 (v := .inl v2) rfl ?_
                refine zw_push hm_249 dX12_get_78 (v := .inl (60 : Int32)) rfl ?_
                refine zw_stk hm_249 dX12_get_80 (st₉ := [.inl (v2 * (60 : Int32)), .inr (.inr (some 108)), .inr (.inr (some 94))]) rfl rfl ?_
                refine zw_push hm_249 dX12_get_81 (v := .inl ix) rfl ?_
                refine zw_stk hm_249 dX12_get_82 (st₉ := [.inl ((v2 * (60 : Int32)) + ix), .inr (.inr (some 108)), .inr (.inr (some 94))]) rfl rfl ?_
                obtain ⟨hg, h⟩ := h
                refine zw_ia hm_249 dX12_get_83 (zT_is (zT_pi (zT_zst hS m1)) s_108) (zT_h (zT_pi (zT_zst hS m1)) s_108) rfl hg ?_
                show ma_wp X d w 249 84 [(3, .inl v2), (0, .inr (.inr (some 94))), (1, .inl ob), (2, .inl ix)] [.inl (m1 108 ((v2 * (60 : Int32)) + ix).toNatClampNeg), .inr (.inr (some 94))] (ma_put (zst S m1) 94 0 (.inl (0 : Int32))) _
                refine zw_cv hm_249 dX12_get_84 v_12_502_12 hm_248 [.inl (m1 108 ((v2 * (60 : Int32)) + ix).toNatClampNeg)] [] rfl (zT_rt (zT_pi (zT_zst hS m1)) s_94 rfl) ⟨by omega, by omega⟩ rfl ?_
                show ma_wp X (d - 1) (w - 21) 248 0 [(0, .inr (.inr (some 94))), (1, .inl (m1 108 ((v2 * (60 : Int32)) + ix).toNatClampNeg))] [] (ma_put (zst S m1) 94 0 (.inl (0 : Int32))) _
                refine zw_push hm_248 dX12_numberOf_0 (v := .inl (m1 108 ((v2 * (60 : Int32)) + ix).toNatClampNeg)) rfl ?_
                refine zw_if0 hm_248 dX12_numberOf_1 (t := 8) rfl zc0_ge ?_ ?_
                · intro hc
                  rw [if_pos hc] at h
                  refine zw_push hm_248 dX12_numberOf_8 (v := .inr (.inr (some 94))) rfl ?_
                  refine zw_gf hm_248 dX12_numberOf_9 (v := .inr (.inr (some 100))) (zT_is (zT_pi (zT_zst hS m1)) s_94) (zT_t (zT_pi (zT_zst hS m1)) s_94) rfl f_12_31_12 (zT_f (zT_pi (zT_zst hS m1)) r_94_32) ?_
                  refine zw_push hm_248 dX12_numberOf_12 (v := .inl (m1 108 ((v2 * (60 : Int32)) + ix).toNatClampNeg)) rfl ?_
                  obtain ⟨hg, h⟩ := h
                  refine zw_ia hm_248 dX12_numberOf_13 (zT_is (zT_pi (zT_zst hS m1)) s_100) (zT_h (zT_pi (zT_zst hS m1)) s_100) rfl hg ?_
                  show ma_wp X (d - 1) (w - 21) 248 14 [(0, .inr (.inr (some 94))), (1, .inl (m1 108 ((v2 * (60 : Int32)) + ix).toNatClampNeg))] [.inl (m1 100 (m1 108 ((v2 * (60 : Int32)) + ix).toNatClampNeg).toNatClampNeg)] (ma_put (zst S m1) 94 0 (.inl (0 : Int32))) _
                  refine zw_iret hm_248 dX12_numberOf_14 ?_
                  show ma_wp X d w 249 87 [(3, .inl v2), (0, .inr (.inr (some 94))), (1, .inl ob), (2, .inl ix)] [.inl (m1 100 (m1 108 ((v2 * (60 : Int32)) + ix).toNatClampNeg).toNatClampNeg)] (ma_put (zst S m1) 94 0 (.inl (0 : Int32))) _
                  refine zw_goto hm_249 dX12_get_87 (t := 101) rfl ?_
                  exact zw_iret hm_249 dX12_get_101 (HQ _ _ h)
                · intro hc
                  rw [if_neg hc] at h
                  refine zw_push hm_248 dX12_numberOf_4 (v := .inl (-1 : Int32)) rfl ?_
                  refine zw_goto hm_248 dX12_numberOf_5 (t := 14) rfl ?_
                  refine zw_iret hm_248 dX12_numberOf_14 ?_
                  show ma_wp X d w 249 87 [(3, .inl v2), (0, .inr (.inr (some 94))), (1, .inl ob), (2, .inl ix)] [.inl (-1 : Int32)] (ma_put (zst S m1) 94 0 (.inl (0 : Int32))) _
                  refine zw_goto hm_249 dX12_get_87 (t := 101) rfl ?_
                  exact zw_iret hm_249 dX12_get_101 (HQ _ _ h)
        · intro hc
          rw [if_neg hc] at h
          refine zw_push hm_249 dX12_get_50 (v := .inl (3 : Int32)) rfl ?_
          refine zw_goto hm_249 dX12_get_51 (t := 55) rfl ?_
          refine zw_cv hm_249 dX12_get_55 v_12_110_12 hm_167 [.inl (3 : Int32)] [] rfl (zT_rt (zT_zst hS m1) s_94 rfl) ⟨by omega, by omega⟩ rfl ?_
          show ma_wp X (d - 1) (w - 21) 167 0 [(0, .inr (.inr (some 94))), (1, .inl (3 : Int32))] [] (zst S m1) _
          refine zw_push hm_167 dX12_fails_0 (v := .inr (.inr (some 94))) rfl ?_
          refine zw_push hm_167 dX12_fails_1 (v := .inl (3 : Int32)) rfl ?_
          refine zw_pf hm_167 dX12_fails_2 (zT_is (zT_zst hS m1) s_94) (zT_t (zT_zst hS m1) s_94) p_12_1_12 zk_int ?_
          refine zw_push hm_167 dX12_fails_5 (v := .inl (3 : Int32)) rfl ?_
          refine zw_if0 hm_167 dX12_fails_6 (t := 13) rfl zc0_eq (fun hc => absurd hc (by decide)) (fun _ => ?_)
          refine zw_push hm_167 dX12_fails_9 (v := .inl (1 : Int32)) rfl ?_
          refine zw_goto hm_167 dX12_fails_10 (t := 14) rfl ?_
          refine zw_bret hm_167 dX12_fails_14 (by decide) ?_
          show ma_wp X d w 249 58 [(3, .inl v2), (0, .inr (.inr (some 94))), (1, .inl ob), (2, .inl ix)] [.inl (1 : Int32)] (ma_put (zst S m1) 94 0 (.inl (3 : Int32))) _
          refine zw_if0 hm_249 dX12_get_58 (t := 63) rfl zc0_eq (fun hc => absurd hc (by decide)) (fun _ => ?_)
          refine zw_push hm_249 dX12_get_61 (v := .inl (0 : Int32)) rfl ?_
          exact zw_iret hm_249 dX12_get_62 (HQ _ _ h)
    · intro hc
      rw [if_neg hc] at h
      refine zw_push hm_249 dX12_get_32 (v := .inl (2 : Int32)) rfl ?_
      refine zw_goto hm_249 dX12_get_33 (t := 55) rfl ?_
      refine zw_cv hm_249 dX12_get_55 v_12_110_12 hm_167 [.inl (2 : Int32)] [] rfl (zT_rt (zT_zst hS m1) s_94 rfl) ⟨by omega, by omega⟩ rfl ?_
      show ma_wp X (d - 1) (w - 21) 167 0 [(0, .inr (.inr (some 94))), (1, .inl (2 : Int32))] [] (zst S m1) _
      refine zw_push hm_167 dX12_fails_0 (v := .inr (.inr (some 94))) rfl ?_
      refine zw_push hm_167 dX12_fails_1 (v := .inl (2 : Int32)) rfl ?_
      refine zw_pf hm_167 dX12_fails_2 (zT_is (zT_zst hS m1) s_94) (zT_t (zT_zst hS m1) s_94) p_12_1_12 zk_int ?_
      refine zw_push hm_167 dX12_fails_5 (v := .inl (2 : Int32)) rfl ?_
      refine zw_if0 hm_167 dX12_fails_6 (t := 13) rfl zc0_eq (fun hc => absurd hc (by decide)) (fun _ => ?_)
      refine zw_push hm_167 dX12_fails_9 (v := .inl (1 : Int32)) rfl ?_
      refine zw_goto hm_167 dX12_fails_10 (t := 14) rfl ?_
      refine zw_bret hm_167 dX12_fails_14 (by decide) ?_
      show ma_wp X d w 249 58 [(3, .inl v2), (0, .inr (.inr (some 94))), (1, .inl ob), (2, .inl ix)] [.inl (1 : Int32)] (ma_put (zst S m1) 94 0 (.inl (2 : Int32))) _
      refine zw_if0 hm_249 dX12_get_58 (t := 63) rfl zc0_eq (fun hc => absurd hc (by decide)) (fun _ => ?_)
      refine zw_push hm_249 dX12_get_61 (v := .inl (0 : Int32)) rfl ?_
      exact zw_iret hm_249 dX12_get_62 (HQ _ _ h)
  · intro hc
    rw [if_pos (Classical.not_not.mp hc)] at h
    refine zw_push hm_249 dX12_get_8 (v := .inl (1 : Int32)) rfl ?_
    refine zw_goto hm_249 dX12_get_9 (t := 13) rfl ?_
    refine zw_cv hm_249 dX12_get_13 v_12_110_12 hm_167 [.inl (1 : Int32)] [] rfl (zT_rt hS s_94 rfl) ⟨by omega, by omega⟩ rfl ?_
    show ma_wp X (d - 1) (w - 21) 167 0 [(0, .inr (.inr (some 94))), (1, .inl (1 : Int32))] [] S _
    refine zw_push hm_167 dX12_fails_0 (v := .inr (.inr (some 94))) rfl ?_
    refine zw_push hm_167 dX12_fails_1 (v := .inl (1 : Int32)) rfl ?_
    refine zw_pf hm_167 dX12_fails_2 (zT_is hS s_94) (zT_t hS s_94) p_12_1_12 zk_int ?_
    refine zw_push hm_167 dX12_fails_5 (v := .inl (1 : Int32)) rfl ?_
    refine zw_if0 hm_167 dX12_fails_6 (t := 13) rfl zc0_eq (fun hc => absurd hc (by decide)) (fun _ => ?_)
    refine zw_push hm_167 dX12_fails_9 (v := .inl (1 : Int32)) rfl ?_
    refine zw_goto hm_167 dX12_fails_10 (t := 14) rfl ?_
    refine zw_bret hm_167 dX12_fails_14 (by decide) ?_
    show ma_wp X d w 249 16 [(0, .inr (.inr (some 94))), (1, .inl ob), (2, .inl ix)] [.inl (1 : Int32)] (ma_put S 94 0 (.inl (1 : Int32))) _
    refine zw_if0 hm_249 dX12_get_16 (t := 21) rfl zc0_eq (fun hc => absurd hc (by decide)) (fun _ => ?_)
    refine zw_push hm_249 dX12_get_19 (v := .inl (0 : Int32)) rfl ?_
    exact zw_iret hm_249 dX12_get_20 (HQ _ _ h)
theorem sp_249 {X : Nat × (Nat → Int32)} {P : Option ma_V → (Nat → Nat → Int32) → Prop} {T : Nat} {m : Nat → Nat → Int32} (ob : Int32) (ix : Int32) (hV : zV m) (r_W : zW (m 94 7) (m 98) (m 101) (m 102) (m 108)) (r_GW : zGW T (m 94 55) (m 109)) (r_GU : zGU T (m 94 46) (m 99)) (r_OW : zOw (m 99) (m 103) (m 111)) (r_DX : zDX (m 94 10) (m 99) (m 112) (m 113) (m 114) (m 94 55) (m 98) (m 101) (m 102) (m 108)) (r_GG : zGG (m 94 58) (m 94 56) (m 94 57) (m 106)) (r_HA : zHA (m 94 10) (m 94 11) (m 94 13) (m 94 14) (m 94 16) (m 94 61) (m 94 59) (m 94 60) (m 99) (m 102) (m 103) (m 111) (m 117) (m 98) (m 101) (m 108)) (r_RGc : zRG (m 94 10) (m 94 18) (m 94 64) (m 94 63) (m 99) (m 103) (m 102) (m 116)) (hpre8 : (m 94 58).toInt = 0 ∨ (m 94 10).toInt = 5) (KZ : ∀ v m₉, zV (zov wr_249 m m₉) → (zW (m 94 7) (m 98) (m 101) (m 102) (m 108)) → (zGW T (m 94 55) (m 109)) → (zGU T (m 94 46) (m 99)) → (zOw (m 99) (m 103) (m 111)) → (zDX (m 94 10) (m 99) (m 112) (m 113) (m 114) (m 94 55) (m 98) (m 101) (m 102) (m 108)) → (zGG (m 94 58) (m 94 56) (m 94 57) (m 106)) → (zHA (m 94 10) (m 94 11) (m 94 13) (m 94 14) (m 94 16) (m 94 61) (m 94 59) (m 94 60) (m 99) (m 102) (m 103) (m 111) (m 117) (m 98) (m 101) (m 108)) → (zRG (m 94 10) (m 94 18) (m 94 64) (m 94 63) (m 99) (m 103) (m 102) (m 116)) → ((m 94 58).toInt = 0 ∨ (m 94 10).toInt = 5) → P (some (.inl v)) (zov wr_249 m m₉)) : zm X 5 109 249 0 [(0, .inr (.inr (some 94))), (1, .inl ob), (2, .inl ix)] m P := by
  have K : ∀ v m₉, zF wr_249 m m₉ → zV m₉ → (zW (m₉ 94 7) (m₉ 98) (m₉ 101) (m₉ 102) (m₉ 108)) → (zGW T (m₉ 94 55) (m₉ 109)) → (zGU T (m₉ 94 46) (m₉ 99)) → (zOw (m₉ 99) (m₉ 103) (m₉ 111)) → (zDX (m₉ 94 10) (m₉ 99) (m₉ 112) (m₉ 113) (m₉ 114) (m₉ 94 55) (m₉ 98) (m₉ 101) (m₉ 102) (m₉ 108)) → (zGG (m₉ 94 58) (m₉ 94 56) (m₉ 94 57) (m₉ 106)) → (zHA (m₉ 94 10) (m₉ 94 11) (m₉ 94 13) (m₉ 94 14) (m₉ 94 16) (m₉ 94 61) (m₉ 94 59) (m₉ 94 60) (m₉ 99) (m₉ 102) (m₉ 103) (m₉ 111) (m₉ 117) (m₉ 98) (m₉ 101) (m₉ 108)) → (zRG (m₉ 94 10) (m₉ 94 18) (m₉ 94 64) (m₉ 94 63) (m₉ 99) (m₉ 103) (m₉ 102) (m₉ 116)) → ((m₉ 94 58).toInt = 0 ∨ (m₉ 94 10).toInt = 5) → P (some (.inl v)) m₉ := by
    intro v m₉ hf z q0 q1 q2 q3 q4 q5 q6 q7 q8
    have e := zov_eq hf
    rw [e] at z ⊢
    try rw [e] at q0
    try rw [e] at q1
    try rw [e] at q2
    try rw [e] at q3
    try rw [e] at q4
    try rw [e] at q5
    try rw [e] at q6
    try rw [e] at q7
    try rw [e] at q8
    exact KZ v m₉ z q0 q1 q2 q3 q4 q5 q6 q7 q8
  refine g_249_0 ob ix ?_
  have f1 : 0 ≤ (m 94 58).toInt ∧ (m 94 58).toInt ≤ 1 := rs_94_58 (m := m) hV
  have f2 : 0 ≤ (m 94 10).toInt ∧ (m 94 10).toInt ≤ 6 := rs_94_10 (m := m) hV
  have f3 : 0 ≤ (m 94 8).toInt ∧ (m 94 8).toInt ≤ 1 := rs_94_8 (m := m) hV
  have li4 : (0 : Int32).toInt = 0 := rfl
  refine zd (fun (h5 : (m 94 8) = (0 : Int32)) => ?_) (fun (h5 : ¬ (m 94 8) = (0 : Int32)) => ?_)
  · skip
    have g6 := i_eq h5
    have hV7 : zV (ma_u m 94 0 (1 : Int32)) := uf_94_0 hV
    exact K ((0 : Int32)) _ (zF_u zF_rfl rfl) hV7 r_W r_GW r_GU r_OW r_DX r_GG r_HA r_RGc (show (m 94 58).toInt = 0 ∨ (m 94 10).toInt = 5 from by omega)
  · skip
    have g8 := i_ne h5
    have b9 := i_bd ob
    have hV10 : zV (ma_u m 94 0 (0 : Int32)) := uf_94_0 hV
    refine sp_245 (ob) hV10 r_W r_DX (fun v2 m1 hV_m1 p0_m1 p1_m1 => zmi_n ?_)
    have p0_m1 : -1 ≤ v2.toInt ∧ v2.toInt ≤ 3099 := p0_m1
    have p1_m1 : v2.toInt < 0 ∨ (m 99) v2.toNatClampNeg ≠ 0 := p1_m1
    have b11 := i_bd v2
    refine zd (fun (h12 : (0 : Int32) ≤ v2) => ?_) (fun (h12 : ¬ (0 : Int32) ≤ v2) => ?_)
    · skip
      have g13 := i_le h12
      have b14 := i_bd ix
      refine zd (fun (h15 : ix < (0 : Int32)) => ?_) (fun (h15 : ¬ ix < (0 : Int32)) => ?_)
      · skip
        have g16 := i_lt h15
        have hV17 : zV (ma_u (zov wr_245 (ma_u m 94 0 (0 : Int32)) m1) 94 0 (3 : Int32)) := uf_94_0 hV_m1
        exact K ((0 : Int32)) _ (zF_u (zF_zov (zF_u zF_rfl rfl) ws_245_249) rfl) hV17 r_W r_GW r_GU r_OW r_DX r_GG r_HA r_RGc (show (m 94 58).toInt = 0 ∨ (m 94 10).toInt = 5 from by omega)
      · skip
        have g18 := i_nlt h15
        have hg19 : (0 ≤ v2 ∧ v2.toNatClampNeg < 3100) := i_ix (by omega) (by omega)
        refine ⟨hg19, ?_⟩
        first | have f20 : 0 ≤ (m 102 v2.toNatClampNeg).toInt ∧ (m 102 v2.toNatClampNeg).toInt ≤ 60 := ra_102 (m := m) hV (k := v2.toNatClampNeg) (i_ix (n := 3100) (by omega) (by omega)).2 | have b21 := i_bd (m 102 v2.toNatClampNeg)
        refine zd (fun (h22 : ix < (m 102 v2.toNatClampNeg)) => ?_) (fun (h22 : ¬ ix < (m 102 v2.toNatClampNeg)) => ?_)
        · skip
          have g23 := i_lt h22
          have hg24 : (0 ≤ v2 ∧ v2.toNatClampNeg < 3100) := i_ix (by omega) (by omega)
          refine ⟨hg24, ?_⟩
          first | have f25 : 0 ≤ (m 101 v2.toNatClampNeg).toInt ∧ (m 101 v2.toNatClampNeg).toInt ≤ 17 := ra_101 (m := m) hV (k := v2.toNatClampNeg) (i_ix (n := 3100) (by omega) (by omega)).2 | have b26 := i_bd (m 101 v2.toNatClampNeg)
          have li27 : (16 : Int32).toInt = 16 := rfl
          refine zd (fun (h28 : (m 101 v2.toNatClampNeg) = (16 : Int32)) => ?_) (fun (h28 : ¬ (m 101 v2.toNatClampNeg) = (16 : Int32)) => ?_)
          · skip
            have g29 := i_eq h28
            have li30 : (60 : Int32).toInt = 60 := rfl
            first | have e31 : (v2 * (60 : Int32)).toInt = v2.toInt * 60 := i_mulk rfl (by omega) (by omega) | have b32 := i_bd (v2 * (60 : Int32))
            first | have e33 : ((v2 * (60 : Int32)) + ix).toInt = (v2 * (60 : Int32)).toInt + ix.toInt := i_add (by omega) (by omega) | have b34 := i_bd ((v2 * (60 : Int32)) + ix)
            have hg35 : (0 ≤ ((v2 * (60 : Int32)) + ix) ∧ ((v2 * (60 : Int32)) + ix).toNatClampNeg < 186000) := i_ix (by omega) (by omega)
            refine ⟨hg35, ?_⟩
            have b36 := i_bd (m 108 ((v2 * (60 : Int32)) + ix).toNatClampNeg)
            refine zd (fun (h37 : (0 : Int32) ≤ (m 108 ((v2 * (60 : Int32)) + ix).toNatClampNeg)) => ?_) (fun (h37 : ¬ (0 : Int32) ≤ (m 108 ((v2 * (60 : Int32)) + ix).toNatClampNeg)) => ?_)
            · skip
              have g38 := i_le h37
              try have ww := W_w1 r_W (s := v2) (i := ix) (by omega) (by omega) (by omega) (by omega) (by omega) (by assumption)
              try have ww := W_w2 r_W (s := v2) (i := ix) (by omega) (by omega) (by omega) (by omega) (by omega) (by assumption) (by assumption) (by assumption)
              have hg39 : (0 ≤ (m 108 ((v2 * (60 : Int32)) + ix).toNatClampNeg) ∧ (m 108 ((v2 * (60 : Int32)) + ix).toNatClampNeg).toNatClampNeg < 3100) := i_ix (by omega) (by omega)
              refine ⟨hg39, ?_⟩
              have hV40 : zV (ma_u (zov wr_245 (ma_u m 94 0 (0 : Int32)) m1) 94 0 (0 : Int32)) := uf_94_0 hV_m1
              first | have f41 : 0 ≤ (m 100 (m 108 ((v2 * (60 : Int32)) + ix).toNatClampNeg).toNatClampNeg).toInt ∧ (m 100 (m 108 ((v2 * (60 : Int32)) + ix).toNatClampNeg).toNatClampNeg).toInt ≤ 100000 := ra_100 (m := m) hV (k := (m 108 ((v2 * (60 : Int32)) + ix).toNatClampNeg).toNatClampNeg) (i_ix (n := 3100) (by omega) (by omega)).2 | have b42 := i_bd (m 100 (m 108 ((v2 * (60 : Int32)) + ix).toNatClampNeg).toNatClampNeg)
              exact K ((m 100 (m 108 ((v2 * (60 : Int32)) + ix).toNatClampNeg).toNatClampNeg)) _ (zF_u (zF_zov (zF_u zF_rfl rfl) ws_245_249) rfl) hV40 r_W r_GW r_GU r_OW r_DX r_GG r_HA r_RGc (show (m 94 58).toInt = 0 ∨ (m 94 10).toInt = 5 from by omega)
            · skip
              have g43 := i_nle h37
              have hV44 : zV (ma_u (zov wr_245 (ma_u m 94 0 (0 : Int32)) m1) 94 0 (0 : Int32)) := uf_94_0 hV_m1
              have li45 : (-1 : Int32).toInt = -1 := rfl
              exact K ((-1 : Int32)) _ (zF_u (zF_zov (zF_u zF_rfl rfl) ws_245_249) rfl) hV44 r_W r_GW r_GU r_OW r_DX r_GG r_HA r_RGc (show (m 94 58).toInt = 0 ∨ (m 94 10).toInt = 5 from by omega)
          · skip
            have g46 := i_ne h28
            have hg47 : (0 ≤ v2 ∧ v2.toNatClampNeg < 3100) := i_ix (by omega) (by omega)
            refine ⟨hg47, ?_⟩
            refine zd (fun (h48 : (16 : Int32) ≤ (m 101 v2.toNatClampNeg)) => ?_) (fun (h48 : ¬ (16 : Int32) ≤ (m 101 v2.toNatClampNeg)) => ?_)
            · skip
              have g49 := i_le h48
              have li50 : (60 : Int32).toInt = 60 := rfl
              first | have e51 : (v2 * (60 : Int32)).toInt = v2.toInt * 60 := i_mulk rfl (by omega) (by omega) | have b52 := i_bd (v2 * (60 : Int32))
              first | have e53 : ((v2 * (60 : Int32)) + ix).toInt = (v2 * (60 : Int32)).toInt + ix.toInt := i_add (by omega) (by omega) | have b54 := i_bd ((v2 * (60 : Int32)) + ix)
              have hg55 : (0 ≤ ((v2 * (60 : Int32)) + ix) ∧ ((v2 * (60 : Int32)) + ix).toNatClampNeg < 186000) := i_ix (by omega) (by omega)
              refine ⟨hg55, ?_⟩
              have hV56 : zV (ma_u (zov wr_245 (ma_u m 94 0 (0 : Int32)) m1) 94 0 (0 : Int32)) := uf_94_0 hV_m1
              have b57 := i_bd (m 108 ((v2 * (60 : Int32)) + ix).toNatClampNeg)
              exact K ((m 108 ((v2 * (60 : Int32)) + ix).toNatClampNeg)) _ (zF_u (zF_zov (zF_u zF_rfl rfl) ws_245_249) rfl) hV56 r_W r_GW r_GU r_OW r_DX r_GG r_HA r_RGc (show (m 94 58).toInt = 0 ∨ (m 94 10).toInt = 5 from by omega)
            · skip
              have g58 := i_nle h48
              have hg59 : (0 ≤ v2 ∧ v2.toNatClampNeg < 3100) := i_ix (by omega) (by omega)
              refine ⟨hg59, ?_⟩
              have hg60 : (0 ≤ (m 101 v2.toNatClampNeg) ∧ (m 101 v2.toNatClampNeg).toNatClampNeg < 16) := i_ix (by omega) (by omega)
              refine ⟨hg60, ?_⟩
              have b61 := i_bd (((m 98 (m 101 v2.toNatClampNeg).toNatClampNeg) >>> (ix &&& 31)) &&& (1 : Int32))
              have li62 : (1 : Int32).toInt = 1 := rfl
              refine zd (fun (h63 : (((m 98 (m 101 v2.toNatClampNeg).toNatClampNeg) >>> (ix &&& 31)) &&& (1 : Int32)) = (1 : Int32)) => ?_) (fun (h63 : ¬ (((m 98 (m 101 v2.toNatClampNeg).toNatClampNeg) >>> (ix &&& 31)) &&& (1 : Int32)) = (1 : Int32)) => ?_)
              · skip
                have g64 := i_eq h63
                have li65 : (60 : Int32).toInt = 60 := rfl
                first | have e66 : (v2 * (60 : Int32)).toInt = v2.toInt * 60 := i_mulk rfl (by omega) (by omega) | have b67 := i_bd (v2 * (60 : Int32))
                first | have e68 : ((v2 * (60 : Int32)) + ix).toInt = (v2 * (60 : Int32)).toInt + ix.toInt := i_add (by omega) (by omega) | have b69 := i_bd ((v2 * (60 : Int32)) + ix)
                have hg70 : (0 ≤ ((v2 * (60 : Int32)) + ix) ∧ ((v2 * (60 : Int32)) + ix).toNatClampNeg < 186000) := i_ix (by omega) (by omega)
                refine ⟨hg70, ?_⟩
                have b71 := i_bd (m 108 ((v2 * (60 : Int32)) + ix).toNatClampNeg)
                refine zd (fun (h72 : (0 : Int32) ≤ (m 108 ((v2 * (60 : Int32)) + ix).toNatClampNeg)) => ?_) (fun (h72 : ¬ (0 : Int32) ≤ (m 108 ((v2 * (60 : Int32)) + ix).toNatClampNeg)) => ?_)
                · skip
                  have g73 := i_le h72
                  try have ww := W_w1 r_W (s := v2) (i := ix) (by omega) (by omega) (by omega) (by omega) (by omega) (by assumption)
                  try have ww := W_w2 r_W (s := v2) (i := ix) (by omega) (by omega) (by omega) (by omega) (by omega) (by assumption) (by assumption) (by assumption)
                  have hg74 : (0 ≤ (m 108 ((v2 * (60 : Int32)) + ix).toNatClampNeg) ∧ (m 108 ((v2 * (60 : Int32)) + ix).toNatClampNeg).toNatClampNeg < 3100) := i_ix (by omega) (by omega)
                  refine ⟨hg74, ?_⟩
                  have hV75 : zV (ma_u (zov wr_245 (ma_u m 94 0 (0 : Int32)) m1) 94 0 (0 : Int32)) := uf_94_0 hV_m1
                  first | have f76 : 0 ≤ (m 100 (m 108 ((v2 * (60 : Int32)) + ix).toNatClampNeg).toNatClampNeg).toInt ∧ (m 100 (m 108 ((v2 * (60 : Int32)) + ix).toNatClampNeg).toNatClampNeg).toInt ≤ 100000 := ra_100 (m := m) hV (k := (m 108 ((v2 * (60 : Int32)) + ix).toNatClampNeg).toNatClampNeg) (i_ix (n := 3100) (by omega) (by omega)).2 | have b77 := i_bd (m 100 (m 108 ((v2 * (60 : Int32)) + ix).toNatClampNeg).toNatClampNeg)
                  exact K ((m 100 (m 108 ((v2 * (60 : Int32)) + ix).toNatClampNeg).toNatClampNeg)) _ (zF_u (zF_zov (zF_u zF_rfl rfl) ws_245_249) rfl) hV75 r_W r_GW r_GU r_OW r_DX r_GG r_HA r_RGc (show (m 94 58).toInt = 0 ∨ (m 94 10).toInt = 5 from by omega)
                · skip
                  have g78 := i_nle h72
                  have hV79 : zV (ma_u (zov wr_245 (ma_u m 94 0 (0 : Int32)) m1) 94 0 (0 : Int32)) := uf_94_0 hV_m1
                  have li80 : (-1 : Int32).toInt = -1 := rfl
                  exact K ((-1 : Int32)) _ (zF_u (zF_zov (zF_u zF_rfl rfl) ws_245_249) rfl) hV79 r_W r_GW r_GU r_OW r_DX r_GG r_HA r_RGc (show (m 94 58).toInt = 0 ∨ (m 94 10).toInt = 5 from by omega)
              · skip
                have g81 := i_ne h63
                have li82 : (60 : Int32).toInt = 60 := rfl
                first | have e83 : (v2 * (60 : Int32)).toInt = v2.toInt * 60 := i_mulk rfl (by omega) (by omega) | have b84 := i_bd (v2 * (60 : Int32))
                first | have e85 : ((v2 * (60 : Int32)) + ix).toInt = (v2 * (60 : Int32)).toInt + ix.toInt := i_add (by omega) (by omega) | have b86 := i_bd ((v2 * (60 : Int32)) + ix)
                have hg87 : (0 ≤ ((v2 * (60 : Int32)) + ix) ∧ ((v2 * (60 : Int32)) + ix).toNatClampNeg < 186000) := i_ix (by omega) (by omega)
                refine ⟨hg87, ?_⟩
                have hV88 : zV (ma_u (zov wr_245 (ma_u m 94 0 (0 : Int32)) m1) 94 0 (0 : Int32)) := uf_94_0 hV_m1
                have b89 := i_bd (m 108 ((v2 * (60 : Int32)) + ix).toNatClampNeg)
                exact K ((m 108 ((v2 * (60 : Int32)) + ix).toNatClampNeg)) _ (zF_u (zF_zov (zF_u zF_rfl rfl) ws_245_249) rfl) hV88 r_W r_GW r_GU r_OW r_DX r_GG r_HA r_RGc (show (m 94 58).toInt = 0 ∨ (m 94 10).toInt = 5 from by omega)
        · skip
          have g90 := i_nlt h22
          have hV91 : zV (ma_u (zov wr_245 (ma_u m 94 0 (0 : Int32)) m1) 94 0 (3 : Int32)) := uf_94_0 hV_m1
          exact K ((0 : Int32)) _ (zF_u (zF_zov (zF_u zF_rfl rfl) ws_245_249) rfl) hV91 r_W r_GW r_GU r_OW r_DX r_GG r_HA r_RGc (show (m 94 58).toInt = 0 ∨ (m 94 10).toInt = 5 from by omega)
    · skip
      have g92 := i_nle h12
      have hV93 : zV (ma_u (zov wr_245 (ma_u m 94 0 (0 : Int32)) m1) 94 0 (2 : Int32)) := uf_94_0 hV_m1
      exact K ((0 : Int32)) _ (zF_u (zF_zov (zF_u zF_rfl rfl) ws_245_249) rfl) hV93 r_W r_GW r_GU r_OW r_DX r_GG r_HA r_RGc (show (m 94 58).toInt = 0 ∨ (m 94 10).toInt = 5 from by omega)

/-! from 94.450 -/
/-! the reference (written by wip/tools/gen94m.py) -/
set_option maxRecDepth 100000 in
theorem hm_182 : ma_md 182 = some (12, yX12_isNamed, cX12_isNamed, 2, (some (FieldType.boolean))) := rfl
set_option maxRecDepth 100000 in
theorem hm_250 : ma_md 250 = some (12, yX12_root, cX12_root, 5, (some (FieldType.int))) := rfl
theorem v_12_481_12 : ma_vl 12 481 12 = some (1, 238, 2) := by decide +kernel
theorem v_12_493_12 : ma_vl 12 493 12 = some (1, 182, 1) := by decide +kernel
theorem dX12_root_0 : decode cX12_root 0 = .ok (.aload_n 0, 1) := by decide +kernel
theorem dX12_root_1 : decode cX12_root 1 = .ok (.aload_n 0, 1) := by decide +kernel
theorem dX12_root_2 : decode cX12_root 2 = .ok (.iload_n 1, 1) := by decide +kernel
theorem dX12_root_3 : decode cX12_root 3 = .ok (.invokevirtual 493, 3) := by decide +kernel
theorem dX12_isNamed_0 : decode cX12_isNamed 0 = .ok (.iload_n 1, 1) := by decide +kernel
theorem dX12_isNamed_14 : decode cX12_isNamed 14 = .ok (.iconst 0, 1) := by decide +kernel
theorem dX12_root_6 : decode cX12_root 6 = .ok (.ifCond .ne 7, 3) := by decide +kernel
theorem dX12_root_9 : decode cX12_root 9 = .ok (.iconst 1, 1) := by decide +kernel
theorem dX12_root_10 : decode cX12_root 10 = .ok (.goto 15, 3) := by decide +kernel
theorem dX12_root_25 : decode cX12_root 25 = .ok (.invokevirtual 110, 3) := by decide +kernel
theorem dX12_root_28 : decode cX12_root 28 = .ok (.ifCond .eq 5, 3) := by decide +kernel
theorem dX12_root_31 : decode cX12_root 31 = .ok (.iconst 0, 1) := by decide +kernel
theorem dX12_root_32 : decode cX12_root 32 = .ok (.ireturn, 1) := by decide +kernel
theorem dX12_isNamed_15 : decode cX12_isNamed 15 = .ok (.ireturn, 1) := by decide +kernel
theorem dX12_isNamed_4 : decode cX12_isNamed 4 = .ok (.iload_n 1, 1) := by decide +kernel
theorem dX12_isNamed_5 : decode cX12_isNamed 5 = .ok (.bipush 16, 2) := by decide +kernel
theorem dX12_isNamed_10 : decode cX12_isNamed 10 = .ok (.iconst 1, 1) := by decide +kernel
theorem dX12_isNamed_11 : decode cX12_isNamed 11 = .ok (.goto 4, 3) := by decide +kernel
theorem dX12_root_13 : decode cX12_root 13 = .ok (.aload_n 0, 1) := by decide +kernel
theorem dX12_root_24 : decode cX12_root 24 = .ok (.iconst 0, 1) := by decide +kernel
theorem dX12_root_33 : decode cX12_root 33 = .ok (.iload_n 2, 1) := by decide +kernel
theorem dX12_root_34 : decode cX12_root 34 = .ok (.iconst (-1), 1) := by decide +kernel
theorem dX12_root_42 : decode cX12_root 42 = .ok (.aload_n 0, 1) := by decide +kernel
theorem dX12_root_43 : decode cX12_root 43 = .ok (.iload_n 2, 1) := by decide +kernel
theorem dX12_root_44 : decode cX12_root 44 = .ok (.invokevirtual 499, 3) := by decide +kernel
theorem dX12_root_47 : decode cX12_root 47 = .ok (.istore_n 3, 1) := by decide +kernel
theorem dX12_root_48 : decode cX12_root 48 = .ok (.aload_n 0, 1) := by decide +kernel
theorem dX12_root_49 : decode cX12_root 49 = .ok (.iload_n 2, 1) := by decide +kernel
theorem dX12_root_50 : decode cX12_root 50 = .ok (.iconst (-1), 1) := by decide +kernel
theorem dX12_root_62 : decode cX12_root 62 = .ok (.iconst 0, 1) := by decide +kernel
theorem dX12_root_63 : decode cX12_root 63 = .ok (.invokevirtual 110, 3) := by decide +kernel
theorem dX12_root_66 : decode cX12_root 66 = .ok (.ifCond .eq 5, 3) := by decide +kernel
theorem dX12_root_71 : decode cX12_root 71 = .ok (.aload_n 0, 1) := by decide +kernel
theorem dX12_root_72 : decode cX12_root 72 = .ok (.aload_n 0, 1) := by decide +kernel
theorem dX12_root_76 : decode cX12_root 76 = .ok (.iload_n 1, 1) := by decide +kernel
theorem dX12_root_78 : decode cX12_root 78 = .ok (.invokevirtual 502, 3) := by decide +kernel
theorem dX12_root_81 : decode cX12_root 81 = .ok (.istore 4, 2) := by decide +kernel
theorem dX12_root_83 : decode cX12_root 83 = .ok (.aload_n 0, 1) := by decide +kernel
theorem dX12_root_84 : decode cX12_root 84 = .ok (.iload_n 1, 1) := by decide +kernel
theorem dX12_root_85 : decode cX12_root 85 = .ok (.iload_n 3, 1) := by decide +kernel
theorem dX12_root_86 : decode cX12_root 86 = .ok (.invokevirtual 481, 3) := by decide +kernel
theorem dX12_root_89 : decode cX12_root 89 = .ok (.iload 4, 2) := by decide +kernel
theorem dX12_root_91 : decode cX12_root 91 = .ok (.ireturn, 1) := by decide +kernel
theorem dX12_root_77 : decode cX12_root 77 = .ok (.iaload, 1) := by decide +kernel
theorem dX12_root_73 : decode cX12_root 73 = .ok (.getfield 68, 3) := by decide +kernel
theorem dX12_root_54 : decode cX12_root 54 = .ok (.iload_n 3, 1) := by decide +kernel
theorem dX12_root_58 : decode cX12_root 58 = .ok (.iconst 3, 1) := by decide +kernel
theorem dX12_root_59 : decode cX12_root 59 = .ok (.goto 4, 3) := by decide +kernel
theorem dX12_root_69 : decode cX12_root 69 = .ok (.iconst 0, 1) := by decide +kernel
theorem dX12_root_70 : decode cX12_root 70 = .ok (.ireturn, 1) := by decide +kernel
theorem dX12_root_55 : decode cX12_root 55 = .ok (.ifCond .ge 7, 3) := by decide +kernel
theorem dX12_root_51 : decode cX12_root 51 = .ok (.if_icmp .eq 11, 3) := by decide +kernel
theorem dX12_root_38 : decode cX12_root 38 = .ok (.iconst (-1), 1) := by decide +kernel
theorem dX12_root_39 : decode cX12_root 39 = .ok (.goto 8, 3) := by decide +kernel
theorem dX12_root_35 : decode cX12_root 35 = .ok (.if_icmp .ne 7, 3) := by decide +kernel
theorem dX12_root_20 : decode cX12_root 20 = .ok (.iconst 2, 1) := by decide +kernel
theorem dX12_root_21 : decode cX12_root 21 = .ok (.goto 4, 3) := by decide +kernel
theorem dX12_root_17 : decode cX12_root 17 = .ok (.ifCond .ne 7, 3) := by decide +kernel
theorem dX12_root_14 : decode cX12_root 14 = .ok (.getfield 237, 3) := by decide +kernel
theorem dX12_isNamed_7 : decode cX12_isNamed 7 = .ok (.if_icmp .ge 7, 3) := by decide +kernel
theorem dX12_isNamed_1 : decode cX12_isNamed 1 = .ok (.ifCond .lt 13, 3) := by decide +kernel
def wr_250 (c k : Nat) : Bool := Nat.beq c 99 || Nat.beq c 105 || Nat.beq c 106 || Nat.beq c 109 || Nat.beq c 110 || Nat.beq c 111 || Nat.beq c 112 || Nat.beq c 113 || Nat.beq c 114 || Nat.beq c 115 || Nat.beq c 118 || Nat.beq c 120 || Nat.beq c 121 || (Nat.beq c 94 && (Nat.beq k 0 || Nat.beq k 44 || Nat.beq k 45 || Nat.beq k 49 || Nat.beq k 55 || Nat.beq k 56 || Nat.beq k 73 || Nat.beq k 80))
theorem ws_238_250 : ∀ c k, wr_238 c k = true → wr_250 c k = true := by
  intro c k h
  simp only [wr_238, Bool.or_eq_true, Bool.and_eq_true, Nat.beq_eq] at h
  rcases h with ((((((((((rfl | rfl) | rfl) | rfl) | rfl) | rfl) | rfl) | rfl) | rfl) | rfl) | rfl) | ⟨rfl, (((((rfl | rfl) | rfl) | rfl) | rfl) | rfl)⟩ <;> rfl
theorem ws_245_250 : ∀ c k, wr_245 c k = true → wr_250 c k = true := by
  intro c k h
  simp only [wr_245, Bool.or_eq_true, Bool.and_eq_true, Nat.beq_eq] at h
  rcases h with (rfl | rfl) | ⟨rfl, rfl⟩ <;> rfl
theorem g_250_0 {X : Nat × (Nat → Int32)} {m : Nat → Nat → Int32} {P : Option ma_V → (Nat → Nat → Int32) → Prop} (ix : Int32) (ob : Int32) (h : if ix < 0 then (P (some (.inl (0 : Int32))) (ma_u m 94 0 (1 : Int32))) else (if (16 : Int32) ≤ ix then (P (some (.inl (0 : Int32))) (ma_u m 94 0 (1 : Int32))) else (if (m 94 8) = 0 then (P (some (.inl (0 : Int32))) (ma_u m 94 0 (2 : Int32))) else (if ob = (-1 : Int32) then (if ob = (-1 : Int32) then ((0 ≤ ix ∧ ix.toNatClampNeg < 16) ∧ (if 0 ≤ (m 112 ix.toNatClampNeg) then ((0 ≤ (m 112 ix.toNatClampNeg) ∧ (m 112 ix.toNatClampNeg).toNatClampNeg < 3100) ∧ (zm X 4 88 238 0 [(0, .inr (.inr (some 94))), (1, .inl ix), (2, .inl (-1 : Int32))] (ma_u (ma_u m 94 0 (0 : Int32)) 94 0 (0 : Int32)) (zmv (fun m11 => P (some (.inl (m 100 (m 112 ix.toNatClampNeg).toNatClampNeg))) m11)))) else (zm X 4 88 238 0 [(0, .inr (.inr (some 94))), (1, .inl ix), (2, .inl (-1 : Int32))] (ma_u (ma_u m 94 0 (0 : Int32)) 94 0 (0 : Int32)) (zmv (fun m13 => P (some (.inl (-1 : Int32))) m13))))) else (P (some (.inl (0 : Int32))) (ma_u (ma_u m 94 0 (0 : Int32)) 94 0 (3 : Int32)))) else (zm X 4 87 245 0 [(0, .inr (.inr (some 94))), (1, .inl ob)] (ma_u m 94 0 (0 : Int32)) (zmi (fun v2 m1 => if ob = (-1 : Int32) then ((0 ≤ ix ∧ ix.toNatClampNeg < 16) ∧ (if 0 ≤ (m1 112 ix.toNatClampNeg) then ((0 ≤ (m1 112 ix.toNatClampNeg) ∧ (m1 112 ix.toNatClampNeg).toNatClampNeg < 3100) ∧ (zm X 4 88 238 0 [(0, .inr (.inr (some 94))), (1, .inl ix), (2, .inl v2)] (ma_u m1 94 0 (0 : Int32)) (zmv (fun m3 => P (some (.inl (m1 100 (m1 112 ix.toNatClampNeg).toNatClampNeg))) m3)))) else (zm X 4 88 238 0 [(0, .inr (.inr (some 94))), (1, .inl ix), (2, .inl v2)] (ma_u m1 94 0 (0 : Int32)) (zmv (fun m5 => P (some (.inl (-1 : Int32))) m5))))) else (if 0 ≤ v2 then ((0 ≤ ix ∧ ix.toNatClampNeg < 16) ∧ (if 0 ≤ (m1 112 ix.toNatClampNeg) then ((0 ≤ (m1 112 ix.toNatClampNeg) ∧ (m1 112 ix.toNatClampNeg).toNatClampNeg < 3100) ∧ (zm X 4 88 238 0 [(0, .inr (.inr (some 94))), (1, .inl ix), (2, .inl v2)] (ma_u m1 94 0 (0 : Int32)) (zmv (fun m7 => P (some (.inl (m1 100 (m1 112 ix.toNatClampNeg).toNatClampNeg))) m7)))) else (zm X 4 88 238 0 [(0, .inr (.inr (some 94))), (1, .inl ix), (2, .inl v2)] (ma_u m1 94 0 (0 : Int32)) (zmv (fun m9 => P (some (.inl (-1 : Int32))) m9))))) else (P (some (.inl (0 : Int32))) (ma_u m1 94 0 (3 : Int32))))))))))) : zm X 5 111 250 0 [(0, .inr (.inr (some 94))), (1, .inl ix), (2, .inl ob)] m P := by
  intro d w S Q hd hw hS hm HQ
  subst hm
  refine zw_push hm_250 dX12_root_0 (v := .inr (.inr (some 94))) rfl ?_
  refine zw_push hm_250 dX12_root_1 (v := .inr (.inr (some 94))) rfl ?_
  refine zw_push hm_250 dX12_root_2 (v := .inl ix) rfl ?_
  refine zw_cv hm_250 dX12_root_3 v_12_493_12 hm_182 [.inl ix] [.inr (.inr (some 94))] rfl (zT_rt hS s_94 rfl) ⟨by omega, by omega⟩ rfl ?_
  show ma_wp X (d - 1) (w - 21) 182 0 [(0, .inr (.inr (some 94))), (1, .inl ix)] [] S _
  refine zw_push hm_182 dX12_isNamed_0 (v := .inl ix) rfl ?_
  refine zw_if0 hm_182 dX12_isNamed_1 (t := 14) rfl zc0_lt ?_ ?_
  · intro hc
    rw [if_pos hc] at h
    refine zw_push hm_182 dX12_isNamed_14 (v := .inl (0 : Int32)) rfl ?_
    refine zw_bret hm_182 dX12_isNamed_15 (by decide) ?_
    show ma_wp X d w 250 6 [(0, .inr (.inr (some 94))), (1, .inl ix), (2, .inl ob)] [.inl (0 : Int32), .inr (.inr (some 94))] S _
    refine zw_if0 hm_250 dX12_root_6 (t := 13) rfl zc0_ne (fun hc => absurd hc (by decide)) (fun _ => ?_)
    refine zw_push hm_250 dX12_root_9 (v := .inl (1 : Int32)) rfl ?_
    refine zw_goto hm_250 dX12_root_10 (t := 25) rfl ?_
    refine zw_cv hm_250 dX12_root_25 v_12_110_12 hm_167 [.inl (1 : Int32)] [] rfl (zT_rt hS s_94 rfl) ⟨by omega, by omega⟩ rfl ?_
    show ma_wp X (d - 1) (w - 21) 167 0 [(0, .inr (.inr (some 94))), (1, .inl (1 : Int32))] [] S _
    refine zw_push hm_167 dX12_fails_0 (v := .inr (.inr (some 94))) rfl ?_
    refine zw_push hm_167 dX12_fails_1 (v := .inl (1 : Int32)) rfl ?_
    refine zw_pf hm_167 dX12_fails_2 (zT_is hS s_94) (zT_t hS s_94) p_12_1_12 zk_int ?_
    refine zw_push hm_167 dX12_fails_5 (v := .inl (1 : Int32)) rfl ?_
    refine zw_if0 hm_167 dX12_fails_6 (t := 13) rfl zc0_eq (fun hc => absurd hc (by decide)) (fun _ => ?_)
    refine zw_push hm_167 dX12_fails_9 (v := .inl (1 : Int32)) rfl ?_
    refine zw_goto hm_167 dX12_fails_10 (t := 14) rfl ?_
    refine zw_bret hm_167 dX12_fails_14 (by decide) ?_
    show ma_wp X d w 250 28 [(0, .inr (.inr (some 94))), (1, .inl ix), (2, .inl ob)] [.inl (1 : Int32)] (ma_put S 94 0 (.inl (1 : Int32))) _
    refine zw_if0 hm_250 dX12_root_28 (t := 33) rfl zc0_eq (fun hc => absurd hc (by decide)) (fun _ => ?_)
    refine zw_push hm_250 dX12_root_31 (v := .inl (0 : Int32)) rfl ?_
    exact zw_iret hm_250 dX12_root_32 (HQ _ _ h)
  · intro hc
    rw [if_neg hc] at h
    refine zw_push hm_182 dX12_isNamed_4 (v := .inl ix) rfl ?_
    refine zw_push hm_182 dX12_isNamed_5 (v := .inl (16 : Int32)) rfl ?_
    refine zw_if2 hm_182 dX12_isNamed_7 (t := 14) rfl zc2_ge ?_ ?_
    · intro hc
      rw [if_pos hc] at h
      refine zw_push hm_182 dX12_isNamed_14 (v := .inl (0 : Int32)) rfl ?_
      refine zw_bret hm_182 dX12_isNamed_15 (by decide) ?_
      show ma_wp X d w 250 6 [(0, .inr (.inr (some 94))), (1, .inl ix), (2, .inl ob)] [.inl (0 : Int32), .inr (.inr (some 94))] S _
      refine zw_if0 hm_250 dX12_root_6 (t := 13) rfl zc0_ne (fun hc => absurd hc (by decide)) (fun _ => ?_)
      refine zw_push hm_250 dX12_root_9 (v := .inl (1 : Int32)) rfl ?_
      refine zw_goto hm_250 dX12_root_10 (t := 25) rfl ?_
      refine zw_cv hm_250 dX12_root_25 v_12_110_12 hm_167 [.inl (1 : Int32)] [] rfl (zT_rt hS s_94 rfl) ⟨by omega, by omega⟩ rfl ?_
      show ma_wp X (d - 1) (w - 21) 167 0 [(0, .inr (.inr (some 94))), (1, .inl (1 : Int32))] [] S _
      refine zw_push hm_167 dX12_fails_0 (v := .inr (.inr (some 94))) rfl ?_
      refine zw_push hm_167 dX12_fails_1 (v := .inl (1 : Int32)) rfl ?_
      refine zw_pf hm_167 dX12_fails_2 (zT_is hS s_94) (zT_t hS s_94) p_12_1_12 zk_int ?_
      refine zw_push hm_167 dX12_fails_5 (v := .inl (1 : Int32)) rfl ?_
      refine zw_if0 hm_167 dX12_fails_6 (t := 13) rfl zc0_eq (fun hc => absurd hc (by decide)) (fun _ => ?_)
      refine zw_push hm_167 dX12_fails_9 (v := .inl (1 : Int32)) rfl ?_
      refine zw_goto hm_167 dX12_fails_10 (t := 14) rfl ?_
      refine zw_bret hm_167 dX12_fails_14 (by decide) ?_
      show ma_wp X d w 250 28 [(0, .inr (.inr (some 94))), (1, .inl ix), (2, .inl ob)] [.inl (1 : Int32)] (ma_put S 94 0 (.inl (1 : Int32))) _
      refine zw_if0 hm_250 dX12_root_28 (t := 33) rfl zc0_eq (fun hc => absurd hc (by decide)) (fun _ => ?_)
      refine zw_push hm_250 dX12_root_31 (v := .inl (0 : Int32)) rfl ?_
      exact zw_iret hm_250 dX12_root_32 (HQ _ _ h)
    · intro hc
      rw [if_neg hc] at h
      refine zw_push hm_182 dX12_isNamed_10 (v := .inl (1 : Int32)) rfl ?_
      refine zw_goto hm_182 dX12_isNamed_11 (t := 15) rfl ?_
      refine zw_bret hm_182 dX12_isNamed_15 (by decide) ?_
      show ma_wp X d w 250 6 [(0, .inr (.inr (some 94))), (1, .inl ix), (2, .inl ob)] [.inl (1 : Int32), .inr (.inr (some 94))] S _
      refine zw_if0 hm_250 dX12_root_6 (t := 13) rfl zc0_ne (fun _ => ?_) (fun hc => absurd (by decide) hc)
      refine zw_push hm_250 dX12_root_13 (v := .inr (.inr (some 94))) rfl ?_
      refine zw_gf hm_250 dX12_root_14 (v := .inl ((mI S) 94 8)) (zT_is hS s_94) (zT_t hS s_94) rfl f_12_237_12 rfl ?_
      refine zw_if0 hm_250 dX12_root_17 (t := 24) rfl zc0_ne ?_ ?_
      · intro hc
        rw [if_neg hc] at h
        refine zw_push hm_250 dX12_root_24 (v := .inl (0 : Int32)) rfl ?_
        refine zw_cv hm_250 dX12_root_25 v_12_110_12 hm_167 [.inl (0 : Int32)] [] rfl (zT_rt hS s_94 rfl) ⟨by omega, by omega⟩ rfl ?_
        show ma_wp X (d - 1) (w - 21) 167 0 [(0, .inr (.inr (some 94))), (1, .inl (0 : Int32))] [] S _
        refine zw_push hm_167 dX12_fails_0 (v := .inr (.inr (some 94))) rfl ?_
        refine zw_push hm_167 dX12_fails_1 (v := .inl (0 : Int32)) rfl ?_
        refine zw_pf hm_167 dX12_fails_2 (zT_is hS s_94) (zT_t hS s_94) p_12_1_12 zk_int ?_
        refine zw_push hm_167 dX12_fails_5 (v := .inl (0 : Int32)) rfl ?_
        refine zw_if0 hm_167 dX12_fails_6 (t := 13) rfl zc0_eq (fun _ => ?_) (fun hc => absurd (by decide) hc)
        refine zw_push hm_167 dX12_fails_13 (v := .inl (0 : Int32)) rfl ?_
        refine zw_bret hm_167 dX12_fails_14 (by decide) ?_
        show ma_wp X d w 250 28 [(0, .inr (.inr (some 94))), (1, .inl ix), (2, .inl ob)] [.inl (0 : Int32)] (ma_put S 94 0 (.inl (0 : Int32))) _
        refine zw_if0 hm_250 dX12_root_28 (t := 33) rfl zc0_eq (fun _ => ?_) (fun hc => absurd (by decide) hc)
        refine zw_push hm_250 dX12_root_33 (v := .inl ob) rfl ?_
        refine zw_push hm_250 dX12_root_34 (v := .inl (-1 : Int32)) rfl ?_
        refine zw_if2 hm_250 dX12_root_35 (t := 42) rfl zc2_ne ?_ ?_
        · intro hc
          rw [if_neg hc] at h
          refine zw_push hm_250 dX12_root_42 (v := .inr (.inr (some 94))) rfl ?_
          refine zw_push hm_250 dX12_root_43 (v := .inl ob) rfl ?_
          refine zw_cv hm_250 dX12_root_44 v_12_499_12 hm_245 [.inl ob] [] rfl (zT_rt (zT_pi hS) s_94 rfl) ⟨by omega, by omega⟩ rfl (h _ _ (ma_put S 94 0 (.inl (0 : Int32))) _ (by omega) (by omega) (zT_pi hS) rfl (fun o9 m1 hv => ?_))
          obtain ⟨v2, rfl, h⟩ := zmi_of hv
          show ma_wp X d w 250 47 [(0, .inr (.inr (some 94))), (1, .inl ix), (2, .inl ob)] [.inl v2] (zst S m1) _
          refine zw_sto hm_250 dX12_root_47 [(3, .inl v2), (0, .inr (.inr (some 94))), (1, .inl ix), (2, .inl ob)] rfl rfl rfl ?_
          refine zw_push hm_250 dX12_root_48 (v := .inr (.inr (some 94))) rfl ?_
          refine zw_push hm_250 dX12_root_49 (v := .inl ob) rfl ?_
          refine zw_push hm_250 dX12_root_50 (v := .inl (-1 : Int32)) rfl ?_
          refine zw_if2 hm_250 dX12_root_51 (t := 62) rfl zc2_eq ?_ ?_
          · intro hc
            rw [if_pos hc] at h
            refine zw_push hm_250 dX12_root_62 (v := .inl (0 : Int32)) rfl ?_
            refine zw_cv hm_250 dX12_root_63 v_12_110_12 hm_167 [.inl (0 : Int32)] [] rfl (zT_rt (zT_zst hS m1) s_94 rfl) ⟨by omega, by omega⟩ rfl ?_
            show ma_wp X (d - 1) (w - 21) 167 0 [(0, .inr (.inr (some 94))), (1, .inl (0 : Int32))] [] (zst S m1) _
            refine zw_push hm_167 dX12_fails_0 (v := .inr (.inr (some 94))) rfl ?_
            refine zw_push hm_167 dX12_fails_1 (v := .inl (0 : Int32)) rfl ?_
            refine zw_pf hm_167 dX12_fails_2 (zT_is (zT_zst hS m1) s_94) (zT_t (zT_zst hS m1) s_94) p_12_1_12 zk_int ?_
            refine zw_push hm_167 dX12_fails_5 (v := .inl (0 : Int32)) rfl ?_
            refine zw_if0 hm_167 dX12_fails_6 (t := 13) rfl zc0_eq (fun _ => ?_) (fun hc => absurd (by decide) hc)
            refine zw_push hm_167 dX12_fails_13 (v := .inl (0 : Int32)) rfl ?_
            refine zw_bret hm_167 dX12_fails_14 (by decide) ?_
            show ma_wp X d w 250 66 [(3, .inl v2), (0, .inr (.inr (some 94))), (1, .inl ix), (2, .inl ob)] [.inl (0 : Int32)] (ma_put (zst S m1) 94 0 (.inl (0 : Int32))) _
            refine zw_if0 hm_250 dX12_root_66 (t := 71) rfl zc0_eq (fun _ => ?_) (fun hc => absurd (by decide) hc)
            refine zw_push hm_250 dX12_root_71 (v := .inr (.inr (some 94))) rfl ?_
            refine zw_push hm_250 dX12_root_72 (v := .inr (.inr (some 94))) rfl ?_
            refine zw_gf hm_250 dX12_root_73 (v := .inr (.inr (some 112))) (zT_is (zT_pi (zT_zst hS m1)) s_94) (zT_t (zT_pi (zT_zst hS m1)) s_94) rfl f_12_68_12 (zT_f (zT_pi (zT_zst hS m1)) r_94_51) ?_
            refine zw_push hm_250 dX12_root_76 (v := .inl ix) rfl ?_
            obtain ⟨hg, h⟩ := h
            refine zw_ia hm_250 dX12_root_77 (zT_is (zT_pi (zT_zst hS m1)) s_112) (zT_h (zT_pi (zT_zst hS m1)) s_112) rfl hg ?_
            show ma_wp X d w 250 78 [(3, .inl v2), (0, .inr (.inr (some 94))), (1, .inl ix), (2, .inl ob)] [.inl (m1 112 ix.toNatClampNeg), .inr (.inr (some 94))] (ma_put (zst S m1) 94 0 (.inl (0 : Int32))) _
            refine zw_cv hm_250 dX12_root_78 v_12_502_12 hm_248 [.inl (m1 112 ix.toNatClampNeg)] [] rfl (zT_rt (zT_pi (zT_zst hS m1)) s_94 rfl) ⟨by omega, by omega⟩ rfl ?_
            show ma_wp X (d - 1) (w - 21) 248 0 [(0, .inr (.inr (some 94))), (1, .inl (m1 112 ix.toNatClampNeg))] [] (ma_put (zst S m1) 94 0 (.inl (0 : Int32))) _
            refine zw_push hm_248 dX12_numberOf_0 (v := .inl (m1 112 ix.toNatClampNeg)) rfl ?_
            refine zw_if0 hm_248 dX12_numberOf_1 (t := 8) rfl zc0_ge ?_ ?_
            · intro hc
              rw [if_pos hc] at h
              refine zw_push hm_248 dX12_numberOf_8 (v := .inr (.inr (some 94))) rfl ?_
              refine zw_gf hm_248 dX12_numberOf_9 (v := .inr (.inr (some 100))) (zT_is (zT_pi (zT_zst hS m1)) s_94) (zT_t (zT_pi (zT_zst hS m1)) s_94) rfl f_12_31_12 (zT_f (zT_pi (zT_zst hS m1)) r_94_32) ?_
              refine zw_push hm_248 dX12_numberOf_12 (v := .inl (m1 112 ix.toNatClampNeg)) rfl ?_
              obtain ⟨hg, h⟩ := h
              refine zw_ia hm_248 dX12_numberOf_13 (zT_is (zT_pi (zT_zst hS m1)) s_100) (zT_h (zT_pi (zT_zst hS m1)) s_100) rfl hg ?_
              show ma_wp X (d - 1) (w - 21) 248 14 [(0, .inr (.inr (some 94))), (1, .inl (m1 112 ix.toNatClampNeg))] [.inl (m1 100 (m1 112 ix.toNatClampNeg).toNatClampNeg)] (ma_put (zst S m1) 94 0 (.inl (0 : Int32))) _
              refine zw_iret hm_248 dX12_numberOf_14 ?_
              show ma_wp X d w 250 81 [(3, .inl v2), (0, .inr (.inr (some 94))), (1, .inl ix), (2, .inl ob)] [.inl (m1 100 (m1 112 ix.toNatClampNeg).toNatClampNeg)] (ma_put (zst S m1) 94 0 (.inl (0 : Int32))) _
              refine zw_sto hm_250 dX12_root_81 [(4, .inl (m1 100 (m1 112 ix.toNatClampNeg).toNatClampNeg)), (3, .inl v2), (0, .inr (.inr (some 94))), (1, .inl ix), (2, .inl ob)] rfl rfl rfl ?_
              refine zw_push hm_250 dX12_root_83 (v := .inr (.inr (some 94))) rfl ?_
              refine zw_push hm_250 dX12_root_84 (v := .inl ix) rfl ?_
              refine zw_push hm_250 dX12_root_85 (v := .inl v2) rfl ?_
              refine zw_cv hm_250 dX12_root_86 v_12_481_12 hm_238 [.inl v2, .inl ix] [] rfl (zT_rt (zT_pi (zT_zst hS m1)) s_94 rfl) ⟨by omega, by omega⟩ rfl (h _ _ (ma_put (zst S m1) 94 0 (.inl (0 : Int32))) _ (by omega) (by omega) (zT_pi (zT_zst hS m1)) rfl (fun o9 m3 hv => ?_))
              obtain ⟨rfl, h⟩ := zmv_of hv
              show ma_wp X d w 250 89 [(4, .inl (m1 100 (m1 112 ix.toNatClampNeg).toNatClampNeg)), (3, .inl v2), (0, .inr (.inr (some 94))), (1, .inl ix), (2, .inl ob)] [] (zst S m3) _
              refine zw_push hm_250 dX12_root_89 (v := .inl (m1 100 (m1 112 ix.toNatClampNeg).toNatClampNeg)) rfl ?_
              exact zw_iret hm_250 dX12_root_91 (HQ _ _ h)
            · intro hc
              rw [if_neg hc] at h
              refine zw_push hm_248 dX12_numberOf_4 (v := .inl (-1 : Int32)) rfl ?_
              refine zw_goto hm_248 dX12_numberOf_5 (t := 14) rfl ?_
              refine zw_iret hm_248 dX12_numberOf_14 ?_
              show ma_wp X d w 250 81 [(3, .inl v2), (0, .inr (.inr (some 94))), (1, .inl ix), (2, .inl ob)] [.inl (-1 : Int32)] (ma_put (zst S m1) 94 0 (.inl (0 : Int32))) _
              refine zw_sto hm_250 dX12_root_81 [(4, .inl (-1 : Int32)), (3, .inl v2), (0, .inr (.inr (some 94))), (1, .inl ix), (2, .inl ob)] rfl rfl rfl ?_
              refine zw_push hm_250 dX12_root_83 (v := .inr (.inr (some 94))) rfl ?_
              refine zw_push hm_250 dX12_root_84 (v := .inl ix) rfl ?_
              refine zw_push hm_250 dX12_root_85 (v := .inl v2) rfl ?_
              refine zw_cv hm_250 dX12_root_86 v_12_481_12 hm_238 [.inl v2, .inl ix] [] rfl (zT_rt (zT_pi (zT_zst hS m1)) s_94 rfl) ⟨by omega, by omega⟩ rfl (h _ _ (ma_put (zst S m1) 94 0 (.inl (0 : Int32))) _ (by omega) (by omega) (zT_pi (zT_zst hS m1)) rfl (fun o9 m5 hv => ?_))
              obtain ⟨rfl, h⟩ := zmv_of hv
              show ma_wp X d w 250 89 [(4, .inl (-1 : Int32)), (3, .inl v2), (0, .inr (.inr (some 94))), (1, .inl ix), (2, .inl ob)] [] (zst S m5) _
              refine zw_push hm_250 dX12_root_89 (v := .inl (-1 : Int32)) rfl ?_
              exact zw_iret hm_250 dX12_root_91 (HQ _ _ h)
          · intro hc
            rw [if_neg hc] at h
            refine zw_push hm_250 dX12_root_54 (v := .inl v2) rfl ?_
            refine zw_if0 hm_250 dX12_root_55 (t := 62) rfl zc0_ge ?_ ?_
            · intro hc
              rw [if_pos hc] at h
              refine zw_push hm_250 dX12_root_62 (v := .inl (0 : Int32)) rfl ?_
              refine zw_cv hm_250 dX12_root_63 v_12_110_12 hm_167 [.inl (0 : Int32)] [] rfl (zT_rt (zT_zst hS m1) s_94 rfl) ⟨by omega, by omega⟩ rfl ?_
              show ma_wp X (d - 1) (w - 21) 167 0 [(0, .inr (.inr (some 94))), (1, .inl (0 : Int32))] [] (zst S m1) _
              refine zw_push hm_167 dX12_fails_0 (v := .inr (.inr (some 94))) rfl ?_
              refine zw_push hm_167 dX12_fails_1 (v := .inl (0 : Int32)) rfl ?_
              refine zw_pf hm_167 dX12_fails_2 (zT_is (zT_zst hS m1) s_94) (zT_t (zT_zst hS m1) s_94) p_12_1_12 zk_int ?_
              refine zw_push hm_167 dX12_fails_5 (v := .inl (0 : Int32)) rfl ?_
              refine zw_if0 hm_167 dX12_fails_6 (t := 13) rfl zc0_eq (fun _ => ?_) (fun hc => absurd (by decide) hc)
              refine zw_push hm_167 dX12_fails_13 (v := .inl (0 : Int32)) rfl ?_
              refine zw_bret hm_167 dX12_fails_14 (by decide) ?_
              show ma_wp X d w 250 66 [(3, .inl v2), (0, .inr (.inr (some 94))), (1, .inl ix), (2, .inl ob)] [.inl (0 : Int32)] (ma_put (zst S m1) 94 0 (.inl (0 : Int32))) _
              refine zw_if0 hm_250 dX12_root_66 (t := 71) rfl zc0_eq (fun _ => ?_) (fun hc => absurd (by decide) hc)
              refine zw_push hm_250 dX12_root_71 (v := .inr (.inr (some 94))) rfl ?_
              refine zw_push hm_250 dX12_root_72 (v := .inr (.inr (some 94))) rfl ?_
              refine zw_gf hm_250 dX12_root_73 (v := .inr (.inr (some 112))) (zT_is (zT_pi (zT_zst hS m1)) s_94) (zT_t (zT_pi (zT_zst hS m1)) s_94) rfl f_12_68_12 (zT_f (zT_pi (zT_zst hS m1)) r_94_51) ?_
              refine zw_push hm_250 dX12_root_76 (v := .inl ix) rfl ?_
              obtain ⟨hg, h⟩ := h
              refine zw_ia hm_250 dX12_root_77 (zT_is (zT_pi (zT_zst hS m1)) s_112) (zT_h (zT_pi (zT_zst hS m1)) s_112) rfl hg ?_
              show ma_wp X d w 250 78 [(3, .inl v2), (0, .inr (.inr (some 94))), (1, .inl ix), (2, .inl ob)] [.inl (m1 112 ix.toNatClampNeg), .inr (.inr (some 94))] (ma_put (zst S m1) 94 0 (.inl (0 : Int32))) _
              refine zw_cv hm_250 dX12_root_78 v_12_502_12 hm_248 [.inl (m1 112 ix.toNatClampNeg)] [] rfl (zT_rt (zT_pi (zT_zst hS m1)) s_94 rfl) ⟨by omega, by omega⟩ rfl ?_
              show ma_wp X (d - 1) (w - 21) 248 0 [(0, .inr (.inr (some 94))), (1, .inl (m1 112 ix.toNatClampNeg))] [] (ma_put (zst S m1) 94 0 (.inl (0 : Int32))) _
              refine zw_push hm_248 dX12_numberOf_0 (v := .inl (m1 112 ix.toNatClampNeg)) rfl ?_
              refine zw_if0 hm_248 dX12_numberOf_1 (t := 8) rfl zc0_ge ?_ ?_
              · intro hc
                rw [if_pos hc] at h
                refine zw_push hm_248 dX12_numberOf_8 (v := .inr (.inr (some 94))) rfl ?_
                refine zw_gf hm_248 dX12_numberOf_9 (v := .inr (.inr (some 100))) (zT_is (zT_pi (zT_zst hS m1)) s_94) (zT_t (zT_pi (zT_zst hS m1)) s_94) rfl f_12_31_12 (zT_f (zT_pi (zT_zst hS m1)) r_94_32) ?_
                refine zw_push hm_248 dX12_numberOf_12 (v := .inl (m1 112 ix.toNatClampNeg)) rfl ?_
                obtain ⟨hg, h⟩ := h
                refine zw_ia hm_248 dX12_numberOf_13 (zT_is (zT_pi (zT_zst hS m1)) s_100) (zT_h (zT_pi (zT_zst hS m1)) s_100) rfl hg ?_
                show ma_wp X (d - 1) (w - 21) 248 14 [(0, .inr (.inr (some 94))), (1, .inl (m1 112 ix.toNatClampNeg))] [.inl (m1 100 (m1 112 ix.toNatClampNeg).toNatClampNeg)] (ma_put (zst S m1) 94 0 (.inl (0 : Int32))) _
                refine zw_iret hm_248 dX12_numberOf_14 ?_
                show ma_wp X d w 250 81 [(3, .inl v2), (0, .inr (.inr (some 94))), (1, .inl ix), (2, .inl ob)] [.inl (m1 100 (m1 112 ix.toNatClampNeg).toNatClampNeg)] (ma_put (zst S m1) 94 0 (.inl (0 : Int32))) _
                refine zw_sto hm_250 dX12_root_81 [(4, .inl (m1 100 (m1 112 ix.toNatClampNeg).toNatClampNeg)), (3, .inl v2), (0, .inr (.inr (some 94))), (1, .inl ix), (2, .inl ob)] rfl rfl rfl ?_
                refine zw_push hm_250 dX12_root_83 (v := .inr (.inr (some 94))) rfl ?_
                refine zw_push hm_250 dX12_root_84 (v := .inl ix) rfl ?_
                refine zw_push hm_250 dX12_root_85 (v := .inl v2) rfl ?_
                refine zw_cv hm_250 dX12_root_86 v_12_481_12 hm_238 [.inl v2, .inl ix] [] rfl (zT_rt (zT_pi (zT_zst hS m1)) s_94 rfl) ⟨by omega, by omega⟩ rfl (h _ _ (ma_put (zst S m1) 94 0 (.inl (0 : Int32))) _ (by omega) (by omega) (zT_pi (zT_zst hS m1)) rfl (fun o9 m7 hv => ?_))
                obtain ⟨rfl, h⟩ := zmv_of hv
                show ma_wp X d w 250 89 [(4, .inl (m1 100 (m1 112 ix.toNatClampNeg).toNatClampNeg)), (3, .inl v2), (0, .inr (.inr (some 94))), (1, .inl ix), (2, .inl ob)] [] (zst S m7) _
                refine zw_push hm_250 dX12_root_89 (v := .inl (m1 100 (m1 112 ix.toNatClampNeg).toNatClampNeg)) rfl ?_
                exact zw_iret hm_250 dX12_root_91 (HQ _ _ h)
              · intro hc
                rw [if_neg hc] at h
                refine zw_push hm_248 dX12_numberOf_4 (v := .inl (-1 : Int32)) rfl ?_
                refine zw_goto hm_248 dX12_numberOf_5 (t := 14) rfl ?_
                refine zw_iret hm_248 dX12_numberOf_14 ?_
                show ma_wp X d w 250 81 [(3, .inl v2), (0, .inr (.inr (some 94))), (1, .inl ix), (2, .inl ob)] [.inl (-1 : Int32)] (ma_put (zst S m1) 94 0 (.inl (0 : Int32))) _
                refine zw_sto hm_250 dX12_root_81 [(4, .inl (-1 : Int32)), (3, .inl v2), (0, .inr (.inr (some 94))), (1, .inl ix), (2, .inl ob)] rfl rfl rfl ?_
                refine zw_push hm_250 dX12_root_83 (v := .inr (.inr (some 94))) rfl ?_
                refine zw_push hm_250 dX12_root_84 (v := .inl ix) rfl ?_
                refine zw_push hm_250 dX12_root_85 (v := .inl v2) rfl ?_
                refine zw_cv hm_250 dX12_root_86 v_12_481_12 hm_238 [.inl v2, .inl ix] [] rfl (zT_rt (zT_pi (zT_zst hS m1)) s_94 rfl) ⟨by omega, by omega⟩ rfl (h _ _ (ma_put (zst S m1) 94 0 (.inl (0 : Int32))) _ (by omega) (by omega) (zT_pi (zT_zst hS m1)) rfl (fun o9 m9 hv => ?_))
                obtain ⟨rfl, h⟩ := zmv_of hv
                show ma_wp X d w 250 89 [(4, .inl (-1 : Int32)), (3, .inl v2), (0, .inr (.inr (some 94))), (1, .inl ix), (2, .inl ob)] [] (zst S m9) _
                refine zw_push hm_250 dX12_root_89 (v := .inl (-1 : Int32)) rfl ?_
                exact zw_iret hm_250 dX12_root_91 (HQ _ _ h)
            · intro hc
              rw [if_neg hc] at h
              refine zw_push hm_250 dX12_root_58 (v := .inl (3 : Int32)) rfl ?_
              refine zw_goto hm_250 dX12_root_59 (t := 63) rfl ?_
              refine zw_cv hm_250 dX12_root_63 v_12_110_12 hm_167 [.inl (3 : Int32)] [] rfl (zT_rt (zT_zst hS m1) s_94 rfl) ⟨by omega, by omega⟩ rfl ?_
              show ma_wp X (d - 1) (w - 21) 167 0 [(0, .inr (.inr (some 94))), (1, .inl (3 : Int32))] [] (zst S m1) _
              refine zw_push hm_167 dX12_fails_0 (v := .inr (.inr (some 94))) rfl ?_
              refine zw_push hm_167 dX12_fails_1 (v := .inl (3 : Int32)) rfl ?_
              refine zw_pf hm_167 dX12_fails_2 (zT_is (zT_zst hS m1) s_94) (zT_t (zT_zst hS m1) s_94) p_12_1_12 zk_int ?_
              refine zw_push hm_167 dX12_fails_5 (v := .inl (3 : Int32)) rfl ?_
              refine zw_if0 hm_167 dX12_fails_6 (t := 13) rfl zc0_eq (fun hc => absurd hc (by decide)) (fun _ => ?_)
              refine zw_push hm_167 dX12_fails_9 (v := .inl (1 : Int32)) rfl ?_
              refine zw_goto hm_167 dX12_fails_10 (t := 14) rfl ?_
              refine zw_bret hm_167 dX12_fails_14 (by decide) ?_
              show ma_wp X d w 250 66 [(3, .inl v2), (0, .inr (.inr (some 94))), (1, .inl ix), (2, .inl ob)] [.inl (1 : Int32)] (ma_put (zst S m1) 94 0 (.inl (3 : Int32))) _
              refine zw_if0 hm_250 dX12_root_66 (t := 71) rfl zc0_eq (fun hc => absurd hc (by decide)) (fun _ => ?_)
              refine zw_push hm_250 dX12_root_69 (v := .inl (0 : Int32)) rfl ?_
              exact zw_iret hm_250 dX12_root_70 (HQ _ _ h)
        · intro hc
          rw [if_pos (Classical.not_not.mp hc)] at h
          refine zw_push hm_250 dX12_root_38 (v := .inl (-1 : Int32)) rfl ?_
          refine zw_goto hm_250 dX12_root_39 (t := 47) rfl ?_
          refine zw_sto hm_250 dX12_root_47 [(3, .inl (-1 : Int32)), (0, .inr (.inr (some 94))), (1, .inl ix), (2, .inl ob)] rfl rfl rfl ?_
          refine zw_push hm_250 dX12_root_48 (v := .inr (.inr (some 94))) rfl ?_
          refine zw_push hm_250 dX12_root_49 (v := .inl ob) rfl ?_
          refine zw_push hm_250 dX12_root_50 (v := .inl (-1 : Int32)) rfl ?_
          refine zw_if2 hm_250 dX12_root_51 (t := 62) rfl zc2_eq ?_ ?_
          · intro hc
            rw [if_pos hc] at h
            refine zw_push hm_250 dX12_root_62 (v := .inl (0 : Int32)) rfl ?_
            refine zw_cv hm_250 dX12_root_63 v_12_110_12 hm_167 [.inl (0 : Int32)] [] rfl (zT_rt (zT_pi hS) s_94 rfl) ⟨by omega, by omega⟩ rfl ?_
            show ma_wp X (d - 1) (w - 21) 167 0 [(0, .inr (.inr (some 94))), (1, .inl (0 : Int32))] [] (ma_put S 94 0 (.inl (0 : Int32))) _
            refine zw_push hm_167 dX12_fails_0 (v := .inr (.inr (some 94))) rfl ?_
            refine zw_push hm_167 dX12_fails_1 (v := .inl (0 : Int32)) rfl ?_
            refine zw_pf hm_167 dX12_fails_2 (zT_is (zT_pi hS) s_94) (zT_t (zT_pi hS) s_94) p_12_1_12 zk_int ?_
            refine zw_push hm_167 dX12_fails_5 (v := .inl (0 : Int32)) rfl ?_
            refine zw_if0 hm_167 dX12_fails_6 (t := 13) rfl zc0_eq (fun _ => ?_) (fun hc => absurd (by decide) hc)
            refine zw_push hm_167 dX12_fails_13 (v := .inl (0 : Int32)) rfl ?_
            refine zw_bret hm_167 dX12_fails_14 (by decide) ?_
            show ma_wp X d w 250 66 [(3, .inl (-1 : Int32)), (0, .inr (.inr (some 94))), (1, .inl ix), (2, .inl ob)] [.inl (0 : Int32)] (ma_put (ma_put S 94 0 (.inl (0 : Int32))) 94 0 (.inl (0 : Int32))) _
            refine zw_if0 hm_250 dX12_root_66 (t := 71) rfl zc0_eq (fun _ => ?_) (fun hc => absurd (by decide) hc)
            refine zw_push hm_250 dX12_root_71 (v := .inr (.inr (some 94))) rfl ?_
            refine zw_push hm_250 dX12_root_72 (v := .inr (.inr (some 94))) rfl ?_
            refine zw_gf hm_250 dX12_root_73 (v := .inr (.inr (some 112))) (zT_is (zT_pi (zT_pi hS)) s_94) (zT_t (zT_pi (zT_pi hS)) s_94) rfl f_12_68_12 (zT_f (zT_pi (zT_pi hS)) r_94_51) ?_
            refine zw_push hm_250 dX12_root_76 (v := .inl ix) rfl ?_
            obtain ⟨hg, h⟩ := h
            refine zw_ia hm_250 dX12_root_77 (zT_is (zT_pi (zT_pi hS)) s_112) (zT_h (zT_pi (zT_pi hS)) s_112) rfl hg ?_
            show ma_wp X d w 250 78 [(3, .inl (-1 : Int32)), (0, .inr (.inr (some 94))), (1, .inl ix), (2, .inl ob)] [.inl ((mI S) 112 ix.toNatClampNeg), .inr (.inr (some 94))] (ma_put (ma_put S 94 0 (.inl (0 : Int32))) 94 0 (.inl (0 : Int32))) _
            refine zw_cv hm_250 dX12_root_78 v_12_502_12 hm_248 [.inl ((mI S) 112 ix.toNatClampNeg)] [] rfl (zT_rt (zT_pi (zT_pi hS)) s_94 rfl) ⟨by omega, by omega⟩ rfl ?_
            show ma_wp X (d - 1) (w - 21) 248 0 [(0, .inr (.inr (some 94))), (1, .inl ((mI S) 112 ix.toNatClampNeg))] [] (ma_put (ma_put S 94 0 (.inl (0 : Int32))) 94 0 (.inl (0 : Int32))) _
            refine zw_push hm_248 dX12_numberOf_0 (v := .inl ((mI S) 112 ix.toNatClampNeg)) rfl ?_
            refine zw_if0 hm_248 dX12_numberOf_1 (t := 8) rfl zc0_ge ?_ ?_
            · intro hc
              rw [if_pos hc] at h
              refine zw_push hm_248 dX12_numberOf_8 (v := .inr (.inr (some 94))) rfl ?_
              refine zw_gf hm_248 dX12_numberOf_9 (v := .inr (.inr (some 100))) (zT_is (zT_pi (zT_pi hS)) s_94) (zT_t (zT_pi (zT_pi hS)) s_94) rfl f_12_31_12 (zT_f (zT_pi (zT_pi hS)) r_94_32) ?_
              refine zw_push hm_248 dX12_numberOf_12 (v := .inl ((mI S) 112 ix.toNatClampNeg)) rfl ?_
              obtain ⟨hg, h⟩ := h
              refine zw_ia hm_248 dX12_numberOf_13 (zT_is (zT_pi (zT_pi hS)) s_100) (zT_h (zT_pi (zT_pi hS)) s_100) rfl hg ?_
              show ma_wp X (d - 1) (w - 21) 248 14 [(0, .inr (.inr (some 94))), (1, .inl ((mI S) 112 ix.toNatClampNeg))] [.inl ((mI S) 100 ((mI S) 112 ix.toNatClampNeg).toNatClampNeg)] (ma_put (ma_put S 94 0 (.inl (0 : Int32))) 94 0 (.inl (0 : Int32))) _
              refine zw_iret hm_248 dX12_numberOf_14 ?_
              show ma_wp X d w 250 81 [(3, .inl (-1 : Int32)), (0, .inr (.inr (some 94))), (1, .inl ix), (2, .inl ob)] [.inl ((mI S) 100 ((mI S) 112 ix.toNatClampNeg).toNatClampNeg)] (ma_put (ma_put S 94 0 (.inl (0 : Int32))) 94 0 (.inl (0 : Int32))) _
              refine zw_sto hm_250 dX12_root_81 [(4, .inl ((mI S) 100 ((mI S) 112 ix.toNatClampNeg).toNatClampNeg)), (3, .inl (-1 : Int32)), (0, .inr (.inr (some 94))), (1, .inl ix), (2, .inl ob)] rfl rfl rfl ?_
              refine zw_push hm_250 dX12_root_83 (v := .inr (.inr (some 94))) rfl ?_
              refine zw_push hm_250 dX12_root_84 (v := .inl ix) rfl ?_
              refine zw_push hm_250 dX12_root_85 (v := .inl (-1 : Int32)) rfl ?_
              refine zw_cv hm_250 dX12_root_86 v_12_481_12 hm_238 [.inl (-1 : Int32), .inl ix] [] rfl (zT_rt (zT_pi (zT_pi hS)) s_94 rfl) ⟨by omega, by omega⟩ rfl (h _ _ (ma_put (ma_put S 94 0 (.inl (0 : Int32))) 94 0 (.inl (0 : Int32))) _ (by omega) (by omega) (zT_pi (zT_pi hS)) rfl (fun o9 m11 hv => ?_))
              obtain ⟨rfl, h⟩ := zmv_of hv
              show ma_wp X d w 250 89 [(4, .inl ((mI S) 100 ((mI S) 112 ix.toNatClampNeg).toNatClampNeg)), (3, .inl (-1 : Int32)), (0, .inr (.inr (some 94))), (1, .inl ix), (2, .inl ob)] [] (zst S m11) _
              refine zw_push hm_250 dX12_root_89 (v := .inl ((mI S) 100 ((mI S) 112 ix.toNatClampNeg).toNatClampNeg)) rfl ?_
              exact zw_iret hm_250 dX12_root_91 (HQ _ _ h)
            · intro hc
              rw [if_neg hc] at h
              refine zw_push hm_248 dX12_numberOf_4 (v := .inl (-1 : Int32)) rfl ?_
              refine zw_goto hm_248 dX12_numberOf_5 (t := 14) rfl ?_
              refine zw_iret hm_248 dX12_numberOf_14 ?_
              show ma_wp X d w 250 81 [(3, .inl (-1 : Int32)), (0, .inr (.inr (some 94))), (1, .inl ix), (2, .inl ob)] [.inl (-1 : Int32)] (ma_put (ma_put S 94 0 (.inl (0 : Int32))) 94 0 (.inl (0 : Int32))) _
              refine zw_sto hm_250 dX12_root_81 [(4, .inl (-1 : Int32)), (3, .inl (-1 : Int32)), (0, .inr (.inr (some 94))), (1, .inl ix), (2, .inl ob)] rfl rfl rfl ?_
              refine zw_push hm_250 dX12_root_83 (v := .inr (.inr (some 94))) rfl ?_
              refine zw_push hm_250 dX12_root_84 (v := .inl ix) rfl ?_
              refine zw_push hm_250 dX12_root_85 (v := .inl (-1 : Int32)) rfl ?_
              refine zw_cv hm_250 dX12_root_86 v_12_481_12 hm_238 [.inl (-1 : Int32), .inl ix] [] rfl (zT_rt (zT_pi (zT_pi hS)) s_94 rfl) ⟨by omega, by omega⟩ rfl (h _ _ (ma_put (ma_put S 94 0 (.inl (0 : Int32))) 94 0 (.inl (0 : Int32))) _ (by omega) (by omega) (zT_pi (zT_pi hS)) rfl (fun o9 m13 hv => ?_))
              obtain ⟨rfl, h⟩ := zmv_of hv
              show ma_wp X d w 250 89 [(4, .inl (-1 : Int32)), (3, .inl (-1 : Int32)), (0, .inr (.inr (some 94))), (1, .inl ix), (2, .inl ob)] [] (zst S m13) _
              refine zw_push hm_250 dX12_root_89 (v := .inl (-1 : Int32)) rfl ?_
              exact zw_iret hm_250 dX12_root_91 (HQ _ _ h)
          · intro hc
            rw [if_neg hc] at h
            refine zw_push hm_250 dX12_root_54 (v := .inl (-1 : Int32)) rfl ?_
            refine zw_if0 hm_250 dX12_root_55 (t := 62) rfl zc0_ge (fun hc => absurd hc (by decide)) (fun _ => ?_)
            refine zw_push hm_250 dX12_root_58 (v := .inl (3 : Int32)) rfl ?_
            refine zw_goto hm_250 dX12_root_59 (t := 63) rfl ?_
            refine zw_cv hm_250 dX12_root_63 v_12_110_12 hm_167 [.inl (3 : Int32)] [] rfl (zT_rt (zT_pi hS) s_94 rfl) ⟨by omega, by omega⟩ rfl ?_
            show ma_wp X (d - 1) (w - 21) 167 0 [(0, .inr (.inr (some 94))), (1, .inl (3 : Int32))] [] (ma_put S 94 0 (.inl (0 : Int32))) _
            refine zw_push hm_167 dX12_fails_0 (v := .inr (.inr (some 94))) rfl ?_
            refine zw_push hm_167 dX12_fails_1 (v := .inl (3 : Int32)) rfl ?_
            refine zw_pf hm_167 dX12_fails_2 (zT_is (zT_pi hS) s_94) (zT_t (zT_pi hS) s_94) p_12_1_12 zk_int ?_
            refine zw_push hm_167 dX12_fails_5 (v := .inl (3 : Int32)) rfl ?_
            refine zw_if0 hm_167 dX12_fails_6 (t := 13) rfl zc0_eq (fun hc => absurd hc (by decide)) (fun _ => ?_)
            refine zw_push hm_167 dX12_fails_9 (v := .inl (1 : Int32)) rfl ?_
            refine zw_goto hm_167 dX12_fails_10 (t := 14) rfl ?_
            refine zw_bret hm_167 dX12_fails_14 (by decide) ?_
            show ma_wp X d w 250 66 [(3, .inl (-1 : Int32)), (0, .inr (.inr (some 94))), (1, .inl ix), (2, .inl ob)] [.inl (1 : Int32)] (ma_put (ma_put S 94 0 (.inl (0 : Int32))) 94 0 (.inl (3 : Int32))) _
            refine zw_if0 hm_250 dX12_root_66 (t := 71) rfl zc0_eq (fun hc => absurd hc (by decide)) (fun _ => ?_)
            refine zw_push hm_250 dX12_root_69 (v := .inl (0 : Int32)) rfl ?_
            exact zw_iret hm_250 dX12_root_70 (HQ _ _ h)
      · intro hc
        rw [if_pos (Classical.not_not.mp hc)] at h
        refine zw_push hm_250 dX12_root_20 (v := .inl (2 : Int32)) rfl ?_
        refine zw_goto hm_250 dX12_root_21 (t := 25) rfl ?_
        refine zw_cv hm_250 dX12_root_25 v_12_110_12 hm_167 [.inl (2 : Int32)] [] rfl (zT_rt hS s_94 rfl) ⟨by omega, by omega⟩ rfl ?_
        show ma_wp X (d - 1) (w - 21) 167 0 [(0, .inr (.inr (some 94))), (1, .inl (2 : Int32))] [] S _
        refine zw_push hm_167 dX12_fails_0 (v := .inr (.inr (some 94))) rfl ?_
        refine zw_push hm_167 dX12_fails_1 (v := .inl (2 : Int32)) rfl ?_
        refine zw_pf hm_167 dX12_fails_2 (zT_is hS s_94) (zT_t hS s_94) p_12_1_12 zk_int ?_
        refine zw_push hm_167 dX12_fails_5 (v := .inl (2 : Int32)) rfl ?_
        refine zw_if0 hm_167 dX12_fails_6 (t := 13) rfl zc0_eq (fun hc => absurd hc (by decide)) (fun _ => ?_)
        refine zw_push hm_167 dX12_fails_9 (v := .inl (1 : Int32)) rfl ?_
        refine zw_goto hm_167 dX12_fails_10 (t := 14) rfl ?_
        refine zw_bret hm_167 dX12_fails_14 (by decide) ?_
        show ma_wp X d w 250 28 [(0, .inr (.inr (some 94))), (1, .inl ix), (2, .inl ob)] [.inl (1 : Int32)] (ma_put S 94 0 (.inl (2 : Int32))) _
        refine zw_if0 hm_250 dX12_root_28 (t := 33) rfl zc0_eq (fun hc => absurd hc (by decide)) (fun _ => ?_)
        refine zw_push hm_250 dX12_root_31 (v := .inl (0 : Int32)) rfl ?_
        exact zw_iret hm_250 dX12_root_32 (HQ _ _ h)
theorem sp_250 {X : Nat × (Nat → Int32)} {P : Option ma_V → (Nat → Nat → Int32) → Prop} {T : Nat} {m : Nat → Nat → Int32} (ix : Int32) (ob : Int32) (hV : zV m) (r_W : zW (m 94 7) (m 98) (m 101) (m 102) (m 108)) (r_GW : zGW T (m 94 55) (m 109)) (r_GU : zGU T (m 94 46) (m 99)) (r_OW : zOw (m 99) (m 103) (m 111)) (r_DX : zDX (m 94 10) (m 99) (m 112) (m 113) (m 114) (m 94 55) (m 98) (m 101) (m 102) (m 108)) (r_GG : zGG (m 94 58) (m 94 56) (m 94 57) (m 106)) (r_HA : zHA (m 94 10) (m 94 11) (m 94 13) (m 94 14) (m 94 16) (m 94 61) (m 94 59) (m 94 60) (m 99) (m 102) (m 103) (m 111) (m 117) (m 98) (m 101) (m 108)) (r_RGc : zRG (m 94 10) (m 94 18) (m 94 64) (m 94 63) (m 99) (m 103) (m 102) (m 116)) (hpre8 : (m 94 58).toInt = 0 ∨ (m 94 10).toInt = 5) (KZ : ∀ v m₉, zV (zov wr_250 m m₉) → (zW (m 94 7) (m 98) (m 101) (m 102) (m 108)) → (zGW T (m₉ 94 55) (m₉ 109)) → (zGU T (m 94 46) (m₉ 99)) → (zOw (m₉ 99) (m 103) (m₉ 111)) → (zDX (m 94 10) (m₉ 99) (m₉ 112) (m₉ 113) (m₉ 114) (m₉ 94 55) (m 98) (m 101) (m 102) (m 108)) → (zGG (m 94 58) (m₉ 94 56) (m 94 57) (m₉ 106)) → (zHA (m 94 10) (m 94 11) (m 94 13) (m 94 14) (m 94 16) (m 94 61) (m 94 59) (m 94 60) (m₉ 99) (m 102) (m 103) (m₉ 111) (m 117) (m 98) (m 101) (m 108)) → (zRG (m 94 10) (m 94 18) (m 94 64) (m 94 63) (m₉ 99) (m 103) (m 102) (m 116)) → ((m 94 58).toInt = 0 ∨ (m 94 10).toInt = 5) → P (some (.inl v)) (zov wr_250 m m₉)) : zm X 5 111 250 0 [(0, .inr (.inr (some 94))), (1, .inl ix), (2, .inl ob)] m P := by
  have K : ∀ v m₉, zF wr_250 m m₉ → zV m₉ → (zW (m₉ 94 7) (m₉ 98) (m₉ 101) (m₉ 102) (m₉ 108)) → (zGW T (m₉ 94 55) (m₉ 109)) → (zGU T (m₉ 94 46) (m₉ 99)) → (zOw (m₉ 99) (m₉ 103) (m₉ 111)) → (zDX (m₉ 94 10) (m₉ 99) (m₉ 112) (m₉ 113) (m₉ 114) (m₉ 94 55) (m₉ 98) (m₉ 101) (m₉ 102) (m₉ 108)) → (zGG (m₉ 94 58) (m₉ 94 56) (m₉ 94 57) (m₉ 106)) → (zHA (m₉ 94 10) (m₉ 94 11) (m₉ 94 13) (m₉ 94 14) (m₉ 94 16) (m₉ 94 61) (m₉ 94 59) (m₉ 94 60) (m₉ 99) (m₉ 102) (m₉ 103) (m₉ 111) (m₉ 117) (m₉ 98) (m₉ 101) (m₉ 108)) → (zRG (m₉ 94 10) (m₉ 94 18) (m₉ 94 64) (m₉ 94 63) (m₉ 99) (m₉ 103) (m₉ 102) (m₉ 116)) → ((m₉ 94 58).toInt = 0 ∨ (m₉ 94 10).toInt = 5) → P (some (.inl v)) m₉ := by
    intro v m₉ hf z q0 q1 q2 q3 q4 q5 q6 q7 q8
    have e := zov_eq hf
    rw [e] at z ⊢
    try rw [e] at q0
    try rw [e] at q1
    try rw [e] at q2
    try rw [e] at q3
    try rw [e] at q4
    try rw [e] at q5
    try rw [e] at q6
    try rw [e] at q7
    try rw [e] at q8
    exact KZ v m₉ z q0 q1 q2 q3 q4 q5 q6 q7 q8
  refine g_250_0 ix ob ?_
  have f1 : 0 ≤ (m 94 58).toInt ∧ (m 94 58).toInt ≤ 1 := rs_94_58 (m := m) hV
  have f2 : 0 ≤ (m 94 10).toInt ∧ (m 94 10).toInt ≤ 6 := rs_94_10 (m := m) hV
  have b3 := i_bd ix
  have li4 : (0 : Int32).toInt = 0 := rfl
  refine zd (fun (h5 : ix < (0 : Int32)) => ?_) (fun (h5 : ¬ ix < (0 : Int32)) => ?_)
  · skip
    have g6 := i_lt h5
    have hV7 : zV (ma_u m 94 0 (1 : Int32)) := uf_94_0 hV
    exact K ((0 : Int32)) _ (zF_u zF_rfl rfl) hV7 r_W r_GW r_GU r_OW r_DX r_GG r_HA r_RGc (show (m 94 58).toInt = 0 ∨ (m 94 10).toInt = 5 from by omega)
  · skip
    have g8 := i_nlt h5
    have li9 : (16 : Int32).toInt = 16 := rfl
    refine zd (fun (h10 : (16 : Int32) ≤ ix) => ?_) (fun (h10 : ¬ (16 : Int32) ≤ ix) => ?_)
    · skip
      have g11 := i_le h10
      have hV12 : zV (ma_u m 94 0 (1 : Int32)) := uf_94_0 hV
      exact K ((0 : Int32)) _ (zF_u zF_rfl rfl) hV12 r_W r_GW r_GU r_OW r_DX r_GG r_HA r_RGc (show (m 94 58).toInt = 0 ∨ (m 94 10).toInt = 5 from by omega)
    · skip
      have g13 := i_nle h10
      have f14 : 0 ≤ (m 94 8).toInt ∧ (m 94 8).toInt ≤ 1 := rs_94_8 (m := m) hV
      refine zd (fun (h15 : (m 94 8) = (0 : Int32)) => ?_) (fun (h15 : ¬ (m 94 8) = (0 : Int32)) => ?_)
      · skip
        have g16 := i_eq h15
        have hV17 : zV (ma_u m 94 0 (2 : Int32)) := uf_94_0 hV
        exact K ((0 : Int32)) _ (zF_u zF_rfl rfl) hV17 r_W r_GW r_GU r_OW r_DX r_GG r_HA r_RGc (show (m 94 58).toInt = 0 ∨ (m 94 10).toInt = 5 from by omega)
      · skip
        have g18 := i_ne h15
        have b19 := i_bd ob
        have li20 : (-1 : Int32).toInt = -1 := rfl
        refine zd (fun (h21 : ob = (-1 : Int32)) => ?_) (fun (h21 : ¬ ob = (-1 : Int32)) => ?_)
        · skip
          have g22 := i_eq h21
          refine zd (fun (h23 : ob = (-1 : Int32)) => ?_) (fun (h23 : ¬ ob = (-1 : Int32)) => ?_)
          · skip
            have g24 := i_eq h23
            have hg25 : (0 ≤ ix ∧ ix.toNatClampNeg < 16) := i_ix (by omega) (by omega)
            refine ⟨hg25, ?_⟩
            first | have f26 : -1 ≤ (m 112 ix.toNatClampNeg).toInt ∧ (m 112 ix.toNatClampNeg).toInt ≤ 3099 := ra_112 (m := m) hV (k := ix.toNatClampNeg) (i_ix (n := 16) (by omega) (by omega)).2 | have b27 := i_bd (m 112 ix.toNatClampNeg)
            refine zd (fun (h28 : (0 : Int32) ≤ (m 112 ix.toNatClampNeg)) => ?_) (fun (h28 : ¬ (0 : Int32) ≤ (m 112 ix.toNatClampNeg)) => ?_)
            · skip
              have g29 := i_le h28
              have hg30 : (0 ≤ (m 112 ix.toNatClampNeg) ∧ (m 112 ix.toNatClampNeg).toNatClampNeg < 3100) := i_ix (by omega) (by omega)
              refine ⟨hg30, ?_⟩
              have hV31 : zV (ma_u m 94 0 (0 : Int32)) := uf_94_0 hV
              have hV32 : zV (ma_u (ma_u m 94 0 (0 : Int32)) 94 0 (0 : Int32)) := uf_94_0 hV31
              refine sp_238 (ix) ((-1 : Int32)) hV32 (by omega) (by omega) (by omega) (by omega) (show ((m 94 10).toInt = 2 ∨ (m 94 10).toInt = 3) → (-1 : Int32).toInt < 0 ∨ (m 99) (-1 : Int32).toNatClampNeg ≠ 0 from by first | (exact fun _ => Or.inl (by decide)) | (exfalso; omega; done) | (exfalso; contradiction; done)) r_W r_GW r_GU r_OW r_DX r_GG r_HA r_RGc (show (m 94 58).toInt = 0 ∨ (m 94 10).toInt = 5 from by omega) (fun m11 hV_m11 p0_m11 p1_m11 p2_m11 p3_m11 p4_m11 p5_m11 p6_m11 p7_m11 => zmv_n ?_)
              have p0_m11 : zGW T (m11 94 55) (m11 109) := p0_m11
              have p1_m11 : zGU T (m 94 46) (m11 99) := p1_m11
              have p2_m11 : zOw (m11 99) (m 103) (m11 111) := p2_m11
              have p3_m11 : zDX (m 94 10) (m11 99) (m11 112) (m11 113) (m11 114) (m11 94 55) (m 98) (m 101) (m 102) (m 108) := p3_m11
              have p4_m11 : zGG (m 94 58) (m11 94 56) (m 94 57) (m11 106) := p4_m11
              have p5_m11 : zHA (m 94 10) (m 94 11) (m 94 13) (m 94 14) (m 94 16) (m 94 61) (m 94 59) (m 94 60) (m11 99) (m 102) (m 103) (m11 111) (m 117) (m 98) (m 101) (m 108) := p5_m11
              have p6_m11 : zRG (m 94 10) (m 94 18) (m 94 64) (m 94 63) (m11 99) (m 103) (m 102) (m 116) := p6_m11
              have p7_m11 : (m 94 58).toInt = 0 ∨ (m 94 10).toInt = 5 := p7_m11
              first | have f33 : 0 ≤ (m 100 (m 112 ix.toNatClampNeg).toNatClampNeg).toInt ∧ (m 100 (m 112 ix.toNatClampNeg).toNatClampNeg).toInt ≤ 100000 := ra_100 (m := m) hV (k := (m 112 ix.toNatClampNeg).toNatClampNeg) (i_ix (n := 3100) (by omega) (by omega)).2 | have b34 := i_bd (m 100 (m 112 ix.toNatClampNeg).toNatClampNeg)
              exact K ((m 100 (m 112 ix.toNatClampNeg).toNatClampNeg)) _ (zF_zov (zF_u (zF_u zF_rfl rfl) rfl) ws_238_250) hV_m11 r_W p0_m11 p1_m11 p2_m11 p3_m11 p4_m11 p5_m11 p6_m11 (show (m 94 58).toInt = 0 ∨ (m 94 10).toInt = 5 from by omega)
            · skip
              have g35 := i_nle h28
              have hV36 : zV (ma_u m 94 0 (0 : Int32)) := uf_94_0 hV
              have hV37 : zV (ma_u (ma_u m 94 0 (0 : Int32)) 94 0 (0 : Int32)) := uf_94_0 hV36
              refine sp_238 (ix) ((-1 : Int32)) hV37 (by omega) (by omega) (by omega) (by omega) (show ((m 94 10).toInt = 2 ∨ (m 94 10).toInt = 3) → (-1 : Int32).toInt < 0 ∨ (m 99) (-1 : Int32).toNatClampNeg ≠ 0 from by first | (exact fun _ => Or.inl (by decide)) | (exfalso; omega; done) | (exfalso; contradiction; done)) r_W r_GW r_GU r_OW r_DX r_GG r_HA r_RGc (show (m 94 58).toInt = 0 ∨ (m 94 10).toInt = 5 from by omega) (fun m13 hV_m13 p0_m13 p1_m13 p2_m13 p3_m13 p4_m13 p5_m13 p6_m13 p7_m13 => zmv_n ?_)
              have p0_m13 : zGW T (m13 94 55) (m13 109) := p0_m13
              have p1_m13 : zGU T (m 94 46) (m13 99) := p1_m13
              have p2_m13 : zOw (m13 99) (m 103) (m13 111) := p2_m13
              have p3_m13 : zDX (m 94 10) (m13 99) (m13 112) (m13 113) (m13 114) (m13 94 55) (m 98) (m 101) (m 102) (m 108) := p3_m13
              have p4_m13 : zGG (m 94 58) (m13 94 56) (m 94 57) (m13 106) := p4_m13
              have p5_m13 : zHA (m 94 10) (m 94 11) (m 94 13) (m 94 14) (m 94 16) (m 94 61) (m 94 59) (m 94 60) (m13 99) (m 102) (m 103) (m13 111) (m 117) (m 98) (m 101) (m 108) := p5_m13
              have p6_m13 : zRG (m 94 10) (m 94 18) (m 94 64) (m 94 63) (m13 99) (m 103) (m 102) (m 116) := p6_m13
              have p7_m13 : (m 94 58).toInt = 0 ∨ (m 94 10).toInt = 5 := p7_m13
              exact K ((-1 : Int32)) _ (zF_zov (zF_u (zF_u zF_rfl rfl) rfl) ws_238_250) hV_m13 r_W p0_m13 p1_m13 p2_m13 p3_m13 p4_m13 p5_m13 p6_m13 (show (m 94 58).toInt = 0 ∨ (m 94 10).toInt = 5 from by omega)
          · skip
            have g38 := i_ne h23
            have hV39 : zV (ma_u m 94 0 (0 : Int32)) := uf_94_0 hV
            have hV40 : zV (ma_u (ma_u m 94 0 (0 : Int32)) 94 0 (3 : Int32)) := uf_94_0 hV39
            exact K ((0 : Int32)) _ (zF_u (zF_u zF_rfl rfl) rfl) hV40 r_W r_GW r_GU r_OW r_DX r_GG r_HA r_RGc (show (m 94 58).toInt = 0 ∨ (m 94 10).toInt = 5 from by omega)
        · skip
          have g41 := i_ne h21
          have hV42 : zV (ma_u m 94 0 (0 : Int32)) := uf_94_0 hV
          refine sp_245 (ob) hV42 r_W r_DX (fun v2 m1 hV_m1 p0_m1 p1_m1 => zmi_n ?_)
          have p0_m1 : -1 ≤ v2.toInt ∧ v2.toInt ≤ 3099 := p0_m1
          have p1_m1 : v2.toInt < 0 ∨ (m 99) v2.toNatClampNeg ≠ 0 := p1_m1
          refine zd (fun (h43 : ob = (-1 : Int32)) => ?_) (fun (h43 : ¬ ob = (-1 : Int32)) => ?_)
          · skip
            have g44 := i_eq h43
            have hg45 : (0 ≤ ix ∧ ix.toNatClampNeg < 16) := i_ix (by omega) (by omega)
            refine ⟨hg45, ?_⟩
            first | have f46 : -1 ≤ (m 112 ix.toNatClampNeg).toInt ∧ (m 112 ix.toNatClampNeg).toInt ≤ 3099 := ra_112 (m := m) hV (k := ix.toNatClampNeg) (i_ix (n := 16) (by omega) (by omega)).2 | have b47 := i_bd (m 112 ix.toNatClampNeg)
            refine zd (fun (h48 : (0 : Int32) ≤ (m 112 ix.toNatClampNeg)) => ?_) (fun (h48 : ¬ (0 : Int32) ≤ (m 112 ix.toNatClampNeg)) => ?_)
            · skip
              have g49 := i_le h48
              have hg50 : (0 ≤ (m 112 ix.toNatClampNeg) ∧ (m 112 ix.toNatClampNeg).toNatClampNeg < 3100) := i_ix (by omega) (by omega)
              refine ⟨hg50, ?_⟩
              have b51 := i_bd v2
              have hV52 : zV (ma_u (zov wr_245 (ma_u m 94 0 (0 : Int32)) m1) 94 0 (0 : Int32)) := uf_94_0 hV_m1
              refine sp_238 (ix) (v2) hV52 (by omega) (by omega) (by omega) (by omega) (show ((m 94 10).toInt = 2 ∨ (m 94 10).toInt = 3) → v2.toInt < 0 ∨ (m 99) v2.toNatClampNeg ≠ 0 from by first | (exact fun _ => p1_m1) | (exact fun _ => Or.inl (by decide)) | (exfalso; omega; done) | (exfalso; contradiction; done)) r_W r_GW r_GU r_OW r_DX r_GG r_HA r_RGc (show (m 94 58).toInt = 0 ∨ (m 94 10).toInt = 5 from by omega) (fun m3 hV_m3 p0_m3 p1_m3 p2_m3 p3_m3 p4_m3 p5_m3 p6_m3 p7_m3 => zmv_n ?_)
              have p0_m3 : zGW T (m3 94 55) (m3 109) := p0_m3
              have p1_m3 : zGU T (m 94 46) (m3 99) := p1_m3
              have p2_m3 : zOw (m3 99) (m 103) (m3 111) := p2_m3
              have p3_m3 : zDX (m 94 10) (m3 99) (m3 112) (m3 113) (m3 114) (m3 94 55) (m 98) (m 101) (m 102) (m 108) := p3_m3
              have p4_m3 : zGG (m 94 58) (m3 94 56) (m 94 57) (m3 106) := p4_m3
              have p5_m3 : zHA (m 94 10) (m 94 11) (m 94 13) (m 94 14) (m 94 16) (m 94 61) (m 94 59) (m 94 60) (m3 99) (m 102) (m 103) (m3 111) (m 117) (m 98) (m 101) (m 108) := p5_m3
              have p6_m3 : zRG (m 94 10) (m 94 18) (m 94 64) (m 94 63) (m3 99) (m 103) (m 102) (m 116) := p6_m3
              have p7_m3 : (m 94 58).toInt = 0 ∨ (m 94 10).toInt = 5 := p7_m3
              first | have f53 : 0 ≤ (m 100 (m 112 ix.toNatClampNeg).toNatClampNeg).toInt ∧ (m 100 (m 112 ix.toNatClampNeg).toNatClampNeg).toInt ≤ 100000 := ra_100 (m := m) hV (k := (m 112 ix.toNatClampNeg).toNatClampNeg) (i_ix (n := 3100) (by omega) (by omega)).2 | have b54 := i_bd (m 100 (m 112 ix.toNatClampNeg).toNatClampNeg)
              exact K ((m 100 (m 112 ix.toNatClampNeg).toNatClampNeg)) _ (zF_zov (zF_u (zF_zov (zF_u zF_rfl rfl) ws_245_250) rfl) ws_238_250) hV_m3 r_W p0_m3 p1_m3 p2_m3 p3_m3 p4_m3 p5_m3 p6_m3 (show (m 94 58).toInt = 0 ∨ (m 94 10).toInt = 5 from by omega)
            · skip
              have g55 := i_nle h48
              have b56 := i_bd v2
              have hV57 : zV (ma_u (zov wr_245 (ma_u m 94 0 (0 : Int32)) m1) 94 0 (0 : Int32)) := uf_94_0 hV_m1
              refine sp_238 (ix) (v2) hV57 (by omega) (by omega) (by omega) (by omega) (show ((m 94 10).toInt = 2 ∨ (m 94 10).toInt = 3) → v2.toInt < 0 ∨ (m 99) v2.toNatClampNeg ≠ 0 from by first | (exact fun _ => p1_m1) | (exact fun _ => Or.inl (by decide)) | (exfalso; omega; done) | (exfalso; contradiction; done)) r_W r_GW r_GU r_OW r_DX r_GG r_HA r_RGc (show (m 94 58).toInt = 0 ∨ (m 94 10).toInt = 5 from by omega) (fun m5 hV_m5 p0_m5 p1_m5 p2_m5 p3_m5 p4_m5 p5_m5 p6_m5 p7_m5 => zmv_n ?_)
              have p0_m5 : zGW T (m5 94 55) (m5 109) := p0_m5
              have p1_m5 : zGU T (m 94 46) (m5 99) := p1_m5
              have p2_m5 : zOw (m5 99) (m 103) (m5 111) := p2_m5
              have p3_m5 : zDX (m 94 10) (m5 99) (m5 112) (m5 113) (m5 114) (m5 94 55) (m 98) (m 101) (m 102) (m 108) := p3_m5
              have p4_m5 : zGG (m 94 58) (m5 94 56) (m 94 57) (m5 106) := p4_m5
              have p5_m5 : zHA (m 94 10) (m 94 11) (m 94 13) (m 94 14) (m 94 16) (m 94 61) (m 94 59) (m 94 60) (m5 99) (m 102) (m 103) (m5 111) (m 117) (m 98) (m 101) (m 108) := p5_m5
              have p6_m5 : zRG (m 94 10) (m 94 18) (m 94 64) (m 94 63) (m5 99) (m 103) (m 102) (m 116) := p6_m5
              have p7_m5 : (m 94 58).toInt = 0 ∨ (m 94 10).toInt = 5 := p7_m5
              exact K ((-1 : Int32)) _ (zF_zov (zF_u (zF_zov (zF_u zF_rfl rfl) ws_245_250) rfl) ws_238_250) hV_m5 r_W p0_m5 p1_m5 p2_m5 p3_m5 p4_m5 p5_m5 p6_m5 (show (m 94 58).toInt = 0 ∨ (m 94 10).toInt = 5 from by omega)
          · skip
            have g58 := i_ne h43
            have b59 := i_bd v2
            refine zd (fun (h60 : (0 : Int32) ≤ v2) => ?_) (fun (h60 : ¬ (0 : Int32) ≤ v2) => ?_)
            · skip
              have g61 := i_le h60
              have hg62 : (0 ≤ ix ∧ ix.toNatClampNeg < 16) := i_ix (by omega) (by omega)
              refine ⟨hg62, ?_⟩
              first | have f63 : -1 ≤ (m 112 ix.toNatClampNeg).toInt ∧ (m 112 ix.toNatClampNeg).toInt ≤ 3099 := ra_112 (m := m) hV (k := ix.toNatClampNeg) (i_ix (n := 16) (by omega) (by omega)).2 | have b64 := i_bd (m 112 ix.toNatClampNeg)
              refine zd (fun (h65 : (0 : Int32) ≤ (m 112 ix.toNatClampNeg)) => ?_) (fun (h65 : ¬ (0 : Int32) ≤ (m 112 ix.toNatClampNeg)) => ?_)
              · skip
                have g66 := i_le h65
                have hg67 : (0 ≤ (m 112 ix.toNatClampNeg) ∧ (m 112 ix.toNatClampNeg).toNatClampNeg < 3100) := i_ix (by omega) (by omega)
                refine ⟨hg67, ?_⟩
                have hV68 : zV (ma_u (zov wr_245 (ma_u m 94 0 (0 : Int32)) m1) 94 0 (0 : Int32)) := uf_94_0 hV_m1
                refine sp_238 (ix) (v2) hV68 (by omega) (by omega) (by omega) (by omega) (show ((m 94 10).toInt = 2 ∨ (m 94 10).toInt = 3) → v2.toInt < 0 ∨ (m 99) v2.toNatClampNeg ≠ 0 from by first | (exact fun _ => p1_m1) | (exact fun _ => Or.inl (by decide)) | (exfalso; omega; done) | (exfalso; contradiction; done)) r_W r_GW r_GU r_OW r_DX r_GG r_HA r_RGc (show (m 94 58).toInt = 0 ∨ (m 94 10).toInt = 5 from by omega) (fun m7 hV_m7 p0_m7 p1_m7 p2_m7 p3_m7 p4_m7 p5_m7 p6_m7 p7_m7 => zmv_n ?_)
                have p0_m7 : zGW T (m7 94 55) (m7 109) := p0_m7
                have p1_m7 : zGU T (m 94 46) (m7 99) := p1_m7
                have p2_m7 : zOw (m7 99) (m 103) (m7 111) := p2_m7
                have p3_m7 : zDX (m 94 10) (m7 99) (m7 112) (m7 113) (m7 114) (m7 94 55) (m 98) (m 101) (m 102) (m 108) := p3_m7
                have p4_m7 : zGG (m 94 58) (m7 94 56) (m 94 57) (m7 106) := p4_m7
                have p5_m7 : zHA (m 94 10) (m 94 11) (m 94 13) (m 94 14) (m 94 16) (m 94 61) (m 94 59) (m 94 60) (m7 99) (m 102) (m 103) (m7 111) (m 117) (m 98) (m 101) (m 108) := p5_m7
                have p6_m7 : zRG (m 94 10) (m 94 18) (m 94 64) (m 94 63) (m7 99) (m 103) (m 102) (m 116) := p6_m7
                have p7_m7 : (m 94 58).toInt = 0 ∨ (m 94 10).toInt = 5 := p7_m7
                first | have f69 : 0 ≤ (m 100 (m 112 ix.toNatClampNeg).toNatClampNeg).toInt ∧ (m 100 (m 112 ix.toNatClampNeg).toNatClampNeg).toInt ≤ 100000 := ra_100 (m := m) hV (k := (m 112 ix.toNatClampNeg).toNatClampNeg) (i_ix (n := 3100) (by omega) (by omega)).2 | have b70 := i_bd (m 100 (m 112 ix.toNatClampNeg).toNatClampNeg)
                exact K ((m 100 (m 112 ix.toNatClampNeg).toNatClampNeg)) _ (zF_zov (zF_u (zF_zov (zF_u zF_rfl rfl) ws_245_250) rfl) ws_238_250) hV_m7 r_W p0_m7 p1_m7 p2_m7 p3_m7 p4_m7 p5_m7 p6_m7 (show (m 94 58).toInt = 0 ∨ (m 94 10).toInt = 5 from by omega)
              · skip
                have g71 := i_nle h65
                have hV72 : zV (ma_u (zov wr_245 (ma_u m 94 0 (0 : Int32)) m1) 94 0 (0 : Int32)) := uf_94_0 hV_m1
                refine sp_238 (ix) (v2) hV72 (by omega) (by omega) (by omega) (by omega) (show ((m 94 10).toInt = 2 ∨ (m 94 10).toInt = 3) → v2.toInt < 0 ∨ (m 99) v2.toNatClampNeg ≠ 0 from by first | (exact fun _ => p1_m1) | (exact fun _ => Or.inl (by decide)) | (exfalso; omega; done) | (exfalso; contradiction; done)) r_W r_GW r_GU r_OW r_DX r_GG r_HA r_RGc (show (m 94 58).toInt = 0 ∨ (m 94 10).toInt = 5 from by omega) (fun m9 hV_m9 p0_m9 p1_m9 p2_m9 p3_m9 p4_m9 p5_m9 p6_m9 p7_m9 => zmv_n ?_)
                have p0_m9 : zGW T (m9 94 55) (m9 109) := p0_m9
                have p1_m9 : zGU T (m 94 46) (m9 99) := p1_m9
                have p2_m9 : zOw (m9 99) (m 103) (m9 111) := p2_m9
                have p3_m9 : zDX (m 94 10) (m9 99) (m9 112) (m9 113) (m9 114) (m9 94 55) (m 98) (m 101) (m 102) (m 108) := p3_m9
                have p4_m9 : zGG (m 94 58) (m9 94 56) (m 94 57) (m9 106) := p4_m9
                have p5_m9 : zHA (m 94 10) (m 94 11) (m 94 13) (m 94 14) (m 94 16) (m 94 61) (m 94 59) (m 94 60) (m9 99) (m 102) (m 103) (m9 111) (m 117) (m 98) (m 101) (m 108) := p5_m9
                have p6_m9 : zRG (m 94 10) (m 94 18) (m 94 64) (m 94 63) (m9 99) (m 103) (m 102) (m 116) := p6_m9
                have p7_m9 : (m 94 58).toInt = 0 ∨ (m 94 10).toInt = 5 := p7_m9
                exact K ((-1 : Int32)) _ (zF_zov (zF_u (zF_zov (zF_u zF_rfl rfl) ws_245_250) rfl) ws_238_250) hV_m9 r_W p0_m9 p1_m9 p2_m9 p3_m9 p4_m9 p5_m9 p6_m9 (show (m 94 58).toInt = 0 ∨ (m 94 10).toInt = 5 from by omega)
            · skip
              have g73 := i_nle h60
              have hV74 : zV (ma_u (zov wr_245 (ma_u m 94 0 (0 : Int32)) m1) 94 0 (3 : Int32)) := uf_94_0 hV_m1
              exact K ((0 : Int32)) _ (zF_u (zF_zov (zF_u zF_rfl rfl) ws_245_250) rfl) hV74 r_W r_GW r_GU r_OW r_DX r_GG r_HA r_RGc (show (m 94 58).toInt = 0 ∨ (m 94 10).toInt = 5 from by omega)

/-! from 94.451 -/
/-! the reference (written by wip/tools/gen94m.py) -/
set_option maxRecDepth 100000 in
theorem hm_251 : ma_md 251 = some (12, yX12_weak, cX12_weak, 5, (some (FieldType.int))) := rfl
theorem dX12_weak_0 : decode cX12_weak 0 = .ok (.aload_n 0, 1) := by decide +kernel
theorem dX12_weak_1 : decode cX12_weak 1 = .ok (.aload_n 0, 1) := by decide +kernel
theorem dX12_weak_2 : decode cX12_weak 2 = .ok (.iload_n 1, 1) := by decide +kernel
theorem dX12_weak_3 : decode cX12_weak 3 = .ok (.invokevirtual 493, 3) := by decide +kernel
theorem dX12_weak_6 : decode cX12_weak 6 = .ok (.ifCond .ne 7, 3) := by decide +kernel
theorem dX12_weak_9 : decode cX12_weak 9 = .ok (.iconst 1, 1) := by decide +kernel
theorem dX12_weak_10 : decode cX12_weak 10 = .ok (.goto 15, 3) := by decide +kernel
theorem dX12_weak_25 : decode cX12_weak 25 = .ok (.invokevirtual 110, 3) := by decide +kernel
theorem dX12_weak_28 : decode cX12_weak 28 = .ok (.ifCond .eq 5, 3) := by decide +kernel
theorem dX12_weak_31 : decode cX12_weak 31 = .ok (.iconst 0, 1) := by decide +kernel
theorem dX12_weak_32 : decode cX12_weak 32 = .ok (.ireturn, 1) := by decide +kernel
theorem dX12_weak_13 : decode cX12_weak 13 = .ok (.aload_n 0, 1) := by decide +kernel
theorem dX12_weak_24 : decode cX12_weak 24 = .ok (.iconst 0, 1) := by decide +kernel
theorem dX12_weak_33 : decode cX12_weak 33 = .ok (.iload_n 2, 1) := by decide +kernel
theorem dX12_weak_34 : decode cX12_weak 34 = .ok (.iconst (-1), 1) := by decide +kernel
theorem dX12_weak_42 : decode cX12_weak 42 = .ok (.aload_n 0, 1) := by decide +kernel
theorem dX12_weak_43 : decode cX12_weak 43 = .ok (.iload_n 2, 1) := by decide +kernel
theorem dX12_weak_44 : decode cX12_weak 44 = .ok (.invokevirtual 499, 3) := by decide +kernel
theorem dX12_weak_47 : decode cX12_weak 47 = .ok (.istore_n 3, 1) := by decide +kernel
theorem dX12_weak_48 : decode cX12_weak 48 = .ok (.aload_n 0, 1) := by decide +kernel
theorem dX12_weak_49 : decode cX12_weak 49 = .ok (.iload_n 2, 1) := by decide +kernel
theorem dX12_weak_50 : decode cX12_weak 50 = .ok (.iconst (-1), 1) := by decide +kernel
theorem dX12_weak_62 : decode cX12_weak 62 = .ok (.iconst 0, 1) := by decide +kernel
theorem dX12_weak_63 : decode cX12_weak 63 = .ok (.invokevirtual 110, 3) := by decide +kernel
theorem dX12_weak_66 : decode cX12_weak 66 = .ok (.ifCond .eq 5, 3) := by decide +kernel
theorem dX12_weak_71 : decode cX12_weak 71 = .ok (.aload_n 0, 1) := by decide +kernel
theorem dX12_weak_72 : decode cX12_weak 72 = .ok (.aload_n 0, 1) := by decide +kernel
theorem dX12_weak_76 : decode cX12_weak 76 = .ok (.iload_n 1, 1) := by decide +kernel
theorem dX12_weak_78 : decode cX12_weak 78 = .ok (.invokevirtual 502, 3) := by decide +kernel
theorem dX12_weak_81 : decode cX12_weak 81 = .ok (.istore 4, 2) := by decide +kernel
theorem dX12_weak_83 : decode cX12_weak 83 = .ok (.aload_n 0, 1) := by decide +kernel
theorem dX12_weak_87 : decode cX12_weak 87 = .ok (.iload_n 1, 1) := by decide +kernel
theorem dX12_weak_88 : decode cX12_weak 88 = .ok (.iload_n 3, 1) := by decide +kernel
theorem dX12_weak_90 : decode cX12_weak 90 = .ok (.iload 4, 2) := by decide +kernel
theorem dX12_weak_92 : decode cX12_weak 92 = .ok (.ireturn, 1) := by decide +kernel
theorem dX12_weak_89 : decode cX12_weak 89 = .ok (.iastore, 1) := by decide +kernel
theorem dX12_weak_84 : decode cX12_weak 84 = .ok (.getfield 71, 3) := by decide +kernel
theorem dX12_weak_77 : decode cX12_weak 77 = .ok (.iaload, 1) := by decide +kernel
theorem dX12_weak_73 : decode cX12_weak 73 = .ok (.getfield 71, 3) := by decide +kernel
theorem dX12_weak_54 : decode cX12_weak 54 = .ok (.iload_n 3, 1) := by decide +kernel
theorem dX12_weak_58 : decode cX12_weak 58 = .ok (.iconst 3, 1) := by decide +kernel
theorem dX12_weak_59 : decode cX12_weak 59 = .ok (.goto 4, 3) := by decide +kernel
theorem dX12_weak_69 : decode cX12_weak 69 = .ok (.iconst 0, 1) := by decide +kernel
theorem dX12_weak_70 : decode cX12_weak 70 = .ok (.ireturn, 1) := by decide +kernel
theorem dX12_weak_55 : decode cX12_weak 55 = .ok (.ifCond .ge 7, 3) := by decide +kernel
theorem dX12_weak_51 : decode cX12_weak 51 = .ok (.if_icmp .eq 11, 3) := by decide +kernel
theorem dX12_weak_38 : decode cX12_weak 38 = .ok (.iconst (-1), 1) := by decide +kernel
theorem dX12_weak_39 : decode cX12_weak 39 = .ok (.goto 8, 3) := by decide +kernel
theorem dX12_weak_35 : decode cX12_weak 35 = .ok (.if_icmp .ne 7, 3) := by decide +kernel
theorem dX12_weak_20 : decode cX12_weak 20 = .ok (.iconst 2, 1) := by decide +kernel
theorem dX12_weak_21 : decode cX12_weak 21 = .ok (.goto 4, 3) := by decide +kernel
theorem dX12_weak_17 : decode cX12_weak 17 = .ok (.ifCond .ne 7, 3) := by decide +kernel
theorem dX12_weak_14 : decode cX12_weak 14 = .ok (.getfield 237, 3) := by decide +kernel
def wr_251 (c k : Nat) : Bool := Nat.beq c 110 || Nat.beq c 113 || Nat.beq c 118 || (Nat.beq c 94 && (Nat.beq k 0 || Nat.beq k 73))
theorem ws_245_251 : ∀ c k, wr_245 c k = true → wr_251 c k = true := by
  intro c k h
  simp only [wr_245, Bool.or_eq_true, Bool.and_eq_true, Nat.beq_eq] at h
  rcases h with (rfl | rfl) | ⟨rfl, rfl⟩ <;> rfl
theorem g_251_0 {X : Nat × (Nat → Int32)} {m : Nat → Nat → Int32} {P : Option ma_V → (Nat → Nat → Int32) → Prop} (ix : Int32) (ob : Int32) (h : if ix < 0 then (P (some (.inl (0 : Int32))) (ma_u m 94 0 (1 : Int32))) else (if (16 : Int32) ≤ ix then (P (some (.inl (0 : Int32))) (ma_u m 94 0 (1 : Int32))) else (if (m 94 8) = 0 then (P (some (.inl (0 : Int32))) (ma_u m 94 0 (2 : Int32))) else (if ob = (-1 : Int32) then (if ob = (-1 : Int32) then ((0 ≤ ix ∧ ix.toNatClampNeg < 16) ∧ (if 0 ≤ (m 113 ix.toNatClampNeg) then ((0 ≤ (m 113 ix.toNatClampNeg) ∧ (m 113 ix.toNatClampNeg).toNatClampNeg < 3100) ∧ ((0 ≤ ix ∧ ix.toNatClampNeg < 16) ∧ (P (some (.inl (m 100 (m 113 ix.toNatClampNeg).toNatClampNeg))) (ma_u (ma_u (ma_u m 94 0 (0 : Int32)) 94 0 (0 : Int32)) 113 ix.toNatClampNeg (-1 : Int32))))) else ((0 ≤ ix ∧ ix.toNatClampNeg < 16) ∧ (P (some (.inl (-1 : Int32))) (ma_u (ma_u (ma_u m 94 0 (0 : Int32)) 94 0 (0 : Int32)) 113 ix.toNatClampNeg (-1 : Int32)))))) else (P (some (.inl (0 : Int32))) (ma_u (ma_u m 94 0 (0 : Int32)) 94 0 (3 : Int32)))) else (zm X 4 87 245 0 [(0, .inr (.inr (some 94))), (1, .inl ob)] (ma_u m 94 0 (0 : Int32)) (zmi (fun v2 m1 => if ob = (-1 : Int32) then ((0 ≤ ix ∧ ix.toNatClampNeg < 16) ∧ (if 0 ≤ (m1 113 ix.toNatClampNeg) then ((0 ≤ (m1 113 ix.toNatClampNeg) ∧ (m1 113 ix.toNatClampNeg).toNatClampNeg < 3100) ∧ ((0 ≤ ix ∧ ix.toNatClampNeg < 16) ∧ (P (some (.inl (m1 100 (m1 113 ix.toNatClampNeg).toNatClampNeg))) (ma_u (ma_u m1 94 0 (0 : Int32)) 113 ix.toNatClampNeg v2)))) else ((0 ≤ ix ∧ ix.toNatClampNeg < 16) ∧ (P (some (.inl (-1 : Int32))) (ma_u (ma_u m1 94 0 (0 : Int32)) 113 ix.toNatClampNeg v2))))) else (if 0 ≤ v2 then ((0 ≤ ix ∧ ix.toNatClampNeg < 16) ∧ (if 0 ≤ (m1 113 ix.toNatClampNeg) then ((0 ≤ (m1 113 ix.toNatClampNeg) ∧ (m1 113 ix.toNatClampNeg).toNatClampNeg < 3100) ∧ ((0 ≤ ix ∧ ix.toNatClampNeg < 16) ∧ (P (some (.inl (m1 100 (m1 113 ix.toNatClampNeg).toNatClampNeg))) (ma_u (ma_u m1 94 0 (0 : Int32)) 113 ix.toNatClampNeg v2)))) else ((0 ≤ ix ∧ ix.toNatClampNeg < 16) ∧ (P (some (.inl (-1 : Int32))) (ma_u (ma_u m1 94 0 (0 : Int32)) 113 ix.toNatClampNeg v2))))) else (P (some (.inl (0 : Int32))) (ma_u m1 94 0 (3 : Int32))))))))))) : zm X 5 109 251 0 [(0, .inr (.inr (some 94))), (1, .inl ix), (2, .inl ob)] m P := by
  intro d w S Q hd hw hS hm HQ
  subst hm
  refine zw_push hm_251 dX12_weak_0 (v := .inr (.inr (some 94))) rfl ?_
  refine zw_push hm_251 dX12_weak_1 (v := .inr (.inr (some 94))) rfl ?_
  refine zw_push hm_251 dX12_weak_2 (v := .inl ix) rfl ?_
  refine zw_cv hm_251 dX12_weak_3 v_12_493_12 hm_182 [.inl ix] [.inr (.inr (some 94))] rfl (zT_rt hS s_94 rfl) ⟨by omega, by omega⟩ rfl ?_
  show ma_wp X (d - 1) (w - 21) 182 0 [(0, .inr (.inr (some 94))), (1, .inl ix)] [] S _
  refine zw_push hm_182 dX12_isNamed_0 (v := .inl ix) rfl ?_
  refine zw_if0 hm_182 dX12_isNamed_1 (t := 14) rfl zc0_lt ?_ ?_
  · intro hc
    rw [if_pos hc] at h
    refine zw_push hm_182 dX12_isNamed_14 (v := .inl (0 : Int32)) rfl ?_
    refine zw_bret hm_182 dX12_isNamed_15 (by decide) ?_
    show ma_wp X d w 251 6 [(0, .inr (.inr (some 94))), (1, .inl ix), (2, .inl ob)] [.inl (0 : Int32), .inr (.inr (some 94))] S _
    refine zw_if0 hm_251 dX12_weak_6 (t := 13) rfl zc0_ne (fun hc => absurd hc (by decide)) (fun _ => ?_)
    refine zw_push hm_251 dX12_weak_9 (v := .inl (1 : Int32)) rfl ?_
    refine zw_goto hm_251 dX12_weak_10 (t := 25) rfl ?_
    refine zw_cv hm_251 dX12_weak_25 v_12_110_12 hm_167 [.inl (1 : Int32)] [] rfl (zT_rt hS s_94 rfl) ⟨by omega, by omega⟩ rfl ?_
    show ma_wp X (d - 1) (w - 21) 167 0 [(0, .inr (.inr (some 94))), (1, .inl (1 : Int32))] [] S _
    refine zw_push hm_167 dX12_fails_0 (v := .inr (.inr (some 94))) rfl ?_
    refine zw_push hm_167 dX12_fails_1 (v := .inl (1 : Int32)) rfl ?_
    refine zw_pf hm_167 dX12_fails_2 (zT_is hS s_94) (zT_t hS s_94) p_12_1_12 zk_int ?_
    refine zw_push hm_167 dX12_fails_5 (v := .inl (1 : Int32)) rfl ?_
    refine zw_if0 hm_167 dX12_fails_6 (t := 13) rfl zc0_eq (fun hc => absurd hc (by decide)) (fun _ => ?_)
    refine zw_push hm_167 dX12_fails_9 (v := .inl (1 : Int32)) rfl ?_
    refine zw_goto hm_167 dX12_fails_10 (t := 14) rfl ?_
    refine zw_bret hm_167 dX12_fails_14 (by decide) ?_
    show ma_wp X d w 251 28 [(0, .inr (.inr (some 94))), (1, .inl ix), (2, .inl ob)] [.inl (1 : Int32)] (ma_put S 94 0 (.inl (1 : Int32))) _
    refine zw_if0 hm_251 dX12_weak_28 (t := 33) rfl zc0_eq (fun hc => absurd hc (by decide)) (fun _ => ?_)
    refine zw_push hm_251 dX12_weak_31 (v := .inl (0 : Int32)) rfl ?_
    exact zw_iret hm_251 dX12_weak_32 (HQ _ _ h)
  · intro hc
    rw [if_neg hc] at h
    refine zw_push hm_182 dX12_isNamed_4 (v := .inl ix) rfl ?_
    refine zw_push hm_182 dX12_isNamed_5 (v := .inl (16 : Int32)) rfl ?_
    refine zw_if2 hm_182 dX12_isNamed_7 (t := 14) rfl zc2_ge ?_ ?_
    · intro hc
      rw [if_pos hc] at h
      refine zw_push hm_182 dX12_isNamed_14 (v := .inl (0 : Int32)) rfl ?_
      refine zw_bret hm_182 dX12_isNamed_15 (by decide) ?_
      show ma_wp X d w 251 6 [(0, .inr (.inr (some 94))), (1, .inl ix), (2, .inl ob)] [.inl (0 : Int32), .inr (.inr (some 94))] S _
      refine zw_if0 hm_251 dX12_weak_6 (t := 13) rfl zc0_ne (fun hc => absurd hc (by decide)) (fun _ => ?_)
      refine zw_push hm_251 dX12_weak_9 (v := .inl (1 : Int32)) rfl ?_
      refine zw_goto hm_251 dX12_weak_10 (t := 25) rfl ?_
      refine zw_cv hm_251 dX12_weak_25 v_12_110_12 hm_167 [.inl (1 : Int32)] [] rfl (zT_rt hS s_94 rfl) ⟨by omega, by omega⟩ rfl ?_
      show ma_wp X (d - 1) (w - 21) 167 0 [(0, .inr (.inr (some 94))), (1, .inl (1 : Int32))] [] S _
      refine zw_push hm_167 dX12_fails_0 (v := .inr (.inr (some 94))) rfl ?_
      refine zw_push hm_167 dX12_fails_1 (v := .inl (1 : Int32)) rfl ?_
      refine zw_pf hm_167 dX12_fails_2 (zT_is hS s_94) (zT_t hS s_94) p_12_1_12 zk_int ?_
      refine zw_push hm_167 dX12_fails_5 (v := .inl (1 : Int32)) rfl ?_
      refine zw_if0 hm_167 dX12_fails_6 (t := 13) rfl zc0_eq (fun hc => absurd hc (by decide)) (fun _ => ?_)
      refine zw_push hm_167 dX12_fails_9 (v := .inl (1 : Int32)) rfl ?_
      refine zw_goto hm_167 dX12_fails_10 (t := 14) rfl ?_
      refine zw_bret hm_167 dX12_fails_14 (by decide) ?_
      show ma_wp X d w 251 28 [(0, .inr (.inr (some 94))), (1, .inl ix), (2, .inl ob)] [.inl (1 : Int32)] (ma_put S 94 0 (.inl (1 : Int32))) _
      refine zw_if0 hm_251 dX12_weak_28 (t := 33) rfl zc0_eq (fun hc => absurd hc (by decide)) (fun _ => ?_)
      refine zw_push hm_251 dX12_weak_31 (v := .inl (0 : Int32)) rfl ?_
      exact zw_iret hm_251 dX12_weak_32 (HQ _ _ h)
    · intro hc
      rw [if_neg hc] at h
      refine zw_push hm_182 dX12_isNamed_10 (v := .inl (1 : Int32)) rfl ?_
      refine zw_goto hm_182 dX12_isNamed_11 (t := 15) rfl ?_
      refine zw_bret hm_182 dX12_isNamed_15 (by decide) ?_
      show ma_wp X d w 251 6 [(0, .inr (.inr (some 94))), (1, .inl ix), (2, .inl ob)] [.inl (1 : Int32), .inr (.inr (some 94))] S _
      refine zw_if0 hm_251 dX12_weak_6 (t := 13) rfl zc0_ne (fun _ => ?_) (fun hc => absurd (by decide) hc)
      refine zw_push hm_251 dX12_weak_13 (v := .inr (.inr (some 94))) rfl ?_
      refine zw_gf hm_251 dX12_weak_14 (v := .inl ((mI S) 94 8)) (zT_is hS s_94) (zT_t hS s_94) rfl f_12_237_12 rfl ?_
      refine zw_if0 hm_251 dX12_weak_17 (t := 24) rfl zc0_ne ?_ ?_
      · intro hc
        rw [if_neg hc] at h
        refine zw_push hm_251 dX12_weak_24 (v := .inl (0 : Int32)) rfl ?_
        refine zw_cv hm_251 dX12_weak_25 v_12_110_12 hm_167 [.inl (0 : Int32)] [] rfl (zT_rt hS s_94 rfl) ⟨by omega, by omega⟩ rfl ?_
        show ma_wp X (d - 1) (w - 21) 167 0 [(0, .inr (.inr (some 94))), (1, .inl (0 : Int32))] [] S _
        refine zw_push hm_167 dX12_fails_0 (v := .inr (.inr (some 94))) rfl ?_
        refine zw_push hm_167 dX12_fails_1 (v := .inl (0 : Int32)) rfl ?_
        refine zw_pf hm_167 dX12_fails_2 (zT_is hS s_94) (zT_t hS s_94) p_12_1_12 zk_int ?_
        refine zw_push hm_167 dX12_fails_5 (v := .inl (0 : Int32)) rfl ?_
        refine zw_if0 hm_167 dX12_fails_6 (t := 13) rfl zc0_eq (fun _ => ?_) (fun hc => absurd (by decide) hc)
        refine zw_push hm_167 dX12_fails_13 (v := .inl (0 : Int32)) rfl ?_
        refine zw_bret hm_167 dX12_fails_14 (by decide) ?_
        show ma_wp X d w 251 28 [(0, .inr (.inr (some 94))), (1, .inl ix), (2, .inl ob)] [.inl (0 : Int32)] (ma_put S 94 0 (.inl (0 : Int32))) _
        refine zw_if0 hm_251 dX12_weak_28 (t := 33) rfl zc0_eq (fun _ => ?_) (fun hc => absurd (by decide) hc)
        refine zw_push hm_251 dX12_weak_33 (v := .inl ob) rfl ?_
        refine zw_push hm_251 dX12_weak_34 (v := .inl (-1 : Int32)) rfl ?_
        refine zw_if2 hm_251 dX12_weak_35 (t := 42) rfl zc2_ne ?_ ?_
        · intro hc
          rw [if_neg hc] at h
          refine zw_push hm_251 dX12_weak_42 (v := .inr (.inr (some 94))) rfl ?_
          refine zw_push hm_251 dX12_weak_43 (v := .inl ob) rfl ?_
          refine zw_cv hm_251 dX12_weak_44 v_12_499_12 hm_245 [.inl ob] [] rfl (zT_rt (zT_pi hS) s_94 rfl) ⟨by omega, by omega⟩ rfl (h _ _ (ma_put S 94 0 (.inl (0 : Int32))) _ (by omega) (by omega) (zT_pi hS) rfl (fun o9 m1 hv => ?_))
          obtain ⟨v2, rfl, h⟩ := zmi_of hv
          show ma_wp X d w 251 47 [(0, .inr (.inr (some 94))), (1, .inl ix), (2, .inl ob)] [.inl v2] (zst S m1) _
          refine zw_sto hm_251 dX12_weak_47 [(3, .inl v2), (0, .inr (.inr (some 94))), (1, .inl ix), (2, .inl ob)] rfl rfl rfl ?_
          refine zw_push hm_251 dX12_weak_48 (v := .inr (.inr (some 94))) rfl ?_
          refine zw_push hm_251 dX12_weak_49 (v := .inl ob) rfl ?_
          refine zw_push hm_251 dX12_weak_50 (v := .inl (-1 : Int32)) rfl ?_
          refine zw_if2 hm_251 dX12_weak_51 (t := 62) rfl zc2_eq ?_ ?_
          · intro hc
            rw [if_pos hc] at h
            refine zw_push hm_251 dX12_weak_62 (v := .inl (0 : Int32)) rfl ?_
            refine zw_cv hm_251 dX12_weak_63 v_12_110_12 hm_167 [.inl (0 : Int32)] [] rfl (zT_rt (zT_zst hS m1) s_94 rfl) ⟨by omega, by omega⟩ rfl ?_
            show ma_wp X (d - 1) (w - 21) 167 0 [(0, .inr (.inr (some 94))), (1, .inl (0 : Int32))] [] (zst S m1) _
            refine zw_push hm_167 dX12_fails_0 (v := .inr (.inr (some 94))) rfl ?_
            refine zw_push hm_167 dX12_fails_1 (v := .inl (0 : Int32)) rfl ?_
            refine zw_pf hm_167 dX12_fails_2 (zT_is (zT_zst hS m1) s_94) (zT_t (zT_zst hS m1) s_94) p_12_1_12 zk_int ?_
            refine zw_push hm_167 dX12_fails_5 (v := .inl (0 : Int32)) rfl ?_
            refine zw_if0 hm_167 dX12_fails_6 (t := 13) rfl zc0_eq (fun _ => ?_) (fun hc => absurd (by decide) hc)
            refine zw_push hm_167 dX12_fails_13 (v := .inl (0 : Int32)) rfl ?_
            refine zw_bret hm_167 dX12_fails_14 (by decide) ?_
            show ma_wp X d w 251 66 [(3, .inl v2), (0, .inr (.inr (some 94))), (1, .inl ix), (2, .inl ob)] [.inl (0 : Int32)] (ma_put (zst S m1) 94 0 (.inl (0 : Int32))) _
            refine zw_if0 hm_251 dX12_weak_66 (t := 71) rfl zc0_eq (fun _ => ?_) (fun hc => absurd (by decide) hc)
            refine zw_push hm_251 dX12_weak_71 (v := .inr (.inr (some 94))) rfl ?_
            refine zw_push hm_251 dX12_weak_72 (v := .inr (.inr (some 94))) rfl ?_
            refine zw_gf hm_251 dX12_weak_73 (v := .inr (.inr (some 113))) (zT_is (zT_pi (zT_zst hS m1)) s_94) (zT_t (zT_pi (zT_zst hS m1)) s_94) rfl f_12_71_12 (zT_f (zT_pi (zT_zst hS m1)) r_94_52) ?_
            refine zw_push hm_251 dX12_weak_76 (v := .inl ix) rfl ?_
            obtain ⟨hg, h⟩ := h
            refine zw_ia hm_251 dX12_weak_77 (zT_is (zT_pi (zT_zst hS m1)) s_113) (zT_h (zT_pi (zT_zst hS m1)) s_113) rfl hg ?_
            show ma_wp X d w 251 78 [(3, .inl v2), (0, .inr (.inr (some 94))), (1, .inl ix), (2, .inl ob)] [.inl (m1 113 ix.toNatClampNeg), .inr (.inr (some 94))] (ma_put (zst S m1) 94 0 (.inl (0 : Int32))) _
            refine zw_cv hm_251 dX12_weak_78 v_12_502_12 hm_248 [.inl (m1 113 ix.toNatClampNeg)] [] rfl (zT_rt (zT_pi (zT_zst hS m1)) s_94 rfl) ⟨by omega, by omega⟩ rfl ?_
            show ma_wp X (d - 1) (w - 21) 248 0 [(0, .inr (.inr (some 94))), (1, .inl (m1 113 ix.toNatClampNeg))] [] (ma_put (zst S m1) 94 0 (.inl (0 : Int32))) _
            refine zw_push hm_248 dX12_numberOf_0 (v := .inl (m1 113 ix.toNatClampNeg)) rfl ?_
            refine zw_if0 hm_248 dX12_numberOf_1 (t := 8) rfl zc0_ge ?_ ?_
            · intro hc
              rw [if_pos hc] at h
              refine zw_push hm_248 dX12_numberOf_8 (v := .inr (.inr (some 94))) rfl ?_
              refine zw_gf hm_248 dX12_numberOf_9 (v := .inr (.inr (some 100))) (zT_is (zT_pi (zT_zst hS m1)) s_94) (zT_t (zT_pi (zT_zst hS m1)) s_94) rfl f_12_31_12 (zT_f (zT_pi (zT_zst hS m1)) r_94_32) ?_
              refine zw_push hm_248 dX12_numberOf_12 (v := .inl (m1 113 ix.toNatClampNeg)) rfl ?_
              obtain ⟨hg, h⟩ := h
              refine zw_ia hm_248 dX12_numberOf_13 (zT_is (zT_pi (zT_zst hS m1)) s_100) (zT_h (zT_pi (zT_zst hS m1)) s_100) rfl hg ?_
              show ma_wp X (d - 1) (w - 21) 248 14 [(0, .inr (.inr (some 94))), (1, .inl (m1 113 ix.toNatClampNeg))] [.inl (m1 100 (m1 113 ix.toNatClampNeg).toNatClampNeg)] (ma_put (zst S m1) 94 0 (.inl (0 : Int32))) _
              refine zw_iret hm_248 dX12_numberOf_14 ?_
              show ma_wp X d w 251 81 [(3, .inl v2), (0, .inr (.inr (some 94))), (1, .inl ix), (2, .inl ob)] [.inl (m1 100 (m1 113 ix.toNatClampNeg).toNatClampNeg)] (ma_put (zst S m1) 94 0 (.inl (0 : Int32))) _
              refine zw_sto hm_251 dX12_weak_81 [(4, .inl (m1 100 (m1 113 ix.toNatClampNeg).toNatClampNeg)), (3, .inl v2), (0, .inr (.inr (some 94))), (1, .inl ix), (2, .inl ob)] rfl rfl rfl ?_
              refine zw_push hm_251 dX12_weak_83 (v := .inr (.inr (some 94))) rfl ?_
              refine zw_gf hm_251 dX12_weak_84 (v := .inr (.inr (some 113))) (zT_is (zT_pi (zT_zst hS m1)) s_94) (zT_t (zT_pi (zT_zst hS m1)) s_94) rfl f_12_71_12 (zT_f (zT_pi (zT_zst hS m1)) r_94_52) ?_
              refine zw_push hm_251 dX12_weak_87 (v := .inl ix) rfl ?_
              refine zw_push hm_251 dX12_weak_88 (v := .inl v2) rfl ?_
              obtain ⟨hg, h⟩ := h
              refine zw_ias hm_251 dX12_weak_89 (zT_is (zT_pi (zT_zst hS m1)) s_113) (zT_h (zT_pi (zT_zst hS m1)) s_113) rfl hg ?_
              refine zw_push hm_251 dX12_weak_90 (v := .inl (m1 100 (m1 113 ix.toNatClampNeg).toNatClampNeg)) rfl ?_
              exact zw_iret hm_251 dX12_weak_92 (HQ _ _ h)
            · intro hc
              rw [if_neg hc] at h
              refine zw_push hm_248 dX12_numberOf_4 (v := .inl (-1 : Int32)) rfl ?_
              refine zw_goto hm_248 dX12_numberOf_5 (t := 14) rfl ?_
              refine zw_iret hm_248 dX12_numberOf_14 ?_
              show ma_wp X d w 251 81 [(3, .inl v2), (0, .inr (.inr (some 94))), (1, .inl ix), (2, .inl ob)] [.inl (-1 : Int32)] (ma_put (zst S m1) 94 0 (.inl (0 : Int32))) _
              refine zw_sto hm_251 dX12_weak_81 [(4, .inl (-1 : Int32)), (3, .inl v2), (0, .inr (.inr (some 94))), (1, .inl ix), (2, .inl ob)] rfl rfl rfl ?_
              refine zw_push hm_251 dX12_weak_83 (v := .inr (.inr (some 94))) rfl ?_
              refine zw_gf hm_251 dX12_weak_84 (v := .inr (.inr (some 113))) (zT_is (zT_pi (zT_zst hS m1)) s_94) (zT_t (zT_pi (zT_zst hS m1)) s_94) rfl f_12_71_12 (zT_f (zT_pi (zT_zst hS m1)) r_94_52) ?_
              refine zw_push hm_251 dX12_weak_87 (v := .inl ix) rfl ?_
              refine zw_push hm_251 dX12_weak_88 (v := .inl v2) rfl ?_
              obtain ⟨hg, h⟩ := h
              refine zw_ias hm_251 dX12_weak_89 (zT_is (zT_pi (zT_zst hS m1)) s_113) (zT_h (zT_pi (zT_zst hS m1)) s_113) rfl hg ?_
              refine zw_push hm_251 dX12_weak_90 (v := .inl (-1 : Int32)) rfl ?_
              exact zw_iret hm_251 dX12_weak_92 (HQ _ _ h)
          · intro hc
            rw [if_neg hc] at h
            refine zw_push hm_251 dX12_weak_54 (v := .inl v2) rfl ?_
            refine zw_if0 hm_251 dX12_weak_55 (t := 62) rfl zc0_ge ?_ ?_
            · intro hc
              rw [if_pos hc] at h
              refine zw_push hm_251 dX12_weak_62 (v := .inl (0 : Int32)) rfl ?_
              refine zw_cv hm_251 dX12_weak_63 v_12_110_12 hm_167 [.inl (0 : Int32)] [] rfl (zT_rt (zT_zst hS m1) s_94 rfl) ⟨by omega, by omega⟩ rfl ?_
              show ma_wp X (d - 1) (w - 21) 167 0 [(0, .inr (.inr (some 94))), (1, .inl (0 : Int32))] [] (zst S m1) _
              refine zw_push hm_167 dX12_fails_0 (v := .inr (.inr (some 94))) rfl ?_
              refine zw_push hm_167 dX12_fails_1 (v := .inl (0 : Int32)) rfl ?_
              refine zw_pf hm_167 dX12_fails_2 (zT_is (zT_zst hS m1) s_94) (zT_t (zT_zst hS m1) s_94) p_12_1_12 zk_int ?_
              refine zw_push hm_167 dX12_fails_5 (v := .inl (0 : Int32)) rfl ?_
              refine zw_if0 hm_167 dX12_fails_6 (t := 13) rfl zc0_eq (fun _ => ?_) (fun hc => absurd (by decide) hc)
              refine zw_push hm_167 dX12_fails_13 (v := .inl (0 : Int32)) rfl ?_
              refine zw_bret hm_167 dX12_fails_14 (by decide) ?_
              show ma_wp X d w 251 66 [(3, .inl v2), (0, .inr (.inr (some 94))), (1, .inl ix), (2, .inl ob)] [.inl (0 : Int32)] (ma_put (zst S m1) 94 0 (.inl (0 : Int32))) _
              refine zw_if0 hm_251 dX12_weak_66 (t := 71) rfl zc0_eq (fun _ => ?_) (fun hc => absurd (by decide) hc)
              refine zw_push hm_251 dX12_weak_71 (v := .inr (.inr (some 94))) rfl ?_
              refine zw_push hm_251 dX12_weak_72 (v := .inr (.inr (some 94))) rfl ?_
              refine zw_gf hm_251 dX12_weak_73 (v := .inr (.inr (some 113))) (zT_is (zT_pi (zT_zst hS m1)) s_94) (zT_t (zT_pi (zT_zst hS m1)) s_94) rfl f_12_71_12 (zT_f (zT_pi (zT_zst hS m1)) r_94_52) ?_
              refine zw_push hm_251 dX12_weak_76 (v := .inl ix) rfl ?_
              obtain ⟨hg, h⟩ := h
              refine zw_ia hm_251 dX12_weak_77 (zT_is (zT_pi (zT_zst hS m1)) s_113) (zT_h (zT_pi (zT_zst hS m1)) s_113) rfl hg ?_
              show ma_wp X d w 251 78 [(3, .inl v2), (0, .inr (.inr (some 94))), (1, .inl ix), (2, .inl ob)] [.inl (m1 113 ix.toNatClampNeg), .inr (.inr (some 94))] (ma_put (zst S m1) 94 0 (.inl (0 : Int32))) _
              refine zw_cv hm_251 dX12_weak_78 v_12_502_12 hm_248 [.inl (m1 113 ix.toNatClampNeg)] [] rfl (zT_rt (zT_pi (zT_zst hS m1)) s_94 rfl) ⟨by omega, by omega⟩ rfl ?_
              show ma_wp X (d - 1) (w - 21) 248 0 [(0, .inr (.inr (some 94))), (1, .inl (m1 113 ix.toNatClampNeg))] [] (ma_put (zst S m1) 94 0 (.inl (0 : Int32))) _
              refine zw_push hm_248 dX12_numberOf_0 (v := .inl (m1 113 ix.toNatClampNeg)) rfl ?_
              refine zw_if0 hm_248 dX12_numberOf_1 (t := 8) rfl zc0_ge ?_ ?_
              · intro hc
                rw [if_pos hc] at h
                refine zw_push hm_248 dX12_numberOf_8 (v := .inr (.inr (some 94))) rfl ?_
                refine zw_gf hm_248 dX12_numberOf_9 (v := .inr (.inr (some 100))) (zT_is (zT_pi (zT_zst hS m1)) s_94) (zT_t (zT_pi (zT_zst hS m1)) s_94) rfl f_12_31_12 (zT_f (zT_pi (zT_zst hS m1)) r_94_32) ?_
                refine zw_push hm_248 dX12_numberOf_12 (v := .inl (m1 113 ix.toNatClampNeg)) rfl ?_
                obtain ⟨hg, h⟩ := h
                refine zw_ia hm_248 dX12_numberOf_13 (zT_is (zT_pi (zT_zst hS m1)) s_100) (zT_h (zT_pi (zT_zst hS m1)) s_100) rfl hg ?_
                show ma_wp X (d - 1) (w - 21) 248 14 [(0, .inr (.inr (some 94))), (1, .inl (m1 113 ix.toNatClampNeg))] [.inl (m1 100 (m1 113 ix.toNatClampNeg).toNatClampNeg)] (ma_put (zst S m1) 94 0 (.inl (0 : Int32))) _
                refine zw_iret hm_248 dX12_numberOf_14 ?_
                show ma_wp X d w 251 81 [(3, .inl v2), (0, .inr (.inr (some 94))), (1, .inl ix), (2, .inl ob)] [.inl (m1 100 (m1 113 ix.toNatClampNeg).toNatClampNeg)] (ma_put (zst S m1) 94 0 (.inl (0 : Int32))) _
                refine zw_sto hm_251 dX12_weak_81 [(4, .inl (m1 100 (m1 113 ix.toNatClampNeg).toNatClampNeg)), (3, .inl v2), (0, .inr (.inr (some 94))), (1, .inl ix), (2, .inl ob)] rfl rfl rfl ?_
                refine zw_push hm_251 dX12_weak_83 (v := .inr (.inr (some 94))) rfl ?_
                refine zw_gf hm_251 dX12_weak_84 (v := .inr (.inr (some 113))) (zT_is (zT_pi (zT_zst hS m1)) s_94) (zT_t (zT_pi (zT_zst hS m1)) s_94) rfl f_12_71_12 (zT_f (zT_pi (zT_zst hS m1)) r_94_52) ?_
                refine zw_push hm_251 dX12_weak_87 (v := .inl ix) rfl ?_
                refine zw_push hm_251 dX12_weak_88 (v := .inl v2) rfl ?_
                obtain ⟨hg, h⟩ := h
                refine zw_ias hm_251 dX12_weak_89 (zT_is (zT_pi (zT_zst hS m1)) s_113) (zT_h (zT_pi (zT_zst hS m1)) s_113) rfl hg ?_
                refine zw_push hm_251 dX12_weak_90 (v := .inl (m1 100 (m1 113 ix.toNatClampNeg).toNatClampNeg)) rfl ?_
                exact zw_iret hm_251 dX12_weak_92 (HQ _ _ h)
              · intro hc
                rw [if_neg hc] at h
                refine zw_push hm_248 dX12_numberOf_4 (v := .inl (-1 : Int32)) rfl ?_
                refine zw_goto hm_248 dX12_numberOf_5 (t := 14) rfl ?_
                refine zw_iret hm_248 dX12_numberOf_14 ?_
                show ma_wp X d w 251 81 [(3, .inl v2), (0, .inr (.inr (some 94))), (1, .inl ix), (2, .inl ob)] [.inl (-1 : Int32)] (ma_put (zst S m1) 94 0 (.inl (0 : Int32))) _
                refine zw_sto hm_251 dX12_weak_81 [(4, .inl (-1 : Int32)), (3, .inl v2), (0, .inr (.inr (some 94))), (1, .inl ix), (2, .inl ob)] rfl rfl rfl ?_
                refine zw_push hm_251 dX12_weak_83 (v := .inr (.inr (some 94))) rfl ?_
                refine zw_gf hm_251 dX12_weak_84 (v := .inr (.inr (some 113))) (zT_is (zT_pi (zT_zst hS m1)) s_94) (zT_t (zT_pi (zT_zst hS m1)) s_94) rfl f_12_71_12 (zT_f (zT_pi (zT_zst hS m1)) r_94_52) ?_
                refine zw_push hm_251 dX12_weak_87 (v := .inl ix) rfl ?_
                refine zw_push hm_251 dX12_weak_88 (v := .inl v2) rfl ?_
                obtain ⟨hg, h⟩ := h
                refine zw_ias hm_251 dX12_weak_89 (zT_is (zT_pi (zT_zst hS m1)) s_113) (zT_h (zT_pi (zT_zst hS m1)) s_113) rfl hg ?_
                refine zw_push hm_251 dX12_weak_90 (v := .inl (-1 : Int32)) rfl ?_
                exact zw_iret hm_251 dX12_weak_92 (HQ _ _ h)
            · intro hc
              rw [if_neg hc] at h
              refine zw_push hm_251 dX12_weak_58 (v := .inl (3 : Int32)) rfl ?_
              refine zw_goto hm_251 dX12_weak_59 (t := 63) rfl ?_
              refine zw_cv hm_251 dX12_weak_63 v_12_110_12 hm_167 [.inl (3 : Int32)] [] rfl (zT_rt (zT_zst hS m1) s_94 rfl) ⟨by omega, by omega⟩ rfl ?_
              show ma_wp X (d - 1) (w - 21) 167 0 [(0, .inr (.inr (some 94))), (1, .inl (3 : Int32))] [] (zst S m1) _
              refine zw_push hm_167 dX12_fails_0 (v := .inr (.inr (some 94))) rfl ?_
              refine zw_push hm_167 dX12_fails_1 (v := .inl (3 : Int32)) rfl ?_
              refine zw_pf hm_167 dX12_fails_2 (zT_is (zT_zst hS m1) s_94) (zT_t (zT_zst hS m1) s_94) p_12_1_12 zk_int ?_
              refine zw_push hm_167 dX12_fails_5 (v := .inl (3 : Int32)) rfl ?_
              refine zw_if0 hm_167 dX12_fails_6 (t := 13) rfl zc0_eq (fun hc => absurd hc (by decide)) (fun _ => ?_)
              refine zw_push hm_167 dX12_fails_9 (v := .inl (1 : Int32)) rfl ?_
              refine zw_goto hm_167 dX12_fails_10 (t := 14) rfl ?_
              refine zw_bret hm_167 dX12_fails_14 (by decide) ?_
              show ma_wp X d w 251 66 [(3, .inl v2), (0, .inr (.inr (some 94))), (1, .inl ix), (2, .inl ob)] [.inl (1 : Int32)] (ma_put (zst S m1) 94 0 (.inl (3 : Int32))) _
              refine zw_if0 hm_251 dX12_weak_66 (t := 71) rfl zc0_eq (fun hc => absurd hc (by decide)) (fun _ => ?_)
              refine zw_push hm_251 dX12_weak_69 (v := .inl (0 : Int32)) rfl ?_
              exact zw_iret hm_251 dX12_weak_70 (HQ _ _ h)
        · intro hc
          rw [if_pos (Classical.not_not.mp hc)] at h
          refine zw_push hm_251 dX12_weak_38 (v := .inl (-1 : Int32)) rfl ?_
          refine zw_goto hm_251 dX12_weak_39 (t := 47) rfl ?_
          refine zw_sto hm_251 dX12_weak_47 [(3, .inl (-1 : Int32)), (0, .inr (.inr (some 94))), (1, .inl ix), (2, .inl ob)] rfl rfl rfl ?_
          refine zw_push hm_251 dX12_weak_48 (v := .inr (.inr (some 94))) rfl ?_
          refine zw_push hm_251 dX12_weak_49 (v := .inl ob) rfl ?_
          refine zw_push hm_251 dX12_weak_50 (v := .inl (-1 : Int32)) rfl ?_
          refine zw_if2 hm_251 dX12_weak_51 (t := 62) rfl zc2_eq ?_ ?_
          · intro hc
            rw [if_pos hc] at h
            refine zw_push hm_251 dX12_weak_62 (v := .inl (0 : Int32)) rfl ?_
            refine zw_cv hm_251 dX12_weak_63 v_12_110_12 hm_167 [.inl (0 : Int32)] [] rfl (zT_rt (zT_pi hS) s_94 rfl) ⟨by omega, by omega⟩ rfl ?_
            show ma_wp X (d - 1) (w - 21) 167 0 [(0, .inr (.inr (some 94))), (1, .inl (0 : Int32))] [] (ma_put S 94 0 (.inl (0 : Int32))) _
            refine zw_push hm_167 dX12_fails_0 (v := .inr (.inr (some 94))) rfl ?_
            refine zw_push hm_167 dX12_fails_1 (v := .inl (0 : Int32)) rfl ?_
            refine zw_pf hm_167 dX12_fails_2 (zT_is (zT_pi hS) s_94) (zT_t (zT_pi hS) s_94) p_12_1_12 zk_int ?_
            refine zw_push hm_167 dX12_fails_5 (v := .inl (0 : Int32)) rfl ?_
            refine zw_if0 hm_167 dX12_fails_6 (t := 13) rfl zc0_eq (fun _ => ?_) (fun hc => absurd (by decide) hc)
            refine zw_push hm_167 dX12_fails_13 (v := .inl (0 : Int32)) rfl ?_
            refine zw_bret hm_167 dX12_fails_14 (by decide) ?_
            show ma_wp X d w 251 66 [(3, .inl (-1 : Int32)), (0, .inr (.inr (some 94))), (1, .inl ix), (2, .inl ob)] [.inl (0 : Int32)] (ma_put (ma_put S 94 0 (.inl (0 : Int32))) 94 0 (.inl (0 : Int32))) _
            refine zw_if0 hm_251 dX12_weak_66 (t := 71) rfl zc0_eq (fun _ => ?_) (fun hc => absurd (by decide) hc)
            refine zw_push hm_251 dX12_weak_71 (v := .inr (.inr (some 94))) rfl ?_
            refine zw_push hm_251 dX12_weak_72 (v := .inr (.inr (some 94))) rfl ?_
            refine zw_gf hm_251 dX12_weak_73 (v := .inr (.inr (some 113))) (zT_is (zT_pi (zT_pi hS)) s_94) (zT_t (zT_pi (zT_pi hS)) s_94) rfl f_12_71_12 (zT_f (zT_pi (zT_pi hS)) r_94_52) ?_
            refine zw_push hm_251 dX12_weak_76 (v := .inl ix) rfl ?_
            obtain ⟨hg, h⟩ := h
            refine zw_ia hm_251 dX12_weak_77 (zT_is (zT_pi (zT_pi hS)) s_113) (zT_h (zT_pi (zT_pi hS)) s_113) rfl hg ?_
            show ma_wp X d w 251 78 [(3, .inl (-1 : Int32)), (0, .inr (.inr (some 94))), (1, .inl ix), (2, .inl ob)] [.inl ((mI S) 113 ix.toNatClampNeg), .inr (.inr (some 94))] (ma_put (ma_put S 94 0 (.inl (0 : Int32))) 94 0 (.inl (0 : Int32))) _
            refine zw_cv hm_251 dX12_weak_78 v_12_502_12 hm_248 [.inl ((mI S) 113 ix.toNatClampNeg)] [] rfl (zT_rt (zT_pi (zT_pi hS)) s_94 rfl) ⟨by omega, by omega⟩ rfl ?_
            show ma_wp X (d - 1) (w - 21) 248 0 [(0, .inr (.inr (some 94))), (1, .inl ((mI S) 113 ix.toNatClampNeg))] [] (ma_put (ma_put S 94 0 (.inl (0 : Int32))) 94 0 (.inl (0 : Int32))) _
            refine zw_push hm_248 dX12_numberOf_0 (v := .inl ((mI S) 113 ix.toNatClampNeg)) rfl ?_
            refine zw_if0 hm_248 dX12_numberOf_1 (t := 8) rfl zc0_ge ?_ ?_
            · intro hc
              rw [if_pos hc] at h
              refine zw_push hm_248 dX12_numberOf_8 (v := .inr (.inr (some 94))) rfl ?_
              refine zw_gf hm_248 dX12_numberOf_9 (v := .inr (.inr (some 100))) (zT_is (zT_pi (zT_pi hS)) s_94) (zT_t (zT_pi (zT_pi hS)) s_94) rfl f_12_31_12 (zT_f (zT_pi (zT_pi hS)) r_94_32) ?_
              refine zw_push hm_248 dX12_numberOf_12 (v := .inl ((mI S) 113 ix.toNatClampNeg)) rfl ?_
              obtain ⟨hg, h⟩ := h
              refine zw_ia hm_248 dX12_numberOf_13 (zT_is (zT_pi (zT_pi hS)) s_100) (zT_h (zT_pi (zT_pi hS)) s_100) rfl hg ?_
              show ma_wp X (d - 1) (w - 21) 248 14 [(0, .inr (.inr (some 94))), (1, .inl ((mI S) 113 ix.toNatClampNeg))] [.inl ((mI S) 100 ((mI S) 113 ix.toNatClampNeg).toNatClampNeg)] (ma_put (ma_put S 94 0 (.inl (0 : Int32))) 94 0 (.inl (0 : Int32))) _
              refine zw_iret hm_248 dX12_numberOf_14 ?_
              show ma_wp X d w 251 81 [(3, .inl (-1 : Int32)), (0, .inr (.inr (some 94))), (1, .inl ix), (2, .inl ob)] [.inl ((mI S) 100 ((mI S) 113 ix.toNatClampNeg).toNatClampNeg)] (ma_put (ma_put S 94 0 (.inl (0 : Int32))) 94 0 (.inl (0 : Int32))) _
              refine zw_sto hm_251 dX12_weak_81 [(4, .inl ((mI S) 100 ((mI S) 113 ix.toNatClampNeg).toNatClampNeg)), (3, .inl (-1 : Int32)), (0, .inr (.inr (some 94))), (1, .inl ix), (2, .inl ob)] rfl rfl rfl ?_
              refine zw_push hm_251 dX12_weak_83 (v := .inr (.inr (some 94))) rfl ?_
              refine zw_gf hm_251 dX12_weak_84 (v := .inr (.inr (some 113))) (zT_is (zT_pi (zT_pi hS)) s_94) (zT_t (zT_pi (zT_pi hS)) s_94) rfl f_12_71_12 (zT_f (zT_pi (zT_pi hS)) r_94_52) ?_
              refine zw_push hm_251 dX12_weak_87 (v := .inl ix) rfl ?_
              refine zw_push hm_251 dX12_weak_88 (v := .inl (-1 : Int32)) rfl ?_
              obtain ⟨hg, h⟩ := h
              refine zw_ias hm_251 dX12_weak_89 (zT_is (zT_pi (zT_pi hS)) s_113) (zT_h (zT_pi (zT_pi hS)) s_113) rfl hg ?_
              refine zw_push hm_251 dX12_weak_90 (v := .inl ((mI S) 100 ((mI S) 113 ix.toNatClampNeg).toNatClampNeg)) rfl ?_
              exact zw_iret hm_251 dX12_weak_92 (HQ _ _ h)
            · intro hc
              rw [if_neg hc] at h
              refine zw_push hm_248 dX12_numberOf_4 (v := .inl (-1 : Int32)) rfl ?_
              refine zw_goto hm_248 dX12_numberOf_5 (t := 14) rfl ?_
              refine zw_iret hm_248 dX12_numberOf_14 ?_
              show ma_wp X d w 251 81 [(3, .inl (-1 : Int32)), (0, .inr (.inr (some 94))), (1, .inl ix), (2, .inl ob)] [.inl (-1 : Int32)] (ma_put (ma_put S 94 0 (.inl (0 : Int32))) 94 0 (.inl (0 : Int32))) _
              refine zw_sto hm_251 dX12_weak_81 [(4, .inl (-1 : Int32)), (3, .inl (-1 : Int32)), (0, .inr (.inr (some 94))), (1, .inl ix), (2, .inl ob)] rfl rfl rfl ?_
              refine zw_push hm_251 dX12_weak_83 (v := .inr (.inr (some 94))) rfl ?_
              refine zw_gf hm_251 dX12_weak_84 (v := .inr (.inr (some 113))) (zT_is (zT_pi (zT_pi hS)) s_94) (zT_t (zT_pi (zT_pi hS)) s_94) rfl f_12_71_12 (zT_f (zT_pi (zT_pi hS)) r_94_52) ?_
              refine zw_push hm_251 dX12_weak_87 (v := .inl ix) rfl ?_
              refine zw_push hm_251 dX12_weak_88 (v := .inl (-1 : Int32)) rfl ?_
              obtain ⟨hg, h⟩ := h
              refine zw_ias hm_251 dX12_weak_89 (zT_is (zT_pi (zT_pi hS)) s_113) (zT_h (zT_pi (zT_pi hS)) s_113) rfl hg ?_
              refine zw_push hm_251 dX12_weak_90 (v := .inl (-1 : Int32)) rfl ?_
              exact zw_iret hm_251 dX12_weak_92 (HQ _ _ h)
          · intro hc
            rw [if_neg hc] at h
            refine zw_push hm_251 dX12_weak_54 (v := .inl (-1 : Int32)) rfl ?_
            refine zw_if0 hm_251 dX12_weak_55 (t := 62) rfl zc0_ge (fun hc => absurd hc (by decide)) (fun _ => ?_)
            refine zw_push hm_251 dX12_weak_58 (v := .inl (3 : Int32)) rfl ?_
            refine zw_goto hm_251 dX12_weak_59 (t := 63) rfl ?_
            refine zw_cv hm_251 dX12_weak_63 v_12_110_12 hm_167 [.inl (3 : Int32)] [] rfl (zT_rt (zT_pi hS) s_94 rfl) ⟨by omega, by omega⟩ rfl ?_
            show ma_wp X (d - 1) (w - 21) 167 0 [(0, .inr (.inr (some 94))), (1, .inl (3 : Int32))] [] (ma_put S 94 0 (.inl (0 : Int32))) _
            refine zw_push hm_167 dX12_fails_0 (v := .inr (.inr (some 94))) rfl ?_
            refine zw_push hm_167 dX12_fails_1 (v := .inl (3 : Int32)) rfl ?_
            refine zw_pf hm_167 dX12_fails_2 (zT_is (zT_pi hS) s_94) (zT_t (zT_pi hS) s_94) p_12_1_12 zk_int ?_
            refine zw_push hm_167 dX12_fails_5 (v := .inl (3 : Int32)) rfl ?_
            refine zw_if0 hm_167 dX12_fails_6 (t := 13) rfl zc0_eq (fun hc => absurd hc (by decide)) (fun _ => ?_)
            refine zw_push hm_167 dX12_fails_9 (v := .inl (1 : Int32)) rfl ?_
            refine zw_goto hm_167 dX12_fails_10 (t := 14) rfl ?_
            refine zw_bret hm_167 dX12_fails_14 (by decide) ?_
            show ma_wp X d w 251 66 [(3, .inl (-1 : Int32)), (0, .inr (.inr (some 94))), (1, .inl ix), (2, .inl ob)] [.inl (1 : Int32)] (ma_put (ma_put S 94 0 (.inl (0 : Int32))) 94 0 (.inl (3 : Int32))) _
            refine zw_if0 hm_251 dX12_weak_66 (t := 71) rfl zc0_eq (fun hc => absurd hc (by decide)) (fun _ => ?_)
            refine zw_push hm_251 dX12_weak_69 (v := .inl (0 : Int32)) rfl ?_
            exact zw_iret hm_251 dX12_weak_70 (HQ _ _ h)
      · intro hc
        rw [if_pos (Classical.not_not.mp hc)] at h
        refine zw_push hm_251 dX12_weak_20 (v := .inl (2 : Int32)) rfl ?_
        refine zw_goto hm_251 dX12_weak_21 (t := 25) rfl ?_
        refine zw_cv hm_251 dX12_weak_25 v_12_110_12 hm_167 [.inl (2 : Int32)] [] rfl (zT_rt hS s_94 rfl) ⟨by omega, by omega⟩ rfl ?_
        show ma_wp X (d - 1) (w - 21) 167 0 [(0, .inr (.inr (some 94))), (1, .inl (2 : Int32))] [] S _
        refine zw_push hm_167 dX12_fails_0 (v := .inr (.inr (some 94))) rfl ?_
        refine zw_push hm_167 dX12_fails_1 (v := .inl (2 : Int32)) rfl ?_
        refine zw_pf hm_167 dX12_fails_2 (zT_is hS s_94) (zT_t hS s_94) p_12_1_12 zk_int ?_
        refine zw_push hm_167 dX12_fails_5 (v := .inl (2 : Int32)) rfl ?_
        refine zw_if0 hm_167 dX12_fails_6 (t := 13) rfl zc0_eq (fun hc => absurd hc (by decide)) (fun _ => ?_)
        refine zw_push hm_167 dX12_fails_9 (v := .inl (1 : Int32)) rfl ?_
        refine zw_goto hm_167 dX12_fails_10 (t := 14) rfl ?_
        refine zw_bret hm_167 dX12_fails_14 (by decide) ?_
        show ma_wp X d w 251 28 [(0, .inr (.inr (some 94))), (1, .inl ix), (2, .inl ob)] [.inl (1 : Int32)] (ma_put S 94 0 (.inl (2 : Int32))) _
        refine zw_if0 hm_251 dX12_weak_28 (t := 33) rfl zc0_eq (fun hc => absurd hc (by decide)) (fun _ => ?_)
        refine zw_push hm_251 dX12_weak_31 (v := .inl (0 : Int32)) rfl ?_
        exact zw_iret hm_251 dX12_weak_32 (HQ _ _ h)
theorem sp_251 {X : Nat × (Nat → Int32)} {P : Option ma_V → (Nat → Nat → Int32) → Prop} {T : Nat} {m : Nat → Nat → Int32} (ix : Int32) (ob : Int32) (hV : zV m) (r_W : zW (m 94 7) (m 98) (m 101) (m 102) (m 108)) (r_GW : zGW T (m 94 55) (m 109)) (r_GU : zGU T (m 94 46) (m 99)) (r_OW : zOw (m 99) (m 103) (m 111)) (r_DX : zDX (m 94 10) (m 99) (m 112) (m 113) (m 114) (m 94 55) (m 98) (m 101) (m 102) (m 108)) (r_GG : zGG (m 94 58) (m 94 56) (m 94 57) (m 106)) (r_HA : zHA (m 94 10) (m 94 11) (m 94 13) (m 94 14) (m 94 16) (m 94 61) (m 94 59) (m 94 60) (m 99) (m 102) (m 103) (m 111) (m 117) (m 98) (m 101) (m 108)) (r_RGc : zRG (m 94 10) (m 94 18) (m 94 64) (m 94 63) (m 99) (m 103) (m 102) (m 116)) (hpre8 : (m 94 58).toInt = 0 ∨ (m 94 10).toInt = 5) (KZ : ∀ v m₉, zV (zov wr_251 m m₉) → (zW (m 94 7) (m 98) (m 101) (m 102) (m 108)) → (zGW T (m 94 55) (m 109)) → (zGU T (m 94 46) (m 99)) → (zOw (m 99) (m 103) (m 111)) → (zDX (m 94 10) (m 99) (m 112) (m₉ 113) (m 114) (m 94 55) (m 98) (m 101) (m 102) (m 108)) → (zGG (m 94 58) (m 94 56) (m 94 57) (m 106)) → (zHA (m 94 10) (m 94 11) (m 94 13) (m 94 14) (m 94 16) (m 94 61) (m 94 59) (m 94 60) (m 99) (m 102) (m 103) (m 111) (m 117) (m 98) (m 101) (m 108)) → (zRG (m 94 10) (m 94 18) (m 94 64) (m 94 63) (m 99) (m 103) (m 102) (m 116)) → ((m 94 58).toInt = 0 ∨ (m 94 10).toInt = 5) → P (some (.inl v)) (zov wr_251 m m₉)) : zm X 5 109 251 0 [(0, .inr (.inr (some 94))), (1, .inl ix), (2, .inl ob)] m P := by
  have K : ∀ v m₉, zF wr_251 m m₉ → zV m₉ → (zW (m₉ 94 7) (m₉ 98) (m₉ 101) (m₉ 102) (m₉ 108)) → (zGW T (m₉ 94 55) (m₉ 109)) → (zGU T (m₉ 94 46) (m₉ 99)) → (zOw (m₉ 99) (m₉ 103) (m₉ 111)) → (zDX (m₉ 94 10) (m₉ 99) (m₉ 112) (m₉ 113) (m₉ 114) (m₉ 94 55) (m₉ 98) (m₉ 101) (m₉ 102) (m₉ 108)) → (zGG (m₉ 94 58) (m₉ 94 56) (m₉ 94 57) (m₉ 106)) → (zHA (m₉ 94 10) (m₉ 94 11) (m₉ 94 13) (m₉ 94 14) (m₉ 94 16) (m₉ 94 61) (m₉ 94 59) (m₉ 94 60) (m₉ 99) (m₉ 102) (m₉ 103) (m₉ 111) (m₉ 117) (m₉ 98) (m₉ 101) (m₉ 108)) → (zRG (m₉ 94 10) (m₉ 94 18) (m₉ 94 64) (m₉ 94 63) (m₉ 99) (m₉ 103) (m₉ 102) (m₉ 116)) → ((m₉ 94 58).toInt = 0 ∨ (m₉ 94 10).toInt = 5) → P (some (.inl v)) m₉ := by
    intro v m₉ hf z q0 q1 q2 q3 q4 q5 q6 q7 q8
    have e := zov_eq hf
    rw [e] at z ⊢
    try rw [e] at q0
    try rw [e] at q1
    try rw [e] at q2
    try rw [e] at q3
    try rw [e] at q4
    try rw [e] at q5
    try rw [e] at q6
    try rw [e] at q7
    try rw [e] at q8
    exact KZ v m₉ z q0 q1 q2 q3 q4 q5 q6 q7 q8
  refine g_251_0 ix ob ?_
  have f1 : 0 ≤ (m 94 58).toInt ∧ (m 94 58).toInt ≤ 1 := rs_94_58 (m := m) hV
  have f2 : 0 ≤ (m 94 10).toInt ∧ (m 94 10).toInt ≤ 6 := rs_94_10 (m := m) hV
  have b3 := i_bd ix
  have li4 : (0 : Int32).toInt = 0 := rfl
  refine zd (fun (h5 : ix < (0 : Int32)) => ?_) (fun (h5 : ¬ ix < (0 : Int32)) => ?_)
  · skip
    have g6 := i_lt h5
    have hV7 : zV (ma_u m 94 0 (1 : Int32)) := uf_94_0 hV
    exact K ((0 : Int32)) _ (zF_u zF_rfl rfl) hV7 r_W r_GW r_GU r_OW r_DX r_GG r_HA r_RGc (show (m 94 58).toInt = 0 ∨ (m 94 10).toInt = 5 from by omega)
  · skip
    have g8 := i_nlt h5
    have li9 : (16 : Int32).toInt = 16 := rfl
    refine zd (fun (h10 : (16 : Int32) ≤ ix) => ?_) (fun (h10 : ¬ (16 : Int32) ≤ ix) => ?_)
    · skip
      have g11 := i_le h10
      have hV12 : zV (ma_u m 94 0 (1 : Int32)) := uf_94_0 hV
      exact K ((0 : Int32)) _ (zF_u zF_rfl rfl) hV12 r_W r_GW r_GU r_OW r_DX r_GG r_HA r_RGc (show (m 94 58).toInt = 0 ∨ (m 94 10).toInt = 5 from by omega)
    · skip
      have g13 := i_nle h10
      have f14 : 0 ≤ (m 94 8).toInt ∧ (m 94 8).toInt ≤ 1 := rs_94_8 (m := m) hV
      refine zd (fun (h15 : (m 94 8) = (0 : Int32)) => ?_) (fun (h15 : ¬ (m 94 8) = (0 : Int32)) => ?_)
      · skip
        have g16 := i_eq h15
        have hV17 : zV (ma_u m 94 0 (2 : Int32)) := uf_94_0 hV
        exact K ((0 : Int32)) _ (zF_u zF_rfl rfl) hV17 r_W r_GW r_GU r_OW r_DX r_GG r_HA r_RGc (show (m 94 58).toInt = 0 ∨ (m 94 10).toInt = 5 from by omega)
      · skip
        have g18 := i_ne h15
        have b19 := i_bd ob
        have li20 : (-1 : Int32).toInt = -1 := rfl
        refine zd (fun (h21 : ob = (-1 : Int32)) => ?_) (fun (h21 : ¬ ob = (-1 : Int32)) => ?_)
        · skip
          have g22 := i_eq h21
          refine zd (fun (h23 : ob = (-1 : Int32)) => ?_) (fun (h23 : ¬ ob = (-1 : Int32)) => ?_)
          · skip
            have g24 := i_eq h23
            have hg25 : (0 ≤ ix ∧ ix.toNatClampNeg < 16) := i_ix (by omega) (by omega)
            refine ⟨hg25, ?_⟩
            first | have f26 : -1 ≤ (m 113 ix.toNatClampNeg).toInt ∧ (m 113 ix.toNatClampNeg).toInt ≤ 3099 := ra_113 (m := m) hV (k := ix.toNatClampNeg) (i_ix (n := 16) (by omega) (by omega)).2 | have b27 := i_bd (m 113 ix.toNatClampNeg)
            refine zd (fun (h28 : (0 : Int32) ≤ (m 113 ix.toNatClampNeg)) => ?_) (fun (h28 : ¬ (0 : Int32) ≤ (m 113 ix.toNatClampNeg)) => ?_)
            · skip
              have g29 := i_le h28
              have hg30 : (0 ≤ (m 113 ix.toNatClampNeg) ∧ (m 113 ix.toNatClampNeg).toNatClampNeg < 3100) := i_ix (by omega) (by omega)
              refine ⟨hg30, ?_⟩
              have hg31 : (0 ≤ ix ∧ ix.toNatClampNeg < 16) := i_ix (by omega) (by omega)
              refine ⟨hg31, ?_⟩
              have hV32 : zV (ma_u m 94 0 (0 : Int32)) := uf_94_0 hV
              have hV33 : zV (ma_u (ma_u m 94 0 (0 : Int32)) 94 0 (0 : Int32)) := uf_94_0 hV32
              have hV34 : zV (ma_u (ma_u (ma_u m 94 0 (0 : Int32)) 94 0 (0 : Int32)) 113 ix.toNatClampNeg (-1 : Int32)) := ua_113 hV33 (by omega) (by omega)
              first | have f35 : 0 ≤ (m 100 (m 113 ix.toNatClampNeg).toNatClampNeg).toInt ∧ (m 100 (m 113 ix.toNatClampNeg).toNatClampNeg).toInt ≤ 100000 := ra_100 (m := m) hV (k := (m 113 ix.toNatClampNeg).toNatClampNeg) (i_ix (n := 3100) (by omega) (by omega)).2 | have b36 := i_bd (m 100 (m 113 ix.toNatClampNeg).toNatClampNeg)
              exact K ((m 100 (m 113 ix.toNatClampNeg).toNatClampNeg)) _ (zF_u (zF_u (zF_u zF_rfl rfl) rfl) rfl) hV34 r_W r_GW r_GU r_OW (show zDX (m 94 10) (m 99) (m 112) ((ma_u m 113 ix.toNatClampNeg (-1 : Int32)) 113) (m 114) (m 94 55) (m 98) (m 101) (m 102) (m 108) from by first | (exact DX_weak r_DX (Or.inl (by decide))) | (exfalso; omega; done) | (exfalso; contradiction; done)) r_GG r_HA r_RGc (show (m 94 58).toInt = 0 ∨ (m 94 10).toInt = 5 from by omega)
            · skip
              have g37 := i_nle h28
              have hg38 : (0 ≤ ix ∧ ix.toNatClampNeg < 16) := i_ix (by omega) (by omega)
              refine ⟨hg38, ?_⟩
              have hV39 : zV (ma_u m 94 0 (0 : Int32)) := uf_94_0 hV
              have hV40 : zV (ma_u (ma_u m 94 0 (0 : Int32)) 94 0 (0 : Int32)) := uf_94_0 hV39
              have hV41 : zV (ma_u (ma_u (ma_u m 94 0 (0 : Int32)) 94 0 (0 : Int32)) 113 ix.toNatClampNeg (-1 : Int32)) := ua_113 hV40 (by omega) (by omega)
              exact K ((-1 : Int32)) _ (zF_u (zF_u (zF_u zF_rfl rfl) rfl) rfl) hV41 r_W r_GW r_GU r_OW (show zDX (m 94 10) (m 99) (m 112) ((ma_u m 113 ix.toNatClampNeg (-1 : Int32)) 113) (m 114) (m 94 55) (m 98) (m 101) (m 102) (m 108) from by first | (exact DX_weak r_DX (Or.inl (by decide))) | (exfalso; omega; done) | (exfalso; contradiction; done)) r_GG r_HA r_RGc (show (m 94 58).toInt = 0 ∨ (m 94 10).toInt = 5 from by omega)
          · skip
            have g42 := i_ne h23
            have hV43 : zV (ma_u m 94 0 (0 : Int32)) := uf_94_0 hV
            have hV44 : zV (ma_u (ma_u m 94 0 (0 : Int32)) 94 0 (3 : Int32)) := uf_94_0 hV43
            exact K ((0 : Int32)) _ (zF_u (zF_u zF_rfl rfl) rfl) hV44 r_W r_GW r_GU r_OW r_DX r_GG r_HA r_RGc (show (m 94 58).toInt = 0 ∨ (m 94 10).toInt = 5 from by omega)
        · skip
          have g45 := i_ne h21
          have hV46 : zV (ma_u m 94 0 (0 : Int32)) := uf_94_0 hV
          refine sp_245 (ob) hV46 r_W r_DX (fun v2 m1 hV_m1 p0_m1 p1_m1 => zmi_n ?_)
          have p0_m1 : -1 ≤ v2.toInt ∧ v2.toInt ≤ 3099 := p0_m1
          have p1_m1 : v2.toInt < 0 ∨ (m 99) v2.toNatClampNeg ≠ 0 := p1_m1
          refine zd (fun (h47 : ob = (-1 : Int32)) => ?_) (fun (h47 : ¬ ob = (-1 : Int32)) => ?_)
          · skip
            have g48 := i_eq h47
            have hg49 : (0 ≤ ix ∧ ix.toNatClampNeg < 16) := i_ix (by omega) (by omega)
            refine ⟨hg49, ?_⟩
            first | have f50 : -1 ≤ (m 113 ix.toNatClampNeg).toInt ∧ (m 113 ix.toNatClampNeg).toInt ≤ 3099 := ra_113 (m := m) hV (k := ix.toNatClampNeg) (i_ix (n := 16) (by omega) (by omega)).2 | have b51 := i_bd (m 113 ix.toNatClampNeg)
            refine zd (fun (h52 : (0 : Int32) ≤ (m 113 ix.toNatClampNeg)) => ?_) (fun (h52 : ¬ (0 : Int32) ≤ (m 113 ix.toNatClampNeg)) => ?_)
            · skip
              have g53 := i_le h52
              have hg54 : (0 ≤ (m 113 ix.toNatClampNeg) ∧ (m 113 ix.toNatClampNeg).toNatClampNeg < 3100) := i_ix (by omega) (by omega)
              refine ⟨hg54, ?_⟩
              have hg55 : (0 ≤ ix ∧ ix.toNatClampNeg < 16) := i_ix (by omega) (by omega)
              refine ⟨hg55, ?_⟩
              have hV56 : zV (ma_u (zov wr_245 (ma_u m 94 0 (0 : Int32)) m1) 94 0 (0 : Int32)) := uf_94_0 hV_m1
              have b58 := i_bd v2
              have hV57 : zV (ma_u (ma_u (zov wr_245 (ma_u m 94 0 (0 : Int32)) m1) 94 0 (0 : Int32)) 113 ix.toNatClampNeg v2) := ua_113 hV56 (by omega) (by omega)
              first | have f59 : 0 ≤ (m 100 (m 113 ix.toNatClampNeg).toNatClampNeg).toInt ∧ (m 100 (m 113 ix.toNatClampNeg).toNatClampNeg).toInt ≤ 100000 := ra_100 (m := m) hV (k := (m 113 ix.toNatClampNeg).toNatClampNeg) (i_ix (n := 3100) (by omega) (by omega)).2 | have b60 := i_bd (m 100 (m 113 ix.toNatClampNeg).toNatClampNeg)
              exact K ((m 100 (m 113 ix.toNatClampNeg).toNatClampNeg)) _ (zF_u (zF_u (zF_zov (zF_u zF_rfl rfl) ws_245_251) rfl) rfl) hV57 r_W r_GW r_GU r_OW (show zDX (m 94 10) (m 99) (m 112) ((ma_u m 113 ix.toNatClampNeg v2) 113) (m 114) (m 94 55) (m 98) (m 101) (m 102) (m 108) from by first | (exact DX_weak r_DX p1_m1) | (exact DX_weak r_DX (Or.inl (by decide))) | (exfalso; omega; done) | (exfalso; contradiction; done)) r_GG r_HA r_RGc (show (m 94 58).toInt = 0 ∨ (m 94 10).toInt = 5 from by omega)
            · skip
              have g61 := i_nle h52
              have hg62 : (0 ≤ ix ∧ ix.toNatClampNeg < 16) := i_ix (by omega) (by omega)
              refine ⟨hg62, ?_⟩
              have hV63 : zV (ma_u (zov wr_245 (ma_u m 94 0 (0 : Int32)) m1) 94 0 (0 : Int32)) := uf_94_0 hV_m1
              have b65 := i_bd v2
              have hV64 : zV (ma_u (ma_u (zov wr_245 (ma_u m 94 0 (0 : Int32)) m1) 94 0 (0 : Int32)) 113 ix.toNatClampNeg v2) := ua_113 hV63 (by omega) (by omega)
              exact K ((-1 : Int32)) _ (zF_u (zF_u (zF_zov (zF_u zF_rfl rfl) ws_245_251) rfl) rfl) hV64 r_W r_GW r_GU r_OW (show zDX (m 94 10) (m 99) (m 112) ((ma_u m 113 ix.toNatClampNeg v2) 113) (m 114) (m 94 55) (m 98) (m 101) (m 102) (m 108) from by first | (exact DX_weak r_DX p1_m1) | (exact DX_weak r_DX (Or.inl (by decide))) | (exfalso; omega; done) | (exfalso; contradiction; done)) r_GG r_HA r_RGc (show (m 94 58).toInt = 0 ∨ (m 94 10).toInt = 5 from by omega)
          · skip
            have g66 := i_ne h47
            have b67 := i_bd v2
            refine zd (fun (h68 : (0 : Int32) ≤ v2) => ?_) (fun (h68 : ¬ (0 : Int32) ≤ v2) => ?_)
            · skip
              have g69 := i_le h68
              have hg70 : (0 ≤ ix ∧ ix.toNatClampNeg < 16) := i_ix (by omega) (by omega)
              refine ⟨hg70, ?_⟩
              first | have f71 : -1 ≤ (m 113 ix.toNatClampNeg).toInt ∧ (m 113 ix.toNatClampNeg).toInt ≤ 3099 := ra_113 (m := m) hV (k := ix.toNatClampNeg) (i_ix (n := 16) (by omega) (by omega)).2 | have b72 := i_bd (m 113 ix.toNatClampNeg)
              refine zd (fun (h73 : (0 : Int32) ≤ (m 113 ix.toNatClampNeg)) => ?_) (fun (h73 : ¬ (0 : Int32) ≤ (m 113 ix.toNatClampNeg)) => ?_)
              · skip
                have g74 := i_le h73
                have hg75 : (0 ≤ (m 113 ix.toNatClampNeg) ∧ (m 113 ix.toNatClampNeg).toNatClampNeg < 3100) := i_ix (by omega) (by omega)
                refine ⟨hg75, ?_⟩
                have hg76 : (0 ≤ ix ∧ ix.toNatClampNeg < 16) := i_ix (by omega) (by omega)
                refine ⟨hg76, ?_⟩
                have hV77 : zV (ma_u (zov wr_245 (ma_u m 94 0 (0 : Int32)) m1) 94 0 (0 : Int32)) := uf_94_0 hV_m1
                have hV78 : zV (ma_u (ma_u (zov wr_245 (ma_u m 94 0 (0 : Int32)) m1) 94 0 (0 : Int32)) 113 ix.toNatClampNeg v2) := ua_113 hV77 (by omega) (by omega)
                first | have f79 : 0 ≤ (m 100 (m 113 ix.toNatClampNeg).toNatClampNeg).toInt ∧ (m 100 (m 113 ix.toNatClampNeg).toNatClampNeg).toInt ≤ 100000 := ra_100 (m := m) hV (k := (m 113 ix.toNatClampNeg).toNatClampNeg) (i_ix (n := 3100) (by omega) (by omega)).2 | have b80 := i_bd (m 100 (m 113 ix.toNatClampNeg).toNatClampNeg)
                exact K ((m 100 (m 113 ix.toNatClampNeg).toNatClampNeg)) _ (zF_u (zF_u (zF_zov (zF_u zF_rfl rfl) ws_245_251) rfl) rfl) hV78 r_W r_GW r_GU r_OW (show zDX (m 94 10) (m 99) (m 112) ((ma_u m 113 ix.toNatClampNeg v2) 113) (m 114) (m 94 55) (m 98) (m 101) (m 102) (m 108) from by first | (exact DX_weak r_DX p1_m1) | (exact DX_weak r_DX (Or.inl (by decide))) | (exfalso; omega; done) | (exfalso; contradiction; done)) r_GG r_HA r_RGc (show (m 94 58).toInt = 0 ∨ (m 94 10).toInt = 5 from by omega)
              · skip
                have g81 := i_nle h73
                have hg82 : (0 ≤ ix ∧ ix.toNatClampNeg < 16) := i_ix (by omega) (by omega)
                refine ⟨hg82, ?_⟩
                have hV83 : zV (ma_u (zov wr_245 (ma_u m 94 0 (0 : Int32)) m1) 94 0 (0 : Int32)) := uf_94_0 hV_m1
                have hV84 : zV (ma_u (ma_u (zov wr_245 (ma_u m 94 0 (0 : Int32)) m1) 94 0 (0 : Int32)) 113 ix.toNatClampNeg v2) := ua_113 hV83 (by omega) (by omega)
                exact K ((-1 : Int32)) _ (zF_u (zF_u (zF_zov (zF_u zF_rfl rfl) ws_245_251) rfl) rfl) hV84 r_W r_GW r_GU r_OW (show zDX (m 94 10) (m 99) (m 112) ((ma_u m 113 ix.toNatClampNeg v2) 113) (m 114) (m 94 55) (m 98) (m 101) (m 102) (m 108) from by first | (exact DX_weak r_DX p1_m1) | (exact DX_weak r_DX (Or.inl (by decide))) | (exfalso; omega; done) | (exfalso; contradiction; done)) r_GG r_HA r_RGc (show (m 94 58).toInt = 0 ∨ (m 94 10).toInt = 5 from by omega)
            · skip
              have g85 := i_nle h68
              have hV86 : zV (ma_u (zov wr_245 (ma_u m 94 0 (0 : Int32)) m1) 94 0 (3 : Int32)) := uf_94_0 hV_m1
              exact K ((0 : Int32)) _ (zF_u (zF_zov (zF_u zF_rfl rfl) ws_245_251) rfl) hV86 r_W r_GW r_GU r_OW r_DX r_GG r_HA r_RGc (show (m 94 58).toInt = 0 ∨ (m 94 10).toInt = 5 from by omega)

/-! from 94.452 -/
/-! the reference (written by wip/tools/gen94m.py) -/
set_option maxRecDepth 100000 in
theorem hm_261 : ma_md 261 = some (12, yX12_dirtyCards, cX12_dirtyCards, 3, (some (FieldType.int))) := rfl
theorem s_117 : zs 117 = some (22, 512) := rfl
theorem r_94_66 : zfi 94 66 = some 117 := rfl
theorem f_12_83_12 : ma_fld 12 83 12 = some 66 := by decide +kernel
theorem dX12_dirtyCards_0 : decode cX12_dirtyCards 0 = .ok (.iconst 0, 1) := by decide +kernel
theorem dX12_dirtyCards_1 : decode cX12_dirtyCards 1 = .ok (.istore_n 1, 1) := by decide +kernel
theorem dX12_dirtyCards_2 : decode cX12_dirtyCards 2 = .ok (.iconst 0, 1) := by decide +kernel
theorem dX12_dirtyCards_3 : decode cX12_dirtyCards 3 = .ok (.istore_n 2, 1) := by decide +kernel
theorem dX12_dirtyCards_4 : decode cX12_dirtyCards 4 = .ok (.iload_n 2, 1) := by decide +kernel
theorem dX12_dirtyCards_5 : decode cX12_dirtyCards 5 = .ok (.aload_n 0, 1) := by decide +kernel
theorem dX12_dirtyCards_9 : decode cX12_dirtyCards 9 = .ok (.arraylength, 1) := by decide +kernel
theorem dX12_dirtyCards_31 : decode cX12_dirtyCards 31 = .ok (.iload_n 1, 1) := by decide +kernel
theorem dX12_dirtyCards_32 : decode cX12_dirtyCards 32 = .ok (.ireturn, 1) := by decide +kernel
theorem dX12_dirtyCards_13 : decode cX12_dirtyCards 13 = .ok (.aload_n 0, 1) := by decide +kernel
theorem dX12_dirtyCards_17 : decode cX12_dirtyCards 17 = .ok (.iload_n 2, 1) := by decide +kernel
theorem dX12_dirtyCards_25 : decode cX12_dirtyCards 25 = .ok (.iinc 2 1, 3) := by decide +kernel
theorem dX12_dirtyCards_28 : decode cX12_dirtyCards 28 = .ok (.goto (-24), 3) := by decide +kernel
theorem dX12_dirtyCards_22 : decode cX12_dirtyCards 22 = .ok (.iinc 1 1, 3) := by decide +kernel
theorem dX12_dirtyCards_19 : decode cX12_dirtyCards 19 = .ok (.ifCond .eq 6, 3) := by decide +kernel
theorem dX12_dirtyCards_18 : decode cX12_dirtyCards 18 = .ok (.baload, 1) := by decide +kernel
theorem dX12_dirtyCards_14 : decode cX12_dirtyCards 14 = .ok (.getfield 83, 3) := by decide +kernel
theorem dX12_dirtyCards_10 : decode cX12_dirtyCards 10 = .ok (.if_icmp .ge 21, 3) := by decide +kernel
theorem dX12_dirtyCards_6 : decode cX12_dirtyCards 6 = .ok (.getfield 83, 3) := by decide +kernel
def wr_261 (_ _ : Nat) : Bool := false
theorem g_261_0 {X : Nat × (Nat → Int32)} {m : Nat → Nat → Int32} {P : Option ma_V → (Nat → Nat → Int32) → Prop}  (h : zm X 0 0 261 4 [(0, .inr (.inr (some 94))), (1, .inl (0 : Int32)), (2, .inl (0 : Int32))] m P) : zm X 0 0 261 0 [(0, .inr (.inr (some 94)))] m P := by
  intro d w S Q hd hw hS hm HQ
  subst hm
  refine zw_push hm_261 dX12_dirtyCards_0 (v := .inl (0 : Int32)) rfl ?_
  refine zw_sto hm_261 dX12_dirtyCards_1 [(1, .inl (0 : Int32)), (0, .inr (.inr (some 94)))] rfl rfl rfl ?_
  refine zw_push hm_261 dX12_dirtyCards_2 (v := .inl (0 : Int32)) rfl ?_
  refine zw_sto hm_261 dX12_dirtyCards_3 [(2, .inl (0 : Int32)), (1, .inl (0 : Int32)), (0, .inr (.inr (some 94)))] rfl rfl rfl ?_
  exact zw_sub (ma_nd_of (ks := [0, 1, 2]) rfl (by decide)) (ma_nd_of (ks := [2, 1, 0]) rfl (by decide)) (ma_le_cons rfl (ma_le_cons rfl (ma_le_cons rfl (ma_le_nil _)))) (h d w _ Q (by omega) (by omega) hS rfl HQ)
theorem g_261_4 {X : Nat × (Nat → Int32)} {m : Nat → Nat → Int32} {P : Option ma_V → (Nat → Nat → Int32) → Prop} (l1 : Int32) (l2 : Int32) (h : if (512 : Int32) ≤ l2 then (P (some (.inl l1)) m) else ((0 ≤ l2 ∧ l2.toNatClampNeg < 512) ∧ (if (m 117 l2.toNatClampNeg) = 0 then (zm X 0 0 261 4 [(0, .inr (.inr (some 94))), (1, .inl l1), (2, .inl (l2 + (1 : Int32)))] m P) else (zm X 0 0 261 4 [(0, .inr (.inr (some 94))), (1, .inl (l1 + (1 : Int32))), (2, .inl (l2 + (1 : Int32)))] m P)))) : zm X 0 0 261 4 [(0, .inr (.inr (some 94))), (1, .inl l1), (2, .inl l2)] m P := by
  intro d w S Q hd hw hS hm HQ
  subst hm
  refine zw_push hm_261 dX12_dirtyCards_4 (v := .inl l2) rfl ?_
  refine zw_push hm_261 dX12_dirtyCards_5 (v := .inr (.inr (some 94))) rfl ?_
  refine zw_gf hm_261 dX12_dirtyCards_6 (v := .inr (.inr (some 117))) (zT_is hS s_94) (zT_t hS s_94) rfl f_12_83_12 (zT_f hS r_94_66) ?_
  refine zw_len hm_261 dX12_dirtyCards_9 (v := (512 : Int32)) (zT_is hS s_117) (zT_h hS s_117) rfl rfl ?_
  refine zw_if2 hm_261 dX12_dirtyCards_10 (t := 31) rfl zc2_ge ?_ ?_
  · intro hc
    rw [if_pos hc] at h
    refine zw_push hm_261 dX12_dirtyCards_31 (v := .inl l1) rfl ?_
    exact zw_iret hm_261 dX12_dirtyCards_32 (HQ _ _ h)
  · intro hc
    rw [if_neg hc] at h
    refine zw_push hm_261 dX12_dirtyCards_13 (v := .inr (.inr (some 94))) rfl ?_
    refine zw_gf hm_261 dX12_dirtyCards_14 (v := .inr (.inr (some 117))) (zT_is hS s_94) (zT_t hS s_94) rfl f_12_83_12 (zT_f hS r_94_66) ?_
    refine zw_push hm_261 dX12_dirtyCards_17 (v := .inl l2) rfl ?_
    obtain ⟨hg, h⟩ := h
    refine zw_ba hm_261 dX12_dirtyCards_18 (zT_is hS s_117) (zT_h hS s_117) rfl rfl hg ?_
    show ma_wp X d w 261 19 [(0, .inr (.inr (some 94))), (1, .inl l1), (2, .inl l2)] [.inl ((mI S) 117 l2.toNatClampNeg)] S _
    refine zw_if0 hm_261 dX12_dirtyCards_19 (t := 25) rfl zc0_eq ?_ ?_
    · intro hc
      rw [if_pos hc] at h
      refine zw_sto hm_261 dX12_dirtyCards_25 [(2, .inl (l2 + (1 : Int32))), (0, .inr (.inr (some 94))), (1, .inl l1)] rfl rfl rfl ?_
      refine zw_goto hm_261 dX12_dirtyCards_28 (t := 4) rfl ?_
      exact zw_sub (ma_nd_of (ks := [0, 1, 2]) rfl (by decide)) (ma_nd_of (ks := [2, 0, 1]) rfl (by decide)) (ma_le_cons rfl (ma_le_cons rfl (ma_le_cons rfl (ma_le_nil _)))) (h d w _ Q (by omega) (by omega) hS rfl HQ)
    · intro hc
      rw [if_neg hc] at h
      refine zw_sto hm_261 dX12_dirtyCards_22 [(1, .inl (l1 + (1 : Int32))), (0, .inr (.inr (some 94))), (2, .inl l2)] rfl rfl rfl ?_
      refine zw_sto hm_261 dX12_dirtyCards_25 [(2, .inl (l2 + (1 : Int32))), (1, .inl (l1 + (1 : Int32))), (0, .inr (.inr (some 94)))] rfl rfl rfl ?_
      refine zw_goto hm_261 dX12_dirtyCards_28 (t := 4) rfl ?_
      exact zw_sub (ma_nd_of (ks := [0, 1, 2]) rfl (by decide)) (ma_nd_of (ks := [2, 1, 0]) rfl (by decide)) (ma_le_cons rfl (ma_le_cons rfl (ma_le_cons rfl (ma_le_nil _)))) (h d w _ Q (by omega) (by omega) hS rfl HQ)
theorem lp_261_4 {X : Nat × (Nat → Int32)} {P : Option ma_V → (Nat → Nat → Int32) → Prop} {m0 : Nat → Nat → Int32} (h0 : zV m0) (K : ∀ v m₉, zF wr_261 m0 m₉ → zV m₉ → P (some (.inl v)) m₉) : ∀ (n : Nat) (m : Nat → Nat → Int32) (l1 : Int32) (l2 : Int32), (512 - l2.toInt).toNat = n → zF wr_261 m0 m → zV m → (0 ≤ l2.toInt) → zm X 0 0 261 4 [(0, .inr (.inr (some 94))), (1, .inl l1), (2, .inl l2)] m P := by
  intro n
  induction n using Nat.strongRecOn with
  | _ n IH =>
    intro m l1 l2 hmu hF hV hi0
    refine g_261_4 l1 l2 ?_
    have li1 : (512 : Int32).toInt = 512 := rfl
    have b2 := i_bd l2
    refine zd (fun (h3 : (512 : Int32) ≤ l2) => ?_) (fun (h3 : ¬ (512 : Int32) ≤ l2) => ?_)
    · skip
      have g4 := i_le h3
      have b5 := i_bd l1
      exact K (l1) _ hF hV 
    · skip
      have g6 := i_nle h3
      have hg7 : (0 ≤ l2 ∧ l2.toNatClampNeg < 512) := i_ix (by omega) (by omega)
      refine ⟨hg7, ?_⟩
      first | have f8 : 0 ≤ (m 117 l2.toNatClampNeg).toInt ∧ (m 117 l2.toNatClampNeg).toInt ≤ 1 := ra_117 (m := m) hV (k := l2.toNatClampNeg) (i_ix (n := 512) (by omega) (by omega)).2 | have b9 := i_bd (m 117 l2.toNatClampNeg)
      have li10 : (0 : Int32).toInt = 0 := rfl
      refine zd (fun (h11 : (m 117 l2.toNatClampNeg) = (0 : Int32)) => ?_) (fun (h11 : ¬ (m 117 l2.toNatClampNeg) = (0 : Int32)) => ?_)
      · skip
        have g12 := i_eq h11
        have b13 := i_bd l1
        first | have e14 : (l2 + (1 : Int32)).toInt = l2.toInt + (1) := i_addk rfl (by omega) (by omega) | have b15 := i_bd (l2 + (1 : Int32))
        exact IH (512 - (l2 + (1 : Int32)).toInt).toNat (by omega) _ (l1) ((l2 + (1 : Int32))) rfl hF hV (by omega)
      · skip
        have g16 := i_ne h11
        have b17 := i_bd l1
        first | have e18 : (l1 + (1 : Int32)).toInt = l1.toInt + (1) := i_addk rfl (by omega) (by omega) | have b19 := i_bd (l1 + (1 : Int32))
        first | have e20 : (l2 + (1 : Int32)).toInt = l2.toInt + (1) := i_addk rfl (by omega) (by omega) | have b21 := i_bd (l2 + (1 : Int32))
        exact IH (512 - (l2 + (1 : Int32)).toInt).toNat (by omega) _ ((l1 + (1 : Int32))) ((l2 + (1 : Int32))) rfl hF hV (by omega)
theorem sp_261 {X : Nat × (Nat → Int32)} {P : Option ma_V → (Nat → Nat → Int32) → Prop} {m : Nat → Nat → Int32}  (hV : zV m)  (KZ : ∀ v m₉, zV (zov wr_261 m m₉) → P (some (.inl v)) (zov wr_261 m m₉)) : zm X 0 0 261 0 [(0, .inr (.inr (some 94)))] m P := by
  have K : ∀ v m₉, zF wr_261 m m₉ → zV m₉ → P (some (.inl v)) m₉ := by
    intro v m₉ hf z 
    have e := zov_eq hf
    rw [e] at z ⊢
    exact KZ v m₉ z 
  refine g_261_0  ?_
  have li1 : (0 : Int32).toInt = 0 := rfl
  exact lp_261_4 hV K _ _ ((0 : Int32)) ((0 : Int32)) rfl zF_rfl hV (by omega)

