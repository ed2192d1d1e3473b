/-! the reference (written by wip/tools/gen94m.py) -/
set_option maxRecDepth 100000 in
theorem hm_166 : ma_md 166 = some (12, yX12_feed, cX12_feed, 6, (some (FieldType.int))) := rfl
theorem v_12_114_12 : ma_vl 12 114 12 = some (1, 168, 1) := by decide +kernel
theorem dX12_feed_0 : decode cX12_feed 0 = .ok (.aload_n 0, 1) := by decide +kernel
theorem dX12_feed_1 : decode cX12_feed 1 = .ok (.aload_n 0, 1) := by decide +kernel
theorem dX12_feed_5 : decode cX12_feed 5 = .ok (.bipush 20, 2) := by decide +kernel
theorem dX12_feed_7 : decode cX12_feed 7 = .ok (.iadd, 1) := by decide +kernel
theorem dX12_feed_8 : decode cX12_feed 8 = .ok (.bipush 100, 2) := by decide +kernel
theorem dX12_feed_17 : decode cX12_feed 17 = .ok (.iconst 0, 1) := by decide +kernel
theorem dX12_feed_18 : decode cX12_feed 18 = .ok (.invokevirtual 110, 3) := by decide +kernel
theorem dX12_feed_21 : decode cX12_feed 21 = .ok (.ifCond .eq 5, 3) := by decide +kernel
theorem dX12_feed_26 : decode cX12_feed 26 = .ok (.aload_n 0, 1) := by decide +kernel
theorem dX12_feed_27 : decode cX12_feed 27 = .ok (.iload_n 1, 1) := by decide +kernel
theorem dX12_feed_28 : decode cX12_feed 28 = .ok (.invokevirtual 114, 3) := by decide +kernel
theorem dX12_feed_31 : decode cX12_feed 31 = .ok (.aload_n 0, 1) := by decide +kernel
theorem dX12_feed_32 : decode cX12_feed 32 = .ok (.iload_n 2, 1) := by decide +kernel
theorem dX12_feed_33 : decode cX12_feed 33 = .ok (.invokevirtual 114, 3) := by decide +kernel
theorem dX12_feed_36 : decode cX12_feed 36 = .ok (.aload_n 0, 1) := by decide +kernel
theorem dX12_feed_37 : decode cX12_feed 37 = .ok (.iload_n 3, 1) := by decide +kernel
theorem dX12_feed_38 : decode cX12_feed 38 = .ok (.invokevirtual 114, 3) := by decide +kernel
theorem dX12_feed_41 : decode cX12_feed 41 = .ok (.aload_n 0, 1) := by decide +kernel
theorem dX12_feed_42 : decode cX12_feed 42 = .ok (.iload 4, 2) := by decide +kernel
theorem dX12_feed_44 : decode cX12_feed 44 = .ok (.invokevirtual 114, 3) := by decide +kernel
theorem dX12_feed_47 : decode cX12_feed 47 = .ok (.aload_n 0, 1) := by decide +kernel
theorem dX12_feed_48 : decode cX12_feed 48 = .ok (.iload 5, 2) := by decide +kernel
theorem dX12_feed_50 : decode cX12_feed 50 = .ok (.invokevirtual 114, 3) := by decide +kernel
theorem dX12_feed_53 : decode cX12_feed 53 = .ok (.aload_n 0, 1) := by decide +kernel
theorem dX12_feed_57 : decode cX12_feed 57 = .ok (.ireturn, 1) := by decide +kernel
theorem dX12_feed_54 : decode cX12_feed 54 = .ok (.getfield 107, 3) := by decide +kernel
theorem dX12_feed_13 : decode cX12_feed 13 = .ok (.iconst 1, 1) := by decide +kernel
theorem dX12_feed_14 : decode cX12_feed 14 = .ok (.goto 4, 3) := by decide +kernel
theorem dX12_feed_24 : decode cX12_feed 24 = .ok (.iconst 0, 1) := by decide +kernel
theorem dX12_feed_25 : decode cX12_feed 25 = .ok (.ireturn, 1) := by decide +kernel
theorem dX12_feed_10 : decode cX12_feed 10 = .ok (.if_icmp .le 7, 3) := by decide +kernel
theorem dX12_feed_2 : decode cX12_feed 2 = .ok (.getfield 107, 3) := by decide +kernel
def wr_166 (c k : Nat) : Bool := Nat.beq c 95 || (Nat.beq c 94 && (Nat.beq k 0 || Nat.beq k 3))
theorem ws_168_166 : ∀ c k, wr_168 c k = true → wr_166 c k = true := by
  intro c k h
  simp only [wr_168, wr_166, Bool.or_eq_true, Bool.and_eq_true, Nat.beq_eq] at h ⊢
  omega
theorem g_166_0 {X : Nat × (Nat → Int32)} {m : Nat → Nat → Int32} {P : Option ma_V → (Nat → Nat → Int32) → Prop} (xa : Int32) (xb : Int32) (xc : Int32) (xd : Int32) (xe : Int32) (h : if ((m 94 3) + (20 : Int32)) ≤ (100 : Int32) then (zm X 0 0 168 0 [(0, .inr (.inr (some 94))), (1, .inl xa)] (ma_u m 94 0 (0 : Int32)) (zmv (fun m1 => zm X 0 0 168 0 [(0, .inr (.inr (some 94))), (1, .inl xb)] m1 (zmv (fun m3 => zm X 0 0 168 0 [(0, .inr (.inr (some 94))), (1, .inl xc)] m3 (zmv (fun m5 => zm X 0 0 168 0 [(0, .inr (.inr (some 94))), (1, .inl xd)] m5 (zmv (fun m7 => zm X 0 0 168 0 [(0, .inr (.inr (some 94))), (1, .inl xe)] m7 (zmv (fun m9 => P (some (.inl (m9 94 3))) m9))))))))))) else (P (some (.inl (0 : Int32))) (ma_u m 94 0 (1 : Int32)))) : zm X 1 22 166 0 [(0, .inr (.inr (some 94))), (1, .inl xa), (2, .inl xb), (3, .inl xc), (4, .inl xd), (5, .inl xe)] m P := by
  intro d w S Q hd hw hS hm HQ
  subst hm
  refine zw_push hm_166 dX12_feed_0 (v := .inr (.inr (some 94))) rfl ?_
  refine zw_push hm_166 dX12_feed_1 (v := .inr (.inr (some 94))) rfl ?_
  refine zw_gf hm_166 dX12_feed_2 (v := .inl ((mI S) 94 3)) (zT_is hS s_94) (zT_t hS s_94) rfl f_12_107_12 rfl ?_
  refine zw_push hm_166 dX12_feed_5 (v := .inl (20 : Int32)) rfl ?_
  refine zw_stk hm_166 dX12_feed_7 (st' := [.inl (((mI S) 94 3) + (20 : Int32)), .inr (.inr (some 94))]) rfl rfl ?_
  refine zw_push hm_166 dX12_feed_8 (v := .inl (100 : Int32)) rfl ?_
  refine zw_if2 hm_166 dX12_feed_10 (t := 17) rfl zc2_le ?_ ?_
  · intro hc
    rw [if_pos hc] at h
    refine zw_push hm_166 dX12_feed_17 (v := .inl (0 : Int32)) rfl ?_
    refine zw_cv hm_166 dX12_feed_18 v_12_110_12 hm_167 [.inl (0 : Int32)] [] rfl (zT_rt hS s_94 rfl) ⟨by omega, by omega⟩ rfl ?_
    show ma_wp X (d - 1) (w - 21) 167 0 [(0, .inr (.inr (some 94))), (1, .inl (0 : Int32))] [] S _
    refine zw_push hm_167 dX12_fails_0 (v := .inr (.inr (some 94))) rfl ?_
    refine zw_push hm_167 dX12_fails_1 (v := .inl (0 : Int32)) rfl ?_
    refine zw_pf hm_167 dX12_fails_2 (zT_is hS s_94) (zT_t hS s_94) p_12_1_12 zk_int ?_
    refine zw_push hm_167 dX12_fails_5 (v := .inl (0 : Int32)) rfl ?_
    refine zw_if0 hm_167 dX12_fails_6 (t := 13) rfl zc0_eq (fun _ => ?_) (fun hc => absurd (by decide) hc)
    refine zw_push hm_167 dX12_fails_13 (v := .inl (0 : Int32)) rfl ?_
    refine zw_bret hm_167 dX12_fails_14 (by decide) ?_
    show ma_wp X d w 166 21 [(0, .inr (.inr (some 94))), (1, .inl xa), (2, .inl xb), (3, .inl xc), (4, .inl xd), (5, .inl xe)] [.inl (0 : Int32)] (ma_put S 94 0 (.inl (0 : Int32))) _
    refine zw_if0 hm_166 dX12_feed_21 (t := 26) rfl zc0_eq (fun _ => ?_) (fun hc => absurd (by decide) hc)
    refine zw_push hm_166 dX12_feed_26 (v := .inr (.inr (some 94))) rfl ?_
    refine zw_push hm_166 dX12_feed_27 (v := .inl xa) rfl ?_
    refine zw_cv hm_166 dX12_feed_28 v_12_114_12 hm_168 [.inl xa] [] rfl (zT_rt (zT_pi hS) s_94 rfl) ⟨by omega, by omega⟩ rfl (h _ _ (ma_put S 94 0 (.inl (0 : Int32))) _ (by omega) (by omega) (zT_pi hS) rfl (fun o9 m1 hv => ?_))
    obtain ⟨rfl, h⟩ := zmv_of hv
    show ma_wp X d w 166 31 [(0, .inr (.inr (some 94))), (1, .inl xa), (2, .inl xb), (3, .inl xc), (4, .inl xd), (5, .inl xe)] [] (zst S m1) _
    refine zw_push hm_166 dX12_feed_31 (v := .inr (.inr (some 94))) rfl ?_
    refine zw_push hm_166 dX12_feed_32 (v := .inl xb) rfl ?_
    refine zw_cv hm_166 dX12_feed_33 v_12_114_12 hm_168 [.inl xb] [] rfl (zT_rt (zT_zst hS m1) s_94 rfl) ⟨by omega, by omega⟩ rfl (h _ _ (zst S m1) _ (by omega) (by omega) (zT_zst hS m1) rfl (fun o9 m3 hv => ?_))
    obtain ⟨rfl, h⟩ := zmv_of hv
    show ma_wp X d w 166 36 [(0, .inr (.inr (some 94))), (1, .inl xa), (2, .inl xb), (3, .inl xc), (4, .inl xd), (5, .inl xe)] [] (zst S m3) _
    refine zw_push hm_166 dX12_feed_36 (v := .inr (.inr (some 94))) rfl ?_
    refine zw_push hm_166 dX12_feed_37 (v := .inl xc) rfl ?_
    refine zw_cv hm_166 dX12_feed_38 v_12_114_12 hm_168 [.inl xc] [] rfl (zT_rt (zT_zst hS m3) s_94 rfl) ⟨by omega, by omega⟩ rfl (h _ _ (zst S m3) _ (by omega) (by omega) (zT_zst hS m3) rfl (fun o9 m5 hv => ?_))
    obtain ⟨rfl, h⟩ := zmv_of hv
    show ma_wp X d w 166 41 [(0, .inr (.inr (some 94))), (1, .inl xa), (2, .inl xb), (3, .inl xc), (4, .inl xd), (5, .inl xe)] [] (zst S m5) _
    refine zw_push hm_166 dX12_feed_41 (v := .inr (.inr (some 94))) rfl ?_
    refine zw_push hm_166 dX12_feed_42 (v := .inl xd) rfl ?_
    refine zw_cv hm_166 dX12_feed_44 v_12_114_12 hm_168 [.inl xd] [] rfl (zT_rt (zT_zst hS m5) s_94 rfl) ⟨by omega, by omega⟩ rfl (h _ _ (zst S m5) _ (by omega) (by omega) (zT_zst hS m5) rfl (fun o9 m7 hv => ?_))
    obtain ⟨rfl, h⟩ := zmv_of hv
    show ma_wp X d w 166 47 [(0, .inr (.inr (some 94))), (1, .inl xa), (2, .inl xb), (3, .inl xc), (4, .inl xd), (5, .inl xe)] [] (zst S m7) _
    refine zw_push hm_166 dX12_feed_47 (v := .inr (.inr (some 94))) rfl ?_
    refine zw_push hm_166 dX12_feed_48 (v := .inl xe) rfl ?_
    refine zw_cv hm_166 dX12_feed_50 v_12_114_12 hm_168 [.inl xe] [] rfl (zT_rt (zT_zst hS m7) s_94 rfl) ⟨by omega, by omega⟩ rfl (h _ _ (zst S m7) _ (by omega) (by omega) (zT_zst hS m7) rfl (fun o9 m9 hv => ?_))
    obtain ⟨rfl, h⟩ := zmv_of hv
    show ma_wp X d w 166 53 [(0, .inr (.inr (some 94))), (1, .inl xa), (2, .inl xb), (3, .inl xc), (4, .inl xd), (5, .inl xe)] [] (zst S m9) _
    refine zw_push hm_166 dX12_feed_53 (v := .inr (.inr (some 94))) rfl ?_
    refine zw_gf hm_166 dX12_feed_54 (v := .inl (m9 94 3)) (zT_is (zT_zst hS m9) s_94) (zT_t (zT_zst hS m9) s_94) rfl f_12_107_12 rfl ?_
    exact zw_iret hm_166 dX12_feed_57 (HQ _ _ h)
  · intro hc
    rw [if_neg hc] at h
    refine zw_push hm_166 dX12_feed_13 (v := .inl (1 : Int32)) rfl ?_
    refine zw_goto hm_166 dX12_feed_14 (t := 18) rfl ?_
    refine zw_cv hm_166 dX12_feed_18 v_12_110_12 hm_167 [.inl (1 : Int32)] [] rfl (zT_rt hS s_94 rfl) ⟨by omega, by omega⟩ rfl ?_
    show ma_wp X (d - 1) (w - 21) 167 0 [(0, .inr (.inr (some 94))), (1, .inl (1 : Int32))] [] S _
    refine zw_push hm_167 dX12_fails_0 (v := .inr (.inr (some 94))) rfl ?_
    refine zw_push hm_167 dX12_fails_1 (v := .inl (1 : Int32)) rfl ?_
    refine zw_pf hm_167 dX12_fails_2 (zT_is hS s_94) (zT_t hS s_94) p_12_1_12 zk_int ?_
    refine zw_push hm_167 dX12_fails_5 (v := .inl (1 : Int32)) rfl ?_
    refine zw_if0 hm_167 dX12_fails_6 (t := 13) rfl zc0_eq (fun hc => absurd hc (by decide)) (fun _ => ?_)
    refine zw_push hm_167 dX12_fails_9 (v := .inl (1 : Int32)) rfl ?_
    refine zw_goto hm_167 dX12_fails_10 (t := 14) rfl ?_
    refine zw_bret hm_167 dX12_fails_14 (by decide) ?_
    show ma_wp X d w 166 21 [(0, .inr (.inr (some 94))), (1, .inl xa), (2, .inl xb), (3, .inl xc), (4, .inl xd), (5, .inl xe)] [.inl (1 : Int32)] (ma_put S 94 0 (.inl (1 : Int32))) _
    refine zw_if0 hm_166 dX12_feed_21 (t := 26) rfl zc0_eq (fun hc => absurd hc (by decide)) (fun _ => ?_)
    refine zw_push hm_166 dX12_feed_24 (v := .inl (0 : Int32)) rfl ?_
    exact zw_iret hm_166 dX12_feed_25 (HQ _ _ h)
theorem sp_166 {X : Nat × (Nat → Int32)} {P : Option ma_V → (Nat → Nat → Int32) → Prop} {m : Nat → Nat → Int32} (xa : Int32) (xb : Int32) (xc : Int32) (xd : Int32) (xe : Int32) (hV : zV m)  (KZ : ∀ v m', zV (zov wr_166 m m') → ((81 ≤ (m 94 3).toInt ∧ (m' 94 0).toInt = 1 ∧ (m' 94 3).toInt = (m 94 3).toInt) ∨ ((m 94 3).toInt ≤ 80 ∧ (m' 94 0).toInt = 0 ∧ (m' 94 3).toInt = (m 94 3).toInt + 20 ∧ v.toInt = (m 94 3).toInt + 20)) → P (some (.inl v)) (zov wr_166 m m')) : zm X 1 22 166 0 [(0, .inr (.inr (some 94))), (1, .inl xa), (2, .inl xb), (3, .inl xc), (4, .inl xd), (5, .inl xe)] m P := by
  have K : ∀ v m', zF wr_166 m m' → zV m' → ((81 ≤ (m 94 3).toInt ∧ (m' 94 0).toInt = 1 ∧ (m' 94 3).toInt = (m 94 3).toInt) ∨ ((m 94 3).toInt ≤ 80 ∧ (m' 94 0).toInt = 0 ∧ (m' 94 3).toInt = (m 94 3).toInt + 20 ∧ v.toInt = (m 94 3).toInt + 20)) → P (some (.inl v)) m' := by
    intro v m' hf z q0
    have e := zov_eq hf
    rw [e] at z ⊢
    try rw [e] at q0
    exact KZ v m' z q0
  refine g_166_0 xa xb xc xd xe ?_
  have f1 : 0 ≤ (m 94 3).toInt ∧ (m 94 3).toInt ≤ 100 := rs_94_3 (m := m) hV
  first | have e2 : ((m 94 3) + (20 : Int32)).toInt = (m 94 3).toInt + (20) := i_addk rfl (by omega) (by omega) | have b3 := i_bd ((m 94 3) + (20 : Int32))
  have li4 : (100 : Int32).toInt = 100 := rfl
  refine zd (fun (h5 : ((m 94 3) + (20 : Int32)) ≤ (100 : Int32)) => ?_) (fun (h5 : ¬ ((m 94 3) + (20 : Int32)) ≤ (100 : Int32)) => ?_)
  · skip
    have g6 := i_le h5
    have hV7 : zV (ma_u m 94 0 (0 : Int32)) := uf_94_0 hV
    refine sp_168 (xa) hV7 (show (m 94 3).toInt ≤ 96 from by omega) (fun m1 hV_m1 p0_m1 => zmv_n ?_)
    have p0_m1 : (m1 94 3).toInt = (m 94 3).toInt + 4 := p0_m1
    have f8 : 0 ≤ (m1 94 3).toInt ∧ (m1 94 3).toInt ≤ 100 := rs_94_3 (m := (zov wr_168 (ma_u m 94 0 (0 : Int32)) m1)) hV_m1
    refine sp_168 (xb) hV_m1 (show (m1 94 3).toInt ≤ 96 from by omega) (fun m3 hV_m3 p0_m3 => zmv_n ?_)
    have p0_m3 : (m3 94 3).toInt = (m1 94 3).toInt + 4 := p0_m3
    have f9 : 0 ≤ (m3 94 3).toInt ∧ (m3 94 3).toInt ≤ 100 := rs_94_3 (m := (zov wr_168 (zov wr_168 (ma_u m 94 0 (0 : Int32)) m1) m3)) hV_m3
    refine sp_168 (xc) hV_m3 (show (m3 94 3).toInt ≤ 96 from by omega) (fun m5 hV_m5 p0_m5 => zmv_n ?_)
    have p0_m5 : (m5 94 3).toInt = (m3 94 3).toInt + 4 := p0_m5
    have f10 : 0 ≤ (m5 94 3).toInt ∧ (m5 94 3).toInt ≤ 100 := rs_94_3 (m := (zov wr_168 (zov wr_168 (zov wr_168 (ma_u m 94 0 (0 : Int32)) m1) m3) m5)) hV_m5
    refine sp_168 (xd) hV_m5 (show (m5 94 3).toInt ≤ 96 from by omega) (fun m7 hV_m7 p0_m7 => zmv_n ?_)
    have p0_m7 : (m7 94 3).toInt = (m5 94 3).toInt + 4 := p0_m7
    have f11 : 0 ≤ (m7 94 3).toInt ∧ (m7 94 3).toInt ≤ 100 := rs_94_3 (m := (zov wr_168 (zov wr_168 (zov wr_168 (zov wr_168 (ma_u m 94 0 (0 : Int32)) m1) m3) m5) m7)) hV_m7
    refine sp_168 (xe) hV_m7 (show (m7 94 3).toInt ≤ 96 from by omega) (fun m9 hV_m9 p0_m9 => zmv_n ?_)
    have p0_m9 : (m9 94 3).toInt = (m7 94 3).toInt + 4 := p0_m9
    have f12 : 0 ≤ (m9 94 3).toInt ∧ (m9 94 3).toInt ≤ 100 := rs_94_3 (m := (zov wr_168 (zov wr_168 (zov wr_168 (zov wr_168 (zov wr_168 (ma_u m 94 0 (0 : Int32)) m1) m3) m5) m7) m9)) hV_m9
    have li13 : (0 : Int32).toInt = 0 := rfl
    exact K ((m9 94 3)) _ (zF_zov (zF_zov (zF_zov (zF_zov (zF_zov (zF_u zF_rfl rfl) ws_168_166) ws_168_166) ws_168_166) ws_168_166) ws_168_166) hV_m9 (show (81 ≤ (m 94 3).toInt ∧ (0 : Int32).toInt = 1 ∧ (m9 94 3).toInt = (m 94 3).toInt) ∨ ((m 94 3).toInt ≤ 80 ∧ (0 : Int32).toInt = 0 ∧ (m9 94 3).toInt = (m 94 3).toInt + 20 ∧ (m9 94 3).toInt = (m 94 3).toInt + 20) from by omega)
  · skip
    have g14 := i_nle h5
    have hV15 : zV (ma_u m 94 0 (1 : Int32)) := uf_94_0 hV
    have li16 : (0 : Int32).toInt = 0 := rfl
    have li17 : (1 : Int32).toInt = 1 := rfl
    exact K ((0 : Int32)) _ (zF_u zF_rfl rfl) hV15 (show (81 ≤ (m 94 3).toInt ∧ (1 : Int32).toInt = 1 ∧ (m 94 3).toInt = (m 94 3).toInt) ∨ ((m 94 3).toInt ≤ 80 ∧ (1 : Int32).toInt = 0 ∧ (m 94 3).toInt = (m 94 3).toInt + 20 ∧ (0 : Int32).toInt = (m 94 3).toInt + 20) from by omega)
set_option maxRecDepth 100000 in
theorem hm_169 : ma_md 169 = some (12, yX12_end, cX12_end, 2, (some (FieldType.int))) := rfl
theorem dX12_end_0 : decode cX12_end 0 = .ok (.aload_n 0, 1) := by decide +kernel
theorem dX12_end_1 : decode cX12_end 1 = .ok (.iload_n 1, 1) := by decide +kernel
theorem dX12_end_13 : decode cX12_end 13 = .ok (.iconst 1, 1) := by decide +kernel
theorem dX12_end_14 : decode cX12_end 14 = .ok (.goto 4, 3) := by decide +kernel
theorem dX12_end_18 : decode cX12_end 18 = .ok (.invokevirtual 110, 3) := by decide +kernel
theorem dX12_end_21 : decode cX12_end 21 = .ok (.ifCond .eq 5, 3) := by decide +kernel
theorem dX12_end_24 : decode cX12_end 24 = .ok (.iconst 0, 1) := by decide +kernel
theorem dX12_end_25 : decode cX12_end 25 = .ok (.ireturn, 1) := by decide +kernel
theorem dX12_end_5 : decode cX12_end 5 = .ok (.iload_n 1, 1) := by decide +kernel
theorem dX12_end_6 : decode cX12_end 6 = .ok (.aload_n 0, 1) := by decide +kernel
theorem dX12_end_17 : decode cX12_end 17 = .ok (.iconst 0, 1) := by decide +kernel
theorem dX12_end_26 : decode cX12_end 26 = .ok (.aload_n 0, 1) := by decide +kernel
theorem dX12_end_27 : decode cX12_end 27 = .ok (.iload_n 1, 1) := by decide +kernel
theorem dX12_end_31 : decode cX12_end 31 = .ok (.iload_n 1, 1) := by decide +kernel
theorem dX12_end_32 : decode cX12_end 32 = .ok (.ireturn, 1) := by decide +kernel
theorem dX12_end_28 : decode cX12_end 28 = .ok (.putfield 107, 3) := by decide +kernel
theorem dX12_end_10 : decode cX12_end 10 = .ok (.if_icmp .le 7, 3) := by decide +kernel
theorem dX12_end_7 : decode cX12_end 7 = .ok (.getfield 107, 3) := by decide +kernel
theorem dX12_end_2 : decode cX12_end 2 = .ok (.ifCond .lt 11, 3) := by decide +kernel
def wr_169 (c k : Nat) : Bool := (Nat.beq c 94 && (Nat.beq k 0 || Nat.beq k 3))
theorem g_169_0 {X : Nat × (Nat → Int32)} {m : Nat → Nat → Int32} {P : Option ma_V → (Nat → Nat → Int32) → Prop} (nn : Int32) (h : if nn < 0 then (P (some (.inl (0 : Int32))) (ma_u m 94 0 (1 : Int32))) else (if nn ≤ (m 94 3) then (P (some (.inl nn)) (ma_u (ma_u m 94 0 (0 : Int32)) 94 3 nn)) else (P (some (.inl (0 : Int32))) (ma_u m 94 0 (1 : Int32))))) : zm X 1 21 169 0 [(0, .inr (.inr (some 94))), (1, .inl nn)] m P := by
  intro d w S Q hd hw hS hm HQ
  subst hm
  refine zw_push hm_169 dX12_end_0 (v := .inr (.inr (some 94))) rfl ?_
  refine zw_push hm_169 dX12_end_1 (v := .inl nn) rfl ?_
  refine zw_if0 hm_169 dX12_end_2 (t := 13) rfl zc0_lt ?_ ?_
  · intro hc
    rw [if_pos hc] at h
    refine zw_push hm_169 dX12_end_13 (v := .inl (1 : Int32)) rfl ?_
    refine zw_goto hm_169 dX12_end_14 (t := 18) rfl ?_
    refine zw_cv hm_169 dX12_end_18 v_12_110_12 hm_167 [.inl (1 : Int32)] [] rfl (zT_rt hS s_94 rfl) ⟨by omega, by omega⟩ rfl ?_
    show ma_wp X (d - 1) (w - 21) 167 0 [(0, .inr (.inr (some 94))), (1, .inl (1 : Int32))] [] S _
    refine zw_push hm_167 dX12_fails_0 (v := .inr (.inr (some 94))) rfl ?_
    refine zw_push hm_167 dX12_fails_1 (v := .inl (1 : Int32)) rfl ?_
    refine zw_pf hm_167 dX12_fails_2 (zT_is hS s_94) (zT_t hS s_94) p_12_1_12 zk_int ?_
    refine zw_push hm_167 dX12_fails_5 (v := .inl (1 : Int32)) rfl ?_
    refine zw_if0 hm_167 dX12_fails_6 (t := 13) rfl zc0_eq (fun hc => absurd hc (by decide)) (fun _ => ?_)
    refine zw_push hm_167 dX12_fails_9 (v := .inl (1 : Int32)) rfl ?_
    refine zw_goto hm_167 dX12_fails_10 (t := 14) rfl ?_
    refine zw_bret hm_167 dX12_fails_14 (by decide) ?_
    show ma_wp X d w 169 21 [(0, .inr (.inr (some 94))), (1, .inl nn)] [.inl (1 : Int32)] (ma_put S 94 0 (.inl (1 : Int32))) _
    refine zw_if0 hm_169 dX12_end_21 (t := 26) rfl zc0_eq (fun hc => absurd hc (by decide)) (fun _ => ?_)
    refine zw_push hm_169 dX12_end_24 (v := .inl (0 : Int32)) rfl ?_
    exact zw_iret hm_169 dX12_end_25 (HQ _ _ h)
  · intro hc
    rw [if_neg hc] at h
    refine zw_push hm_169 dX12_end_5 (v := .inl nn) rfl ?_
    refine zw_push hm_169 dX12_end_6 (v := .inr (.inr (some 94))) rfl ?_
    refine zw_gf hm_169 dX12_end_7 (v := .inl ((mI S) 94 3)) (zT_is hS s_94) (zT_t hS s_94) rfl f_12_107_12 rfl ?_
    refine zw_if2 hm_169 dX12_end_10 (t := 17) rfl zc2_le ?_ ?_
    · intro hc
      rw [if_pos hc] at h
      refine zw_push hm_169 dX12_end_17 (v := .inl (0 : Int32)) rfl ?_
      refine zw_cv hm_169 dX12_end_18 v_12_110_12 hm_167 [.inl (0 : Int32)] [] rfl (zT_rt hS s_94 rfl) ⟨by omega, by omega⟩ rfl ?_
      show ma_wp X (d - 1) (w - 21) 167 0 [(0, .inr (.inr (some 94))), (1, .inl (0 : Int32))] [] S _
      refine zw_push hm_167 dX12_fails_0 (v := .inr (.inr (some 94))) rfl ?_
      refine zw_push hm_167 dX12_fails_1 (v := .inl (0 : Int32)) rfl ?_
      refine zw_pf hm_167 dX12_fails_2 (zT_is hS s_94) (zT_t hS s_94) p_12_1_12 zk_int ?_
      refine zw_push hm_167 dX12_fails_5 (v := .inl (0 : Int32)) rfl ?_
      refine zw_if0 hm_167 dX12_fails_6 (t := 13) rfl zc0_eq (fun _ => ?_) (fun hc => absurd (by decide) hc)
      refine zw_push hm_167 dX12_fails_13 (v := .inl (0 : Int32)) rfl ?_
      refine zw_bret hm_167 dX12_fails_14 (by decide) ?_
      show ma_wp X d w 169 21 [(0, .inr (.inr (some 94))), (1, .inl nn)] [.inl (0 : Int32)] (ma_put S 94 0 (.inl (0 : Int32))) _
      refine zw_if0 hm_169 dX12_end_21 (t := 26) rfl zc0_eq (fun _ => ?_) (fun hc => absurd (by decide) hc)
      refine zw_push hm_169 dX12_end_26 (v := .inr (.inr (some 94))) rfl ?_
      refine zw_push hm_169 dX12_end_27 (v := .inl nn) rfl ?_
      refine zw_pf hm_169 dX12_end_28 (zT_is (zT_pi hS) s_94) (zT_t (zT_pi hS) s_94) p_12_107_12 zk_int ?_
      refine zw_push hm_169 dX12_end_31 (v := .inl nn) rfl ?_
      exact zw_iret hm_169 dX12_end_32 (HQ _ _ h)
    · intro hc
      rw [if_neg hc] at h
      refine zw_push hm_169 dX12_end_13 (v := .inl (1 : Int32)) rfl ?_
      refine zw_goto hm_169 dX12_end_14 (t := 18) rfl ?_
      refine zw_cv hm_169 dX12_end_18 v_12_110_12 hm_167 [.inl (1 : Int32)] [] rfl (zT_rt hS s_94 rfl) ⟨by omega, by omega⟩ rfl ?_
      show ma_wp X (d - 1) (w - 21) 167 0 [(0, .inr (.inr (some 94))), (1, .inl (1 : Int32))] [] S _
      refine zw_push hm_167 dX12_fails_0 (v := .inr (.inr (some 94))) rfl ?_
      refine zw_push hm_167 dX12_fails_1 (v := .inl (1 : Int32)) rfl ?_
      refine zw_pf hm_167 dX12_fails_2 (zT_is hS s_94) (zT_t hS s_94) p_12_1_12 zk_int ?_
      refine zw_push hm_167 dX12_fails_5 (v := .inl (1 : Int32)) rfl ?_
      refine zw_if0 hm_167 dX12_fails_6 (t := 13) rfl zc0_eq (fun hc => absurd hc (by decide)) (fun _ => ?_)
      refine zw_push hm_167 dX12_fails_9 (v := .inl (1 : Int32)) rfl ?_
      refine zw_goto hm_167 dX12_fails_10 (t := 14) rfl ?_
      refine zw_bret hm_167 dX12_fails_14 (by decide) ?_
      show ma_wp X d w 169 21 [(0, .inr (.inr (some 94))), (1, .inl nn)] [.inl (1 : Int32)] (ma_put S 94 0 (.inl (1 : Int32))) _
      refine zw_if0 hm_169 dX12_end_21 (t := 26) rfl zc0_eq (fun hc => absurd hc (by decide)) (fun _ => ?_)
      refine zw_push hm_169 dX12_end_24 (v := .inl (0 : Int32)) rfl ?_
      exact zw_iret hm_169 dX12_end_25 (HQ _ _ h)
theorem sp_169 {X : Nat × (Nat → Int32)} {P : Option ma_V → (Nat → Nat → Int32) → Prop} {m : Nat → Nat → Int32} (nn : Int32) (hV : zV m)  (KZ : ∀ v m', zV (zov wr_169 m m') → (((nn.toInt < 0 ∨ (m 94 3).toInt < nn.toInt) ∧ (m' 94 0).toInt = 1 ∧ (m' 94 3).toInt = (m 94 3).toInt) ∨ (0 ≤ nn.toInt ∧ nn.toInt ≤ (m 94 3).toInt ∧ (m' 94 0).toInt = 0 ∧ (m' 94 3).toInt = nn.toInt ∧ v.toInt = nn.toInt)) → P (some (.inl v)) (zov wr_169 m m')) : zm X 1 21 169 0 [(0, .inr (.inr (some 94))), (1, .inl nn)] m P := by
  have K : ∀ v m', zF wr_169 m m' → zV m' → (((nn.toInt < 0 ∨ (m 94 3).toInt < nn.toInt) ∧ (m' 94 0).toInt = 1 ∧ (m' 94 3).toInt = (m 94 3).toInt) ∨ (0 ≤ nn.toInt ∧ nn.toInt ≤ (m 94 3).toInt ∧ (m' 94 0).toInt = 0 ∧ (m' 94 3).toInt = nn.toInt ∧ v.toInt = nn.toInt)) → P (some (.inl v)) m' := by
    intro v m' hf z q0
    have e := zov_eq hf
    rw [e] at z ⊢
    try rw [e] at q0
    exact KZ v m' z q0
  refine g_169_0 nn ?_
  have b1 := i_bd nn
  have li2 : (0 : Int32).toInt = 0 := rfl
  refine zd (fun (h3 : nn < (0 : Int32)) => ?_) (fun (h3 : ¬ nn < (0 : Int32)) => ?_)
  · skip
    have g4 := i_lt h3
    have hV5 : zV (ma_u m 94 0 (1 : Int32)) := uf_94_0 hV
    have f6 : 0 ≤ (m 94 3).toInt ∧ (m 94 3).toInt ≤ 100 := rs_94_3 (m := m) hV
    have li7 : (1 : Int32).toInt = 1 := rfl
    exact K ((0 : Int32)) _ (zF_u zF_rfl rfl) hV5 (show ((nn.toInt < 0 ∨ (m 94 3).toInt < nn.toInt) ∧ (1 : Int32).toInt = 1 ∧ (m 94 3).toInt = (m 94 3).toInt) ∨ (0 ≤ nn.toInt ∧ nn.toInt ≤ (m 94 3).toInt ∧ (1 : Int32).toInt = 0 ∧ (m 94 3).toInt = nn.toInt ∧ (0 : Int32).toInt = nn.toInt) from by omega)
  · skip
    have g8 := i_nlt h3
    have f9 : 0 ≤ (m 94 3).toInt ∧ (m 94 3).toInt ≤ 100 := rs_94_3 (m := m) hV
    refine zd (fun (h10 : nn ≤ (m 94 3)) => ?_) (fun (h10 : ¬ nn ≤ (m 94 3)) => ?_)
    · skip
      have g11 := i_le h10
      have hV12 : zV (ma_u m 94 0 (0 : Int32)) := uf_94_0 hV
      have hV13 : zV (ma_u (ma_u m 94 0 (0 : Int32)) 94 3 nn) := us_94_3 hV12 (by omega) (by omega)
      exact K (nn) _ (zF_u (zF_u zF_rfl rfl) rfl) hV13 (show ((nn.toInt < 0 ∨ (m 94 3).toInt < nn.toInt) ∧ (0 : Int32).toInt = 1 ∧ nn.toInt = (m 94 3).toInt) ∨ (0 ≤ nn.toInt ∧ nn.toInt ≤ (m 94 3).toInt ∧ (0 : Int32).toInt = 0 ∧ nn.toInt = nn.toInt ∧ nn.toInt = nn.toInt) from by omega)
    · skip
      have g14 := i_nle h10
      have hV15 : zV (ma_u m 94 0 (1 : Int32)) := uf_94_0 hV
      have li16 : (1 : Int32).toInt = 1 := rfl
      exact K ((0 : Int32)) _ (zF_u zF_rfl rfl) hV15 (show ((nn.toInt < 0 ∨ (m 94 3).toInt < nn.toInt) ∧ (1 : Int32).toInt = 1 ∧ (m 94 3).toInt = (m 94 3).toInt) ∨ (0 ≤ nn.toInt ∧ nn.toInt ≤ (m 94 3).toInt ∧ (1 : Int32).toInt = 0 ∧ (m 94 3).toInt = nn.toInt ∧ (0 : Int32).toInt = nn.toInt) from by omega)
