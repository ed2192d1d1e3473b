/-! from 95.h19 -/
/-! the reference by numbers (written by wip/tools/gen18r.py) -/
theorem g_217r_0 {X : Nat × (Nat → Int32)} {m : Nat → Nat → Int32} {P : Option ma_V → (Nat → Nat → Int32) → Prop} (nz : Int32) (h : if (m 94 58) = 0 then (if (m 94 11) ≤ (((m 94 11) - (m 94 45)) * (4 : Int32)) then (if (m 94 58) = 0 then (zm X 7 151 217 45 [(0, .inr (.inr (some 94))), (1, .inl nz)] m P) else (zm X 2 44 222 0 [(0, .inr (.inr (some 94))), (1, .inl (m 94 17))] m (zmi (fun v6 m5 => zm X 4 88 223 0 [(0, .inr (.inr (some 94)))] m5 (zmi (fun v8 m7 => zm X 7 151 217 45 [(0, .inr (.inr (some 94))), (1, .inl nz)] m7 P)))))) else (zm X 2 44 219 0 [(0, .inr (.inr (some 94)))] m (zmv (fun m9 => if (m9 94 58) = 0 then (zm X 7 151 217 45 [(0, .inr (.inr (some 94))), (1, .inl nz)] m9 P) else (zm X 2 44 222 0 [(0, .inr (.inr (some 94))), (1, .inl (m9 94 17))] m9 (zmi (fun v12 m11 => zm X 4 88 223 0 [(0, .inr (.inr (some 94)))] m11 (zmi (fun v14 m13 => zm X 7 151 217 45 [(0, .inr (.inr (some 94))), (1, .inl nz)] m13 P))))))))) else (if (m 94 58) = 0 then (zm X 7 151 217 45 [(0, .inr (.inr (some 94))), (1, .inl nz)] m P) else (zm X 2 44 222 0 [(0, .inr (.inr (some 94))), (1, .inl (m 94 17))] m (zmi (fun v2 m1 => zm X 4 88 223 0 [(0, .inr (.inr (some 94)))] m1 (zmi (fun v4 m3 => zm X 7 151 217 45 [(0, .inr (.inr (some 94))), (1, .inl nz)] m3 P))))))) : zm X 7 151 217 0 [(0, .inr (.inr (some 94))), (1, .inl nz)] m P := by
  intro d w S Q hd hw hS hm HQ
  subst hm
  refine zw_push hm_217 dX12_findInSteps_0 (v := .inr (.inr (some 94))) rfl ?_
  refine zw_gf hm_217 dX12_findInSteps_1 (v := .inl ((mI S) 94 58)) (zT_is hS s_94) (zT_t hS s_94) rfl f_12_270_12 rfl ?_
  refine zw_if0 hm_217 dX12_findInSteps_4 (t := 24) rfl zc0_ne ?_ ?_
  · intro hc
    rw [if_neg hc] at h
    refine zw_push hm_217 dX12_findInSteps_24 (v := .inr (.inr (some 94))) rfl ?_
    refine zw_gf hm_217 dX12_findInSteps_25 (v := .inl ((mI S) 94 58)) (zT_is hS s_94) (zT_t hS s_94) rfl f_12_270_12 rfl ?_
    refine zw_if0 hm_217 dX12_findInSteps_28 (t := 45) rfl zc0_eq ?_ ?_
    · intro hc
      rw [if_pos hc] at h
      exact (h d w _ Q (by omega) (by omega) hS rfl HQ)
    · intro hc
      rw [if_neg hc] at h
      refine zw_push hm_217 dX12_findInSteps_31 (v := .inr (.inr (some 94))) rfl ?_
      refine zw_push hm_217 dX12_findInSteps_32 (v := .inr (.inr (some 94))) rfl ?_
      refine zw_gf hm_217 dX12_findInSteps_33 (v := .inl ((mI S) 94 17)) (zT_is hS s_94) (zT_t hS s_94) rfl f_12_219_12 rfl ?_
      refine zw_cv hm_217 dX12_findInSteps_36 v_12_402_12 hm_222 [.inl ((mI S) 94 17)] [] rfl (zT_rt hS s_94 rfl) ⟨by omega, by omega⟩ rfl (h _ _ S _ (by omega) (by omega) hS rfl (fun o9 m1 hv => ?_))
      obtain ⟨v2, rfl, h⟩ := zmi_of hv
      show ma_wp X d w 217 39 [(0, .inr (.inr (some 94))), (1, .inl nz)] [.inl v2] (zst S m1) _
      refine zw_sto hm_217 dX12_findInSteps_39 [(2, .inl v2), (0, .inr (.inr (some 94))), (1, .inl nz)] rfl rfl rfl ?_
      refine zw_push hm_217 dX12_findInSteps_40 (v := .inr (.inr (some 94))) rfl ?_
      refine zw_cv hm_217 dX12_findInSteps_41 v_12_405_12 hm_223 [] [] rfl (zT_rt (zT_zst hS m1) s_94 rfl) ⟨by omega, by omega⟩ rfl (h _ _ (zst S m1) _ (by omega) (by omega) (zT_zst hS m1) rfl (fun o9 m3 hv => ?_))
      obtain ⟨v4, rfl, h⟩ := zmi_of hv
      show ma_wp X d w 217 44 [(2, .inl v2), (0, .inr (.inr (some 94))), (1, .inl nz)] [.inl v4] (zst S m3) _
      refine zw_sto hm_217 dX12_findInSteps_44 [(3, .inl v4), (2, .inl v2), (0, .inr (.inr (some 94))), (1, .inl nz)] rfl rfl rfl ?_
      exact zw_sub (ma_nd_of (ks := [0, 1]) rfl (by decide)) (ma_nd_of (ks := [3, 2, 0, 1]) rfl (by decide)) (ma_le_cons rfl (ma_le_cons rfl (ma_le_nil _))) (h d w _ Q (by omega) (by omega) (zT_zst hS m3) rfl HQ)
  · intro hc
    rw [if_pos (Classical.not_not.mp hc)] at h
    refine zw_push hm_217 dX12_findInSteps_7 (v := .inr (.inr (some 94))) rfl ?_
    refine zw_cv hm_217 dX12_findInSteps_8 v_12_439_12 hm_218 [] [] rfl (zT_rt hS s_94 rfl) ⟨by omega, by omega⟩ rfl ?_
    show ma_wp X (d - 1) (w - 20) 218 0 [(0, .inr (.inr (some 94)))] [] S _
    refine zw_push hm_218 dX12_freeWords_0 (v := .inr (.inr (some 94))) rfl ?_
    refine zw_gf hm_218 dX12_freeWords_1 (v := .inl ((mI S) 94 11)) (zT_is hS s_94) (zT_t hS s_94) rfl f_12_202_12 rfl ?_
    refine zw_push hm_218 dX12_freeWords_4 (v := .inr (.inr (some 94))) rfl ?_
    refine zw_gf hm_218 dX12_freeWords_5 (v := .inl ((mI S) 94 45)) (zT_is hS s_94) (zT_t hS s_94) rfl f_12_243_12 rfl ?_
    refine zw_stk hm_218 dX12_freeWords_8 (st₉ := [.inl (((mI S) 94 11) - ((mI S) 94 45))]) rfl rfl ?_
    refine zw_iret hm_218 dX12_freeWords_9 ?_
    show ma_wp X d w 217 11 [(0, .inr (.inr (some 94))), (1, .inl nz)] [.inl (((mI S) 94 11) - ((mI S) 94 45))] S _
    refine zw_push hm_217 dX12_findInSteps_11 (v := .inl (4 : Int32)) rfl ?_
    refine zw_stk hm_217 dX12_findInSteps_12 (st₉ := [.inl ((((mI S) 94 11) - ((mI S) 94 45)) * (4 : Int32))]) rfl rfl ?_
    refine zw_push hm_217 dX12_findInSteps_13 (v := .inr (.inr (some 94))) rfl ?_
    refine zw_gf hm_217 dX12_findInSteps_14 (v := .inl ((mI S) 94 11)) (zT_is hS s_94) (zT_t hS s_94) rfl f_12_202_12 rfl ?_
    refine zw_if2 hm_217 dX12_findInSteps_17 (t := 24) rfl zc2_ge ?_ ?_
    · intro hc
      rw [if_pos hc] at h
      refine zw_push hm_217 dX12_findInSteps_24 (v := .inr (.inr (some 94))) rfl ?_
      refine zw_gf hm_217 dX12_findInSteps_25 (v := .inl ((mI S) 94 58)) (zT_is hS s_94) (zT_t hS s_94) rfl f_12_270_12 rfl ?_
      refine zw_if0 hm_217 dX12_findInSteps_28 (t := 45) rfl zc0_eq ?_ ?_
      · intro hc
        rw [if_pos hc] at h
        exact (h d w _ Q (by omega) (by omega) hS rfl HQ)
      · intro hc
        rw [if_neg hc] at h
        refine zw_push hm_217 dX12_findInSteps_31 (v := .inr (.inr (some 94))) rfl ?_
        refine zw_push hm_217 dX12_findInSteps_32 (v := .inr (.inr (some 94))) rfl ?_
        refine zw_gf hm_217 dX12_findInSteps_33 (v := .inl ((mI S) 94 17)) (zT_is hS s_94) (zT_t hS s_94) rfl f_12_219_12 rfl ?_
        refine zw_cv hm_217 dX12_findInSteps_36 v_12_402_12 hm_222 [.inl ((mI S) 94 17)] [] rfl (zT_rt hS s_94 rfl) ⟨by omega, by omega⟩ rfl (h _ _ S _ (by omega) (by omega) hS rfl (fun o9 m5 hv => ?_))
        obtain ⟨v6, rfl, h⟩ := zmi_of hv
        show ma_wp X d w 217 39 [(0, .inr (.inr (some 94))), (1, .inl nz)] [.inl v6] (zst S m5) _
        refine zw_sto hm_217 dX12_findInSteps_39 [(2, .inl v6), (0, .inr (.inr (some 94))), (1, .inl nz)] rfl rfl rfl ?_
        refine zw_push hm_217 dX12_findInSteps_40 (v := .inr (.inr (some 94))) rfl ?_
        refine zw_cv hm_217 dX12_findInSteps_41 v_12_405_12 hm_223 [] [] rfl (zT_rt (zT_zst hS m5) s_94 rfl) ⟨by omega, by omega⟩ rfl (h _ _ (zst S m5) _ (by omega) (by omega) (zT_zst hS m5) rfl (fun o9 m7 hv => ?_))
        obtain ⟨v8, rfl, h⟩ := zmi_of hv
        show ma_wp X d w 217 44 [(2, .inl v6), (0, .inr (.inr (some 94))), (1, .inl nz)] [.inl v8] (zst S m7) _
        refine zw_sto hm_217 dX12_findInSteps_44 [(3, .inl v8), (2, .inl v6), (0, .inr (.inr (some 94))), (1, .inl nz)] rfl rfl rfl ?_
        exact zw_sub (ma_nd_of (ks := [0, 1]) rfl (by decide)) (ma_nd_of (ks := [3, 2, 0, 1]) rfl (by decide)) (ma_le_cons rfl (ma_le_cons rfl (ma_le_nil _))) (h d w _ Q (by omega) (by omega) (zT_zst hS m7) rfl HQ)
    · intro hc
      rw [if_neg hc] at h
      refine zw_push hm_217 dX12_findInSteps_20 (v := .inr (.inr (some 94))) rfl ?_
      refine zw_cv hm_217 dX12_findInSteps_21 v_12_408_12 hm_219 [] [] rfl (zT_rt hS s_94 rfl) ⟨by omega, by omega⟩ rfl (h _ _ S _ (by omega) (by omega) hS rfl (fun o9 m9 hv => ?_))
      obtain ⟨rfl, h⟩ := zmv_of hv
      show ma_wp X d w 217 24 [(0, .inr (.inr (some 94))), (1, .inl nz)] [] (zst S m9) _
      refine zw_push hm_217 dX12_findInSteps_24 (v := .inr (.inr (some 94))) rfl ?_
      refine zw_gf hm_217 dX12_findInSteps_25 (v := .inl (m9 94 58)) (zT_is (zT_zst hS m9) s_94) (zT_t (zT_zst hS m9) s_94) rfl f_12_270_12 rfl ?_
      refine zw_if0 hm_217 dX12_findInSteps_28 (t := 45) rfl zc0_eq ?_ ?_
      · intro hc
        rw [if_pos hc] at h
        exact (h d w _ Q (by omega) (by omega) (zT_zst hS m9) rfl HQ)
      · intro hc
        rw [if_neg hc] at h
        refine zw_push hm_217 dX12_findInSteps_31 (v := .inr (.inr (some 94))) rfl ?_
        refine zw_push hm_217 dX12_findInSteps_32 (v := .inr (.inr (some 94))) rfl ?_
        refine zw_gf hm_217 dX12_findInSteps_33 (v := .inl (m9 94 17)) (zT_is (zT_zst hS m9) s_94) (zT_t (zT_zst hS m9) s_94) rfl f_12_219_12 rfl ?_
        refine zw_cv hm_217 dX12_findInSteps_36 v_12_402_12 hm_222 [.inl (m9 94 17)] [] rfl (zT_rt (zT_zst hS m9) s_94 rfl) ⟨by omega, by omega⟩ rfl (h _ _ (zst S m9) _ (by omega) (by omega) (zT_zst hS m9) rfl (fun o9 m11 hv => ?_))
        obtain ⟨v12, rfl, h⟩ := zmi_of hv
        show ma_wp X d w 217 39 [(0, .inr (.inr (some 94))), (1, .inl nz)] [.inl v12] (zst S m11) _
        refine zw_sto hm_217 dX12_findInSteps_39 [(2, .inl v12), (0, .inr (.inr (some 94))), (1, .inl nz)] rfl rfl rfl ?_
        refine zw_push hm_217 dX12_findInSteps_40 (v := .inr (.inr (some 94))) rfl ?_
        refine zw_cv hm_217 dX12_findInSteps_41 v_12_405_12 hm_223 [] [] rfl (zT_rt (zT_zst hS m11) s_94 rfl) ⟨by omega, by omega⟩ rfl (h _ _ (zst S m11) _ (by omega) (by omega) (zT_zst hS m11) rfl (fun o9 m13 hv => ?_))
        obtain ⟨v14, rfl, h⟩ := zmi_of hv
        show ma_wp X d w 217 44 [(2, .inl v12), (0, .inr (.inr (some 94))), (1, .inl nz)] [.inl v14] (zst S m13) _
        refine zw_sto hm_217 dX12_findInSteps_44 [(3, .inl v14), (2, .inl v12), (0, .inr (.inr (some 94))), (1, .inl nz)] rfl rfl rfl ?_
        exact zw_sub (ma_nd_of (ks := [0, 1]) rfl (by decide)) (ma_nd_of (ks := [3, 2, 0, 1]) rfl (by decide)) (ma_le_cons rfl (ma_le_cons rfl (ma_le_nil _))) (h d w _ Q (by omega) (by omega) (zT_zst hS m13) rfl HQ)
theorem g_217r_45 {X : Nat × (Nat → Int32)} {m : Nat → Nat → Int32} {P : Option ma_V → (Nat → Nat → Int32) → Prop} (l1 : Int32) (h : zm X 3 69 224 0 [(0, .inr (.inr (some 94))), (1, .inl l1)] m (zmi (fun v2 m1 => if v2 < 0 then (if (m1 94 58) = 0 then (zm X 6 131 229 0 [(0, .inr (.inr (some 94)))] m1 (zmi (fun v12 m11 => zm X 3 69 224 0 [(0, .inr (.inr (some 94))), (1, .inl l1)] m11 (zmi (fun v14 m13 => if 0 ≤ v14 then (P (some (.inl v14)) m13) else (P (some (.inl v14)) m13)))))) else (zm X 5 109 230 0 [(0, .inr (.inr (some 94)))] m1 (zmi (fun v4 m3 => zm X 3 69 224 0 [(0, .inr (.inr (some 94))), (1, .inl l1)] m3 (zmi (fun v6 m5 => if 0 ≤ v6 then (P (some (.inl v6)) m5) else (zm X 6 131 229 0 [(0, .inr (.inr (some 94)))] m5 (zmi (fun v8 m7 => zm X 3 69 224 0 [(0, .inr (.inr (some 94))), (1, .inl l1)] m7 (zmi (fun v10 m9 => P (some (.inl v10)) m9))))))))))) else (P (some (.inl v2)) m1)))) : zm X 7 151 217 45 [(0, .inr (.inr (some 94))), (1, .inl l1)] m P := by
  intro d w S Q hd hw hS hm HQ
  subst hm
  refine zw_push hm_217 dX12_findInSteps_45 (v := .inr (.inr (some 94))) rfl ?_
  refine zw_push hm_217 dX12_findInSteps_46 (v := .inl l1) rfl ?_
  refine zw_cv hm_217 dX12_findInSteps_47 v_12_436_12 hm_224 [.inl l1] [] rfl (zT_rt hS s_94 rfl) ⟨by omega, by omega⟩ rfl (h _ _ S _ (by omega) (by omega) hS rfl (fun o9 m1 hv => ?_))
  obtain ⟨v2, rfl, h⟩ := zmi_of hv
  show ma_wp X d w 217 50 [(0, .inr (.inr (some 94))), (1, .inl l1)] [.inl v2] (zst S m1) _
  refine zw_sto hm_217 dX12_findInSteps_50 [(2, .inl v2), (0, .inr (.inr (some 94))), (1, .inl l1)] rfl rfl rfl ?_
  refine zw_push hm_217 dX12_findInSteps_51 (v := .inl v2) rfl ?_
  refine zw_if0 hm_217 dX12_findInSteps_52 (t := 57) rfl zc0_lt ?_ ?_
  · intro hc
    rw [if_pos hc] at h
    refine zw_push hm_217 dX12_findInSteps_57 (v := .inr (.inr (some 94))) rfl ?_
    refine zw_gf hm_217 dX12_findInSteps_58 (v := .inl (m1 94 58)) (zT_is (zT_zst hS m1) s_94) (zT_t (zT_zst hS m1) s_94) rfl f_12_270_12 rfl ?_
    refine zw_if0 hm_217 dX12_findInSteps_61 (t := 68) rfl zc0_ne ?_ ?_
    · intro hc
      rw [if_neg hc] at h
      refine zw_push hm_217 dX12_findInSteps_68 (v := .inl (0 : Int32)) rfl ?_
      refine zw_sto hm_217 dX12_findInSteps_69 [(3, .inl (0 : Int32)), (2, .inl v2), (0, .inr (.inr (some 94))), (1, .inl l1)] rfl rfl rfl ?_
      refine zw_push hm_217 dX12_findInSteps_70 (v := .inl (0 : Int32)) rfl ?_
      refine zw_if0 hm_217 dX12_findInSteps_71 (t := 81) rfl zc0_eq (fun _ => ?_) (fun hc => absurd (by decide) hc)
      refine zw_push hm_217 dX12_findInSteps_81 (v := .inr (.inr (some 94))) rfl ?_
      refine zw_cv hm_217 dX12_findInSteps_82 v_12_411_12 hm_230 [] [] rfl (zT_rt (zT_zst hS m1) s_94 rfl) ⟨by omega, by omega⟩ rfl (h _ _ (zst S m1) _ (by omega) (by omega) (zT_zst hS m1) rfl (fun o9 m3 hv => ?_))
      obtain ⟨v4, rfl, h⟩ := zmi_of hv
      show ma_wp X d w 217 85 [(3, .inl (0 : Int32)), (2, .inl v2), (0, .inr (.inr (some 94))), (1, .inl l1)] [.inl v4] (zst S m3) _
      refine zw_sto hm_217 dX12_findInSteps_85 [(4, .inl v4), (3, .inl (0 : Int32)), (2, .inl v2), (0, .inr (.inr (some 94))), (1, .inl l1)] rfl rfl rfl ?_
      refine zw_push hm_217 dX12_findInSteps_87 (v := .inr (.inr (some 94))) rfl ?_
      refine zw_push hm_217 dX12_findInSteps_88 (v := .inl l1) rfl ?_
      refine zw_cv hm_217 dX12_findInSteps_89 v_12_436_12 hm_224 [.inl l1] [] rfl (zT_rt (zT_zst hS m3) s_94 rfl) ⟨by omega, by omega⟩ rfl (h _ _ (zst S m3) _ (by omega) (by omega) (zT_zst hS m3) rfl (fun o9 m5 hv => ?_))
      obtain ⟨v6, rfl, h⟩ := zmi_of hv
      show ma_wp X d w 217 92 [(4, .inl v4), (3, .inl (0 : Int32)), (2, .inl v2), (0, .inr (.inr (some 94))), (1, .inl l1)] [.inl v6] (zst S m5) _
      refine zw_sto hm_217 dX12_findInSteps_92 [(2, .inl v6), (4, .inl v4), (3, .inl (0 : Int32)), (0, .inr (.inr (some 94))), (1, .inl l1)] rfl rfl rfl ?_
      refine zw_push hm_217 dX12_findInSteps_93 (v := .inl v6) rfl ?_
      refine zw_if0 hm_217 dX12_findInSteps_94 (t := 101) rfl zc0_ge ?_ ?_
      · intro hc
        rw [if_pos hc] at h
        refine zw_push hm_217 dX12_findInSteps_101 (v := .inl v6) rfl ?_
        exact zw_iret hm_217 dX12_findInSteps_102 (HQ _ _ h)
      · intro hc
        rw [if_neg hc] at h
        refine zw_push hm_217 dX12_findInSteps_97 (v := .inl (0 : Int32)) rfl ?_
        refine zw_if0 hm_217 dX12_findInSteps_98 (t := 103) rfl zc0_eq (fun _ => ?_) (fun hc => absurd (by decide) hc)
        refine zw_push hm_217 dX12_findInSteps_103 (v := .inr (.inr (some 94))) rfl ?_
        refine zw_cv hm_217 dX12_findInSteps_104 v_12_442_12 hm_229 [] [] rfl (zT_rt (zT_zst hS m5) s_94 rfl) ⟨by omega, by omega⟩ rfl (h _ _ (zst S m5) _ (by omega) (by omega) (zT_zst hS m5) rfl (fun o9 m7 hv => ?_))
        obtain ⟨v8, rfl, h⟩ := zmi_of hv
        show ma_wp X d w 217 107 [(2, .inl v6), (4, .inl v4), (3, .inl (0 : Int32)), (0, .inr (.inr (some 94))), (1, .inl l1)] [.inl v8] (zst S m7) _
        refine zw_sto hm_217 dX12_findInSteps_107 [(4, .inl v8), (2, .inl v6), (3, .inl (0 : Int32)), (0, .inr (.inr (some 94))), (1, .inl l1)] rfl rfl rfl ?_
        refine zw_push hm_217 dX12_findInSteps_109 (v := .inr (.inr (some 94))) rfl ?_
        refine zw_push hm_217 dX12_findInSteps_110 (v := .inl l1) rfl ?_
        refine zw_cv hm_217 dX12_findInSteps_111 v_12_436_12 hm_224 [.inl l1] [] rfl (zT_rt (zT_zst hS m7) s_94 rfl) ⟨by omega, by omega⟩ rfl (h _ _ (zst S m7) _ (by omega) (by omega) (zT_zst hS m7) rfl (fun o9 m9 hv => ?_))
        obtain ⟨v10, rfl, h⟩ := zmi_of hv
        show ma_wp X d w 217 114 [(4, .inl v8), (2, .inl v6), (3, .inl (0 : Int32)), (0, .inr (.inr (some 94))), (1, .inl l1)] [.inl v10] (zst S m9) _
        exact zw_iret hm_217 dX12_findInSteps_114 (HQ _ _ h)
    · intro hc
      rw [if_pos (Classical.not_not.mp hc)] at h
      refine zw_push hm_217 dX12_findInSteps_64 (v := .inl (1 : Int32)) rfl ?_
      refine zw_goto hm_217 dX12_findInSteps_65 (t := 69) rfl ?_
      refine zw_sto hm_217 dX12_findInSteps_69 [(3, .inl (1 : Int32)), (2, .inl v2), (0, .inr (.inr (some 94))), (1, .inl l1)] rfl rfl rfl ?_
      refine zw_push hm_217 dX12_findInSteps_70 (v := .inl (1 : Int32)) rfl ?_
      refine zw_if0 hm_217 dX12_findInSteps_71 (t := 81) rfl zc0_eq (fun hc => absurd hc (by decide)) (fun _ => ?_)
      refine zw_push hm_217 dX12_findInSteps_74 (v := .inr (.inr (some 94))) rfl ?_
      refine zw_cv hm_217 dX12_findInSteps_75 v_12_442_12 hm_229 [] [] rfl (zT_rt (zT_zst hS m1) s_94 rfl) ⟨by omega, by omega⟩ rfl (h _ _ (zst S m1) _ (by omega) (by omega) (zT_zst hS m1) rfl (fun o9 m11 hv => ?_))
      obtain ⟨v12, rfl, h⟩ := zmi_of hv
      show ma_wp X d w 217 78 [(3, .inl (1 : Int32)), (2, .inl v2), (0, .inr (.inr (some 94))), (1, .inl l1)] [.inl v12] (zst S m11) _
      refine zw_goto hm_217 dX12_findInSteps_78 (t := 85) rfl ?_
      refine zw_sto hm_217 dX12_findInSteps_85 [(4, .inl v12), (3, .inl (1 : Int32)), (2, .inl v2), (0, .inr (.inr (some 94))), (1, .inl l1)] rfl rfl rfl ?_
      refine zw_push hm_217 dX12_findInSteps_87 (v := .inr (.inr (some 94))) rfl ?_
      refine zw_push hm_217 dX12_findInSteps_88 (v := .inl l1) rfl ?_
      refine zw_cv hm_217 dX12_findInSteps_89 v_12_436_12 hm_224 [.inl l1] [] rfl (zT_rt (zT_zst hS m11) s_94 rfl) ⟨by omega, by omega⟩ rfl (h _ _ (zst S m11) _ (by omega) (by omega) (zT_zst hS m11) rfl (fun o9 m13 hv => ?_))
      obtain ⟨v14, rfl, h⟩ := zmi_of hv
      show ma_wp X d w 217 92 [(4, .inl v12), (3, .inl (1 : Int32)), (2, .inl v2), (0, .inr (.inr (some 94))), (1, .inl l1)] [.inl v14] (zst S m13) _
      refine zw_sto hm_217 dX12_findInSteps_92 [(2, .inl v14), (4, .inl v12), (3, .inl (1 : Int32)), (0, .inr (.inr (some 94))), (1, .inl l1)] rfl rfl rfl ?_
      refine zw_push hm_217 dX12_findInSteps_93 (v := .inl v14) rfl ?_
      refine zw_if0 hm_217 dX12_findInSteps_94 (t := 101) rfl zc0_ge ?_ ?_
      · intro hc
        rw [if_pos hc] at h
        refine zw_push hm_217 dX12_findInSteps_101 (v := .inl v14) rfl ?_
        exact zw_iret hm_217 dX12_findInSteps_102 (HQ _ _ h)
      · intro hc
        rw [if_neg hc] at h
        refine zw_push hm_217 dX12_findInSteps_97 (v := .inl (1 : Int32)) rfl ?_
        refine zw_if0 hm_217 dX12_findInSteps_98 (t := 103) rfl zc0_eq (fun hc => absurd hc (by decide)) (fun _ => ?_)
        refine zw_push hm_217 dX12_findInSteps_101 (v := .inl v14) rfl ?_
        exact zw_iret hm_217 dX12_findInSteps_102 (HQ _ _ h)
  · intro hc
    rw [if_neg hc] at h
    refine zw_push hm_217 dX12_findInSteps_55 (v := .inl v2) rfl ?_
    exact zw_iret hm_217 dX12_findInSteps_56 (HQ _ _ h)
set_option maxHeartbeats 8000000 in
theorem lp_217r_45 {X : Nat × (Nat → Int32)} {P : Option ma_V → (Nat → Nat → Int32) → Prop} {T : Nat} {aa : Nat→Nat→Int32} {nz : Int32} {m0 : Nat → Nat → Int32} (h0 : zV m0) (K : ∀ v m₉, zF wr_217 m0 m₉ → zV m₉ → (zGW T (m₉ 94 55) (m₉ 109)) → (zGU T (m₉ 94 46) (m₉ 99)) → (zOw (m₉ 99) (m₉ 103) (m₉ 111)) → (zGG (m₉ 94 58) (m₉ 94 56) (m₉ 94 57) (m₉ 106)) → (-1 ≤ v.toInt ∧ v.toInt ≤ 1500) → (qRB (m₉ 99) (m₉ 100) (m₉ 98) (m₉ 101) (m₉ 102) (m₉ 103) (m₉ 107) (m₉ 108) (m₉ 109) (m₉ 111) (m₉ 112) (m₉ 113) (m₉ 114) (m₉ 94 55) (m₉ 94 46) (m₉ 94 11) (m₉ 94 12) (m₉ 94 62) (m₉ 94 17) (m₉ 94 9) (aRs aa nz.toInt)) → (qI (aRs aa nz.toInt)) → (qMG (m₉ 94 58) (m₉ 106) (m₉ 115) (m₉ 94 57) (m₉ 94 56) (m₉ 99) (m₉ 100) (aRs aa nz.toInt)) → ((aRs aa nz.toInt) 87 8 = (m₉ 94 58)) → ((m₉ 94 45).toInt = sm (zbU (m₉ 99)) (m₉ 102) 3100) → (qEq v.toInt (aRp aa nz.toInt)) → P (some (.inl v)) m₉) : ∀ (n : Nat) (m : Nat → Nat → Int32) (l1 : Int32), ((0 : Int)).toNat = n → zF wr_217 m0 m → zV m → (T ≤ 512) → (zW (m 94 7) (m 98) (m 101) (m 102) (m 108)) → (zGW T (m 94 55) (m 109)) → (zGU T (m 94 46) (m 99)) → (zOw (m 99) (m 103) (m 111)) → (zGG (m 94 58) (m 94 56) (m 94 57) (m 106)) → ((m 94 10).toInt = 5) → (l1 = nz) → (qRB (m 99) (m 100) (m 98) (m 101) (m 102) (m 103) (m 107) (m 108) (m 109) (m 111) (m 112) (m 113) (m 114) (m 94 55) (m 94 46) (m 94 11) (m 94 12) (m 94 62) (m 94 17) (m 94 9) (aF1 aa)) → (qI (aF1 aa)) → (qMG (m 94 58) (m 106) (m 115) (m 94 57) (m 94 56) (m 99) (m 100) (aF1 aa)) → ((aF1 aa) 87 8 = (m 94 58)) → ((m 94 45).toInt = sm (zbU (m 99)) (m 102) 3100) → zm X 7 151 217 45 [(0, .inr (.inr (some 94))), (1, .inl l1)] m P := by
  intro n
  induction n using Nat.strongRecOn with
  | _ n IH =>
    intro m l1 hmu hF hV hi0 r_W r_GW r_GU r_OW r_GG hi6 r_LN r_RB r_QI r_MG r_MK r_WTS
    refine g_217r_45 l1 ?_
    have f1 : 0 ≤ (m 94 10).toInt ∧ (m 94 10).toInt ≤ 6 := rs_94_10 (m := m) hV
    have b2 := i_bd l1
    refine sp_224r (aa := (aF1 aa)) (l1) hV r_RB r_QI r_OW (fun v2 m1 hV_m1 p0_m1 p1_m1 => zmi_n ?_)
    have p0_m1 : -1 ≤ v2.toInt ∧ v2.toInt ≤ 1500 := p0_m1
    have p1_m1 : qEq v2.toInt (aFt (aF1 aa) l1.toInt) := p1_m1
    have b3 := i_bd v2
    have li4 : (0 : Int32).toInt = 0 := rfl
    refine zd (fun (h5 : v2 < (0 : Int32)) => ?_) (fun (h5 : ¬ v2 < (0 : Int32)) => ?_)
    · skip
      have g6 := i_lt h5
      have f7 : 0 ≤ (m 94 58).toInt ∧ (m 94 58).toInt ≤ 1 := rs_94_58 (m := m) hV
      refine zd (fun (h8 : (m 94 58) = (0 : Int32)) => ?_) (fun (h8 : ¬ (m 94 58) = (0 : Int32)) => ?_)
      · skip
        have g9 := i_eq h8
        refine sp_229r (aa := (aF1 aa))  hV_m1 (by omega) r_W r_GW r_GU r_OW (show (m 94 10).toInt = 5 from by omega) r_RB r_QI r_WTS (show (aF1 aa) 87 8 = 0 from by first | (exact r_MK.trans (i_zer (by omega))) | (exfalso; omega; done) | (exfalso; contradiction; done)) (fun v12 m11 hV_m11 p0_m11 p1_m11 p2_m11 p3_m11 p4_m11 p5_m11 p6_m11 p7_m11 => zmi_n ?_)
        have p0_m11 : zGW T (m11 94 55) (m11 109) := p0_m11
        have p1_m11 : zGU T (m 94 46) (m11 99) := p1_m11
        have p2_m11 : zOw (m11 99) (m 103) (m11 111) := p2_m11
        have p3_m11 : zGG (m11 94 58) (m11 94 56) (m11 94 57) (m11 106) := p3_m11
        have p4_m11 : (m11 94 58).toInt = 0 := p4_m11
        have p5_m11 : qRB (m11 99) (m 100) (m 98) (m 101) (m 102) (m 103) (m 107) (m 108) (m11 109) (m11 111) (m 112) (m11 113) (m11 114) (m11 94 55) (m 94 46) (m 94 11) (m 94 12) (m 94 62) (m 94 17) (m 94 9) (aCl (aF1 aa)) := p5_m11
        have p6_m11 : qI (aCl (aF1 aa)) := p6_m11
        have p7_m11 : (m11 94 45).toInt = sm (zbU (m11 99)) (m 102) 3100 := p7_m11
        have f10 : 0 ≤ (m11 94 58).toInt ∧ (m11 94 58).toInt ≤ 1 := rs_94_58 (m := (zov wr_229 (zov wr_224 m m1) m11)) hV_m11
        refine sp_224r (aa := (aCl (aF1 aa))) (l1) hV_m11 p5_m11 p6_m11 p2_m11 (fun v14 m13 hV_m13 p0_m13 p1_m13 => zmi_n ?_)
        have p0_m13 : -1 ≤ v14.toInt ∧ v14.toInt ≤ 1500 := p0_m13
        have p1_m13 : qEq v14.toInt (aFt (aCl (aF1 aa)) l1.toInt) := p1_m13
        have b11 := i_bd v14
        refine zd (fun (h12 : (0 : Int32) ≤ v14) => ?_) (fun (h12 : ¬ (0 : Int32) ≤ v14) => ?_)
        · skip
          have g13 := i_le h12
          exact K (v14) _ (zF_zov (zF_zov (zF_zov hF ws_224_217) ws_229_217) ws_224_217) hV_m13 p0_m11 p1_m11 p2_m11 p3_m11 (show -1 ≤ v14.toInt ∧ v14.toInt ≤ 1500 from by omega) (show qRB (m11 99) (m 100) (m 98) (m 101) (m 102) (m 103) (m 107) (m 108) (m11 109) (m11 111) (m 112) (m11 113) (m11 114) (m11 94 55) (m 94 46) (m 94 11) (m 94 12) (m 94 62) (m 94 17) (m 94 9) (aRs aa nz.toInt) from by first | (rw [(aRs_2 (a := aa) (b := (aF1 aa)) (c := (aCl (aF1 aa))) (z := nz.toInt) rfl (show aFt (aF1 aa) nz.toInt = -1 from by rw [← r_LN, ← qE p1_m1]; omega) rfl (Or.inl (show aFt (aCl (aF1 aa)) nz.toInt ≠ -1 from by rw [← r_LN, ← qE p1_m13]; omega)))]; exact p5_m11; done) | (rw [(aRs_2 (a := aa) (b := (aF1 aa)) (c := (aCl (aF1 aa))) (z := nz.toInt) rfl (show aFt (aF1 aa) nz.toInt = -1 from by rw [← r_LN, ← qE p1_m1]; omega) rfl (Or.inr (r_MK.trans (i_zer (by omega)))))]; exact p5_m11; done) | (exfalso; omega; done) | (exfalso; contradiction; done)) (show qI (aRs aa nz.toInt) from by first | (rw [(aRs_2 (a := aa) (b := (aF1 aa)) (c := (aCl (aF1 aa))) (z := nz.toInt) rfl (show aFt (aF1 aa) nz.toInt = -1 from by rw [← r_LN, ← qE p1_m1]; omega) rfl (Or.inl (show aFt (aCl (aF1 aa)) nz.toInt ≠ -1 from by rw [← r_LN, ← qE p1_m13]; omega)))]; exact p6_m11; done) | (rw [(aRs_2 (a := aa) (b := (aF1 aa)) (c := (aCl (aF1 aa))) (z := nz.toInt) rfl (show aFt (aF1 aa) nz.toInt = -1 from by rw [← r_LN, ← qE p1_m1]; omega) rfl (Or.inr (r_MK.trans (i_zer (by omega)))))]; exact p6_m11; done) | (exfalso; omega; done) | (exfalso; contradiction; done)) (show qMG (m11 94 58) (m11 106) (m11 115) (m11 94 57) (m11 94 56) (m11 99) (m 100) (aRs aa nz.toInt) from by first | (exact fun z => absurd (by omega) z) | (exfalso; omega; done) | (exfalso; contradiction; done)) (show (aRs aa nz.toInt) 87 8 = (m11 94 58) from by first | (rw [(aRs_2 (a := aa) (b := (aF1 aa)) (c := (aCl (aF1 aa))) (z := nz.toInt) rfl (show aFt (aF1 aa) nz.toInt = -1 from by rw [← r_LN, ← qE p1_m1]; omega) rfl (Or.inl (show aFt (aCl (aF1 aa)) nz.toInt ≠ -1 from by rw [← r_LN, ← qE p1_m13]; omega)))]; exact Cl_8.trans (i_zer (by omega)).symm; done) | (rw [(aRs_2 (a := aa) (b := (aF1 aa)) (c := (aCl (aF1 aa))) (z := nz.toInt) rfl (show aFt (aF1 aa) nz.toInt = -1 from by rw [← r_LN, ← qE p1_m1]; omega) rfl (Or.inr (r_MK.trans (i_zer (by omega)))))]; exact Cl_8.trans (i_zer (by omega)).symm; done) | (exfalso; omega; done) | (exfalso; contradiction; done)) p7_m11 (show qEq v14.toInt (aRp aa nz.toInt) from by first | (rw [aRp, (aRs_2 (a := aa) (b := (aF1 aa)) (c := (aCl (aF1 aa))) (z := nz.toInt) rfl (show aFt (aF1 aa) nz.toInt = -1 from by rw [← r_LN, ← qE p1_m1]; omega) rfl (Or.inl (show aFt (aCl (aF1 aa)) nz.toInt ≠ -1 from by rw [← r_LN, ← qE p1_m13]; omega))), ← r_LN]; exact p1_m13; done) | (rw [aRp, (aRs_2 (a := aa) (b := (aF1 aa)) (c := (aCl (aF1 aa))) (z := nz.toInt) rfl (show aFt (aF1 aa) nz.toInt = -1 from by rw [← r_LN, ← qE p1_m1]; omega) rfl (Or.inr (r_MK.trans (i_zer (by omega))))), ← r_LN]; exact p1_m13; done) | (exfalso; omega; done) | (exfalso; contradiction; done))
        · skip
          have g14 := i_nle h12
          exact K (v14) _ (zF_zov (zF_zov (zF_zov hF ws_224_217) ws_229_217) ws_224_217) hV_m13 p0_m11 p1_m11 p2_m11 p3_m11 (show -1 ≤ v14.toInt ∧ v14.toInt ≤ 1500 from by omega) (show qRB (m11 99) (m 100) (m 98) (m 101) (m 102) (m 103) (m 107) (m 108) (m11 109) (m11 111) (m 112) (m11 113) (m11 114) (m11 94 55) (m 94 46) (m 94 11) (m 94 12) (m 94 62) (m 94 17) (m 94 9) (aRs aa nz.toInt) from by first | (rw [(aRs_2 (a := aa) (b := (aF1 aa)) (c := (aCl (aF1 aa))) (z := nz.toInt) rfl (show aFt (aF1 aa) nz.toInt = -1 from by rw [← r_LN, ← qE p1_m1]; omega) rfl (Or.inl (show aFt (aCl (aF1 aa)) nz.toInt ≠ -1 from by rw [← r_LN, ← qE p1_m13]; omega)))]; exact p5_m11; done) | (rw [(aRs_2 (a := aa) (b := (aF1 aa)) (c := (aCl (aF1 aa))) (z := nz.toInt) rfl (show aFt (aF1 aa) nz.toInt = -1 from by rw [← r_LN, ← qE p1_m1]; omega) rfl (Or.inr (r_MK.trans (i_zer (by omega)))))]; exact p5_m11; done) | (exfalso; omega; done) | (exfalso; contradiction; done)) (show qI (aRs aa nz.toInt) from by first | (rw [(aRs_2 (a := aa) (b := (aF1 aa)) (c := (aCl (aF1 aa))) (z := nz.toInt) rfl (show aFt (aF1 aa) nz.toInt = -1 from by rw [← r_LN, ← qE p1_m1]; omega) rfl (Or.inl (show aFt (aCl (aF1 aa)) nz.toInt ≠ -1 from by rw [← r_LN, ← qE p1_m13]; omega)))]; exact p6_m11; done) | (rw [(aRs_2 (a := aa) (b := (aF1 aa)) (c := (aCl (aF1 aa))) (z := nz.toInt) rfl (show aFt (aF1 aa) nz.toInt = -1 from by rw [← r_LN, ← qE p1_m1]; omega) rfl (Or.inr (r_MK.trans (i_zer (by omega)))))]; exact p6_m11; done) | (exfalso; omega; done) | (exfalso; contradiction; done)) (show qMG (m11 94 58) (m11 106) (m11 115) (m11 94 57) (m11 94 56) (m11 99) (m 100) (aRs aa nz.toInt) from by first | (exact fun z => absurd (by omega) z) | (exfalso; omega; done) | (exfalso; contradiction; done)) (show (aRs aa nz.toInt) 87 8 = (m11 94 58) from by first | (rw [(aRs_2 (a := aa) (b := (aF1 aa)) (c := (aCl (aF1 aa))) (z := nz.toInt) rfl (show aFt (aF1 aa) nz.toInt = -1 from by rw [← r_LN, ← qE p1_m1]; omega) rfl (Or.inl (show aFt (aCl (aF1 aa)) nz.toInt ≠ -1 from by rw [← r_LN, ← qE p1_m13]; omega)))]; exact Cl_8.trans (i_zer (by omega)).symm; done) | (rw [(aRs_2 (a := aa) (b := (aF1 aa)) (c := (aCl (aF1 aa))) (z := nz.toInt) rfl (show aFt (aF1 aa) nz.toInt = -1 from by rw [← r_LN, ← qE p1_m1]; omega) rfl (Or.inr (r_MK.trans (i_zer (by omega)))))]; exact Cl_8.trans (i_zer (by omega)).symm; done) | (exfalso; omega; done) | (exfalso; contradiction; done)) p7_m11 (show qEq v14.toInt (aRp aa nz.toInt) from by first | (rw [aRp, (aRs_2 (a := aa) (b := (aF1 aa)) (c := (aCl (aF1 aa))) (z := nz.toInt) rfl (show aFt (aF1 aa) nz.toInt = -1 from by rw [← r_LN, ← qE p1_m1]; omega) rfl (Or.inl (show aFt (aCl (aF1 aa)) nz.toInt ≠ -1 from by rw [← r_LN, ← qE p1_m13]; omega))), ← r_LN]; exact p1_m13; done) | (rw [aRp, (aRs_2 (a := aa) (b := (aF1 aa)) (c := (aCl (aF1 aa))) (z := nz.toInt) rfl (show aFt (aF1 aa) nz.toInt = -1 from by rw [← r_LN, ← qE p1_m1]; omega) rfl (Or.inr (r_MK.trans (i_zer (by omega))))), ← r_LN]; exact p1_m13; done) | (exfalso; omega; done) | (exfalso; contradiction; done))
      · skip
        have g15 := i_ne h8
        refine sp_230r (aa := (aF1 aa))  hV_m1 (by omega) r_W r_GW r_GU r_OW (show zG1 (m 94 56) (m 94 57) (m 106) from by first | (exact r_GG (by omega)) | (exact G1_0 (by omega) (by omega)) | (exact r_GG (by omega)) | (exfalso; omega; done) | (exfalso; contradiction; done)) (show (m 94 10).toInt = 5 from by omega) (show (m 94 58).toInt = 1 from by omega) (show qMQ (m 106) (m 115) (m 94 57) (m 94 56) (m 99) (m 100) (aF1 aa) from by first | (exact (r_MG (by omega)).1) | (exfalso; omega; done) | (exfalso; contradiction; done)) r_RB r_QI (show qMI (aF1 aa) from by first | (exact (r_MG (by omega)).2) | (exfalso; omega; done) | (exfalso; contradiction; done)) r_MK r_WTS (fun v4 m3 hV_m3 p0_m3 p1_m3 p2_m3 p3_m3 p4_m3 p5_m3 p6_m3 p7_m3 => zmi_n ?_)
        have p0_m3 : zGW T (m3 94 55) (m3 109) := p0_m3
        have p1_m3 : zGU T (m 94 46) (m3 99) := p1_m3
        have p2_m3 : zOw (m3 99) (m 103) (m3 111) := p2_m3
        have p3_m3 : zGG (m3 94 58) (m3 94 56) (m3 94 57) (m3 106) := p3_m3
        have p4_m3 : (m3 94 58).toInt = 0 := p4_m3
        have p5_m3 : qRB (m3 99) (m 100) (m 98) (m 101) (m 102) (m 103) (m 107) (m 108) (m3 109) (m3 111) (m 112) (m3 113) (m3 114) (m3 94 55) (m 94 46) (m 94 11) (m 94 12) (m 94 62) (m 94 17) (m 94 9) (aCl (aF1 aa)) := p5_m3
        have p6_m3 : qI (aCl (aF1 aa)) := p6_m3
        have p7_m3 : (m3 94 45).toInt = sm (zbU (m3 99)) (m 102) 3100 := p7_m3
        have f16 : 0 ≤ (m3 94 58).toInt ∧ (m3 94 58).toInt ≤ 1 := rs_94_58 (m := (zov wr_230 (zov wr_224 m m1) m3)) hV_m3
        refine sp_224r (aa := (aCl (aF1 aa))) (l1) hV_m3 p5_m3 p6_m3 p2_m3 (fun v6 m5 hV_m5 p0_m5 p1_m5 => zmi_n ?_)
        have p0_m5 : -1 ≤ v6.toInt ∧ v6.toInt ≤ 1500 := p0_m5
        have p1_m5 : qEq v6.toInt (aFt (aCl (aF1 aa)) l1.toInt) := p1_m5
        have b17 := i_bd v6
        refine zd (fun (h18 : (0 : Int32) ≤ v6) => ?_) (fun (h18 : ¬ (0 : Int32) ≤ v6) => ?_)
        · skip
          have g19 := i_le h18
          exact K (v6) _ (zF_zov (zF_zov (zF_zov hF ws_224_217) ws_230_217) ws_224_217) hV_m5 p0_m3 p1_m3 p2_m3 p3_m3 (show -1 ≤ v6.toInt ∧ v6.toInt ≤ 1500 from by omega) (show qRB (m3 99) (m 100) (m 98) (m 101) (m 102) (m 103) (m 107) (m 108) (m3 109) (m3 111) (m 112) (m3 113) (m3 114) (m3 94 55) (m 94 46) (m 94 11) (m 94 12) (m 94 62) (m 94 17) (m 94 9) (aRs aa nz.toInt) from by first | (rw [(aRs_2 (a := aa) (b := (aF1 aa)) (c := (aCl (aF1 aa))) (z := nz.toInt) rfl (show aFt (aF1 aa) nz.toInt = -1 from by rw [← r_LN, ← qE p1_m1]; omega) rfl (Or.inl (show aFt (aCl (aF1 aa)) nz.toInt ≠ -1 from by rw [← r_LN, ← qE p1_m5]; omega)))]; exact p5_m3; done) | (rw [(aRs_2 (a := aa) (b := (aF1 aa)) (c := (aCl (aF1 aa))) (z := nz.toInt) rfl (show aFt (aF1 aa) nz.toInt = -1 from by rw [← r_LN, ← qE p1_m1]; omega) rfl (Or.inr (r_MK.trans (i_zer (by omega)))))]; exact p5_m3; done) | (exfalso; omega; done) | (exfalso; contradiction; done)) (show qI (aRs aa nz.toInt) from by first | (rw [(aRs_2 (a := aa) (b := (aF1 aa)) (c := (aCl (aF1 aa))) (z := nz.toInt) rfl (show aFt (aF1 aa) nz.toInt = -1 from by rw [← r_LN, ← qE p1_m1]; omega) rfl (Or.inl (show aFt (aCl (aF1 aa)) nz.toInt ≠ -1 from by rw [← r_LN, ← qE p1_m5]; omega)))]; exact p6_m3; done) | (rw [(aRs_2 (a := aa) (b := (aF1 aa)) (c := (aCl (aF1 aa))) (z := nz.toInt) rfl (show aFt (aF1 aa) nz.toInt = -1 from by rw [← r_LN, ← qE p1_m1]; omega) rfl (Or.inr (r_MK.trans (i_zer (by omega)))))]; exact p6_m3; done) | (exfalso; omega; done) | (exfalso; contradiction; done)) (show qMG (m3 94 58) (m3 106) (m3 115) (m3 94 57) (m3 94 56) (m3 99) (m 100) (aRs aa nz.toInt) from by first | (exact fun z => absurd (by omega) z) | (exfalso; omega; done) | (exfalso; contradiction; done)) (show (aRs aa nz.toInt) 87 8 = (m3 94 58) from by first | (rw [(aRs_2 (a := aa) (b := (aF1 aa)) (c := (aCl (aF1 aa))) (z := nz.toInt) rfl (show aFt (aF1 aa) nz.toInt = -1 from by rw [← r_LN, ← qE p1_m1]; omega) rfl (Or.inl (show aFt (aCl (aF1 aa)) nz.toInt ≠ -1 from by rw [← r_LN, ← qE p1_m5]; omega)))]; exact Cl_8.trans (i_zer (by omega)).symm; done) | (rw [(aRs_2 (a := aa) (b := (aF1 aa)) (c := (aCl (aF1 aa))) (z := nz.toInt) rfl (show aFt (aF1 aa) nz.toInt = -1 from by rw [← r_LN, ← qE p1_m1]; omega) rfl (Or.inr (r_MK.trans (i_zer (by omega)))))]; exact Cl_8.trans (i_zer (by omega)).symm; done) | (exfalso; omega; done) | (exfalso; contradiction; done)) p7_m3 (show qEq v6.toInt (aRp aa nz.toInt) from by first | (rw [aRp, (aRs_2 (a := aa) (b := (aF1 aa)) (c := (aCl (aF1 aa))) (z := nz.toInt) rfl (show aFt (aF1 aa) nz.toInt = -1 from by rw [← r_LN, ← qE p1_m1]; omega) rfl (Or.inl (show aFt (aCl (aF1 aa)) nz.toInt ≠ -1 from by rw [← r_LN, ← qE p1_m5]; omega))), ← r_LN]; exact p1_m5; done) | (rw [aRp, (aRs_2 (a := aa) (b := (aF1 aa)) (c := (aCl (aF1 aa))) (z := nz.toInt) rfl (show aFt (aF1 aa) nz.toInt = -1 from by rw [← r_LN, ← qE p1_m1]; omega) rfl (Or.inr (r_MK.trans (i_zer (by omega))))), ← r_LN]; exact p1_m5; done) | (exfalso; omega; done) | (exfalso; contradiction; done))
        · skip
          have g20 := i_nle h18
          refine sp_229r (aa := (aCl (aF1 aa)))  hV_m5 (by omega) r_W p0_m3 p1_m3 p2_m3 (show (m 94 10).toInt = 5 from by omega) p5_m3 p6_m3 p7_m3 (show (aCl (aF1 aa)) 87 8 = 0 from by first | (exact Cl_8) | (exfalso; omega; done) | (exfalso; contradiction; done)) (fun v8 m7 hV_m7 p0_m7 p1_m7 p2_m7 p3_m7 p4_m7 p5_m7 p6_m7 p7_m7 => zmi_n ?_)
          have p0_m7 : zGW T (m7 94 55) (m7 109) := p0_m7
          have p1_m7 : zGU T (m 94 46) (m7 99) := p1_m7
          have p2_m7 : zOw (m7 99) (m 103) (m7 111) := p2_m7
          have p3_m7 : zGG (m7 94 58) (m7 94 56) (m7 94 57) (m7 106) := p3_m7
          have p4_m7 : (m7 94 58).toInt = 0 := p4_m7
          have p5_m7 : qRB (m7 99) (m 100) (m 98) (m 101) (m 102) (m 103) (m 107) (m 108) (m7 109) (m7 111) (m 112) (m7 113) (m7 114) (m7 94 55) (m 94 46) (m 94 11) (m 94 12) (m 94 62) (m 94 17) (m 94 9) (aCl (aCl (aF1 aa))) := p5_m7
          have p6_m7 : qI (aCl (aCl (aF1 aa))) := p6_m7
          have p7_m7 : (m7 94 45).toInt = sm (zbU (m7 99)) (m 102) 3100 := p7_m7
          have f21 : 0 ≤ (m7 94 58).toInt ∧ (m7 94 58).toInt ≤ 1 := rs_94_58 (m := (zov wr_229 (zov wr_224 (zov wr_230 (zov wr_224 m m1) m3) m5) m7)) hV_m7
          refine sp_224r (aa := (aCl (aCl (aF1 aa)))) (l1) hV_m7 p5_m7 p6_m7 p2_m7 (fun v10 m9 hV_m9 p0_m9 p1_m9 => zmi_n ?_)
          have p0_m9 : -1 ≤ v10.toInt ∧ v10.toInt ≤ 1500 := p0_m9
          have p1_m9 : qEq v10.toInt (aFt (aCl (aCl (aF1 aa))) l1.toInt) := p1_m9
          have b22 := i_bd v10
          exact K (v10) _ (zF_zov (zF_zov (zF_zov (zF_zov (zF_zov hF ws_224_217) ws_230_217) ws_224_217) ws_229_217) ws_224_217) hV_m9 p0_m7 p1_m7 p2_m7 p3_m7 (show -1 ≤ v10.toInt ∧ v10.toInt ≤ 1500 from by omega) (show qRB (m7 99) (m 100) (m 98) (m 101) (m 102) (m 103) (m 107) (m 108) (m7 109) (m7 111) (m 112) (m7 113) (m7 114) (m7 94 55) (m 94 46) (m 94 11) (m 94 12) (m 94 62) (m 94 17) (m 94 9) (aRs aa nz.toInt) from by first | (rw [(aRs_3 (a := aa) (b := (aF1 aa)) (c := (aCl (aF1 aa))) (d := (aCl (aCl (aF1 aa)))) (z := nz.toInt) rfl (show aFt (aF1 aa) nz.toInt = -1 from by rw [← r_LN, ← qE p1_m1]; omega) rfl (show aFt (aCl (aF1 aa)) nz.toInt = -1 from by rw [← r_LN, ← qE p1_m5]; omega) (fun w => absurd (r_MK.symm.trans w) (i_nz2 (by omega))) rfl)]; exact p5_m7; done) | (exfalso; omega; done) | (exfalso; contradiction; done)) (show qI (aRs aa nz.toInt) from by first | (rw [(aRs_3 (a := aa) (b := (aF1 aa)) (c := (aCl (aF1 aa))) (d := (aCl (aCl (aF1 aa)))) (z := nz.toInt) rfl (show aFt (aF1 aa) nz.toInt = -1 from by rw [← r_LN, ← qE p1_m1]; omega) rfl (show aFt (aCl (aF1 aa)) nz.toInt = -1 from by rw [← r_LN, ← qE p1_m5]; omega) (fun w => absurd (r_MK.symm.trans w) (i_nz2 (by omega))) rfl)]; exact p6_m7; done) | (exfalso; omega; done) | (exfalso; contradiction; done)) (show qMG (m7 94 58) (m7 106) (m7 115) (m7 94 57) (m7 94 56) (m7 99) (m 100) (aRs aa nz.toInt) from by first | (exact fun z => absurd (by omega) z) | (exfalso; omega; done) | (exfalso; contradiction; done)) (show (aRs aa nz.toInt) 87 8 = (m7 94 58) from by first | (rw [(aRs_3 (a := aa) (b := (aF1 aa)) (c := (aCl (aF1 aa))) (d := (aCl (aCl (aF1 aa)))) (z := nz.toInt) rfl (show aFt (aF1 aa) nz.toInt = -1 from by rw [← r_LN, ← qE p1_m1]; omega) rfl (show aFt (aCl (aF1 aa)) nz.toInt = -1 from by rw [← r_LN, ← qE p1_m5]; omega) (fun w => absurd (r_MK.symm.trans w) (i_nz2 (by omega))) rfl)]; exact Cl_8.trans (i_zer (by omega)).symm; done) | (exfalso; omega; done) | (exfalso; contradiction; done)) p7_m7 (show qEq v10.toInt (aRp aa nz.toInt) from by first | (rw [aRp, (aRs_3 (a := aa) (b := (aF1 aa)) (c := (aCl (aF1 aa))) (d := (aCl (aCl (aF1 aa)))) (z := nz.toInt) rfl (show aFt (aF1 aa) nz.toInt = -1 from by rw [← r_LN, ← qE p1_m1]; omega) rfl (show aFt (aCl (aF1 aa)) nz.toInt = -1 from by rw [← r_LN, ← qE p1_m5]; omega) (fun w => absurd (r_MK.symm.trans w) (i_nz2 (by omega))) rfl), ← r_LN]; exact p1_m9; done) | (exfalso; omega; done) | (exfalso; contradiction; done))
    · skip
      have g23 := i_nlt h5
      exact K (v2) _ (zF_zov hF ws_224_217) hV_m1 r_GW r_GU r_OW r_GG (show -1 ≤ v2.toInt ∧ v2.toInt ≤ 1500 from by omega) (show qRB (m 99) (m 100) (m 98) (m 101) (m 102) (m 103) (m 107) (m 108) (m 109) (m 111) (m 112) (m 113) (m 114) (m 94 55) (m 94 46) (m 94 11) (m 94 12) (m 94 62) (m 94 17) (m 94 9) (aRs aa nz.toInt) from by first | (rw [(aRs_1 (a := aa) (b := (aF1 aa)) (z := nz.toInt) rfl (show aFt (aF1 aa) nz.toInt ≠ -1 from by rw [← r_LN, ← qE p1_m1]; omega))]; exact r_RB; done) | (exfalso; omega; done) | (exfalso; contradiction; done)) (show qI (aRs aa nz.toInt) from by first | (rw [(aRs_1 (a := aa) (b := (aF1 aa)) (z := nz.toInt) rfl (show aFt (aF1 aa) nz.toInt ≠ -1 from by rw [← r_LN, ← qE p1_m1]; omega))]; exact r_QI; done) | (exfalso; omega; done) | (exfalso; contradiction; done)) (show qMG (m 94 58) (m 106) (m 115) (m 94 57) (m 94 56) (m 99) (m 100) (aRs aa nz.toInt) from by first | (rw [(aRs_1 (a := aa) (b := (aF1 aa)) (z := nz.toInt) rfl (show aFt (aF1 aa) nz.toInt ≠ -1 from by rw [← r_LN, ← qE p1_m1]; omega))]; exact r_MG; done) | (exfalso; omega; done) | (exfalso; contradiction; done)) (show (aRs aa nz.toInt) 87 8 = (m 94 58) from by first | (rw [(aRs_1 (a := aa) (b := (aF1 aa)) (z := nz.toInt) rfl (show aFt (aF1 aa) nz.toInt ≠ -1 from by rw [← r_LN, ← qE p1_m1]; omega))]; exact r_MK; done) | (exfalso; omega; done) | (exfalso; contradiction; done)) r_WTS (show qEq v2.toInt (aRp aa nz.toInt) from by first | (rw [aRp, (aRs_1 (a := aa) (b := (aF1 aa)) (z := nz.toInt) rfl (show aFt (aF1 aa) nz.toInt ≠ -1 from by rw [← r_LN, ← qE p1_m1]; omega)), ← r_LN]; exact p1_m1; done) | (exfalso; omega; done) | (exfalso; contradiction; done))
set_option maxHeartbeats 8000000 in
theorem sp_217r {X : Nat × (Nat → Int32)} {P : Option ma_V → (Nat → Nat → Int32) → Prop} {T : Nat} {aa : Nat→Nat→Int32} {m : Nat → Nat → Int32} (nz : Int32) (hV : zV m) (hpre0 : T ≤ 512) (r_W : zW (m 94 7) (m 98) (m 101) (m 102) (m 108)) (r_GW : zGW T (m 94 55) (m 109)) (r_GU : zGU T (m 94 46) (m 99)) (r_OW : zOw (m 99) (m 103) (m 111)) (r_GG : zGG (m 94 58) (m 94 56) (m 94 57) (m 106)) (hpre6 : (m 94 10).toInt = 5) (r_RB : qRB (m 99) (m 100) (m 98) (m 101) (m 102) (m 103) (m 107) (m 108) (m 109) (m 111) (m 112) (m 113) (m 114) (m 94 55) (m 94 46) (m 94 11) (m 94 12) (m 94 62) (m 94 17) (m 94 9) aa) (r_QI : qI aa) (r_MG : qMG (m 94 58) (m 106) (m 115) (m 94 57) (m 94 56) (m 99) (m 100) aa) (r_MK : aa 87 8 = (m 94 58)) (r_WTS : (m 94 45).toInt = sm (zbU (m 99)) (m 102) 3100) (KZ : ∀ v m₉, zV (zov wr_217 m m₉) → (zGW T (m₉ 94 55) (m₉ 109)) → (zGU T (m 94 46) (m₉ 99)) → (zOw (m₉ 99) (m 103) (m₉ 111)) → (zGG (m₉ 94 58) (m₉ 94 56) (m₉ 94 57) (m₉ 106)) → (-1 ≤ v.toInt ∧ v.toInt ≤ 1500) → (qRB (m₉ 99) (m 100) (m 98) (m 101) (m 102) (m 103) (m 107) (m 108) (m₉ 109) (m₉ 111) (m 112) (m₉ 113) (m₉ 114) (m₉ 94 55) (m 94 46) (m 94 11) (m 94 12) (m 94 62) (m 94 17) (m 94 9) (aRs aa nz.toInt)) → (qI (aRs aa nz.toInt)) → (qMG (m₉ 94 58) (m₉ 106) (m₉ 115) (m₉ 94 57) (m₉ 94 56) (m₉ 99) (m 100) (aRs aa nz.toInt)) → ((aRs aa nz.toInt) 87 8 = (m₉ 94 58)) → ((m₉ 94 45).toInt = sm (zbU (m₉ 99)) (m 102) 3100) → (qEq v.toInt (aRp aa nz.toInt)) → P (some (.inl v)) (zov wr_217 m m₉)) : zm X 7 151 217 0 [(0, .inr (.inr (some 94))), (1, .inl nz)] m P := by
  have K : ∀ v m₉, zF wr_217 m m₉ → zV m₉ → (zGW T (m₉ 94 55) (m₉ 109)) → (zGU T (m₉ 94 46) (m₉ 99)) → (zOw (m₉ 99) (m₉ 103) (m₉ 111)) → (zGG (m₉ 94 58) (m₉ 94 56) (m₉ 94 57) (m₉ 106)) → (-1 ≤ v.toInt ∧ v.toInt ≤ 1500) → (qRB (m₉ 99) (m₉ 100) (m₉ 98) (m₉ 101) (m₉ 102) (m₉ 103) (m₉ 107) (m₉ 108) (m₉ 109) (m₉ 111) (m₉ 112) (m₉ 113) (m₉ 114) (m₉ 94 55) (m₉ 94 46) (m₉ 94 11) (m₉ 94 12) (m₉ 94 62) (m₉ 94 17) (m₉ 94 9) (aRs aa nz.toInt)) → (qI (aRs aa nz.toInt)) → (qMG (m₉ 94 58) (m₉ 106) (m₉ 115) (m₉ 94 57) (m₉ 94 56) (m₉ 99) (m₉ 100) (aRs aa nz.toInt)) → ((aRs aa nz.toInt) 87 8 = (m₉ 94 58)) → ((m₉ 94 45).toInt = sm (zbU (m₉ 99)) (m₉ 102) 3100) → (qEq v.toInt (aRp aa nz.toInt)) → P (some (.inl v)) m₉ := by
    intro v m₉ hf z q0 q1 q2 q3 q4 q5 q6 q7 q8 q9 q10
    have e := zov_eq hf
    rw [e] at z ⊢
    try rw [e] at q0
    try rw [e] at q1
    try rw [e] at q2
    try rw [e] at q3
    try rw [e] at q4
    try rw [e] at q5
    try rw [e] at q6
    try rw [e] at q7
    try rw [e] at q8
    try rw [e] at q9
    try rw [e] at q10
    exact KZ v m₉ z q0 q1 q2 q3 q4 q5 q6 q7 q8 q9 q10
  refine g_217r_0 nz ?_
  have f1 : 0 ≤ (m 94 10).toInt ∧ (m 94 10).toInt ≤ 6 := rs_94_10 (m := m) hV
  have f2 : 0 ≤ (m 94 58).toInt ∧ (m 94 58).toInt ≤ 1 := rs_94_58 (m := m) hV
  have li3 : (0 : Int32).toInt = 0 := rfl
  refine zd (fun (h4 : (m 94 58) = (0 : Int32)) => ?_) (fun (h4 : ¬ (m 94 58) = (0 : Int32)) => ?_)
  · skip
    have g5 := i_eq h4
    have f6 : 0 ≤ (m 94 11).toInt ∧ (m 94 11).toInt ≤ 1500 := rs_94_11 (m := m) hV
    have b7 := i_bd (m 94 45)
    first | have e8 : ((m 94 11) - (m 94 45)).toInt = (m 94 11).toInt - (m 94 45).toInt := i_sub (by omega) (by omega) | have b9 := i_bd ((m 94 11) - (m 94 45))
    have li10 : (4 : Int32).toInt = 4 := rfl
    first | have e11 : (((m 94 11) - (m 94 45)) * (4 : Int32)).toInt = ((m 94 11) - (m 94 45)).toInt * 4 := i_mulk rfl (by omega) (by omega) | have b12 := i_bd (((m 94 11) - (m 94 45)) * (4 : Int32))
    refine zd (fun (h13 : (m 94 11) ≤ (((m 94 11) - (m 94 45)) * (4 : Int32))) => ?_) (fun (h13 : ¬ (m 94 11) ≤ (((m 94 11) - (m 94 45)) * (4 : Int32))) => ?_)
    · skip
      have g14 := i_le h13
      refine zd (fun (h15 : (m 94 58) = (0 : Int32)) => ?_) (fun (h15 : ¬ (m 94 58) = (0 : Int32)) => ?_)
      · skip
        have g16 := i_eq h15
        have b17 := i_bd nz
        exact lp_217r_45 (nz := nz) hV K _ _ (nz) rfl zF_rfl hV (by omega) r_W r_GW r_GU r_OW r_GG (show (m 94 10).toInt = 5 from by omega) (show nz = nz from by first | (exact rfl) | (exfalso; omega; done) | (exfalso; contradiction; done)) (show qRB (m 99) (m 100) (m 98) (m 101) (m 102) (m 103) (m 107) (m 108) (m 109) (m 111) (m 112) (m 113) (m 114) (m 94 55) (m 94 46) (m 94 11) (m 94 12) (m 94 62) (m 94 17) (m 94 9) (aF1 aa) from by first | (rw [F1_0 (F0_n r_RB r_QI r_WTS (Or.inr (fun w => absurd (Int32.lt_iff_toInt_lt.mp w) (by omega)))) (r_MK.trans (i_zer (by omega)))]; exact r_RB; done) | (exfalso; omega; done) | (exfalso; contradiction; done)) (show qI (aF1 aa) from by first | (rw [F1_0 (F0_n r_RB r_QI r_WTS (Or.inr (fun w => absurd (Int32.lt_iff_toInt_lt.mp w) (by omega)))) (r_MK.trans (i_zer (by omega)))]; exact r_QI; done) | (exfalso; omega; done) | (exfalso; contradiction; done)) (show qMG (m 94 58) (m 106) (m 115) (m 94 57) (m 94 56) (m 99) (m 100) (aF1 aa) from by first | (rw [F1_0 (F0_n r_RB r_QI r_WTS (Or.inr (fun w => absurd (Int32.lt_iff_toInt_lt.mp w) (by omega)))) (r_MK.trans (i_zer (by omega)))]; exact r_MG; done) | (exfalso; omega; done) | (exfalso; contradiction; done)) (show (aF1 aa) 87 8 = (m 94 58) from by first | (rw [F1_0 (F0_n r_RB r_QI r_WTS (Or.inr (fun w => absurd (Int32.lt_iff_toInt_lt.mp w) (by omega)))) (r_MK.trans (i_zer (by omega)))]; exact r_MK; done) | (exfalso; omega; done) | (exfalso; contradiction; done)) r_WTS
      · skip
        have g18 := i_ne h15
        have b19 := i_bd (m 94 17)
        try have r6 : 0 ≤ (m 94 17).toInt := (by rw [← RB_ra r_RB]; exact r_QI.2.2.2.1.2.2.2.2.2)
        refine sp_222r (aa := aa) ((m 94 17)) hV (by omega) r_W (show zG1 (m 94 56) (m 94 57) (m 106) from by first | (exact r_GG (by omega)) | (exact G1_0 (by omega) (by omega)) | (exact r_GG (by omega)) | (exfalso; omega; done) | (exfalso; contradiction; done)) (show qMQ (m 106) (m 115) (m 94 57) (m 94 56) (m 99) (m 100) aa from by first | (exact (r_MG (by omega)).1) | (exfalso; omega; done) | (exfalso; contradiction; done)) r_RB r_QI (fun v6 m5 hV_m5 p0_m5 p1_m5 p2_m5 p3_m5 p4_m5 p5_m5 p6_m5 => zmi_n ?_)
        have p0_m5 : zG1 (m5 94 56) (m5 94 57) (m5 106) := p0_m5
        have p1_m5 : (m 94 56).toInt ≤ (m5 94 56).toInt := p1_m5
        have p2_m5 : (m 94 57).toInt ≤ (m5 94 57).toInt ∧ ((m5 94 56).toInt ≤ (m5 94 57).toInt ∨ (m 94 57).toInt + (m 94 17).toInt ≤ (m5 94 57).toInt) := p2_m5
        have p3_m5 : qRB (m 99) (m 100) (m 98) (m 101) (m 102) (m 103) (m 107) (m 108) (m 109) (m 111) (m 112) (m 113) (m 114) (m 94 55) (m 94 46) (m 94 11) (m 94 12) (m 94 62) (m 94 17) (m 94 9) (aSp (m 94 17).toInt.toNat aa) := p3_m5
        have p4_m5 : qI (aSp (m 94 17).toInt.toNat aa) := p4_m5
        have p5_m5 : qMQ (m5 106) (m5 115) (m5 94 57) (m5 94 56) (m 99) (m 100) (aSp (m 94 17).toInt.toNat aa) := p5_m5
        have p6_m5 : qEq v6.toInt (aSn (m 94 17).toInt.toNat aa : Int) := p6_m5
        have f20 : 0 ≤ (m 94 56).toInt ∧ (m 94 56).toInt ≤ 3100 := rs_94_56 (m := m) hV
        have f21 : 0 ≤ (m5 94 56).toInt ∧ (m5 94 56).toInt ≤ 3100 := rs_94_56 (m := (zov wr_222 m m5)) hV_m5
        have f22 : 0 ≤ (m 94 57).toInt ∧ (m 94 57).toInt ≤ 3100 := rs_94_57 (m := m) hV
        have f23 : 0 ≤ (m5 94 57).toInt ∧ (m5 94 57).toInt ≤ 3100 := rs_94_57 (m := (zov wr_222 m m5)) hV_m5
        try have r6 : 0 ≤ (m 94 17).toInt := (by rw [← RB_ra r_RB]; exact r_QI.2.2.2.1.2.2.2.2.2)
        refine sp_223r (aa := (aSp (m 94 17).toInt.toNat aa))  hV_m5 (by omega) r_W r_GW r_GU r_OW p0_m5 (show (m 94 10).toInt = 5 from by omega) (show (m 94 58).toInt = 1 from by omega) p5_m5 p3_m5 p4_m5 (show qMI (aSp (m 94 17).toInt.toNat aa) from by first | (exact MI_sp _ _ (r_MG (by omega)).2 (r_MG (by omega)).1.2.2.2.2) | (exfalso; omega; done) | (exfalso; contradiction; done)) (show (aSp (m 94 17).toInt.toNat aa) 87 8 = (m 94 58) from by first | (exact Sp_87.trans r_MK) | (exfalso; omega; done) | (exfalso; contradiction; done)) r_WTS (fun v8 m7 hV_m7 p0_m7 p1_m7 p2_m7 p3_m7 p4_m7 p5_m7 p6_m7 p7_m7 p8_m7 p9_m7 => zmi_n ?_)
        have p0_m7 : zGW T (m7 94 55) (m7 109) := p0_m7
        have p1_m7 : zGU T (m 94 46) (m7 99) := p1_m7
        have p2_m7 : zOw (m7 99) (m 103) (m7 111) := p2_m7
        have p3_m7 : zGG (m7 94 58) (m7 94 56) (m5 94 57) (m7 106) := p3_m7
        have p4_m7 : (m7 94 58).toInt = 0 ∨ ((m7 94 58).toInt = 1 ∧ (m5 94 57).toInt < (m7 94 56).toInt ∧ (m5 94 57).toInt = (m5 94 57).toInt) := p4_m7
        have p5_m7 : qRB (m7 99) (m 100) (m 98) (m 101) (m 102) (m 103) (m 107) (m 108) (m7 109) (m7 111) (m 112) (m7 113) (m7 114) (m7 94 55) (m 94 46) (m 94 11) (m 94 12) (m 94 62) (m 94 17) (m 94 9) (aLk (aSp (m 94 17).toInt.toNat aa)) := p5_m7
        have p6_m7 : qI (aLk (aSp (m 94 17).toInt.toNat aa)) := p6_m7
        have p7_m7 : qMG (m7 94 58) (m7 106) (m7 115) (m5 94 57) (m7 94 56) (m7 99) (m 100) (aLk (aSp (m 94 17).toInt.toNat aa)) := p7_m7
        have p8_m7 : (aLk (aSp (m 94 17).toInt.toNat aa)) 87 8 = (m7 94 58) := p8_m7
        have p9_m7 : (m7 94 45).toInt = sm (zbU (m7 99)) (m 102) 3100 := p9_m7
        have f24 : 0 ≤ (m7 94 58).toInt ∧ (m7 94 58).toInt ≤ 1 := rs_94_58 (m := (zov wr_223 (zov wr_222 m m5) m7)) hV_m7
        have f25 : 0 ≤ (m7 94 56).toInt ∧ (m7 94 56).toInt ≤ 3100 := rs_94_56 (m := (zov wr_223 (zov wr_222 m m5) m7)) hV_m7
        have b26 := i_bd nz
        exact lp_217r_45 (nz := nz) hV K _ _ (nz) rfl (zF_zov (zF_zov zF_rfl ws_222_217) ws_223_217) hV_m7 (by omega) r_W p0_m7 p1_m7 p2_m7 p3_m7 (show (m 94 10).toInt = 5 from by omega) (show nz = nz from by first | (exact rfl) | (exfalso; omega; done) | (exfalso; contradiction; done)) (show qRB (m7 99) (m 100) (m 98) (m 101) (m 102) (m 103) (m 107) (m 108) (m7 109) (m7 111) (m 112) (m7 113) (m7 114) (m7 94 55) (m 94 46) (m 94 11) (m 94 12) (m 94 62) (m 94 17) (m 94 9) (aF1 aa) from by first | (rw [F1_1 (RB_ra r_RB) (F0_n r_RB r_QI r_WTS (Or.inl (fun w => absurd (r_MK.symm.trans w) (i_nz2 (by omega))))) (fun w => absurd (r_MK.symm.trans w) (i_nz2 (by omega)))]; exact p5_m7; done) | (exfalso; omega; done) | (exfalso; contradiction; done)) (show qI (aF1 aa) from by first | (rw [F1_1 (RB_ra r_RB) (F0_n r_RB r_QI r_WTS (Or.inl (fun w => absurd (r_MK.symm.trans w) (i_nz2 (by omega))))) (fun w => absurd (r_MK.symm.trans w) (i_nz2 (by omega)))]; exact p6_m7; done) | (exfalso; omega; done) | (exfalso; contradiction; done)) (show qMG (m7 94 58) (m7 106) (m7 115) (m5 94 57) (m7 94 56) (m7 99) (m 100) (aF1 aa) from by first | (rw [F1_1 (RB_ra r_RB) (F0_n r_RB r_QI r_WTS (Or.inl (fun w => absurd (r_MK.symm.trans w) (i_nz2 (by omega))))) (fun w => absurd (r_MK.symm.trans w) (i_nz2 (by omega)))]; exact p7_m7; done) | (exfalso; omega; done) | (exfalso; contradiction; done)) (show (aF1 aa) 87 8 = (m7 94 58) from by first | (rw [F1_1 (RB_ra r_RB) (F0_n r_RB r_QI r_WTS (Or.inl (fun w => absurd (r_MK.symm.trans w) (i_nz2 (by omega))))) (fun w => absurd (r_MK.symm.trans w) (i_nz2 (by omega)))]; exact p8_m7; done) | (exfalso; omega; done) | (exfalso; contradiction; done)) p9_m7
    · skip
      have g27 := i_nle h13
      try have r6 : 0 ≤ (m 94 17).toInt := (by rw [← RB_ra r_RB]; exact r_QI.2.2.2.1.2.2.2.2.2)
      refine sp_219r (aa := aa)  hV r_RB r_QI (fun m9 hV_m9 p0_m9 p1_m9 p2_m9 p3_m9 p4_m9 => zmv_n ?_)
      have p0_m9 : zG1 (m9 94 56) (m9 94 57) (m9 106) := p0_m9
      have p1_m9 : (m9 94 58).toInt = 1 := p1_m9
      have p2_m9 : qRB (m 99) (m 100) (m 98) (m 101) (m 102) (m 103) (m 107) (m 108) (m 109) (m 111) (m 112) (m 113) (m 114) (m 94 55) (m 94 46) (m 94 11) (m 94 12) (m 94 62) (m 94 17) (m 94 9) (aB0 aa) := p2_m9
      have p3_m9 : qI (aB0 aa) := p3_m9
      have p4_m9 : qMQ (m9 106) (m9 115) (m9 94 57) (m9 94 56) (m 99) (m 100) (aB0 aa) := p4_m9
      have f28 : 0 ≤ (m9 94 58).toInt ∧ (m9 94 58).toInt ≤ 1 := rs_94_58 (m := (zov wr_219 m m9)) hV_m9
      refine zd (fun (h29 : (m9 94 58) = (0 : Int32)) => ?_) (fun (h29 : ¬ (m9 94 58) = (0 : Int32)) => ?_)
      · skip
        have g30 := i_eq h29
        exfalso; omega
      · skip
        have g31 := i_ne h29
        have b32 := i_bd (m 94 17)
        try have r6 : 0 ≤ (m 94 17).toInt := (by rw [← RB_ra r_RB]; exact r_QI.2.2.2.1.2.2.2.2.2)
        refine sp_222r (aa := (aB0 aa)) ((m 94 17)) hV_m9 (by omega) r_W p0_m9 p4_m9 p2_m9 p3_m9 (fun v12 m11 hV_m11 p0_m11 p1_m11 p2_m11 p3_m11 p4_m11 p5_m11 p6_m11 => zmi_n ?_)
        have p0_m11 : zG1 (m11 94 56) (m11 94 57) (m11 106) := p0_m11
        have p1_m11 : (m9 94 56).toInt ≤ (m11 94 56).toInt := p1_m11
        have p2_m11 : (m9 94 57).toInt ≤ (m11 94 57).toInt ∧ ((m11 94 56).toInt ≤ (m11 94 57).toInt ∨ (m9 94 57).toInt + (m 94 17).toInt ≤ (m11 94 57).toInt) := p2_m11
        have p3_m11 : qRB (m 99) (m 100) (m 98) (m 101) (m 102) (m 103) (m 107) (m 108) (m 109) (m 111) (m 112) (m 113) (m 114) (m 94 55) (m 94 46) (m 94 11) (m 94 12) (m 94 62) (m 94 17) (m 94 9) (aSp (m 94 17).toInt.toNat (aB0 aa)) := p3_m11
        have p4_m11 : qI (aSp (m 94 17).toInt.toNat (aB0 aa)) := p4_m11
        have p5_m11 : qMQ (m11 106) (m11 115) (m11 94 57) (m11 94 56) (m 99) (m 100) (aSp (m 94 17).toInt.toNat (aB0 aa)) := p5_m11
        have p6_m11 : qEq v12.toInt (aSn (m 94 17).toInt.toNat (aB0 aa) : Int) := p6_m11
        have f33 : 0 ≤ (m9 94 56).toInt ∧ (m9 94 56).toInt ≤ 3100 := rs_94_56 (m := (zov wr_219 m m9)) hV_m9
        have f34 : 0 ≤ (m11 94 56).toInt ∧ (m11 94 56).toInt ≤ 3100 := rs_94_56 (m := (zov wr_222 (zov wr_219 m m9) m11)) hV_m11
        have f35 : 0 ≤ (m9 94 57).toInt ∧ (m9 94 57).toInt ≤ 3100 := rs_94_57 (m := (zov wr_219 m m9)) hV_m9
        have f36 : 0 ≤ (m11 94 57).toInt ∧ (m11 94 57).toInt ≤ 3100 := rs_94_57 (m := (zov wr_222 (zov wr_219 m m9) m11)) hV_m11
        try have r6 : 0 ≤ (m 94 17).toInt := (by rw [← RB_ra r_RB]; exact r_QI.2.2.2.1.2.2.2.2.2)
        refine sp_223r (aa := (aSp (m 94 17).toInt.toNat (aB0 aa)))  hV_m11 (by omega) r_W r_GW r_GU r_OW p0_m11 (show (m 94 10).toInt = 5 from by omega) (show (m9 94 58).toInt = 1 from by omega) p5_m11 p3_m11 p4_m11 (show qMI (aSp (m 94 17).toInt.toNat (aB0 aa)) from by first | (exact MI_sp _ _ (MI_b0 r_QI) p4_m9.2.2.2.2) | (exfalso; omega; done) | (exfalso; contradiction; done)) (show (aSp (m 94 17).toInt.toNat (aB0 aa)) 87 8 = (m9 94 58) from by first | (exact Sp_87.trans (B0_87.trans (i_one (by omega)))) | (exfalso; omega; done) | (exfalso; contradiction; done)) r_WTS (fun v14 m13 hV_m13 p0_m13 p1_m13 p2_m13 p3_m13 p4_m13 p5_m13 p6_m13 p7_m13 p8_m13 p9_m13 => zmi_n ?_)
        have p0_m13 : zGW T (m13 94 55) (m13 109) := p0_m13
        have p1_m13 : zGU T (m 94 46) (m13 99) := p1_m13
        have p2_m13 : zOw (m13 99) (m 103) (m13 111) := p2_m13
        have p3_m13 : zGG (m13 94 58) (m13 94 56) (m11 94 57) (m13 106) := p3_m13
        have p4_m13 : (m13 94 58).toInt = 0 ∨ ((m13 94 58).toInt = 1 ∧ (m11 94 57).toInt < (m13 94 56).toInt ∧ (m11 94 57).toInt = (m11 94 57).toInt) := p4_m13
        have p5_m13 : qRB (m13 99) (m 100) (m 98) (m 101) (m 102) (m 103) (m 107) (m 108) (m13 109) (m13 111) (m 112) (m13 113) (m13 114) (m13 94 55) (m 94 46) (m 94 11) (m 94 12) (m 94 62) (m 94 17) (m 94 9) (aLk (aSp (m 94 17).toInt.toNat (aB0 aa))) := p5_m13
        have p6_m13 : qI (aLk (aSp (m 94 17).toInt.toNat (aB0 aa))) := p6_m13
        have p7_m13 : qMG (m13 94 58) (m13 106) (m13 115) (m11 94 57) (m13 94 56) (m13 99) (m 100) (aLk (aSp (m 94 17).toInt.toNat (aB0 aa))) := p7_m13
        have p8_m13 : (aLk (aSp (m 94 17).toInt.toNat (aB0 aa))) 87 8 = (m13 94 58) := p8_m13
        have p9_m13 : (m13 94 45).toInt = sm (zbU (m13 99)) (m 102) 3100 := p9_m13
        have f37 : 0 ≤ (m13 94 58).toInt ∧ (m13 94 58).toInt ≤ 1 := rs_94_58 (m := (zov wr_223 (zov wr_222 (zov wr_219 m m9) m11) m13)) hV_m13
        have f38 : 0 ≤ (m13 94 56).toInt ∧ (m13 94 56).toInt ≤ 3100 := rs_94_56 (m := (zov wr_223 (zov wr_222 (zov wr_219 m m9) m11) m13)) hV_m13
        have b39 := i_bd nz
        exact lp_217r_45 (nz := nz) hV K _ _ (nz) rfl (zF_zov (zF_zov (zF_zov zF_rfl ws_219_217) ws_222_217) ws_223_217) hV_m13 (by omega) r_W p0_m13 p1_m13 p2_m13 p3_m13 (show (m 94 10).toInt = 5 from by omega) (show nz = nz from by first | (exact rfl) | (exfalso; omega; done) | (exfalso; contradiction; done)) (show qRB (m13 99) (m 100) (m 98) (m 101) (m 102) (m 103) (m 107) (m 108) (m13 109) (m13 111) (m 112) (m13 113) (m13 114) (m13 94 55) (m 94 46) (m 94 11) (m 94 12) (m 94 62) (m 94 17) (m 94 9) (aF1 aa) from by first | (rw [F1_1 (RB_ra r_RB) (F0_y r_RB r_QI r_WTS (r_MK.trans (i_zer (by omega))) (Int32.lt_iff_toInt_lt.mpr (by omega))) (by rw [B0_87]; decide)]; exact p5_m13; done) | (exfalso; omega; done) | (exfalso; contradiction; done)) (show qI (aF1 aa) from by first | (rw [F1_1 (RB_ra r_RB) (F0_y r_RB r_QI r_WTS (r_MK.trans (i_zer (by omega))) (Int32.lt_iff_toInt_lt.mpr (by omega))) (by rw [B0_87]; decide)]; exact p6_m13; done) | (exfalso; omega; done) | (exfalso; contradiction; done)) (show qMG (m13 94 58) (m13 106) (m13 115) (m11 94 57) (m13 94 56) (m13 99) (m 100) (aF1 aa) from by first | (rw [F1_1 (RB_ra r_RB) (F0_y r_RB r_QI r_WTS (r_MK.trans (i_zer (by omega))) (Int32.lt_iff_toInt_lt.mpr (by omega))) (by rw [B0_87]; decide)]; exact p7_m13; done) | (exfalso; omega; done) | (exfalso; contradiction; done)) (show (aF1 aa) 87 8 = (m13 94 58) from by first | (rw [F1_1 (RB_ra r_RB) (F0_y r_RB r_QI r_WTS (r_MK.trans (i_zer (by omega))) (Int32.lt_iff_toInt_lt.mpr (by omega))) (by rw [B0_87]; decide)]; exact p8_m13; done) | (exfalso; omega; done) | (exfalso; contradiction; done)) p9_m13
  · skip
    have g40 := i_ne h4
    refine zd (fun (h41 : (m 94 58) = (0 : Int32)) => ?_) (fun (h41 : ¬ (m 94 58) = (0 : Int32)) => ?_)
    · skip
      have g42 := i_eq h41
      have b43 := i_bd nz
      exact lp_217r_45 (nz := nz) hV K _ _ (nz) rfl zF_rfl hV (by omega) r_W r_GW r_GU r_OW r_GG (show (m 94 10).toInt = 5 from by omega) (show nz = nz from by first | (exact rfl) | (exfalso; omega; done) | (exfalso; contradiction; done)) (show qRB (m 99) (m 100) (m 98) (m 101) (m 102) (m 103) (m 107) (m 108) (m 109) (m 111) (m 112) (m 113) (m 114) (m 94 55) (m 94 46) (m 94 11) (m 94 12) (m 94 62) (m 94 17) (m 94 9) (aF1 aa) from by first | (rw [F1_0 (F0_n r_RB r_QI r_WTS (Or.inr (fun w => absurd (Int32.lt_iff_toInt_lt.mp w) (by omega)))) (r_MK.trans (i_zer (by omega)))]; exact r_RB; done) | (exfalso; omega; done) | (exfalso; contradiction; done)) (show qI (aF1 aa) from by first | (rw [F1_0 (F0_n r_RB r_QI r_WTS (Or.inr (fun w => absurd (Int32.lt_iff_toInt_lt.mp w) (by omega)))) (r_MK.trans (i_zer (by omega)))]; exact r_QI; done) | (exfalso; omega; done) | (exfalso; contradiction; done)) (show qMG (m 94 58) (m 106) (m 115) (m 94 57) (m 94 56) (m 99) (m 100) (aF1 aa) from by first | (rw [F1_0 (F0_n r_RB r_QI r_WTS (Or.inr (fun w => absurd (Int32.lt_iff_toInt_lt.mp w) (by omega)))) (r_MK.trans (i_zer (by omega)))]; exact r_MG; done) | (exfalso; omega; done) | (exfalso; contradiction; done)) (show (aF1 aa) 87 8 = (m 94 58) from by first | (rw [F1_0 (F0_n r_RB r_QI r_WTS (Or.inr (fun w => absurd (Int32.lt_iff_toInt_lt.mp w) (by omega)))) (r_MK.trans (i_zer (by omega)))]; exact r_MK; done) | (exfalso; omega; done) | (exfalso; contradiction; done)) r_WTS
    · skip
      have g44 := i_ne h41
      have b45 := i_bd (m 94 17)
      try have r6 : 0 ≤ (m 94 17).toInt := (by rw [← RB_ra r_RB]; exact r_QI.2.2.2.1.2.2.2.2.2)
      refine sp_222r (aa := aa) ((m 94 17)) hV (by omega) r_W (show zG1 (m 94 56) (m 94 57) (m 106) from by first | (exact r_GG (by omega)) | (exact G1_0 (by omega) (by omega)) | (exact r_GG (by omega)) | (exfalso; omega; done) | (exfalso; contradiction; done)) (show qMQ (m 106) (m 115) (m 94 57) (m 94 56) (m 99) (m 100) aa from by first | (exact (r_MG (by omega)).1) | (exfalso; omega; done) | (exfalso; contradiction; done)) r_RB r_QI (fun v2 m1 hV_m1 p0_m1 p1_m1 p2_m1 p3_m1 p4_m1 p5_m1 p6_m1 => zmi_n ?_)
      have p0_m1 : zG1 (m1 94 56) (m1 94 57) (m1 106) := p0_m1
      have p1_m1 : (m 94 56).toInt ≤ (m1 94 56).toInt := p1_m1
      have p2_m1 : (m 94 57).toInt ≤ (m1 94 57).toInt ∧ ((m1 94 56).toInt ≤ (m1 94 57).toInt ∨ (m 94 57).toInt + (m 94 17).toInt ≤ (m1 94 57).toInt) := p2_m1
      have p3_m1 : qRB (m 99) (m 100) (m 98) (m 101) (m 102) (m 103) (m 107) (m 108) (m 109) (m 111) (m 112) (m 113) (m 114) (m 94 55) (m 94 46) (m 94 11) (m 94 12) (m 94 62) (m 94 17) (m 94 9) (aSp (m 94 17).toInt.toNat aa) := p3_m1
      have p4_m1 : qI (aSp (m 94 17).toInt.toNat aa) := p4_m1
      have p5_m1 : qMQ (m1 106) (m1 115) (m1 94 57) (m1 94 56) (m 99) (m 100) (aSp (m 94 17).toInt.toNat aa) := p5_m1
      have p6_m1 : qEq v2.toInt (aSn (m 94 17).toInt.toNat aa : Int) := p6_m1
      have f46 : 0 ≤ (m 94 56).toInt ∧ (m 94 56).toInt ≤ 3100 := rs_94_56 (m := m) hV
      have f47 : 0 ≤ (m1 94 56).toInt ∧ (m1 94 56).toInt ≤ 3100 := rs_94_56 (m := (zov wr_222 m m1)) hV_m1
      have f48 : 0 ≤ (m 94 57).toInt ∧ (m 94 57).toInt ≤ 3100 := rs_94_57 (m := m) hV
      have f49 : 0 ≤ (m1 94 57).toInt ∧ (m1 94 57).toInt ≤ 3100 := rs_94_57 (m := (zov wr_222 m m1)) hV_m1
      try have r6 : 0 ≤ (m 94 17).toInt := (by rw [← RB_ra r_RB]; exact r_QI.2.2.2.1.2.2.2.2.2)
      refine sp_223r (aa := (aSp (m 94 17).toInt.toNat aa))  hV_m1 (by omega) r_W r_GW r_GU r_OW p0_m1 (show (m 94 10).toInt = 5 from by omega) (show (m 94 58).toInt = 1 from by omega) p5_m1 p3_m1 p4_m1 (show qMI (aSp (m 94 17).toInt.toNat aa) from by first | (exact MI_sp _ _ (r_MG (by omega)).2 (r_MG (by omega)).1.2.2.2.2) | (exfalso; omega; done) | (exfalso; contradiction; done)) (show (aSp (m 94 17).toInt.toNat aa) 87 8 = (m 94 58) from by first | (exact Sp_87.trans r_MK) | (exfalso; omega; done) | (exfalso; contradiction; done)) r_WTS (fun v4 m3 hV_m3 p0_m3 p1_m3 p2_m3 p3_m3 p4_m3 p5_m3 p6_m3 p7_m3 p8_m3 p9_m3 => zmi_n ?_)
      have p0_m3 : zGW T (m3 94 55) (m3 109) := p0_m3
      have p1_m3 : zGU T (m 94 46) (m3 99) := p1_m3
      have p2_m3 : zOw (m3 99) (m 103) (m3 111) := p2_m3
      have p3_m3 : zGG (m3 94 58) (m3 94 56) (m1 94 57) (m3 106) := p3_m3
      have p4_m3 : (m3 94 58).toInt = 0 ∨ ((m3 94 58).toInt = 1 ∧ (m1 94 57).toInt < (m3 94 56).toInt ∧ (m1 94 57).toInt = (m1 94 57).toInt) := p4_m3
      have p5_m3 : qRB (m3 99) (m 100) (m 98) (m 101) (m 102) (m 103) (m 107) (m 108) (m3 109) (m3 111) (m 112) (m3 113) (m3 114) (m3 94 55) (m 94 46) (m 94 11) (m 94 12) (m 94 62) (m 94 17) (m 94 9) (aLk (aSp (m 94 17).toInt.toNat aa)) := p5_m3
      have p6_m3 : qI (aLk (aSp (m 94 17).toInt.toNat aa)) := p6_m3
      have p7_m3 : qMG (m3 94 58) (m3 106) (m3 115) (m1 94 57) (m3 94 56) (m3 99) (m 100) (aLk (aSp (m 94 17).toInt.toNat aa)) := p7_m3
      have p8_m3 : (aLk (aSp (m 94 17).toInt.toNat aa)) 87 8 = (m3 94 58) := p8_m3
      have p9_m3 : (m3 94 45).toInt = sm (zbU (m3 99)) (m 102) 3100 := p9_m3
      have f50 : 0 ≤ (m3 94 58).toInt ∧ (m3 94 58).toInt ≤ 1 := rs_94_58 (m := (zov wr_223 (zov wr_222 m m1) m3)) hV_m3
      have f51 : 0 ≤ (m3 94 56).toInt ∧ (m3 94 56).toInt ≤ 3100 := rs_94_56 (m := (zov wr_223 (zov wr_222 m m1) m3)) hV_m3
      have b52 := i_bd nz
      exact lp_217r_45 (nz := nz) hV K _ _ (nz) rfl (zF_zov (zF_zov zF_rfl ws_222_217) ws_223_217) hV_m3 (by omega) r_W p0_m3 p1_m3 p2_m3 p3_m3 (show (m 94 10).toInt = 5 from by omega) (show nz = nz from by first | (exact rfl) | (exfalso; omega; done) | (exfalso; contradiction; done)) (show qRB (m3 99) (m 100) (m 98) (m 101) (m 102) (m 103) (m 107) (m 108) (m3 109) (m3 111) (m 112) (m3 113) (m3 114) (m3 94 55) (m 94 46) (m 94 11) (m 94 12) (m 94 62) (m 94 17) (m 94 9) (aF1 aa) from by first | (rw [F1_1 (RB_ra r_RB) (F0_n r_RB r_QI r_WTS (Or.inl (fun w => absurd (r_MK.symm.trans w) (i_nz2 (by omega))))) (fun w => absurd (r_MK.symm.trans w) (i_nz2 (by omega)))]; exact p5_m3; done) | (exfalso; omega; done) | (exfalso; contradiction; done)) (show qI (aF1 aa) from by first | (rw [F1_1 (RB_ra r_RB) (F0_n r_RB r_QI r_WTS (Or.inl (fun w => absurd (r_MK.symm.trans w) (i_nz2 (by omega))))) (fun w => absurd (r_MK.symm.trans w) (i_nz2 (by omega)))]; exact p6_m3; done) | (exfalso; omega; done) | (exfalso; contradiction; done)) (show qMG (m3 94 58) (m3 106) (m3 115) (m1 94 57) (m3 94 56) (m3 99) (m 100) (aF1 aa) from by first | (rw [F1_1 (RB_ra r_RB) (F0_n r_RB r_QI r_WTS (Or.inl (fun w => absurd (r_MK.symm.trans w) (i_nz2 (by omega))))) (fun w => absurd (r_MK.symm.trans w) (i_nz2 (by omega)))]; exact p7_m3; done) | (exfalso; omega; done) | (exfalso; contradiction; done)) (show (aF1 aa) 87 8 = (m3 94 58) from by first | (rw [F1_1 (RB_ra r_RB) (F0_n r_RB r_QI r_WTS (Or.inl (fun w => absurd (r_MK.symm.trans w) (i_nz2 (by omega))))) (fun w => absurd (r_MK.symm.trans w) (i_nz2 (by omega)))]; exact p8_m3; done) | (exfalso; omega; done) | (exfalso; contradiction; done)) p9_m3

