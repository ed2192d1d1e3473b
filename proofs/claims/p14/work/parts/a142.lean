/-! from 95.i27 -/
/-! the class opens a heap (written by wip/tools/gen18c.py) -/
theorem g_138_64_sq_0 {X : Nat × (Nat → Int32)} {d w : Nat} {S : ma_S} {Q : Option ma_V ⊕ Nat → ma_S → Prop} (x : Int32) (hd : 0 ≤ d) (hw : 0 ≤ w) (hS : zT S) (h : if (100 : Int32) ≤ (mI S 64 1) then (Q (.inl none) S) else ((0 ≤ (mI S 64 1) ∧ (mI S 64 1).toNatClampNeg < 100) ∧ (if (100 : Int32) ≤ ((mI S 64 1) + (1 : Int32)) then (Q (.inl none) (ma_put (ma_put S 65 (mI S 64 1).toNatClampNeg (.inl (vp_nar .byte (((x.toUInt32 >>> ((24 : Int32).toUInt32 &&& Int32.toUInt32 31)).toInt32).toInt8.toInt32)))) 64 1 (.inl ((mI S 64 1) + (1 : Int32))))) else ((0 ≤ ((mI S 64 1) + (1 : Int32)) ∧ ((mI S 64 1) + (1 : Int32)).toNatClampNeg < 100) ∧ (if (100 : Int32) ≤ (((mI S 64 1) + (1 : Int32)) + (1 : Int32)) then (Q (.inl none) (ma_put (ma_put (ma_put (ma_put S 65 (mI S 64 1).toNatClampNeg (.inl (vp_nar .byte (((x.toUInt32 >>> ((24 : Int32).toUInt32 &&& Int32.toUInt32 31)).toInt32).toInt8.toInt32)))) 64 1 (.inl ((mI S 64 1) + (1 : Int32)))) 65 ((mI S 64 1) + (1 : Int32)).toNatClampNeg (.inl (vp_nar .byte (((x.toUInt32 >>> ((16 : Int32).toUInt32 &&& Int32.toUInt32 31)).toInt32).toInt8.toInt32)))) 64 1 (.inl (((mI S 64 1) + (1 : Int32)) + (1 : Int32))))) else ((0 ≤ (((mI S 64 1) + (1 : Int32)) + (1 : Int32)) ∧ (((mI S 64 1) + (1 : Int32)) + (1 : Int32)).toNatClampNeg < 100) ∧ (if (100 : Int32) ≤ ((((mI S 64 1) + (1 : Int32)) + (1 : Int32)) + (1 : Int32)) then (Q (.inl none) (ma_put (ma_put (ma_put (ma_put (ma_put (ma_put S 65 (mI S 64 1).toNatClampNeg (.inl (vp_nar .byte (((x.toUInt32 >>> ((24 : Int32).toUInt32 &&& Int32.toUInt32 31)).toInt32).toInt8.toInt32)))) 64 1 (.inl ((mI S 64 1) + (1 : Int32)))) 65 ((mI S 64 1) + (1 : Int32)).toNatClampNeg (.inl (vp_nar .byte (((x.toUInt32 >>> ((16 : Int32).toUInt32 &&& Int32.toUInt32 31)).toInt32).toInt8.toInt32)))) 64 1 (.inl (((mI S 64 1) + (1 : Int32)) + (1 : Int32)))) 65 (((mI S 64 1) + (1 : Int32)) + (1 : Int32)).toNatClampNeg (.inl (vp_nar .byte (((x.toUInt32 >>> ((8 : Int32).toUInt32 &&& Int32.toUInt32 31)).toInt32).toInt8.toInt32)))) 64 1 (.inl ((((mI S 64 1) + (1 : Int32)) + (1 : Int32)) + (1 : Int32))))) else ((0 ≤ ((((mI S 64 1) + (1 : Int32)) + (1 : Int32)) + (1 : Int32)) ∧ ((((mI S 64 1) + (1 : Int32)) + (1 : Int32)) + (1 : Int32)).toNatClampNeg < 100) ∧ (Q (.inl none) (ma_put (ma_put (ma_put (ma_put (ma_put (ma_put (ma_put (ma_put S 65 (mI S 64 1).toNatClampNeg (.inl (vp_nar .byte (((x.toUInt32 >>> ((24 : Int32).toUInt32 &&& Int32.toUInt32 31)).toInt32).toInt8.toInt32)))) 64 1 (.inl ((mI S 64 1) + (1 : Int32)))) 65 ((mI S 64 1) + (1 : Int32)).toNatClampNeg (.inl (vp_nar .byte (((x.toUInt32 >>> ((16 : Int32).toUInt32 &&& Int32.toUInt32 31)).toInt32).toInt8.toInt32)))) 64 1 (.inl (((mI S 64 1) + (1 : Int32)) + (1 : Int32)))) 65 (((mI S 64 1) + (1 : Int32)) + (1 : Int32)).toNatClampNeg (.inl (vp_nar .byte (((x.toUInt32 >>> ((8 : Int32).toUInt32 &&& Int32.toUInt32 31)).toInt32).toInt8.toInt32)))) 64 1 (.inl ((((mI S 64 1) + (1 : Int32)) + (1 : Int32)) + (1 : Int32)))) 65 ((((mI S 64 1) + (1 : Int32)) + (1 : Int32)) + (1 : Int32)).toNatClampNeg (.inl (vp_nar .byte (((x.toUInt32 >>> ((0 : Int32).toUInt32 &&& Int32.toUInt32 31)).toInt32).toInt8.toInt32)))) 64 1 (.inl (((((mI S 64 1) + (1 : Int32)) + (1 : Int32)) + (1 : Int32)) + (1 : Int32))))))))))))) : ma_wp X d w 138 0 [(0, .inr (.inr (some 64))), (1, .inl x)] [] S Q := by
  refine zw_push hm_138 dX11_addBytes_0 (v := .inl (24 : Int32)) rfl ?_
  refine zw_sto hm_138 dX11_addBytes_2 [(2, .inl (24 : Int32)), (0, .inr (.inr (some 64))), (1, .inl x)] rfl rfl rfl ?_
  refine zw_push hm_138 dX11_addBytes_3 (v := .inl (24 : Int32)) rfl ?_
  refine zw_if0 hm_138 dX11_addBytes_4 (t := 45) rfl zc0_lt (fun hc => absurd hc (by decide)) (fun _ => ?_)
  refine zw_push hm_138 dX11_addBytes_7 (v := .inr (.inr (some 64))) rfl ?_
  refine zw_gf hm_138 dX11_addBytes_8 (v := .inl (mI S 64 1)) (zT_is hS s_64) (zT_t hS s_64) rfl f_11_68_11 rfl ?_
  refine zw_push hm_138 dX11_addBytes_11 (v := .inl (100 : Int32)) rfl ?_
  refine zw_if2 hm_138 dX11_addBytes_13 (t := 45) rfl zc2_ge ?_ ?_
  · intro hc
    rw [if_pos hc] at h
    exact zw_vret hm_138 dX11_addBytes_45 h
  · intro hc
    rw [if_neg hc] at h
    refine zw_push hm_138 dX11_addBytes_16 (v := .inr (.inr (some 64))) rfl ?_
    refine zw_gf hm_138 dX11_addBytes_17 (v := .inr (.inr (some 65))) (zT_is hS s_64) (zT_t hS s_64) rfl f_11_9_11 (zT_f hS r_64_0) ?_
    refine zw_push hm_138 dX11_addBytes_20 (v := .inr (.inr (some 64))) rfl ?_
    refine zw_gf hm_138 dX11_addBytes_21 (v := .inl (mI S 64 1)) (zT_is hS s_64) (zT_t hS s_64) rfl f_11_68_11 rfl ?_
    refine zw_push hm_138 dX11_addBytes_24 (v := .inl x) rfl ?_
    refine zw_push hm_138 dX11_addBytes_25 (v := .inl (24 : Int32)) rfl ?_
    refine zw_stk hm_138 dX11_addBytes_26 (st₉ := [.inl ((x.toUInt32 >>> ((24 : Int32).toUInt32 &&& Int32.toUInt32 31)).toInt32), .inl (mI S 64 1), .inr (.inr (some 65))]) rfl rfl ?_
    refine zw_stk hm_138 dX11_addBytes_27 (st₉ := [.inl (((x.toUInt32 >>> ((24 : Int32).toUInt32 &&& Int32.toUInt32 31)).toInt32).toInt8.toInt32), .inl (mI S 64 1), .inr (.inr (some 65))]) rfl rfl ?_
    obtain ⟨hg, h⟩ := h
    refine zw_bas21 hm_138 dX11_addBytes_28 (zT_is hS s_65) (zT_h hS s_65) rfl hg ?_
    refine zw_push hm_138 dX11_addBytes_29 (v := .inr (.inr (some 64))) rfl ?_
    refine zw_stk hm_138 dX11_addBytes_30 (st₉ := [.inr (.inr (some 64)), .inr (.inr (some 64))]) rfl rfl ?_
    refine zw_gf hm_138 dX11_addBytes_31 (v := .inl (mI S 64 1)) (zT_is (zT_pi hS) s_64) (zT_t (zT_pi hS) s_64) rfl f_11_68_11 rfl ?_
    refine zw_push hm_138 dX11_addBytes_34 (v := .inl (1 : Int32)) rfl ?_
    refine zw_stk hm_138 dX11_addBytes_35 (st₉ := [.inl ((mI S 64 1) + (1 : Int32)), .inr (.inr (some 64))]) rfl rfl ?_
    refine zw_pf hm_138 dX11_addBytes_36 (zT_is (zT_pi hS) s_64) (zT_t (zT_pi hS) s_64) p_11_68_11 zk_int ?_
    refine zw_sto hm_138 dX11_addBytes_39 [(2, .inl (16 : Int32)), (0, .inr (.inr (some 64))), (1, .inl x)] rfl rfl rfl ?_
    refine zw_goto hm_138 dX11_addBytes_42 (t := 3) rfl ?_
    refine zw_push hm_138 dX11_addBytes_3 (v := .inl (16 : Int32)) rfl ?_
    refine zw_if0 hm_138 dX11_addBytes_4 (t := 45) rfl zc0_lt (fun hc => absurd hc (by decide)) (fun _ => ?_)
    refine zw_push hm_138 dX11_addBytes_7 (v := .inr (.inr (some 64))) rfl ?_
    refine zw_gf hm_138 dX11_addBytes_8 (v := .inl ((mI S 64 1) + (1 : Int32))) (zT_is (zT_pi (zT_pi hS)) s_64) (zT_t (zT_pi (zT_pi hS)) s_64) rfl f_11_68_11 rfl ?_
    refine zw_push hm_138 dX11_addBytes_11 (v := .inl (100 : Int32)) rfl ?_
    refine zw_if2 hm_138 dX11_addBytes_13 (t := 45) rfl zc2_ge ?_ ?_
    · intro hc
      rw [if_pos hc] at h
      exact zw_vret hm_138 dX11_addBytes_45 h
    · intro hc
      rw [if_neg hc] at h
      refine zw_push hm_138 dX11_addBytes_16 (v := .inr (.inr (some 64))) rfl ?_
      refine zw_gf hm_138 dX11_addBytes_17 (v := .inr (.inr (some 65))) (zT_is (zT_pi (zT_pi hS)) s_64) (zT_t (zT_pi (zT_pi hS)) s_64) rfl f_11_9_11 (zT_f (zT_pi (zT_pi hS)) r_64_0) ?_
      refine zw_push hm_138 dX11_addBytes_20 (v := .inr (.inr (some 64))) rfl ?_
      refine zw_gf hm_138 dX11_addBytes_21 (v := .inl ((mI S 64 1) + (1 : Int32))) (zT_is (zT_pi (zT_pi hS)) s_64) (zT_t (zT_pi (zT_pi hS)) s_64) rfl f_11_68_11 rfl ?_
      refine zw_push hm_138 dX11_addBytes_24 (v := .inl x) rfl ?_
      refine zw_push hm_138 dX11_addBytes_25 (v := .inl (16 : Int32)) rfl ?_
      refine zw_stk hm_138 dX11_addBytes_26 (st₉ := [.inl ((x.toUInt32 >>> ((16 : Int32).toUInt32 &&& Int32.toUInt32 31)).toInt32), .inl ((mI S 64 1) + (1 : Int32)), .inr (.inr (some 65))]) rfl rfl ?_
      refine zw_stk hm_138 dX11_addBytes_27 (st₉ := [.inl (((x.toUInt32 >>> ((16 : Int32).toUInt32 &&& Int32.toUInt32 31)).toInt32).toInt8.toInt32), .inl ((mI S 64 1) + (1 : Int32)), .inr (.inr (some 65))]) rfl rfl ?_
      obtain ⟨hg, h⟩ := h
      refine zw_bas21 hm_138 dX11_addBytes_28 (zT_is (zT_pi (zT_pi hS)) s_65) (zT_h (zT_pi (zT_pi hS)) s_65) rfl hg ?_
      refine zw_push hm_138 dX11_addBytes_29 (v := .inr (.inr (some 64))) rfl ?_
      refine zw_stk hm_138 dX11_addBytes_30 (st₉ := [.inr (.inr (some 64)), .inr (.inr (some 64))]) rfl rfl ?_
      refine zw_gf hm_138 dX11_addBytes_31 (v := .inl ((mI S 64 1) + (1 : Int32))) (zT_is (zT_pi (zT_pi (zT_pi hS))) s_64) (zT_t (zT_pi (zT_pi (zT_pi hS))) s_64) rfl f_11_68_11 rfl ?_
      refine zw_push hm_138 dX11_addBytes_34 (v := .inl (1 : Int32)) rfl ?_
      refine zw_stk hm_138 dX11_addBytes_35 (st₉ := [.inl (((mI S 64 1) + (1 : Int32)) + (1 : Int32)), .inr (.inr (some 64))]) rfl rfl ?_
      refine zw_pf hm_138 dX11_addBytes_36 (zT_is (zT_pi (zT_pi (zT_pi hS))) s_64) (zT_t (zT_pi (zT_pi (zT_pi hS))) s_64) p_11_68_11 zk_int ?_
      refine zw_sto hm_138 dX11_addBytes_39 [(2, .inl (8 : Int32)), (0, .inr (.inr (some 64))), (1, .inl x)] rfl rfl rfl ?_
      refine zw_goto hm_138 dX11_addBytes_42 (t := 3) rfl ?_
      refine zw_push hm_138 dX11_addBytes_3 (v := .inl (8 : Int32)) rfl ?_
      refine zw_if0 hm_138 dX11_addBytes_4 (t := 45) rfl zc0_lt (fun hc => absurd hc (by decide)) (fun _ => ?_)
      refine zw_push hm_138 dX11_addBytes_7 (v := .inr (.inr (some 64))) rfl ?_
      refine zw_gf hm_138 dX11_addBytes_8 (v := .inl (((mI S 64 1) + (1 : Int32)) + (1 : Int32))) (zT_is (zT_pi (zT_pi (zT_pi (zT_pi hS)))) s_64) (zT_t (zT_pi (zT_pi (zT_pi (zT_pi hS)))) s_64) rfl f_11_68_11 rfl ?_
      refine zw_push hm_138 dX11_addBytes_11 (v := .inl (100 : Int32)) rfl ?_
      refine zw_if2 hm_138 dX11_addBytes_13 (t := 45) rfl zc2_ge ?_ ?_
      · intro hc
        rw [if_pos hc] at h
        exact zw_vret hm_138 dX11_addBytes_45 h
      · intro hc
        rw [if_neg hc] at h
        refine zw_push hm_138 dX11_addBytes_16 (v := .inr (.inr (some 64))) rfl ?_
        refine zw_gf hm_138 dX11_addBytes_17 (v := .inr (.inr (some 65))) (zT_is (zT_pi (zT_pi (zT_pi (zT_pi hS)))) s_64) (zT_t (zT_pi (zT_pi (zT_pi (zT_pi hS)))) s_64) rfl f_11_9_11 (zT_f (zT_pi (zT_pi (zT_pi (zT_pi hS)))) r_64_0) ?_
        refine zw_push hm_138 dX11_addBytes_20 (v := .inr (.inr (some 64))) rfl ?_
        refine zw_gf hm_138 dX11_addBytes_21 (v := .inl (((mI S 64 1) + (1 : Int32)) + (1 : Int32))) (zT_is (zT_pi (zT_pi (zT_pi (zT_pi hS)))) s_64) (zT_t (zT_pi (zT_pi (zT_pi (zT_pi hS)))) s_64) rfl f_11_68_11 rfl ?_
        refine zw_push hm_138 dX11_addBytes_24 (v := .inl x) rfl ?_
        refine zw_push hm_138 dX11_addBytes_25 (v := .inl (8 : Int32)) rfl ?_
        refine zw_stk hm_138 dX11_addBytes_26 (st₉ := [.inl ((x.toUInt32 >>> ((8 : Int32).toUInt32 &&& Int32.toUInt32 31)).toInt32), .inl (((mI S 64 1) + (1 : Int32)) + (1 : Int32)), .inr (.inr (some 65))]) rfl rfl ?_
        refine zw_stk hm_138 dX11_addBytes_27 (st₉ := [.inl (((x.toUInt32 >>> ((8 : Int32).toUInt32 &&& Int32.toUInt32 31)).toInt32).toInt8.toInt32), .inl (((mI S 64 1) + (1 : Int32)) + (1 : Int32)), .inr (.inr (some 65))]) rfl rfl ?_
        obtain ⟨hg, h⟩ := h
        refine zw_bas21 hm_138 dX11_addBytes_28 (zT_is (zT_pi (zT_pi (zT_pi (zT_pi hS)))) s_65) (zT_h (zT_pi (zT_pi (zT_pi (zT_pi hS)))) s_65) rfl hg ?_
        refine zw_push hm_138 dX11_addBytes_29 (v := .inr (.inr (some 64))) rfl ?_
        refine zw_stk hm_138 dX11_addBytes_30 (st₉ := [.inr (.inr (some 64)), .inr (.inr (some 64))]) rfl rfl ?_
        refine zw_gf hm_138 dX11_addBytes_31 (v := .inl (((mI S 64 1) + (1 : Int32)) + (1 : Int32))) (zT_is (zT_pi (zT_pi (zT_pi (zT_pi (zT_pi hS))))) s_64) (zT_t (zT_pi (zT_pi (zT_pi (zT_pi (zT_pi hS))))) s_64) rfl f_11_68_11 rfl ?_
        refine zw_push hm_138 dX11_addBytes_34 (v := .inl (1 : Int32)) rfl ?_
        refine zw_stk hm_138 dX11_addBytes_35 (st₉ := [.inl ((((mI S 64 1) + (1 : Int32)) + (1 : Int32)) + (1 : Int32)), .inr (.inr (some 64))]) rfl rfl ?_
        refine zw_pf hm_138 dX11_addBytes_36 (zT_is (zT_pi (zT_pi (zT_pi (zT_pi (zT_pi hS))))) s_64) (zT_t (zT_pi (zT_pi (zT_pi (zT_pi (zT_pi hS))))) s_64) p_11_68_11 zk_int ?_
        refine zw_sto hm_138 dX11_addBytes_39 [(2, .inl (0 : Int32)), (0, .inr (.inr (some 64))), (1, .inl x)] rfl rfl rfl ?_
        refine zw_goto hm_138 dX11_addBytes_42 (t := 3) rfl ?_
        refine zw_push hm_138 dX11_addBytes_3 (v := .inl (0 : Int32)) rfl ?_
        refine zw_if0 hm_138 dX11_addBytes_4 (t := 45) rfl zc0_lt (fun hc => absurd hc (by decide)) (fun _ => ?_)
        refine zw_push hm_138 dX11_addBytes_7 (v := .inr (.inr (some 64))) rfl ?_
        refine zw_gf hm_138 dX11_addBytes_8 (v := .inl ((((mI S 64 1) + (1 : Int32)) + (1 : Int32)) + (1 : Int32))) (zT_is (zT_pi (zT_pi (zT_pi (zT_pi (zT_pi (zT_pi hS)))))) s_64) (zT_t (zT_pi (zT_pi (zT_pi (zT_pi (zT_pi (zT_pi hS)))))) s_64) rfl f_11_68_11 rfl ?_
        refine zw_push hm_138 dX11_addBytes_11 (v := .inl (100 : Int32)) rfl ?_
        refine zw_if2 hm_138 dX11_addBytes_13 (t := 45) rfl zc2_ge ?_ ?_
        · intro hc
          rw [if_pos hc] at h
          exact zw_vret hm_138 dX11_addBytes_45 h
        · intro hc
          rw [if_neg hc] at h
          refine zw_push hm_138 dX11_addBytes_16 (v := .inr (.inr (some 64))) rfl ?_
          refine zw_gf hm_138 dX11_addBytes_17 (v := .inr (.inr (some 65))) (zT_is (zT_pi (zT_pi (zT_pi (zT_pi (zT_pi (zT_pi hS)))))) s_64) (zT_t (zT_pi (zT_pi (zT_pi (zT_pi (zT_pi (zT_pi hS)))))) s_64) rfl f_11_9_11 (zT_f (zT_pi (zT_pi (zT_pi (zT_pi (zT_pi (zT_pi hS)))))) r_64_0) ?_
          refine zw_push hm_138 dX11_addBytes_20 (v := .inr (.inr (some 64))) rfl ?_
          refine zw_gf hm_138 dX11_addBytes_21 (v := .inl ((((mI S 64 1) + (1 : Int32)) + (1 : Int32)) + (1 : Int32))) (zT_is (zT_pi (zT_pi (zT_pi (zT_pi (zT_pi (zT_pi hS)))))) s_64) (zT_t (zT_pi (zT_pi (zT_pi (zT_pi (zT_pi (zT_pi hS)))))) s_64) rfl f_11_68_11 rfl ?_
          refine zw_push hm_138 dX11_addBytes_24 (v := .inl x) rfl ?_
          refine zw_push hm_138 dX11_addBytes_25 (v := .inl (0 : Int32)) rfl ?_
          refine zw_stk hm_138 dX11_addBytes_26 (st₉ := [.inl ((x.toUInt32 >>> ((0 : Int32).toUInt32 &&& Int32.toUInt32 31)).toInt32), .inl ((((mI S 64 1) + (1 : Int32)) + (1 : Int32)) + (1 : Int32)), .inr (.inr (some 65))]) rfl rfl ?_
          refine zw_stk hm_138 dX11_addBytes_27 (st₉ := [.inl (((x.toUInt32 >>> ((0 : Int32).toUInt32 &&& Int32.toUInt32 31)).toInt32).toInt8.toInt32), .inl ((((mI S 64 1) + (1 : Int32)) + (1 : Int32)) + (1 : Int32)), .inr (.inr (some 65))]) rfl rfl ?_
          obtain ⟨hg, h⟩ := h
          refine zw_bas21 hm_138 dX11_addBytes_28 (zT_is (zT_pi (zT_pi (zT_pi (zT_pi (zT_pi (zT_pi hS)))))) s_65) (zT_h (zT_pi (zT_pi (zT_pi (zT_pi (zT_pi (zT_pi hS)))))) s_65) rfl hg ?_
          refine zw_push hm_138 dX11_addBytes_29 (v := .inr (.inr (some 64))) rfl ?_
          refine zw_stk hm_138 dX11_addBytes_30 (st₉ := [.inr (.inr (some 64)), .inr (.inr (some 64))]) rfl rfl ?_
          refine zw_gf hm_138 dX11_addBytes_31 (v := .inl ((((mI S 64 1) + (1 : Int32)) + (1 : Int32)) + (1 : Int32))) (zT_is (zT_pi (zT_pi (zT_pi (zT_pi (zT_pi (zT_pi (zT_pi hS))))))) s_64) (zT_t (zT_pi (zT_pi (zT_pi (zT_pi (zT_pi (zT_pi (zT_pi hS))))))) s_64) rfl f_11_68_11 rfl ?_
          refine zw_push hm_138 dX11_addBytes_34 (v := .inl (1 : Int32)) rfl ?_
          refine zw_stk hm_138 dX11_addBytes_35 (st₉ := [.inl (((((mI S 64 1) + (1 : Int32)) + (1 : Int32)) + (1 : Int32)) + (1 : Int32)), .inr (.inr (some 64))]) rfl rfl ?_
          refine zw_pf hm_138 dX11_addBytes_36 (zT_is (zT_pi (zT_pi (zT_pi (zT_pi (zT_pi (zT_pi (zT_pi hS))))))) s_64) (zT_t (zT_pi (zT_pi (zT_pi (zT_pi (zT_pi (zT_pi (zT_pi hS))))))) s_64) p_11_68_11 zk_int ?_
          refine zw_sto hm_138 dX11_addBytes_39 [(2, .inl (-8 : Int32)), (0, .inr (.inr (some 64))), (1, .inl x)] rfl rfl rfl ?_
          refine zw_goto hm_138 dX11_addBytes_42 (t := 3) rfl ?_
          refine zw_push hm_138 dX11_addBytes_3 (v := .inl (-8 : Int32)) rfl ?_
          refine zw_if0 hm_138 dX11_addBytes_4 (t := 45) rfl zc0_lt (fun _ => ?_) (fun hc => absurd (by decide) hc)
          exact zw_vret hm_138 dX11_addBytes_45 h
theorem sp_138_64_sq {X : Nat × (Nat → Int32)} {d w : Nat} {f : Nat → Nat → Int32} {r : Nat → Nat → Option Nat} {C Z N : Nat} {Q : Option ma_V ⊕ Nat → ma_S → Prop} {LL : Int} {r0 : Nat→Int32} {I0 : Nat→Nat→Int32} {L0 : Nat→Nat→Int64} {R0 : zRT} {S : ma_S} (x : Int32) (hd : 0 ≤ d) (hw : 0 ≤ w) (hI : zFe f r C Z N S) (hpre0 : (mI S 64 1).toInt = LL ∧ (mI S 64 1).toInt ≤ 96) (hpre1 : (mI S 65) = r0) (hpre2 : zFm I0 L0 R0 S) (K : ∀ S₉, zFe f r C Z N S₉ → ((mI S₉ 64 1).toInt = LL + 4) → (zFq r0 (mI S₉ 65) LL x) → (zFm I0 L0 R0 S₉) → Q (.inl none) S₉) : ma_wp X d w 138 0 [(0, .inr (.inr (some 64))), (1, .inl x)] [] S Q := by
  refine g_138_64_sq_0 x (by omega) (by omega) (zG_T hI) ?_
  have f1 := zG_s hI (0) (100) (c := 64) (k := 1) (by decide)
  have li2 : (100 : Int32).toInt = 100 := rfl
  refine zd (fun h3 => ?_) (fun h3 => ?_)
  · skip
    have g4 := i_le h3
    exact K _ hI (show (mI S 64 1).toInt = LL + 4 from by first | (omega)) (show zFq r0 (mI S 65) LL x from by first | (omega) | (exfalso; omega)) (show zFm I0 L0 R0 S from by first | (exact hpre2))
  · skip
    have g5 := i_nle h3
    refine ⟨i_ix (by omega) (by omega), ?_⟩
    first | have e6 : ((mI S 64 1) + (1 : Int32)).toInt = (mI S 64 1).toInt + (1) := i_addk rfl (by omega) (by omega) | have b7 := i_bd ((mI S 64 1) + (1 : Int32))
    refine zd (fun h8 => ?_) (fun h8 => ?_)
    · skip
      have g9 := i_le h8
      have hI10 : zFe f r C Z N (ma_put S 65 (mI S 64 1).toNatClampNeg (.inl (vp_nar .byte (((x.toUInt32 >>> ((24 : Int32).toUInt32 &&& Int32.toUInt32 31)).toInt32).toInt8.toInt32)))) := zG_fa hI rfl (by decide) (by decide) (by decide) trivial
      have hI11 : zFe f r C Z N (ma_put (ma_put S 65 (mI S 64 1).toNatClampNeg (.inl (vp_nar .byte (((x.toUInt32 >>> ((24 : Int32).toUInt32 &&& Int32.toUInt32 31)).toInt32).toInt8.toInt32)))) 64 1 (.inl ((mI S 64 1) + (1 : Int32)))) := zG_sp hI10 (0) (100) rfl (by decide) (by decide) (by decide) trivial (by omega) (by omega)
      exact K _ hI11 (show ((mI S 64 1) + (1 : Int32)).toInt = LL + 4 from by first | (omega)) (show zFq r0 (mI (ma_put (ma_put S 65 (mI S 64 1).toNatClampNeg (.inl (vp_nar .byte (((x.toUInt32 >>> ((24 : Int32).toUInt32 &&& Int32.toUInt32 31)).toInt32).toInt8.toInt32)))) 64 1 (.inl ((mI S 64 1) + (1 : Int32)))) 65) LL x from by first | (omega) | (exfalso; omega)) (show zFm I0 L0 R0 (ma_put (ma_put S 65 (mI S 64 1).toNatClampNeg (.inl (vp_nar .byte (((x.toUInt32 >>> ((24 : Int32).toUInt32 &&& Int32.toUInt32 31)).toInt32).toInt8.toInt32)))) 64 1 (.inl ((mI S 64 1) + (1 : Int32)))) from by first | (exact (fn9_p (fn9_p hpre2 (by decide)) (by decide))))
    · skip
      have g12 := i_nle h8
      refine ⟨i_ix (by omega) (by omega), ?_⟩
      first | have e13 : (((mI S 64 1) + (1 : Int32)) + (1 : Int32)).toInt = ((mI S 64 1) + (1 : Int32)).toInt + (1) := i_addk rfl (by omega) (by omega) | have b14 := i_bd (((mI S 64 1) + (1 : Int32)) + (1 : Int32))
      refine zd (fun h15 => ?_) (fun h15 => ?_)
      · skip
        have g16 := i_le h15
        have hI17 : zFe f r C Z N (ma_put S 65 (mI S 64 1).toNatClampNeg (.inl (vp_nar .byte (((x.toUInt32 >>> ((24 : Int32).toUInt32 &&& Int32.toUInt32 31)).toInt32).toInt8.toInt32)))) := zG_fa hI rfl (by decide) (by decide) (by decide) trivial
        have hI18 : zFe f r C Z N (ma_put (ma_put S 65 (mI S 64 1).toNatClampNeg (.inl (vp_nar .byte (((x.toUInt32 >>> ((24 : Int32).toUInt32 &&& Int32.toUInt32 31)).toInt32).toInt8.toInt32)))) 64 1 (.inl ((mI S 64 1) + (1 : Int32)))) := zG_sp hI17 (0) (100) rfl (by decide) (by decide) (by decide) trivial (by omega) (by omega)
        have hI19 : zFe f r C Z N (ma_put (ma_put (ma_put S 65 (mI S 64 1).toNatClampNeg (.inl (vp_nar .byte (((x.toUInt32 >>> ((24 : Int32).toUInt32 &&& Int32.toUInt32 31)).toInt32).toInt8.toInt32)))) 64 1 (.inl ((mI S 64 1) + (1 : Int32)))) 65 ((mI S 64 1) + (1 : Int32)).toNatClampNeg (.inl (vp_nar .byte (((x.toUInt32 >>> ((16 : Int32).toUInt32 &&& Int32.toUInt32 31)).toInt32).toInt8.toInt32)))) := zG_fa hI18 rfl (by decide) (by decide) (by decide) trivial
        have hI20 : zFe f r C Z N (ma_put (ma_put (ma_put (ma_put S 65 (mI S 64 1).toNatClampNeg (.inl (vp_nar .byte (((x.toUInt32 >>> ((24 : Int32).toUInt32 &&& Int32.toUInt32 31)).toInt32).toInt8.toInt32)))) 64 1 (.inl ((mI S 64 1) + (1 : Int32)))) 65 ((mI S 64 1) + (1 : Int32)).toNatClampNeg (.inl (vp_nar .byte (((x.toUInt32 >>> ((16 : Int32).toUInt32 &&& Int32.toUInt32 31)).toInt32).toInt8.toInt32)))) 64 1 (.inl (((mI S 64 1) + (1 : Int32)) + (1 : Int32)))) := zG_sp hI19 (0) (100) rfl (by decide) (by decide) (by decide) trivial (by omega) (by omega)
        exact K _ hI20 (show (((mI S 64 1) + (1 : Int32)) + (1 : Int32)).toInt = LL + 4 from by first | (omega)) (show zFq r0 (mI (ma_put (ma_put (ma_put (ma_put S 65 (mI S 64 1).toNatClampNeg (.inl (vp_nar .byte (((x.toUInt32 >>> ((24 : Int32).toUInt32 &&& Int32.toUInt32 31)).toInt32).toInt8.toInt32)))) 64 1 (.inl ((mI S 64 1) + (1 : Int32)))) 65 ((mI S 64 1) + (1 : Int32)).toNatClampNeg (.inl (vp_nar .byte (((x.toUInt32 >>> ((16 : Int32).toUInt32 &&& Int32.toUInt32 31)).toInt32).toInt8.toInt32)))) 64 1 (.inl (((mI S 64 1) + (1 : Int32)) + (1 : Int32)))) 65) LL x from by first | (omega) | (exfalso; omega)) (show zFm I0 L0 R0 (ma_put (ma_put (ma_put (ma_put S 65 (mI S 64 1).toNatClampNeg (.inl (vp_nar .byte (((x.toUInt32 >>> ((24 : Int32).toUInt32 &&& Int32.toUInt32 31)).toInt32).toInt8.toInt32)))) 64 1 (.inl ((mI S 64 1) + (1 : Int32)))) 65 ((mI S 64 1) + (1 : Int32)).toNatClampNeg (.inl (vp_nar .byte (((x.toUInt32 >>> ((16 : Int32).toUInt32 &&& Int32.toUInt32 31)).toInt32).toInt8.toInt32)))) 64 1 (.inl (((mI S 64 1) + (1 : Int32)) + (1 : Int32)))) from by first | (exact (fn9_p (fn9_p (fn9_p (fn9_p hpre2 (by decide)) (by decide)) (by decide)) (by decide))))
      · skip
        have g21 := i_nle h15
        refine ⟨i_ix (by omega) (by omega), ?_⟩
        first | have e22 : ((((mI S 64 1) + (1 : Int32)) + (1 : Int32)) + (1 : Int32)).toInt = (((mI S 64 1) + (1 : Int32)) + (1 : Int32)).toInt + (1) := i_addk rfl (by omega) (by omega) | have b23 := i_bd ((((mI S 64 1) + (1 : Int32)) + (1 : Int32)) + (1 : Int32))
        refine zd (fun h24 => ?_) (fun h24 => ?_)
        · skip
          have g25 := i_le h24
          have hI26 : zFe f r C Z N (ma_put S 65 (mI S 64 1).toNatClampNeg (.inl (vp_nar .byte (((x.toUInt32 >>> ((24 : Int32).toUInt32 &&& Int32.toUInt32 31)).toInt32).toInt8.toInt32)))) := zG_fa hI rfl (by decide) (by decide) (by decide) trivial
          have hI27 : zFe f r C Z N (ma_put (ma_put S 65 (mI S 64 1).toNatClampNeg (.inl (vp_nar .byte (((x.toUInt32 >>> ((24 : Int32).toUInt32 &&& Int32.toUInt32 31)).toInt32).toInt8.toInt32)))) 64 1 (.inl ((mI S 64 1) + (1 : Int32)))) := zG_sp hI26 (0) (100) rfl (by decide) (by decide) (by decide) trivial (by omega) (by omega)
          have hI28 : zFe f r C Z N (ma_put (ma_put (ma_put S 65 (mI S 64 1).toNatClampNeg (.inl (vp_nar .byte (((x.toUInt32 >>> ((24 : Int32).toUInt32 &&& Int32.toUInt32 31)).toInt32).toInt8.toInt32)))) 64 1 (.inl ((mI S 64 1) + (1 : Int32)))) 65 ((mI S 64 1) + (1 : Int32)).toNatClampNeg (.inl (vp_nar .byte (((x.toUInt32 >>> ((16 : Int32).toUInt32 &&& Int32.toUInt32 31)).toInt32).toInt8.toInt32)))) := zG_fa hI27 rfl (by decide) (by decide) (by decide) trivial
          have hI29 : zFe f r C Z N (ma_put (ma_put (ma_put (ma_put S 65 (mI S 64 1).toNatClampNeg (.inl (vp_nar .byte (((x.toUInt32 >>> ((24 : Int32).toUInt32 &&& Int32.toUInt32 31)).toInt32).toInt8.toInt32)))) 64 1 (.inl ((mI S 64 1) + (1 : Int32)))) 65 ((mI S 64 1) + (1 : Int32)).toNatClampNeg (.inl (vp_nar .byte (((x.toUInt32 >>> ((16 : Int32).toUInt32 &&& Int32.toUInt32 31)).toInt32).toInt8.toInt32)))) 64 1 (.inl (((mI S 64 1) + (1 : Int32)) + (1 : Int32)))) := zG_sp hI28 (0) (100) rfl (by decide) (by decide) (by decide) trivial (by omega) (by omega)
          have hI30 : zFe f r C Z N (ma_put (ma_put (ma_put (ma_put (ma_put S 65 (mI S 64 1).toNatClampNeg (.inl (vp_nar .byte (((x.toUInt32 >>> ((24 : Int32).toUInt32 &&& Int32.toUInt32 31)).toInt32).toInt8.toInt32)))) 64 1 (.inl ((mI S 64 1) + (1 : Int32)))) 65 ((mI S 64 1) + (1 : Int32)).toNatClampNeg (.inl (vp_nar .byte (((x.toUInt32 >>> ((16 : Int32).toUInt32 &&& Int32.toUInt32 31)).toInt32).toInt8.toInt32)))) 64 1 (.inl (((mI S 64 1) + (1 : Int32)) + (1 : Int32)))) 65 (((mI S 64 1) + (1 : Int32)) + (1 : Int32)).toNatClampNeg (.inl (vp_nar .byte (((x.toUInt32 >>> ((8 : Int32).toUInt32 &&& Int32.toUInt32 31)).toInt32).toInt8.toInt32)))) := zG_fa hI29 rfl (by decide) (by decide) (by decide) trivial
          have hI31 : zFe f r C Z N (ma_put (ma_put (ma_put (ma_put (ma_put (ma_put S 65 (mI S 64 1).toNatClampNeg (.inl (vp_nar .byte (((x.toUInt32 >>> ((24 : Int32).toUInt32 &&& Int32.toUInt32 31)).toInt32).toInt8.toInt32)))) 64 1 (.inl ((mI S 64 1) + (1 : Int32)))) 65 ((mI S 64 1) + (1 : Int32)).toNatClampNeg (.inl (vp_nar .byte (((x.toUInt32 >>> ((16 : Int32).toUInt32 &&& Int32.toUInt32 31)).toInt32).toInt8.toInt32)))) 64 1 (.inl (((mI S 64 1) + (1 : Int32)) + (1 : Int32)))) 65 (((mI S 64 1) + (1 : Int32)) + (1 : Int32)).toNatClampNeg (.inl (vp_nar .byte (((x.toUInt32 >>> ((8 : Int32).toUInt32 &&& Int32.toUInt32 31)).toInt32).toInt8.toInt32)))) 64 1 (.inl ((((mI S 64 1) + (1 : Int32)) + (1 : Int32)) + (1 : Int32)))) := zG_sp hI30 (0) (100) rfl (by decide) (by decide) (by decide) trivial (by omega) (by omega)
          exact K _ hI31 (show ((((mI S 64 1) + (1 : Int32)) + (1 : Int32)) + (1 : Int32)).toInt = LL + 4 from by first | (omega)) (show zFq r0 (mI (ma_put (ma_put (ma_put (ma_put (ma_put (ma_put S 65 (mI S 64 1).toNatClampNeg (.inl (vp_nar .byte (((x.toUInt32 >>> ((24 : Int32).toUInt32 &&& Int32.toUInt32 31)).toInt32).toInt8.toInt32)))) 64 1 (.inl ((mI S 64 1) + (1 : Int32)))) 65 ((mI S 64 1) + (1 : Int32)).toNatClampNeg (.inl (vp_nar .byte (((x.toUInt32 >>> ((16 : Int32).toUInt32 &&& Int32.toUInt32 31)).toInt32).toInt8.toInt32)))) 64 1 (.inl (((mI S 64 1) + (1 : Int32)) + (1 : Int32)))) 65 (((mI S 64 1) + (1 : Int32)) + (1 : Int32)).toNatClampNeg (.inl (vp_nar .byte (((x.toUInt32 >>> ((8 : Int32).toUInt32 &&& Int32.toUInt32 31)).toInt32).toInt8.toInt32)))) 64 1 (.inl ((((mI S 64 1) + (1 : Int32)) + (1 : Int32)) + (1 : Int32)))) 65) LL x from by first | (omega) | (exfalso; omega)) (show zFm I0 L0 R0 (ma_put (ma_put (ma_put (ma_put (ma_put (ma_put S 65 (mI S 64 1).toNatClampNeg (.inl (vp_nar .byte (((x.toUInt32 >>> ((24 : Int32).toUInt32 &&& Int32.toUInt32 31)).toInt32).toInt8.toInt32)))) 64 1 (.inl ((mI S 64 1) + (1 : Int32)))) 65 ((mI S 64 1) + (1 : Int32)).toNatClampNeg (.inl (vp_nar .byte (((x.toUInt32 >>> ((16 : Int32).toUInt32 &&& Int32.toUInt32 31)).toInt32).toInt8.toInt32)))) 64 1 (.inl (((mI S 64 1) + (1 : Int32)) + (1 : Int32)))) 65 (((mI S 64 1) + (1 : Int32)) + (1 : Int32)).toNatClampNeg (.inl (vp_nar .byte (((x.toUInt32 >>> ((8 : Int32).toUInt32 &&& Int32.toUInt32 31)).toInt32).toInt8.toInt32)))) 64 1 (.inl ((((mI S 64 1) + (1 : Int32)) + (1 : Int32)) + (1 : Int32)))) from by first | (exact (fn9_p (fn9_p (fn9_p (fn9_p (fn9_p (fn9_p hpre2 (by decide)) (by decide)) (by decide)) (by decide)) (by decide)) (by decide))))
        · skip
          have g32 := i_nle h24
          refine ⟨i_ix (by omega) (by omega), ?_⟩
          have hI33 : zFe f r C Z N (ma_put S 65 (mI S 64 1).toNatClampNeg (.inl (vp_nar .byte (((x.toUInt32 >>> ((24 : Int32).toUInt32 &&& Int32.toUInt32 31)).toInt32).toInt8.toInt32)))) := zG_fa hI rfl (by decide) (by decide) (by decide) trivial
          have hI34 : zFe f r C Z N (ma_put (ma_put S 65 (mI S 64 1).toNatClampNeg (.inl (vp_nar .byte (((x.toUInt32 >>> ((24 : Int32).toUInt32 &&& Int32.toUInt32 31)).toInt32).toInt8.toInt32)))) 64 1 (.inl ((mI S 64 1) + (1 : Int32)))) := zG_sp hI33 (0) (100) rfl (by decide) (by decide) (by decide) trivial (by omega) (by omega)
          have hI35 : zFe f r C Z N (ma_put (ma_put (ma_put S 65 (mI S 64 1).toNatClampNeg (.inl (vp_nar .byte (((x.toUInt32 >>> ((24 : Int32).toUInt32 &&& Int32.toUInt32 31)).toInt32).toInt8.toInt32)))) 64 1 (.inl ((mI S 64 1) + (1 : Int32)))) 65 ((mI S 64 1) + (1 : Int32)).toNatClampNeg (.inl (vp_nar .byte (((x.toUInt32 >>> ((16 : Int32).toUInt32 &&& Int32.toUInt32 31)).toInt32).toInt8.toInt32)))) := zG_fa hI34 rfl (by decide) (by decide) (by decide) trivial
          have hI36 : zFe f r C Z N (ma_put (ma_put (ma_put (ma_put S 65 (mI S 64 1).toNatClampNeg (.inl (vp_nar .byte (((x.toUInt32 >>> ((24 : Int32).toUInt32 &&& Int32.toUInt32 31)).toInt32).toInt8.toInt32)))) 64 1 (.inl ((mI S 64 1) + (1 : Int32)))) 65 ((mI S 64 1) + (1 : Int32)).toNatClampNeg (.inl (vp_nar .byte (((x.toUInt32 >>> ((16 : Int32).toUInt32 &&& Int32.toUInt32 31)).toInt32).toInt8.toInt32)))) 64 1 (.inl (((mI S 64 1) + (1 : Int32)) + (1 : Int32)))) := zG_sp hI35 (0) (100) rfl (by decide) (by decide) (by decide) trivial (by omega) (by omega)
          have hI37 : zFe f r C Z N (ma_put (ma_put (ma_put (ma_put (ma_put S 65 (mI S 64 1).toNatClampNeg (.inl (vp_nar .byte (((x.toUInt32 >>> ((24 : Int32).toUInt32 &&& Int32.toUInt32 31)).toInt32).toInt8.toInt32)))) 64 1 (.inl ((mI S 64 1) + (1 : Int32)))) 65 ((mI S 64 1) + (1 : Int32)).toNatClampNeg (.inl (vp_nar .byte (((x.toUInt32 >>> ((16 : Int32).toUInt32 &&& Int32.toUInt32 31)).toInt32).toInt8.toInt32)))) 64 1 (.inl (((mI S 64 1) + (1 : Int32)) + (1 : Int32)))) 65 (((mI S 64 1) + (1 : Int32)) + (1 : Int32)).toNatClampNeg (.inl (vp_nar .byte (((x.toUInt32 >>> ((8 : Int32).toUInt32 &&& Int32.toUInt32 31)).toInt32).toInt8.toInt32)))) := zG_fa hI36 rfl (by decide) (by decide) (by decide) trivial
          have hI38 : zFe f r C Z N (ma_put (ma_put (ma_put (ma_put (ma_put (ma_put S 65 (mI S 64 1).toNatClampNeg (.inl (vp_nar .byte (((x.toUInt32 >>> ((24 : Int32).toUInt32 &&& Int32.toUInt32 31)).toInt32).toInt8.toInt32)))) 64 1 (.inl ((mI S 64 1) + (1 : Int32)))) 65 ((mI S 64 1) + (1 : Int32)).toNatClampNeg (.inl (vp_nar .byte (((x.toUInt32 >>> ((16 : Int32).toUInt32 &&& Int32.toUInt32 31)).toInt32).toInt8.toInt32)))) 64 1 (.inl (((mI S 64 1) + (1 : Int32)) + (1 : Int32)))) 65 (((mI S 64 1) + (1 : Int32)) + (1 : Int32)).toNatClampNeg (.inl (vp_nar .byte (((x.toUInt32 >>> ((8 : Int32).toUInt32 &&& Int32.toUInt32 31)).toInt32).toInt8.toInt32)))) 64 1 (.inl ((((mI S 64 1) + (1 : Int32)) + (1 : Int32)) + (1 : Int32)))) := zG_sp hI37 (0) (100) rfl (by decide) (by decide) (by decide) trivial (by omega) (by omega)
          have hI39 : zFe f r C Z N (ma_put (ma_put (ma_put (ma_put (ma_put (ma_put (ma_put S 65 (mI S 64 1).toNatClampNeg (.inl (vp_nar .byte (((x.toUInt32 >>> ((24 : Int32).toUInt32 &&& Int32.toUInt32 31)).toInt32).toInt8.toInt32)))) 64 1 (.inl ((mI S 64 1) + (1 : Int32)))) 65 ((mI S 64 1) + (1 : Int32)).toNatClampNeg (.inl (vp_nar .byte (((x.toUInt32 >>> ((16 : Int32).toUInt32 &&& Int32.toUInt32 31)).toInt32).toInt8.toInt32)))) 64 1 (.inl (((mI S 64 1) + (1 : Int32)) + (1 : Int32)))) 65 (((mI S 64 1) + (1 : Int32)) + (1 : Int32)).toNatClampNeg (.inl (vp_nar .byte (((x.toUInt32 >>> ((8 : Int32).toUInt32 &&& Int32.toUInt32 31)).toInt32).toInt8.toInt32)))) 64 1 (.inl ((((mI S 64 1) + (1 : Int32)) + (1 : Int32)) + (1 : Int32)))) 65 ((((mI S 64 1) + (1 : Int32)) + (1 : Int32)) + (1 : Int32)).toNatClampNeg (.inl (vp_nar .byte (((x.toUInt32 >>> ((0 : Int32).toUInt32 &&& Int32.toUInt32 31)).toInt32).toInt8.toInt32)))) := zG_fa hI38 rfl (by decide) (by decide) (by decide) trivial
          first | have e41 : (((((mI S 64 1) + (1 : Int32)) + (1 : Int32)) + (1 : Int32)) + (1 : Int32)).toInt = ((((mI S 64 1) + (1 : Int32)) + (1 : Int32)) + (1 : Int32)).toInt + (1) := i_addk rfl (by omega) (by omega) | have b42 := i_bd (((((mI S 64 1) + (1 : Int32)) + (1 : Int32)) + (1 : Int32)) + (1 : Int32))
          have hI40 : zFe f r C Z N (ma_put (ma_put (ma_put (ma_put (ma_put (ma_put (ma_put (ma_put S 65 (mI S 64 1).toNatClampNeg (.inl (vp_nar .byte (((x.toUInt32 >>> ((24 : Int32).toUInt32 &&& Int32.toUInt32 31)).toInt32).toInt8.toInt32)))) 64 1 (.inl ((mI S 64 1) + (1 : Int32)))) 65 ((mI S 64 1) + (1 : Int32)).toNatClampNeg (.inl (vp_nar .byte (((x.toUInt32 >>> ((16 : Int32).toUInt32 &&& Int32.toUInt32 31)).toInt32).toInt8.toInt32)))) 64 1 (.inl (((mI S 64 1) + (1 : Int32)) + (1 : Int32)))) 65 (((mI S 64 1) + (1 : Int32)) + (1 : Int32)).toNatClampNeg (.inl (vp_nar .byte (((x.toUInt32 >>> ((8 : Int32).toUInt32 &&& Int32.toUInt32 31)).toInt32).toInt8.toInt32)))) 64 1 (.inl ((((mI S 64 1) + (1 : Int32)) + (1 : Int32)) + (1 : Int32)))) 65 ((((mI S 64 1) + (1 : Int32)) + (1 : Int32)) + (1 : Int32)).toNatClampNeg (.inl (vp_nar .byte (((x.toUInt32 >>> ((0 : Int32).toUInt32 &&& Int32.toUInt32 31)).toInt32).toInt8.toInt32)))) 64 1 (.inl (((((mI S 64 1) + (1 : Int32)) + (1 : Int32)) + (1 : Int32)) + (1 : Int32)))) := zG_sp hI39 (0) (100) rfl (by decide) (by decide) (by decide) trivial (by omega) (by omega)
          exact K _ hI40 (show (((((mI S 64 1) + (1 : Int32)) + (1 : Int32)) + (1 : Int32)) + (1 : Int32)).toInt = LL + 4 from by first | (omega)) (show zFq r0 (mI (ma_put (ma_put (ma_put (ma_put (ma_put (ma_put (ma_put (ma_put S 65 (mI S 64 1).toNatClampNeg (.inl (vp_nar .byte (((x.toUInt32 >>> ((24 : Int32).toUInt32 &&& Int32.toUInt32 31)).toInt32).toInt8.toInt32)))) 64 1 (.inl ((mI S 64 1) + (1 : Int32)))) 65 ((mI S 64 1) + (1 : Int32)).toNatClampNeg (.inl (vp_nar .byte (((x.toUInt32 >>> ((16 : Int32).toUInt32 &&& Int32.toUInt32 31)).toInt32).toInt8.toInt32)))) 64 1 (.inl (((mI S 64 1) + (1 : Int32)) + (1 : Int32)))) 65 (((mI S 64 1) + (1 : Int32)) + (1 : Int32)).toNatClampNeg (.inl (vp_nar .byte (((x.toUInt32 >>> ((8 : Int32).toUInt32 &&& Int32.toUInt32 31)).toInt32).toInt8.toInt32)))) 64 1 (.inl ((((mI S 64 1) + (1 : Int32)) + (1 : Int32)) + (1 : Int32)))) 65 ((((mI S 64 1) + (1 : Int32)) + (1 : Int32)) + (1 : Int32)).toNatClampNeg (.inl (vp_nar .byte (((x.toUInt32 >>> ((0 : Int32).toUInt32 &&& Int32.toUInt32 31)).toInt32).toInt8.toInt32)))) 64 1 (.inl (((((mI S 64 1) + (1 : Int32)) + (1 : Int32)) + (1 : Int32)) + (1 : Int32)))) 65) LL x from by first | (exact fq_of (i0 := (mI S 64 1).toNatClampNeg) (b0 := (vp_nar .byte (((x.toUInt32 >>> ((24 : Int32).toUInt32 &&& Int32.toUInt32 31)).toInt32).toInt8.toInt32))) (i1 := ((mI S 64 1) + (1 : Int32)).toNatClampNeg) (b1 := (vp_nar .byte (((x.toUInt32 >>> ((16 : Int32).toUInt32 &&& Int32.toUInt32 31)).toInt32).toInt8.toInt32))) (i2 := (((mI S 64 1) + (1 : Int32)) + (1 : Int32)).toNatClampNeg) (b2 := (vp_nar .byte (((x.toUInt32 >>> ((8 : Int32).toUInt32 &&& Int32.toUInt32 31)).toInt32).toInt8.toInt32))) (i3 := ((((mI S 64 1) + (1 : Int32)) + (1 : Int32)) + (1 : Int32)).toNatClampNeg) (b3 := (vp_nar .byte (((x.toUInt32 >>> ((0 : Int32).toUInt32 &&& Int32.toUInt32 31)).toInt32).toInt8.toInt32))) (fun k => by rw [pr_o, pr_s, pr_o, pr_s, pr_o, pr_s, pr_o, pr_s, hpre1]) (by rw [tn_cast (by omega)]; omega) (by rw [tn_cast (by omega)]; omega) (by rw [tn_cast (by omega)]; omega) (by rw [tn_cast (by omega)]; omega) (zb_24 _) (zb_16 _) (zb_8 _) (zb_0 _))) (show zFm I0 L0 R0 (ma_put (ma_put (ma_put (ma_put (ma_put (ma_put (ma_put (ma_put S 65 (mI S 64 1).toNatClampNeg (.inl (vp_nar .byte (((x.toUInt32 >>> ((24 : Int32).toUInt32 &&& Int32.toUInt32 31)).toInt32).toInt8.toInt32)))) 64 1 (.inl ((mI S 64 1) + (1 : Int32)))) 65 ((mI S 64 1) + (1 : Int32)).toNatClampNeg (.inl (vp_nar .byte (((x.toUInt32 >>> ((16 : Int32).toUInt32 &&& Int32.toUInt32 31)).toInt32).toInt8.toInt32)))) 64 1 (.inl (((mI S 64 1) + (1 : Int32)) + (1 : Int32)))) 65 (((mI S 64 1) + (1 : Int32)) + (1 : Int32)).toNatClampNeg (.inl (vp_nar .byte (((x.toUInt32 >>> ((8 : Int32).toUInt32 &&& Int32.toUInt32 31)).toInt32).toInt8.toInt32)))) 64 1 (.inl ((((mI S 64 1) + (1 : Int32)) + (1 : Int32)) + (1 : Int32)))) 65 ((((mI S 64 1) + (1 : Int32)) + (1 : Int32)) + (1 : Int32)).toNatClampNeg (.inl (vp_nar .byte (((x.toUInt32 >>> ((0 : Int32).toUInt32 &&& Int32.toUInt32 31)).toInt32).toInt8.toInt32)))) 64 1 (.inl (((((mI S 64 1) + (1 : Int32)) + (1 : Int32)) + (1 : Int32)) + (1 : Int32)))) from by first | (exact (fn9_p (fn9_p (fn9_p (fn9_p (fn9_p (fn9_p (fn9_p (fn9_p hpre2 (by decide)) (by decide)) (by decide)) (by decide)) (by decide)) (by decide)) (by decide)) (by decide))))

