/-! the heap by numbers, the class (written by wip/tools/gen18.py) -/
theorem g_137_64_s_0 {X : Nat × (Nat → Int32)} {d w : Nat} {S : ma_S} {Q : Option ma_V ⊕ Nat → ma_S → Prop} (xa : Int32) (xb : Int32) (xc : Int32) (xd : Int32) (xe : Int32) (hd : 6 ≤ d) (hw : 89 ≤ w) (hS : zT S) (h : if ((mI S 64 1) + (20 : Int32)) ≤ (100 : Int32) then (ma_wp X (d - 1) (w - 22) 138 0 [(0, .inr (.inr (some 64))), (1, .inl xa)] [] S (zv (fun S1 => zT S1 ∧ (ma_wp X (d - 1) (w - 22) 138 0 [(0, .inr (.inr (some 64))), (1, .inl xb)] [] S1 (zv (fun S3 => zT S3 ∧ (ma_wp X (d - 1) (w - 22) 138 0 [(0, .inr (.inr (some 64))), (1, .inl xc)] [] S3 (zv (fun S5 => zT S5 ∧ (ma_wp X (d - 1) (w - 22) 138 0 [(0, .inr (.inr (some 64))), (1, .inl xd)] [] S5 (zv (fun S7 => zT S7 ∧ (ma_wp X (d - 1) (w - 22) 138 0 [(0, .inr (.inr (some 64))), (1, .inl xe)] [] S7 (zv (fun S9 => zT S9 ∧ (Q (.inl (some (.inl (mI S9 64 1)))) S9)) (fun x S9 => Q (.inr x) S9)))) (fun x S9 => Q (.inr x) S9)))) (fun x S9 => Q (.inr x) S9)))) (fun x S9 => Q (.inr x) S9)))) (fun x S9 => Q (.inr x) S9))) else (Q (.inr 1) (ma_bump S))) : ma_wp X d w 137 0 [(0, .inr (.inr (some 64))), (1, .inl xa), (2, .inl xb), (3, .inl xc), (4, .inl xd), (5, .inl xe)] [] S Q := by
  refine zw_push hm_137 dX11_feed_0 (v := .inr (.inr (some 64))) rfl ?_
  refine zw_gf hm_137 dX11_feed_1 (v := .inl (mI S 64 1)) (zT_is hS s_64) (zT_t hS s_64) rfl f_11_68_11 rfl ?_
  refine zw_push hm_137 dX11_feed_4 (v := .inl (20 : Int32)) rfl ?_
  refine zw_stk hm_137 dX11_feed_6 (st' := [.inl ((mI S 64 1) + (20 : Int32))]) rfl rfl ?_
  refine zw_push hm_137 dX11_feed_7 (v := .inl (100 : Int32)) rfl ?_
  refine zw_if2 hm_137 dX11_feed_9 (t := 20) rfl zc2_le ?_ ?_
  · intro hc
    rw [if_pos hc] at h
    refine zw_push hm_137 dX11_feed_20 (v := .inr (.inr (some 64))) rfl ?_
    refine zw_push hm_137 dX11_feed_21 (v := .inl xa) rfl ?_
    refine zw_cv hm_137 dX11_feed_22 v_11_75_11 hm_138 [.inl xa] [] rfl (zT_rt hS s_64 rfl) ⟨by omega, by omega⟩ rfl (zw_mono h (zv_go ?_ ?_))
    · intro S1 hv
      obtain ⟨hS1, h⟩ := hv
      refine zw_push hm_137 dX11_feed_25 (v := .inr (.inr (some 64))) rfl ?_
      refine zw_push hm_137 dX11_feed_26 (v := .inl xb) rfl ?_
      refine zw_cv hm_137 dX11_feed_27 v_11_75_11 hm_138 [.inl xb] [] rfl (zT_rt hS1 s_64 rfl) ⟨by omega, by omega⟩ rfl (zw_mono h (zv_go ?_ ?_))
      · intro S3 hv
        obtain ⟨hS3, h⟩ := hv
        refine zw_push hm_137 dX11_feed_30 (v := .inr (.inr (some 64))) rfl ?_
        refine zw_push hm_137 dX11_feed_31 (v := .inl xc) rfl ?_
        refine zw_cv hm_137 dX11_feed_32 v_11_75_11 hm_138 [.inl xc] [] rfl (zT_rt hS3 s_64 rfl) ⟨by omega, by omega⟩ rfl (zw_mono h (zv_go ?_ ?_))
        · intro S5 hv
          obtain ⟨hS5, h⟩ := hv
          refine zw_push hm_137 dX11_feed_35 (v := .inr (.inr (some 64))) rfl ?_
          refine zw_push hm_137 dX11_feed_36 (v := .inl xd) rfl ?_
          refine zw_cv hm_137 dX11_feed_38 v_11_75_11 hm_138 [.inl xd] [] rfl (zT_rt hS5 s_64 rfl) ⟨by omega, by omega⟩ rfl (zw_mono h (zv_go ?_ ?_))
          · intro S7 hv
            obtain ⟨hS7, h⟩ := hv
            refine zw_push hm_137 dX11_feed_41 (v := .inr (.inr (some 64))) rfl ?_
            refine zw_push hm_137 dX11_feed_42 (v := .inl xe) rfl ?_
            refine zw_cv hm_137 dX11_feed_44 v_11_75_11 hm_138 [.inl xe] [] rfl (zT_rt hS7 s_64 rfl) ⟨by omega, by omega⟩ rfl (zw_mono h (zv_go ?_ ?_))
            · intro S9 hv
              obtain ⟨hS9, h⟩ := hv
              refine zw_push hm_137 dX11_feed_47 (v := .inr (.inr (some 64))) rfl ?_
              refine zw_gf hm_137 dX11_feed_48 (v := .inl (mI S9 64 1)) (zT_is hS9 s_64) (zT_t hS9 s_64) rfl f_11_68_11 rfl ?_
              exact zw_iret hm_137 dX11_feed_51 h
            · intro x S9 hx
              exact ⟨by decide, hx⟩
          · intro x S9 hx
            exact ⟨by decide, hx⟩
        · intro x S9 hx
          exact ⟨by decide, hx⟩
      · intro x S9 hx
        exact ⟨by decide, hx⟩
    · intro x S9 hx
      exact ⟨by decide, hx⟩
  · intro hc
    rw [if_neg hc] at h
    exact zw_thr hm_137 dX11_feed_12 dX11_feed_15 dX11_feed_16 dX11_feed_19 x_11_72_74 n_11_72 (by omega) (by show 0 + 81 ≤ w; omega) h
theorem sp_137_64_s {X : Nat × (Nat → Int32)} {d w : Nat} {f : Nat → Nat → Int32} {r : Nat → Nat → Option Nat} {C Z N : Nat} {Q : Option ma_V ⊕ Nat → ma_S → Prop} {r0 : Nat→Int32} {R : zRT} {a8 : Nat→Nat→Int32} {S : ma_S} (xa : Int32) (xb : Int32) (xc : Int32) (xd : Int32) (xe : Int32) (hd : 6 ≤ d) (hw : 89 ≤ w) (hI : zFe f r C Z N S) (hpre0 : (mI S 64 1).toInt = (mI S 94 3).toInt) (hpre1 : (mI S 65) = r0) (hpre2 : xB S R) (hpre3 : aS 88 S = a8) (K : ∀ v S', zFe f r C Z N S' → (v.toInt = (mI S' 94 3).toInt + 20 ∧ (mI S' 64 1).toInt = (mI S' 94 3).toInt + 20 ∧ (mI S' 94 3).toInt ≤ 80) → (zFd r0 (mI S' 65) (f 94 3).toInt 5 (zw5 xa xb xc xd xe)) → (xB S' R) → (aS 88 S' = a8) → Q (.inl (some (.inl v))) S') (KX : ∀ x S', (x = 1) → zFe f r C Z N S' → ((mI S' 64 1).toInt = (mI S' 94 3).toInt ∧ 81 ≤ (mI S' 94 3).toInt) → ((mI S' 65) = r0) → (xB S' R) → (aS 88 S' = a8) → Q (.inr x) (ma_bump S')) : ma_wp X d w 137 0 [(0, .inr (.inr (some 64))), (1, .inl xa), (2, .inl xb), (3, .inl xc), (4, .inl xd), (5, .inl xe)] [] S Q := by
  refine g_137_64_s_0 xa xb xc xd xe (by omega) (by omega) (zG_T hI) ?_
  have f1 := zG_s hI (0) (100) (c := 64) (k := 1) (by decide)
  have q2 : (mI S 94 3).toInt = (f 94 3).toInt := zG_zi hI rfl
  have b3 := i_bd (mI S 94 3)
  first | have e4 : ((mI S 64 1) + (20 : Int32)).toInt = (mI S 64 1).toInt + (20) := i_addk rfl (by omega) (by omega) | have b5 := i_bd ((mI S 64 1) + (20 : Int32))
  have li6 : (100 : Int32).toInt = 100 := rfl
  refine zd (fun h7 => ?_) (fun h7 => ?_)
  · skip
    have g8 := i_le h7
    have b9 := i_bd xa
    refine sp_138_64_s (L0 := ((mI S 64 1).toInt)) (r0 := (mI S 65)) (R := R) (a8 := a8) (xa) (by omega) (by omega) hI (show (mI S 64 1).toInt = ((mI S 64 1).toInt) ∧ (mI S 64 1).toInt ≤ 96 from by omega) (show (mI S 65) = (mI S 65) from by first | (exact rfl)) (show xB S R from by first | (exact (xC_o (W := 75) hpre2).2)) (show aS 88 S = a8 from by first | (exact (xC_o (W := 88) hpre2).1.trans hpre3)) (fun S1 hI_S1 rp0_S1 rp1_S1 rp2_S1 rp3_S1 => zv_n ⟨zG_T hI_S1, ?_⟩)
    have f10 := zG_s hI_S1 (0) (100) (c := 64) (k := 1) (by decide)
    have rp0_S1 : (mI S1 64 1).toInt = ((mI S 64 1).toInt) + 4 := rp0_S1
    have rp1_S1 : zFq (mI S 65) (mI S1 65) ((mI S 64 1).toInt) xa := rp1_S1
    have rp2_S1 : xB S1 R := rp2_S1
    have rp3_S1 : aS 88 S1 = a8 := rp3_S1
    have b11 := i_bd xb
    refine sp_138_64_s (L0 := ((mI S1 64 1).toInt)) (r0 := (mI S1 65)) (R := R) (a8 := a8) (xb) (by omega) (by omega) hI_S1 (show (mI S1 64 1).toInt = ((mI S1 64 1).toInt) ∧ (mI S1 64 1).toInt ≤ 96 from by omega) (show (mI S1 65) = (mI S1 65) from by first | (exact rfl)) (show xB S1 R from by first | (exact (xC_o (W := 75) rp2_S1).2)) (show aS 88 S1 = a8 from by first | (exact (xC_o (W := 88) rp2_S1).1.trans rp3_S1)) (fun S3 hI_S3 rp0_S3 rp1_S3 rp2_S3 rp3_S3 => zv_n ⟨zG_T hI_S3, ?_⟩)
    have f12 := zG_s hI_S3 (0) (100) (c := 64) (k := 1) (by decide)
    have rp0_S3 : (mI S3 64 1).toInt = ((mI S1 64 1).toInt) + 4 := rp0_S3
    have rp1_S3 : zFq (mI S1 65) (mI S3 65) ((mI S1 64 1).toInt) xb := rp1_S3
    have rp2_S3 : xB S3 R := rp2_S3
    have rp3_S3 : aS 88 S3 = a8 := rp3_S3
    have b13 := i_bd xc
    refine sp_138_64_s (L0 := ((mI S3 64 1).toInt)) (r0 := (mI S3 65)) (R := R) (a8 := a8) (xc) (by omega) (by omega) hI_S3 (show (mI S3 64 1).toInt = ((mI S3 64 1).toInt) ∧ (mI S3 64 1).toInt ≤ 96 from by omega) (show (mI S3 65) = (mI S3 65) from by first | (exact rfl)) (show xB S3 R from by first | (exact (xC_o (W := 75) rp2_S3).2)) (show aS 88 S3 = a8 from by first | (exact (xC_o (W := 88) rp2_S3).1.trans rp3_S3)) (fun S5 hI_S5 rp0_S5 rp1_S5 rp2_S5 rp3_S5 => zv_n ⟨zG_T hI_S5, ?_⟩)
    have f14 := zG_s hI_S5 (0) (100) (c := 64) (k := 1) (by decide)
    have rp0_S5 : (mI S5 64 1).toInt = ((mI S3 64 1).toInt) + 4 := rp0_S5
    have rp1_S5 : zFq (mI S3 65) (mI S5 65) ((mI S3 64 1).toInt) xc := rp1_S5
    have rp2_S5 : xB S5 R := rp2_S5
    have rp3_S5 : aS 88 S5 = a8 := rp3_S5
    have b15 := i_bd xd
    refine sp_138_64_s (L0 := ((mI S5 64 1).toInt)) (r0 := (mI S5 65)) (R := R) (a8 := a8) (xd) (by omega) (by omega) hI_S5 (show (mI S5 64 1).toInt = ((mI S5 64 1).toInt) ∧ (mI S5 64 1).toInt ≤ 96 from by omega) (show (mI S5 65) = (mI S5 65) from by first | (exact rfl)) (show xB S5 R from by first | (exact (xC_o (W := 75) rp2_S5).2)) (show aS 88 S5 = a8 from by first | (exact (xC_o (W := 88) rp2_S5).1.trans rp3_S5)) (fun S7 hI_S7 rp0_S7 rp1_S7 rp2_S7 rp3_S7 => zv_n ⟨zG_T hI_S7, ?_⟩)
    have f16 := zG_s hI_S7 (0) (100) (c := 64) (k := 1) (by decide)
    have rp0_S7 : (mI S7 64 1).toInt = ((mI S5 64 1).toInt) + 4 := rp0_S7
    have rp1_S7 : zFq (mI S5 65) (mI S7 65) ((mI S5 64 1).toInt) xd := rp1_S7
    have rp2_S7 : xB S7 R := rp2_S7
    have rp3_S7 : aS 88 S7 = a8 := rp3_S7
    have b17 := i_bd xe
    refine sp_138_64_s (L0 := ((mI S7 64 1).toInt)) (r0 := (mI S7 65)) (R := R) (a8 := a8) (xe) (by omega) (by omega) hI_S7 (show (mI S7 64 1).toInt = ((mI S7 64 1).toInt) ∧ (mI S7 64 1).toInt ≤ 96 from by omega) (show (mI S7 65) = (mI S7 65) from by first | (exact rfl)) (show xB S7 R from by first | (exact (xC_o (W := 75) rp2_S7).2)) (show aS 88 S7 = a8 from by first | (exact (xC_o (W := 88) rp2_S7).1.trans rp3_S7)) (fun S9 hI_S9 rp0_S9 rp1_S9 rp2_S9 rp3_S9 => zv_n ⟨zG_T hI_S9, ?_⟩)
    have f18 := zG_s hI_S9 (0) (100) (c := 64) (k := 1) (by decide)
    have rp0_S9 : (mI S9 64 1).toInt = ((mI S7 64 1).toInt) + 4 := rp0_S9
    have rp1_S9 : zFq (mI S7 65) (mI S9 65) ((mI S7 64 1).toInt) xe := rp1_S9
    have rp2_S9 : xB S9 R := rp2_S9
    have rp3_S9 : aS 88 S9 = a8 := rp3_S9
    have q19 : (mI S9 94 3).toInt = (f 94 3).toInt := zG_zi hI_S9 rfl
    have b20 := i_bd (mI S9 94 3)
    exact K ((mI S9 64 1)) _ hI_S9 (show (mI S9 64 1).toInt = (mI S9 94 3).toInt + 20 ∧ (mI S9 64 1).toInt = (mI S9 94 3).toInt + 20 ∧ (mI S9 94 3).toInt ≤ 80 from by omega) (show zFd r0 (mI S9 65) (f 94 3).toInt 5 (zw5 xa xb xc xd xe) from by first | (exact (fd_s (fd_s (fd_s (fd_s (fd_s (show zFd r0 (mI S 65) (f 94 3).toInt 0 (zw5 xa xb xc xd xe) from by rw [hpre1]; exact fd_0) (by omega) rp1_S1 (by omega) rfl) (by omega) rp1_S3 (by omega) rfl) (by omega) rp1_S5 (by omega) rfl) (by omega) rp1_S7 (by omega) rfl) (by omega) rp1_S9 (by omega) rfl))) (show xB S9 R from by first | (exact (xC_o (W := 75) rp2_S9).2)) (show aS 88 S9 = a8 from by first | (exact (xC_o (W := 88) rp2_S9).1.trans rp3_S9))
  · skip
    have g21 := i_nle h7
    exact KX 1 _ (by decide) hI (show (mI S 64 1).toInt = (mI S 94 3).toInt ∧ 81 ≤ (mI S 94 3).toInt from by omega) (show (mI S 65) = r0 from by first | (exact hpre1)) (show xB S R from by first | (exact (xC_o (W := 75) hpre2).2)) (show aS 88 S = a8 from by first | (exact (xC_o (W := 88) hpre2).1.trans hpre3))
theorem g_139_64_s_0 {X : Nat × (Nat → Int32)} {d w : Nat} {S : ma_S} {Q : Option ma_V ⊕ Nat → ma_S → Prop} (n : Int32) (hd : 6 ≤ d) (hw : 89 ≤ w) (hS : zT S) (h : if n < 0 then (Q (.inr 2) (ma_bump S)) else (if n ≤ (mI S 64 1) then (Q (.inl (some (.inl n))) (ma_put S 64 1 (.inl n))) else (Q (.inr 2) (ma_bump S)))) : ma_wp X d w 139 0 [(0, .inr (.inr (some 64))), (1, .inl n)] [] S Q := by
  refine zw_push hm_139 dX11_end_0 (v := .inl n) rfl ?_
  refine zw_if0 hm_139 dX11_end_1 (t := 12) rfl zc0_lt ?_ ?_
  · intro hc
    rw [if_pos hc] at h
    exact zw_thr hm_139 dX11_end_12 dX11_end_15 dX11_end_16 dX11_end_19 x_11_79_81 n_11_79 (by omega) (by show 0 + 81 ≤ w; omega) h
  · intro hc
    rw [if_neg hc] at h
    refine zw_push hm_139 dX11_end_4 (v := .inl n) rfl ?_
    refine zw_push hm_139 dX11_end_5 (v := .inr (.inr (some 64))) rfl ?_
    refine zw_gf hm_139 dX11_end_6 (v := .inl (mI S 64 1)) (zT_is hS s_64) (zT_t hS s_64) rfl f_11_68_11 rfl ?_
    refine zw_if2 hm_139 dX11_end_9 (t := 20) rfl zc2_le ?_ ?_
    · intro hc
      rw [if_pos hc] at h
      refine zw_push hm_139 dX11_end_20 (v := .inr (.inr (some 64))) rfl ?_
      refine zw_push hm_139 dX11_end_21 (v := .inl n) rfl ?_
      refine zw_pf hm_139 dX11_end_22 (zT_is hS s_64) (zT_t hS s_64) p_11_68_11 zk_int ?_
      refine zw_push hm_139 dX11_end_25 (v := .inl n) rfl ?_
      exact zw_iret hm_139 dX11_end_26 h
    · intro hc
      rw [if_neg hc] at h
      exact zw_thr hm_139 dX11_end_12 dX11_end_15 dX11_end_16 dX11_end_19 x_11_79_81 n_11_79 (by omega) (by show 0 + 81 ≤ w; omega) h
theorem sp_139_64_s {X : Nat × (Nat → Int32)} {d w : Nat} {f : Nat → Nat → Int32} {r : Nat → Nat → Option Nat} {C Z N : Nat} {Q : Option ma_V ⊕ Nat → ma_S → Prop} {R : zRT} {a8 : Nat→Nat→Int32} {S : ma_S} (n : Int32) (hd : 6 ≤ d) (hw : 89 ≤ w) (hI : zX f r C Z N S) (hpre0 : (mI S 64 1).toInt = (mI S 94 3).toInt) (hpre1 : xB S R) (hpre2 : aS 88 S = a8) (K : ∀ v S', zX f r C Z N S' → ((mI S' 64 1).toInt = n.toInt ∧ 0 ≤ n.toInt ∧ n.toInt ≤ (mI S' 94 3).toInt ∧ v.toInt = n.toInt) → (xB S' R) → (aS 88 S' = a8) → Q (.inl (some (.inl v))) S') (KX : ∀ x S', (x = 2) → zX f r C Z N S' → ((mI S' 64 1).toInt = (mI S' 94 3).toInt ∧ (n.toInt < 0 ∨ (mI S' 94 3).toInt < n.toInt)) → (xB S' R) → (aS 88 S' = a8) → Q (.inr x) (ma_bump S')) : ma_wp X d w 139 0 [(0, .inr (.inr (some 64))), (1, .inl n)] [] S Q := by
  refine g_139_64_s_0 n (by omega) (by omega) (zG_T hI) ?_
  have f1 := zG_s hI (0) (100) (c := 64) (k := 1) (by decide)
  have q2 : (mI S 94 3).toInt = (f 94 3).toInt := zG_zi hI rfl
  have b3 := i_bd (mI S 94 3)
  have b4 := i_bd n
  have li5 : (0 : Int32).toInt = 0 := rfl
  refine zd (fun h6 => ?_) (fun h6 => ?_)
  · skip
    have g7 := i_lt h6
    exact KX 2 _ (by decide) hI (show (mI S 64 1).toInt = (mI S 94 3).toInt ∧ (n.toInt < 0 ∨ (mI S 94 3).toInt < n.toInt) from by omega) (show xB S R from by first | (exact (xC_o (W := 75) hpre1).2)) (show aS 88 S = a8 from by first | (exact (xC_o (W := 88) hpre1).1.trans hpre2))
  · skip
    have g8 := i_nlt h6
    refine zd (fun h9 => ?_) (fun h9 => ?_)
    · skip
      have g10 := i_le h9
      have hI11 : zX f r C Z N (ma_put S 64 1 (.inl n)) := zG_sp hI (0) (100) rfl (by decide) (by decide) (by decide) trivial (by omega) (by omega)
      exact K (n) _ hI11 (show n.toInt = n.toInt ∧ 0 ≤ n.toInt ∧ n.toInt ≤ (mI S 94 3).toInt ∧ n.toInt = n.toInt from by omega) (show xB (ma_put S 64 1 (.inl n)) R from by first | (exact (xC_n (c := 64) (k := 1) (x := n) (xC_o (W := 75) hpre1) ⟨by decide, Or.inl ⟨rfl, rfl⟩⟩).2)) (show aS 88 (ma_put S 64 1 (.inl n)) = a8 from by first | (exact (xC_n (c := 64) (k := 1) (x := n) (xC_o (W := 88) hpre1) ⟨by decide, Or.inr ⟨rfl, Or.inr ⟨rfl, by decide⟩⟩⟩).1.trans hpre2))
    · skip
      have g12 := i_nle h9
      exact KX 2 _ (by decide) hI (show (mI S 64 1).toInt = (mI S 94 3).toInt ∧ (n.toInt < 0 ∨ (mI S 94 3).toInt < n.toInt) from by omega) (show xB S R from by first | (exact (xC_o (W := 75) hpre1).2)) (show aS 88 S = a8 from by first | (exact (xC_o (W := 88) hpre1).1.trans hpre2))
def zUp (r : Nat → Int32) (k : Nat) (x : Int32) : Nat → Int32 := fun j => if j = k then x else r j
theorem up_67 {S : ma_S} {k k' : Nat} {x y v : Int32} : mI (ma_put (ma_put (ma_put S 67 k (.inl x)) 68 k' (.inl y)) 64 7 (.inl v)) 67 = zUp (mI S 67) k x := by
  funext j
  show (if 67 = 64 ∧ j = 7 then v else if 67 = 68 ∧ j = k' then y else if 67 = 67 ∧ j = k then x else mI S 67 j) = if j = k then x else mI S 67 j
  rw [if_neg (by omega), if_neg (by omega)]
  by_cases h : j = k
  · rw [if_pos ⟨rfl, h⟩, if_pos h]
  · rw [if_neg (fun z => h z.2), if_neg h]
theorem up_68 {S : ma_S} {k k' : Nat} {x y v : Int32} : mI (ma_put (ma_put (ma_put S 67 k (.inl x)) 68 k' (.inl y)) 64 7 (.inl v)) 68 = zUp (mI S 68) k' y := by
  funext j
  show (if 68 = 64 ∧ j = 7 then v else if 68 = 68 ∧ j = k' then y else if 68 = 67 ∧ j = k then x else mI S 68 j) = if j = k' then y else mI S 68 j
  rw [if_neg (by omega)]
  by_cases h : j = k'
  · rw [if_pos ⟨rfl, h⟩, if_pos h]
  · rw [if_neg (fun z => h z.2), if_neg (by omega), if_neg h]
