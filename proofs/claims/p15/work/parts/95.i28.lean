/-! the class opens a heap (written by wip/tools/gen18c.py) -/
theorem g_137_64_sq_0 {X : Nat × (Nat → Int32)} {d w : Nat} {S : ma_S} {Q : Option ma_V ⊕ Nat → ma_S → Prop} (xa : Int32) (xb : Int32) (xc : Int32) (xd : Int32) (xe : Int32) (hd : 6 ≤ d) (hw : 89 ≤ w) (hS : zT S) (h : if ((mI S 64 1) + (20 : Int32)) ≤ (100 : Int32) then (ma_wp X (d - 1) (w - 22) 138 0 [(0, .inr (.inr (some 64))), (1, .inl xa)] [] S (zv (fun S1 => zT S1 ∧ (ma_wp X (d - 1) (w - 22) 138 0 [(0, .inr (.inr (some 64))), (1, .inl xb)] [] S1 (zv (fun S3 => zT S3 ∧ (ma_wp X (d - 1) (w - 22) 138 0 [(0, .inr (.inr (some 64))), (1, .inl xc)] [] S3 (zv (fun S5 => zT S5 ∧ (ma_wp X (d - 1) (w - 22) 138 0 [(0, .inr (.inr (some 64))), (1, .inl xd)] [] S5 (zv (fun S7 => zT S7 ∧ (ma_wp X (d - 1) (w - 22) 138 0 [(0, .inr (.inr (some 64))), (1, .inl xe)] [] S7 (zv (fun S9 => zT S9 ∧ (Q (.inl (some (.inl (mI S9 64 1)))) S9)) (fun x S9 => Q (.inr x) S9)))) (fun x S9 => Q (.inr x) S9)))) (fun x S9 => Q (.inr x) S9)))) (fun x S9 => Q (.inr x) S9)))) (fun x S9 => Q (.inr x) S9))) else (Q (.inr 1) (ma_bump S))) : ma_wp X d w 137 0 [(0, .inr (.inr (some 64))), (1, .inl xa), (2, .inl xb), (3, .inl xc), (4, .inl xd), (5, .inl xe)] [] S Q := by
  refine zw_push hm_137 dX11_feed_0 (v := .inr (.inr (some 64))) rfl ?_
  refine zw_gf hm_137 dX11_feed_1 (v := .inl (mI S 64 1)) (zT_is hS s_64) (zT_t hS s_64) rfl f_11_68_11 rfl ?_
  refine zw_push hm_137 dX11_feed_4 (v := .inl (20 : Int32)) rfl ?_
  refine zw_stk hm_137 dX11_feed_6 (st' := [.inl ((mI S 64 1) + (20 : Int32))]) rfl rfl ?_
  refine zw_push hm_137 dX11_feed_7 (v := .inl (100 : Int32)) rfl ?_
  refine zw_if2 hm_137 dX11_feed_9 (t := 20) rfl zc2_le ?_ ?_
  · intro hc
    rw [if_pos hc] at h
    refine zw_push hm_137 dX11_feed_20 (v := .inr (.inr (some 64))) rfl ?_
    refine zw_push hm_137 dX11_feed_21 (v := .inl xa) rfl ?_
    refine zw_cv hm_137 dX11_feed_22 v_11_75_11 hm_138 [.inl xa] [] rfl (zT_rt hS s_64 rfl) ⟨by omega, by omega⟩ rfl (zw_mono h (zv_go ?_ ?_))
    · intro S1 hv
      obtain ⟨hS1, h⟩ := hv
      refine zw_push hm_137 dX11_feed_25 (v := .inr (.inr (some 64))) rfl ?_
      refine zw_push hm_137 dX11_feed_26 (v := .inl xb) rfl ?_
      refine zw_cv hm_137 dX11_feed_27 v_11_75_11 hm_138 [.inl xb] [] rfl (zT_rt hS1 s_64 rfl) ⟨by omega, by omega⟩ rfl (zw_mono h (zv_go ?_ ?_))
      · intro S3 hv
        obtain ⟨hS3, h⟩ := hv
        refine zw_push hm_137 dX11_feed_30 (v := .inr (.inr (some 64))) rfl ?_
        refine zw_push hm_137 dX11_feed_31 (v := .inl xc) rfl ?_
        refine zw_cv hm_137 dX11_feed_32 v_11_75_11 hm_138 [.inl xc] [] rfl (zT_rt hS3 s_64 rfl) ⟨by omega, by omega⟩ rfl (zw_mono h (zv_go ?_ ?_))
        · intro S5 hv
          obtain ⟨hS5, h⟩ := hv
          refine zw_push hm_137 dX11_feed_35 (v := .inr (.inr (some 64))) rfl ?_
          refine zw_push hm_137 dX11_feed_36 (v := .inl xd) rfl ?_
          refine zw_cv hm_137 dX11_feed_38 v_11_75_11 hm_138 [.inl xd] [] rfl (zT_rt hS5 s_64 rfl) ⟨by omega, by omega⟩ rfl (zw_mono h (zv_go ?_ ?_))
          · intro S7 hv
            obtain ⟨hS7, h⟩ := hv
            refine zw_push hm_137 dX11_feed_41 (v := .inr (.inr (some 64))) rfl ?_
            refine zw_push hm_137 dX11_feed_42 (v := .inl xe) rfl ?_
            refine zw_cv hm_137 dX11_feed_44 v_11_75_11 hm_138 [.inl xe] [] rfl (zT_rt hS7 s_64 rfl) ⟨by omega, by omega⟩ rfl (zw_mono h (zv_go ?_ ?_))
            · intro S9 hv
              obtain ⟨hS9, h⟩ := hv
              refine zw_push hm_137 dX11_feed_47 (v := .inr (.inr (some 64))) rfl ?_
              refine zw_gf hm_137 dX11_feed_48 (v := .inl (mI S9 64 1)) (zT_is hS9 s_64) (zT_t hS9 s_64) rfl f_11_68_11 rfl ?_
              exact zw_iret hm_137 dX11_feed_51 h
            · intro x S9 hx
              exact ⟨by decide, hx⟩
          · intro x S9 hx
            exact ⟨by decide, hx⟩
        · intro x S9 hx
          exact ⟨by decide, hx⟩
      · intro x S9 hx
        exact ⟨by decide, hx⟩
    · intro x S9 hx
      exact ⟨by decide, hx⟩
  · intro hc
    rw [if_neg hc] at h
    exact zw_thr hm_137 dX11_feed_12 dX11_feed_15 dX11_feed_16 dX11_feed_19 x_11_72_74 n_11_72 (by omega) (by show 0 + 81 ≤ w; omega) h
theorem sp_137_64_sq {X : Nat × (Nat → Int32)} {d w : Nat} {f : Nat → Nat → Int32} {r : Nat → Nat → Option Nat} {C Z N : Nat} {Q : Option ma_V ⊕ Nat → ma_S → Prop} {r0 : Nat→Int32} {I0 : Nat→Nat→Int32} {L0 : Nat→Nat→Int64} {R0 : zRT} {S : ma_S} (xa : Int32) (xb : Int32) (xc : Int32) (xd : Int32) (xe : Int32) (hd : 6 ≤ d) (hw : 89 ≤ w) (hI : zFe f r C Z N S) (hpre0 : (mI S 64 1).toInt = (mI S 94 3).toInt) (hpre1 : (mI S 65) = r0) (hpre2 : zFm I0 L0 R0 S) (K : ∀ v S', zFe f r C Z N S' → (v.toInt = (mI S' 94 3).toInt + 20 ∧ (mI S' 64 1).toInt = (mI S' 94 3).toInt + 20 ∧ (mI S' 94 3).toInt ≤ 80) → (zFd r0 (mI S' 65) (f 94 3).toInt 5 (zw5 xa xb xc xd xe)) → (zFm I0 L0 R0 S') → Q (.inl (some (.inl v))) S') (KX : ∀ x S', (x = 1) → zFe f r C Z N S' → ((mI S' 64 1).toInt = (mI S' 94 3).toInt ∧ 81 ≤ (mI S' 94 3).toInt) → ((mI S' 65) = r0) → (zFm I0 L0 R0 S') → Q (.inr x) (ma_bump S')) : ma_wp X d w 137 0 [(0, .inr (.inr (some 64))), (1, .inl xa), (2, .inl xb), (3, .inl xc), (4, .inl xd), (5, .inl xe)] [] S Q := by
  refine g_137_64_sq_0 xa xb xc xd xe (by omega) (by omega) (zG_T hI) ?_
  have f1 := zG_s hI (0) (100) (c := 64) (k := 1) (by decide)
  have q2 : (mI S 94 3).toInt = (f 94 3).toInt := zG_zi hI rfl
  have b3 := i_bd (mI S 94 3)
  first | have e4 : ((mI S 64 1) + (20 : Int32)).toInt = (mI S 64 1).toInt + (20) := i_addk rfl (by omega) (by omega) | have b5 := i_bd ((mI S 64 1) + (20 : Int32))
  have li6 : (100 : Int32).toInt = 100 := rfl
  refine zd (fun h7 => ?_) (fun h7 => ?_)
  · skip
    have g8 := i_le h7
    have b9 := i_bd xa
    refine sp_138_64_sq (LL := ((mI S 64 1).toInt)) (r0 := (mI S 65)) (I0 := I0) (L0 := L0) (R0 := R0) (xa) (by omega) (by omega) hI (show (mI S 64 1).toInt = ((mI S 64 1).toInt) ∧ (mI S 64 1).toInt ≤ 96 from by omega) (show (mI S 65) = (mI S 65) from by first | (exact rfl)) (show zFm I0 L0 R0 S from by first | (exact hpre2)) (fun S1 hI_S1 rp0_S1 rp1_S1 rp2_S1 => zv_n ⟨zG_T hI_S1, ?_⟩)
    have f10 := zG_s hI_S1 (0) (100) (c := 64) (k := 1) (by decide)
    have rp0_S1 : (mI S1 64 1).toInt = ((mI S 64 1).toInt) + 4 := rp0_S1
    have rp1_S1 : zFq (mI S 65) (mI S1 65) ((mI S 64 1).toInt) xa := rp1_S1
    have rp2_S1 : zFm I0 L0 R0 S1 := rp2_S1
    have b11 := i_bd xb
    refine sp_138_64_sq (LL := ((mI S1 64 1).toInt)) (r0 := (mI S1 65)) (I0 := I0) (L0 := L0) (R0 := R0) (xb) (by omega) (by omega) hI_S1 (show (mI S1 64 1).toInt = ((mI S1 64 1).toInt) ∧ (mI S1 64 1).toInt ≤ 96 from by omega) (show (mI S1 65) = (mI S1 65) from by first | (exact rfl)) (show zFm I0 L0 R0 S1 from by first | (exact rp2_S1)) (fun S3 hI_S3 rp0_S3 rp1_S3 rp2_S3 => zv_n ⟨zG_T hI_S3, ?_⟩)
    have f12 := zG_s hI_S3 (0) (100) (c := 64) (k := 1) (by decide)
    have rp0_S3 : (mI S3 64 1).toInt = ((mI S1 64 1).toInt) + 4 := rp0_S3
    have rp1_S3 : zFq (mI S1 65) (mI S3 65) ((mI S1 64 1).toInt) xb := rp1_S3
    have rp2_S3 : zFm I0 L0 R0 S3 := rp2_S3
    have b13 := i_bd xc
    refine sp_138_64_sq (LL := ((mI S3 64 1).toInt)) (r0 := (mI S3 65)) (I0 := I0) (L0 := L0) (R0 := R0) (xc) (by omega) (by omega) hI_S3 (show (mI S3 64 1).toInt = ((mI S3 64 1).toInt) ∧ (mI S3 64 1).toInt ≤ 96 from by omega) (show (mI S3 65) = (mI S3 65) from by first | (exact rfl)) (show zFm I0 L0 R0 S3 from by first | (exact rp2_S3)) (fun S5 hI_S5 rp0_S5 rp1_S5 rp2_S5 => zv_n ⟨zG_T hI_S5, ?_⟩)
    have f14 := zG_s hI_S5 (0) (100) (c := 64) (k := 1) (by decide)
    have rp0_S5 : (mI S5 64 1).toInt = ((mI S3 64 1).toInt) + 4 := rp0_S5
    have rp1_S5 : zFq (mI S3 65) (mI S5 65) ((mI S3 64 1).toInt) xc := rp1_S5
    have rp2_S5 : zFm I0 L0 R0 S5 := rp2_S5
    have b15 := i_bd xd
    refine sp_138_64_sq (LL := ((mI S5 64 1).toInt)) (r0 := (mI S5 65)) (I0 := I0) (L0 := L0) (R0 := R0) (xd) (by omega) (by omega) hI_S5 (show (mI S5 64 1).toInt = ((mI S5 64 1).toInt) ∧ (mI S5 64 1).toInt ≤ 96 from by omega) (show (mI S5 65) = (mI S5 65) from by first | (exact rfl)) (show zFm I0 L0 R0 S5 from by first | (exact rp2_S5)) (fun S7 hI_S7 rp0_S7 rp1_S7 rp2_S7 => zv_n ⟨zG_T hI_S7, ?_⟩)
    have f16 := zG_s hI_S7 (0) (100) (c := 64) (k := 1) (by decide)
    have rp0_S7 : (mI S7 64 1).toInt = ((mI S5 64 1).toInt) + 4 := rp0_S7
    have rp1_S7 : zFq (mI S5 65) (mI S7 65) ((mI S5 64 1).toInt) xd := rp1_S7
    have rp2_S7 : zFm I0 L0 R0 S7 := rp2_S7
    have b17 := i_bd xe
    refine sp_138_64_sq (LL := ((mI S7 64 1).toInt)) (r0 := (mI S7 65)) (I0 := I0) (L0 := L0) (R0 := R0) (xe) (by omega) (by omega) hI_S7 (show (mI S7 64 1).toInt = ((mI S7 64 1).toInt) ∧ (mI S7 64 1).toInt ≤ 96 from by omega) (show (mI S7 65) = (mI S7 65) from by first | (exact rfl)) (show zFm I0 L0 R0 S7 from by first | (exact rp2_S7)) (fun S9 hI_S9 rp0_S9 rp1_S9 rp2_S9 => zv_n ⟨zG_T hI_S9, ?_⟩)
    have f18 := zG_s hI_S9 (0) (100) (c := 64) (k := 1) (by decide)
    have rp0_S9 : (mI S9 64 1).toInt = ((mI S7 64 1).toInt) + 4 := rp0_S9
    have rp1_S9 : zFq (mI S7 65) (mI S9 65) ((mI S7 64 1).toInt) xe := rp1_S9
    have rp2_S9 : zFm I0 L0 R0 S9 := rp2_S9
    have q19 : (mI S9 94 3).toInt = (f 94 3).toInt := zG_zi hI_S9 rfl
    have b20 := i_bd (mI S9 94 3)
    exact K ((mI S9 64 1)) _ hI_S9 (show (mI S9 64 1).toInt = (mI S9 94 3).toInt + 20 ∧ (mI S9 64 1).toInt = (mI S9 94 3).toInt + 20 ∧ (mI S9 94 3).toInt ≤ 80 from by omega) (show zFd r0 (mI S9 65) (f 94 3).toInt 5 (zw5 xa xb xc xd xe) from by first | (exact (fd_s (fd_s (fd_s (fd_s (fd_s (show zFd r0 (mI S 65) (f 94 3).toInt 0 (zw5 xa xb xc xd xe) from by rw [hpre1]; exact fd_0) (by omega) rp1_S1 (by omega) rfl) (by omega) rp1_S3 (by omega) rfl) (by omega) rp1_S5 (by omega) rfl) (by omega) rp1_S7 (by omega) rfl) (by omega) rp1_S9 (by omega) rfl))) (show zFm I0 L0 R0 S9 from by first | (exact rp2_S9))
  · skip
    have g21 := i_nle h7
    exact KX 1 _ (by decide) hI (show (mI S 64 1).toInt = (mI S 94 3).toInt ∧ 81 ≤ (mI S 94 3).toInt from by omega) (show (mI S 65) = r0 from by first | (exact hpre1)) (show zFm I0 L0 R0 S from by first | (exact hpre2))
theorem g_139_64_sq_0 {X : Nat × (Nat → Int32)} {d w : Nat} {S : ma_S} {Q : Option ma_V ⊕ Nat → ma_S → Prop} (n : Int32) (hd : 6 ≤ d) (hw : 89 ≤ w) (hS : zT S) (h : if n < 0 then (Q (.inr 2) (ma_bump S)) else (if n ≤ (mI S 64 1) then (Q (.inl (some (.inl n))) (ma_put S 64 1 (.inl n))) else (Q (.inr 2) (ma_bump S)))) : ma_wp X d w 139 0 [(0, .inr (.inr (some 64))), (1, .inl n)] [] S Q := by
  refine zw_push hm_139 dX11_end_0 (v := .inl n) rfl ?_
  refine zw_if0 hm_139 dX11_end_1 (t := 12) rfl zc0_lt ?_ ?_
  · intro hc
    rw [if_pos hc] at h
    exact zw_thr hm_139 dX11_end_12 dX11_end_15 dX11_end_16 dX11_end_19 x_11_79_81 n_11_79 (by omega) (by show 0 + 81 ≤ w; omega) h
  · intro hc
    rw [if_neg hc] at h
    refine zw_push hm_139 dX11_end_4 (v := .inl n) rfl ?_
    refine zw_push hm_139 dX11_end_5 (v := .inr (.inr (some 64))) rfl ?_
    refine zw_gf hm_139 dX11_end_6 (v := .inl (mI S 64 1)) (zT_is hS s_64) (zT_t hS s_64) rfl f_11_68_11 rfl ?_
    refine zw_if2 hm_139 dX11_end_9 (t := 20) rfl zc2_le ?_ ?_
    · intro hc
      rw [if_pos hc] at h
      refine zw_push hm_139 dX11_end_20 (v := .inr (.inr (some 64))) rfl ?_
      refine zw_push hm_139 dX11_end_21 (v := .inl n) rfl ?_
      refine zw_pf hm_139 dX11_end_22 (zT_is hS s_64) (zT_t hS s_64) p_11_68_11 zk_int ?_
      refine zw_push hm_139 dX11_end_25 (v := .inl n) rfl ?_
      exact zw_iret hm_139 dX11_end_26 h
    · intro hc
      rw [if_neg hc] at h
      exact zw_thr hm_139 dX11_end_12 dX11_end_15 dX11_end_16 dX11_end_19 x_11_79_81 n_11_79 (by omega) (by show 0 + 81 ≤ w; omega) h
theorem sp_139_64_sq {X : Nat × (Nat → Int32)} {d w : Nat} {f : Nat → Nat → Int32} {r : Nat → Nat → Option Nat} {C Z N : Nat} {Q : Option ma_V ⊕ Nat → ma_S → Prop} {I0 : Nat→Nat→Int32} {L0 : Nat→Nat→Int64} {R0 : zRT} {S : ma_S} (n : Int32) (hd : 6 ≤ d) (hw : 89 ≤ w) (hI : zX f r C Z N S) (hpre0 : (mI S 64 1).toInt = (mI S 94 3).toInt) (hpre1 : zFm I0 L0 R0 S) (K : ∀ v S', zX f r C Z N S' → ((mI S' 64 1).toInt = n.toInt ∧ 0 ≤ n.toInt ∧ n.toInt ≤ (mI S' 94 3).toInt ∧ v.toInt = n.toInt) → (zFm I0 L0 R0 S') → Q (.inl (some (.inl v))) S') (KX : ∀ x S', (x = 2) → zX f r C Z N S' → ((mI S' 64 1).toInt = (mI S' 94 3).toInt ∧ (n.toInt < 0 ∨ (mI S' 94 3).toInt < n.toInt)) → (zFm I0 L0 R0 S') → Q (.inr x) (ma_bump S')) : ma_wp X d w 139 0 [(0, .inr (.inr (some 64))), (1, .inl n)] [] S Q := by
  refine g_139_64_sq_0 n (by omega) (by omega) (zG_T hI) ?_
  have f1 := zG_s hI (0) (100) (c := 64) (k := 1) (by decide)
  have q2 : (mI S 94 3).toInt = (f 94 3).toInt := zG_zi hI rfl
  have b3 := i_bd (mI S 94 3)
  have b4 := i_bd n
  have li5 : (0 : Int32).toInt = 0 := rfl
  refine zd (fun h6 => ?_) (fun h6 => ?_)
  · skip
    have g7 := i_lt h6
    exact KX 2 _ (by decide) hI (show (mI S 64 1).toInt = (mI S 94 3).toInt ∧ (n.toInt < 0 ∨ (mI S 94 3).toInt < n.toInt) from by omega) (show zFm I0 L0 R0 S from by first | (exact hpre1))
  · skip
    have g8 := i_nlt h6
    refine zd (fun h9 => ?_) (fun h9 => ?_)
    · skip
      have g10 := i_le h9
      have hI11 : zX f r C Z N (ma_put S 64 1 (.inl n)) := zG_sp hI (0) (100) rfl (by decide) (by decide) (by decide) trivial (by omega) (by omega)
      exact K (n) _ hI11 (show n.toInt = n.toInt ∧ 0 ≤ n.toInt ∧ n.toInt ≤ (mI S 94 3).toInt ∧ n.toInt = n.toInt from by omega) (show zFm I0 L0 R0 (ma_put S 64 1 (.inl n)) from by first | (exact (fn9_p hpre1 (by decide))))
    · skip
      have g12 := i_nle h9
      exact KX 2 _ (by decide) hI (show (mI S 64 1).toInt = (mI S 94 3).toInt ∧ (n.toInt < 0 ∨ (mI S 94 3).toInt < n.toInt) from by omega) (show zFm I0 L0 R0 S from by first | (exact hpre1))
theorem g_140_64_zKd_sq_0 {X : Nat × (Nat → Int32)} {d w : Nat} {S : ma_S} {Q : Option ma_V ⊕ Nat → ma_S → Prop} (wd : Int32) (rf : Int32) (hd : 6 ≤ d) (hw : 89 ≤ w) (hS : zT S) (h : if wd < 0 then (Q (.inr 2) (ma_bump S)) else (if (8 : Int32) < wd then (Q (.inr 2) (ma_bump S)) else (if rf < 0 then (Q (.inr 2) (ma_bump S)) else (if rf < ((1 : Int32) <<< (wd &&& 31)) then (if (mI S 64 7) < (16 : Int32) then ((0 ≤ (mI S 64 7) ∧ (mI S 64 7).toNatClampNeg < 16) ∧ ((0 ≤ (mI S 64 7) ∧ (mI S 64 7).toNatClampNeg < 16) ∧ (Q (.inl (some (.inl (((mI S 64 7) + (1 : Int32)) - (1 : Int32))))) (ma_put (ma_put (ma_put S 67 (mI S 64 7).toNatClampNeg (.inl wd)) 68 (mI S 64 7).toNatClampNeg (.inl rf)) 64 7 (.inl ((mI S 64 7) + (1 : Int32))))))) else (Q (.inr 3) (ma_bump S))) else (Q (.inr 2) (ma_bump S)))))) : ma_wp X d w 140 0 [(0, .inr (.inr (some 64))), (1, .inl wd), (2, .inl rf)] [] S Q := by
  refine zw_push hm_140 dX11_kind_0 (v := .inl wd) rfl ?_
  refine zw_if0 hm_140 dX11_kind_1 (t := 21) rfl zc0_lt ?_ ?_
  · intro hc
    rw [if_pos hc] at h
    exact zw_thr hm_140 dX11_kind_21 dX11_kind_24 dX11_kind_25 dX11_kind_28 x_11_79_81 n_11_79 (by omega) (by show 0 + 81 ≤ w; omega) h
  · intro hc
    rw [if_neg hc] at h
    refine zw_push hm_140 dX11_kind_4 (v := .inl wd) rfl ?_
    refine zw_push hm_140 dX11_kind_5 (v := .inl (8 : Int32)) rfl ?_
    refine zw_if2 hm_140 dX11_kind_7 (t := 21) rfl zc2_gt ?_ ?_
    · intro hc
      rw [if_pos hc] at h
      exact zw_thr hm_140 dX11_kind_21 dX11_kind_24 dX11_kind_25 dX11_kind_28 x_11_79_81 n_11_79 (by omega) (by show 0 + 81 ≤ w; omega) h
    · intro hc
      rw [if_neg hc] at h
      refine zw_push hm_140 dX11_kind_10 (v := .inl rf) rfl ?_
      refine zw_if0 hm_140 dX11_kind_11 (t := 21) rfl zc0_lt ?_ ?_
      · intro hc
        rw [if_pos hc] at h
        exact zw_thr hm_140 dX11_kind_21 dX11_kind_24 dX11_kind_25 dX11_kind_28 x_11_79_81 n_11_79 (by omega) (by show 0 + 81 ≤ w; omega) h
      · intro hc
        rw [if_neg hc] at h
        refine zw_push hm_140 dX11_kind_14 (v := .inl rf) rfl ?_
        refine zw_push hm_140 dX11_kind_15 (v := .inl (1 : Int32)) rfl ?_
        refine zw_push hm_140 dX11_kind_16 (v := .inl wd) rfl ?_
        refine zw_stk hm_140 dX11_kind_17 (st' := [.inl ((1 : Int32) <<< (wd &&& 31)), .inl rf]) rfl rfl ?_
        refine zw_if2 hm_140 dX11_kind_18 (t := 29) rfl zc2_lt ?_ ?_
        · intro hc
          rw [if_pos hc] at h
          refine zw_push hm_140 dX11_kind_29 (v := .inr (.inr (some 64))) rfl ?_
          refine zw_gf hm_140 dX11_kind_30 (v := .inl (mI S 64 7)) (zT_is hS s_64) (zT_t hS s_64) rfl f_11_82_11 rfl ?_
          refine zw_push hm_140 dX11_kind_33 (v := .inl (16 : Int32)) rfl ?_
          refine zw_if2 hm_140 dX11_kind_35 (t := 46) rfl zc2_lt ?_ ?_
          · intro hc
            rw [if_pos hc] at h
            refine zw_push hm_140 dX11_kind_46 (v := .inr (.inr (some 64))) rfl ?_
            refine zw_gf hm_140 dX11_kind_47 (v := .inr (.inr (some 67))) (zT_is hS s_64) (zT_t hS s_64) rfl f_11_17_11 (zT_f hS r_64_5) ?_
            refine zw_push hm_140 dX11_kind_50 (v := .inr (.inr (some 64))) rfl ?_
            refine zw_gf hm_140 dX11_kind_51 (v := .inl (mI S 64 7)) (zT_is hS s_64) (zT_t hS s_64) rfl f_11_82_11 rfl ?_
            refine zw_push hm_140 dX11_kind_54 (v := .inl wd) rfl ?_
            obtain ⟨hg, h⟩ := h
            refine zw_ias hm_140 dX11_kind_55 (zT_is hS s_67) (zT_h hS s_67) rfl hg ?_
            refine zw_push hm_140 dX11_kind_56 (v := .inr (.inr (some 64))) rfl ?_
            refine zw_gf hm_140 dX11_kind_57 (v := .inr (.inr (some 68))) (zT_is (zT_pi hS) s_64) (zT_t (zT_pi hS) s_64) rfl f_11_20_11 (zT_f (zT_pi hS) r_64_6) ?_
            refine zw_push hm_140 dX11_kind_60 (v := .inr (.inr (some 64))) rfl ?_
            refine zw_gf hm_140 dX11_kind_61 (v := .inl (mI S 64 7)) (zT_is (zT_pi hS) s_64) (zT_t (zT_pi hS) s_64) rfl f_11_82_11 rfl ?_
            refine zw_push hm_140 dX11_kind_64 (v := .inl rf) rfl ?_
            obtain ⟨hg, h⟩ := h
            refine zw_ias hm_140 dX11_kind_65 (zT_is (zT_pi hS) s_68) (zT_h (zT_pi hS) s_68) rfl hg ?_
            refine zw_push hm_140 dX11_kind_66 (v := .inr (.inr (some 64))) rfl ?_
            refine zw_stk hm_140 dX11_kind_67 (st' := [.inr (.inr (some 64)), .inr (.inr (some 64))]) rfl rfl ?_
            refine zw_gf hm_140 dX11_kind_68 (v := .inl (mI S 64 7)) (zT_is (zT_pi (zT_pi hS)) s_64) (zT_t (zT_pi (zT_pi hS)) s_64) rfl f_11_82_11 rfl ?_
            refine zw_push hm_140 dX11_kind_71 (v := .inl (1 : Int32)) rfl ?_
            refine zw_stk hm_140 dX11_kind_72 (st' := [.inl ((mI S 64 7) + (1 : Int32)), .inr (.inr (some 64))]) rfl rfl ?_
            refine zw_pf hm_140 dX11_kind_73 (zT_is (zT_pi (zT_pi hS)) s_64) (zT_t (zT_pi (zT_pi hS)) s_64) p_11_82_11 zk_int ?_
            refine zw_push hm_140 dX11_kind_76 (v := .inr (.inr (some 64))) rfl ?_
            refine zw_gf hm_140 dX11_kind_77 (v := .inl ((mI S 64 7) + (1 : Int32))) (zT_is (zT_pi (zT_pi (zT_pi hS))) s_64) (zT_t (zT_pi (zT_pi (zT_pi hS))) s_64) rfl f_11_82_11 rfl ?_
            refine zw_push hm_140 dX11_kind_80 (v := .inl (1 : Int32)) rfl ?_
            refine zw_stk hm_140 dX11_kind_81 (st' := [.inl (((mI S 64 7) + (1 : Int32)) - (1 : Int32))]) rfl rfl ?_
            exact zw_iret hm_140 dX11_kind_82 h
          · intro hc
            rw [if_neg hc] at h
            exact zw_thr hm_140 dX11_kind_38 dX11_kind_41 dX11_kind_42 dX11_kind_45 x_11_85_87 n_11_85 (by omega) (by show 0 + 81 ≤ w; omega) h
        · intro hc
          rw [if_neg hc] at h
          exact zw_thr hm_140 dX11_kind_21 dX11_kind_24 dX11_kind_25 dX11_kind_28 x_11_79_81 n_11_79 (by omega) (by show 0 + 81 ≤ w; omega) h
theorem sp_140_64_zKd_sq {X : Nat × (Nat → Int32)} {d w : Nat} {f : Nat → Nat → Int32} {r : Nat → Nat → Option Nat} {C Z N : Nat} {Q : Option ma_V ⊕ Nat → ma_S → Prop} {I0 : Nat→Nat→Int32} {L0 : Nat→Nat→Int64} {R0 : zRT} {k67 : Nat→Int32} {k68 : Nat→Int32} {kn : Int32} {S : ma_S} (wd : Int32) (rf : Int32) (hd : 6 ≤ d) (hw : 89 ≤ w) (hI : zKd f r C Z N S) (hpre0 : (mI S 64 1).toInt = (mI S 94 3).toInt) (hpre1 : (mI S 64 7).toInt = (mI S 94 7).toInt) (hpre2 : zFm I0 L0 R0 S) (hpre3 : (mI S 67) = k67 ∧ (mI S 68) = k68 ∧ (mI S 64 7) = kn) (K : ∀ v S', zKd f r C Z N S' → ((mI S' 64 1).toInt = (mI S' 94 3).toInt ∧ v.toInt = (mI S' 94 7).toInt ∧ (mI S' 64 7).toInt = (mI S' 94 7).toInt + 1 ∧ (mI S' 94 7).toInt < 16 ∧ ¬ (wd.toInt < 0 ∨ 8 < wd.toInt ∨ rf.toInt < 0 ∨ ((1 : Int32) <<< (wd &&& 31)).toInt ≤ rf.toInt)) → (zFm I0 L0 R0 S') → ((mI S' 67) = zUp k67 kn.toNatClampNeg wd ∧ (mI S' 68) = zUp k68 kn.toNatClampNeg rf) → Q (.inl (some (.inl v))) S') (KX : ∀ x S', (x = 2 ∨ x = 3) → zKd f r C Z N S' → ((mI S' 64 1).toInt = (mI S' 94 3).toInt ∧ (mI S' 64 7).toInt = (mI S' 94 7).toInt ∧ (x = 2 → (wd.toInt < 0 ∨ 8 < wd.toInt ∨ rf.toInt < 0 ∨ ((1 : Int32) <<< (wd &&& 31)).toInt ≤ rf.toInt)) ∧ (x = 3 → ¬ (wd.toInt < 0 ∨ 8 < wd.toInt ∨ rf.toInt < 0 ∨ ((1 : Int32) <<< (wd &&& 31)).toInt ≤ rf.toInt) ∧ 16 ≤ (mI S' 94 7).toInt)) → (zFm I0 L0 R0 S') → ((mI S' 67) = k67 ∧ (mI S' 68) = k68 ∧ (mI S' 64 7) = kn) → Q (.inr x) (ma_bump S')) : ma_wp X d w 140 0 [(0, .inr (.inr (some 64))), (1, .inl wd), (2, .inl rf)] [] S Q := by
  refine g_140_64_zKd_sq_0 wd rf (by omega) (by omega) (zG_T hI) ?_
  have f1 := zG_s hI (0) (100) (c := 64) (k := 1) (by decide)
  have q2 : (mI S 94 3).toInt = (f 94 3).toInt := zG_zi hI rfl
  have b3 := i_bd (mI S 94 3)
  have f4 := zG_s hI (0) (16) (c := 64) (k := 7) (by decide)
  have q5 : (mI S 94 7).toInt = (f 94 7).toInt := zG_zi hI rfl
  have b6 := i_bd (mI S 94 7)
  have b7 := i_bd wd
  have li8 : (0 : Int32).toInt = 0 := rfl
  refine zd (fun h9 => ?_) (fun h9 => ?_)
  · skip
    have g10 := i_lt h9
    exact KX 2 _ (by decide) hI (show (mI S 64 1).toInt = (mI S 94 3).toInt ∧ (mI S 64 7).toInt = (mI S 94 7).toInt ∧ (2 = 2 → (wd.toInt < 0 ∨ 8 < wd.toInt ∨ rf.toInt < 0 ∨ ((1 : Int32) <<< (wd &&& 31)).toInt ≤ rf.toInt)) ∧ (2 = 3 → ¬ (wd.toInt < 0 ∨ 8 < wd.toInt ∨ rf.toInt < 0 ∨ ((1 : Int32) <<< (wd &&& 31)).toInt ≤ rf.toInt) ∧ 16 ≤ (mI S 94 7).toInt) from by omega) (show zFm I0 L0 R0 S from by first | (exact hpre2)) (show (mI S 67) = k67 ∧ (mI S 68) = k68 ∧ (mI S 64 7) = kn from by first | (exact hpre3))
  · skip
    have g11 := i_nlt h9
    have li12 : (8 : Int32).toInt = 8 := rfl
    refine zd (fun h13 => ?_) (fun h13 => ?_)
    · skip
      have g14 := i_lt h13
      exact KX 2 _ (by decide) hI (show (mI S 64 1).toInt = (mI S 94 3).toInt ∧ (mI S 64 7).toInt = (mI S 94 7).toInt ∧ (2 = 2 → (wd.toInt < 0 ∨ 8 < wd.toInt ∨ rf.toInt < 0 ∨ ((1 : Int32) <<< (wd &&& 31)).toInt ≤ rf.toInt)) ∧ (2 = 3 → ¬ (wd.toInt < 0 ∨ 8 < wd.toInt ∨ rf.toInt < 0 ∨ ((1 : Int32) <<< (wd &&& 31)).toInt ≤ rf.toInt) ∧ 16 ≤ (mI S 94 7).toInt) from by omega) (show zFm I0 L0 R0 S from by first | (exact hpre2)) (show (mI S 67) = k67 ∧ (mI S 68) = k68 ∧ (mI S 64 7) = kn from by first | (exact hpre3))
    · skip
      have g15 := i_nlt h13
      have b16 := i_bd rf
      refine zd (fun h17 => ?_) (fun h17 => ?_)
      · skip
        have g18 := i_lt h17
        exact KX 2 _ (by decide) hI (show (mI S 64 1).toInt = (mI S 94 3).toInt ∧ (mI S 64 7).toInt = (mI S 94 7).toInt ∧ (2 = 2 → (wd.toInt < 0 ∨ 8 < wd.toInt ∨ rf.toInt < 0 ∨ ((1 : Int32) <<< (wd &&& 31)).toInt ≤ rf.toInt)) ∧ (2 = 3 → ¬ (wd.toInt < 0 ∨ 8 < wd.toInt ∨ rf.toInt < 0 ∨ ((1 : Int32) <<< (wd &&& 31)).toInt ≤ rf.toInt) ∧ 16 ≤ (mI S 94 7).toInt) from by omega) (show zFm I0 L0 R0 S from by first | (exact hpre2)) (show (mI S 67) = k67 ∧ (mI S 68) = k68 ∧ (mI S 64 7) = kn from by first | (exact hpre3))
      · skip
        have g19 := i_nlt h17
        have b20 := i_bd ((1 : Int32) <<< (wd &&& 31))
        refine zd (fun h21 => ?_) (fun h21 => ?_)
        · skip
          have g22 := i_lt h21
          have li23 : (16 : Int32).toInt = 16 := rfl
          refine zd (fun h24 => ?_) (fun h24 => ?_)
          · skip
            have g25 := i_lt h24
            refine ⟨i_ix (by omega) (by omega), ?_⟩
            refine ⟨i_ix (by omega) (by omega), ?_⟩
            have hI26 : zKd f r C Z N (ma_put S 67 (mI S 64 7).toNatClampNeg (.inl wd)) := zG_sa hI (0) (8) rfl (by decide) (by decide) (by decide) trivial (by omega) (by omega)
            have hI27 : zKd f r C Z N (ma_put (ma_put S 67 (mI S 64 7).toNatClampNeg (.inl wd)) 68 (mI S 64 7).toNatClampNeg (.inl rf)) := zG_fa hI26 rfl (by decide) (by decide) (by decide) trivial
            first | have e29 : ((mI S 64 7) + (1 : Int32)).toInt = (mI S 64 7).toInt + (1) := i_addk rfl (by omega) (by omega) | have b30 := i_bd ((mI S 64 7) + (1 : Int32))
            have hI28 : zKd f r C Z N (ma_put (ma_put (ma_put S 67 (mI S 64 7).toNatClampNeg (.inl wd)) 68 (mI S 64 7).toNatClampNeg (.inl rf)) 64 7 (.inl ((mI S 64 7) + (1 : Int32)))) := zG_sp hI27 (0) (16) rfl (by decide) (by decide) (by decide) trivial (by omega) (by omega)
            first | have e31 : (((mI S 64 7) + (1 : Int32)) - (1 : Int32)).toInt = ((mI S 64 7) + (1 : Int32)).toInt - (1) := i_subk rfl (by omega) (by omega) | have b32 := i_bd (((mI S 64 7) + (1 : Int32)) - (1 : Int32))
            exact K ((((mI S 64 7) + (1 : Int32)) - (1 : Int32))) _ hI28 (show (mI S 64 1).toInt = (mI S 94 3).toInt ∧ (((mI S 64 7) + (1 : Int32)) - (1 : Int32)).toInt = (mI S 94 7).toInt ∧ ((mI S 64 7) + (1 : Int32)).toInt = (mI S 94 7).toInt + 1 ∧ (mI S 94 7).toInt < 16 ∧ ¬ (wd.toInt < 0 ∨ 8 < wd.toInt ∨ rf.toInt < 0 ∨ ((1 : Int32) <<< (wd &&& 31)).toInt ≤ rf.toInt) from by omega) (show zFm I0 L0 R0 (ma_put (ma_put (ma_put S 67 (mI S 64 7).toNatClampNeg (.inl wd)) 68 (mI S 64 7).toNatClampNeg (.inl rf)) 64 7 (.inl ((mI S 64 7) + (1 : Int32)))) from by first | (exact (fn9_p (fn9_p (fn9_p hpre2 (by decide)) (by decide)) (by decide)))) (show (mI (ma_put (ma_put (ma_put S 67 (mI S 64 7).toNatClampNeg (.inl wd)) 68 (mI S 64 7).toNatClampNeg (.inl rf)) 64 7 (.inl ((mI S 64 7) + (1 : Int32)))) 67) = zUp k67 kn.toNatClampNeg wd ∧ (mI (ma_put (ma_put (ma_put S 67 (mI S 64 7).toNatClampNeg (.inl wd)) 68 (mI S 64 7).toNatClampNeg (.inl rf)) 64 7 (.inl ((mI S 64 7) + (1 : Int32)))) 68) = zUp k68 kn.toNatClampNeg rf from by first | (refine ⟨up_67.trans ?_, up_68.trans ?_⟩; (rw [hpre3.1, hpre3.2.2]); (rw [hpre3.2.1, hpre3.2.2])))
          · skip
            have g33 := i_nlt h24
            exact KX 3 _ (by decide) hI (show (mI S 64 1).toInt = (mI S 94 3).toInt ∧ (mI S 64 7).toInt = (mI S 94 7).toInt ∧ (3 = 2 → (wd.toInt < 0 ∨ 8 < wd.toInt ∨ rf.toInt < 0 ∨ ((1 : Int32) <<< (wd &&& 31)).toInt ≤ rf.toInt)) ∧ (3 = 3 → ¬ (wd.toInt < 0 ∨ 8 < wd.toInt ∨ rf.toInt < 0 ∨ ((1 : Int32) <<< (wd &&& 31)).toInt ≤ rf.toInt) ∧ 16 ≤ (mI S 94 7).toInt) from by omega) (show zFm I0 L0 R0 S from by first | (exact hpre2)) (show (mI S 67) = k67 ∧ (mI S 68) = k68 ∧ (mI S 64 7) = kn from by first | (exact hpre3))
        · skip
          have g34 := i_nlt h21
          exact KX 2 _ (by decide) hI (show (mI S 64 1).toInt = (mI S 94 3).toInt ∧ (mI S 64 7).toInt = (mI S 94 7).toInt ∧ (2 = 2 → (wd.toInt < 0 ∨ 8 < wd.toInt ∨ rf.toInt < 0 ∨ ((1 : Int32) <<< (wd &&& 31)).toInt ≤ rf.toInt)) ∧ (2 = 3 → ¬ (wd.toInt < 0 ∨ 8 < wd.toInt ∨ rf.toInt < 0 ∨ ((1 : Int32) <<< (wd &&& 31)).toInt ≤ rf.toInt) ∧ 16 ≤ (mI S 94 7).toInt) from by omega) (show zFm I0 L0 R0 S from by first | (exact hpre2)) (show (mI S 67) = k67 ∧ (mI S 68) = k68 ∧ (mI S 64 7) = kn from by first | (exact hpre3))
