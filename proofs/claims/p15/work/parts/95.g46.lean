/-! the heap by numbers, the class (written by wip/tools/gen18.py) -/
theorem g_140_64_zKd_s_0 {X : Nat × (Nat → Int32)} {d w : Nat} {S : ma_S} {Q : Option ma_V ⊕ Nat → ma_S → Prop} (wd : Int32) (rf : Int32) (hd : 6 ≤ d) (hw : 89 ≤ w) (hS : zT S) (h : if wd < 0 then (Q (.inr 2) (ma_bump S)) else (if (8 : Int32) < wd then (Q (.inr 2) (ma_bump S)) else (if rf < 0 then (Q (.inr 2) (ma_bump S)) else (if rf < ((1 : Int32) <<< (wd &&& 31)) then (if (mI S 64 7) < (16 : Int32) then ((0 ≤ (mI S 64 7) ∧ (mI S 64 7).toNatClampNeg < 16) ∧ ((0 ≤ (mI S 64 7) ∧ (mI S 64 7).toNatClampNeg < 16) ∧ (Q (.inl (some (.inl (((mI S 64 7) + (1 : Int32)) - (1 : Int32))))) (ma_put (ma_put (ma_put S 67 (mI S 64 7).toNatClampNeg (.inl wd)) 68 (mI S 64 7).toNatClampNeg (.inl rf)) 64 7 (.inl ((mI S 64 7) + (1 : Int32))))))) else (Q (.inr 3) (ma_bump S))) else (Q (.inr 2) (ma_bump S)))))) : ma_wp X d w 140 0 [(0, .inr (.inr (some 64))), (1, .inl wd), (2, .inl rf)] [] S Q := by
  refine zw_push hm_140 dX11_kind_0 (v := .inl wd) rfl ?_
  refine zw_if0 hm_140 dX11_kind_1 (t := 21) rfl zc0_lt ?_ ?_
  · intro hc
    rw [if_pos hc] at h
    exact zw_thr hm_140 dX11_kind_21 dX11_kind_24 dX11_kind_25 dX11_kind_28 x_11_79_81 n_11_79 (by omega) (by show 0 + 81 ≤ w; omega) h
  · intro hc
    rw [if_neg hc] at h
    refine zw_push hm_140 dX11_kind_4 (v := .inl wd) rfl ?_
    refine zw_push hm_140 dX11_kind_5 (v := .inl (8 : Int32)) rfl ?_
    refine zw_if2 hm_140 dX11_kind_7 (t := 21) rfl zc2_gt ?_ ?_
    · intro hc
      rw [if_pos hc] at h
      exact zw_thr hm_140 dX11_kind_21 dX11_kind_24 dX11_kind_25 dX11_kind_28 x_11_79_81 n_11_79 (by omega) (by show 0 + 81 ≤ w; omega) h
    · intro hc
      rw [if_neg hc] at h
      refine zw_push hm_140 dX11_kind_10 (v := .inl rf) rfl ?_
      refine zw_if0 hm_140 dX11_kind_11 (t := 21) rfl zc0_lt ?_ ?_
      · intro hc
        rw [if_pos hc] at h
        exact zw_thr hm_140 dX11_kind_21 dX11_kind_24 dX11_kind_25 dX11_kind_28 x_11_79_81 n_11_79 (by omega) (by show 0 + 81 ≤ w; omega) h
      · intro hc
        rw [if_neg hc] at h
        refine zw_push hm_140 dX11_kind_14 (v := .inl rf) rfl ?_
        refine zw_push hm_140 dX11_kind_15 (v := .inl (1 : Int32)) rfl ?_
        refine zw_push hm_140 dX11_kind_16 (v := .inl wd) rfl ?_
        refine zw_stk hm_140 dX11_kind_17 (st' := [.inl ((1 : Int32) <<< (wd &&& 31)), .inl rf]) rfl rfl ?_
        refine zw_if2 hm_140 dX11_kind_18 (t := 29) rfl zc2_lt ?_ ?_
        · intro hc
          rw [if_pos hc] at h
          refine zw_push hm_140 dX11_kind_29 (v := .inr (.inr (some 64))) rfl ?_
          refine zw_gf hm_140 dX11_kind_30 (v := .inl (mI S 64 7)) (zT_is hS s_64) (zT_t hS s_64) rfl f_11_82_11 rfl ?_
          refine zw_push hm_140 dX11_kind_33 (v := .inl (16 : Int32)) rfl ?_
          refine zw_if2 hm_140 dX11_kind_35 (t := 46) rfl zc2_lt ?_ ?_
          · intro hc
            rw [if_pos hc] at h
            refine zw_push hm_140 dX11_kind_46 (v := .inr (.inr (some 64))) rfl ?_
            refine zw_gf hm_140 dX11_kind_47 (v := .inr (.inr (some 67))) (zT_is hS s_64) (zT_t hS s_64) rfl f_11_17_11 (zT_f hS r_64_5) ?_
            refine zw_push hm_140 dX11_kind_50 (v := .inr (.inr (some 64))) rfl ?_
            refine zw_gf hm_140 dX11_kind_51 (v := .inl (mI S 64 7)) (zT_is hS s_64) (zT_t hS s_64) rfl f_11_82_11 rfl ?_
            refine zw_push hm_140 dX11_kind_54 (v := .inl wd) rfl ?_
            obtain ⟨hg, h⟩ := h
            refine zw_ias hm_140 dX11_kind_55 (zT_is hS s_67) (zT_h hS s_67) rfl hg ?_
            refine zw_push hm_140 dX11_kind_56 (v := .inr (.inr (some 64))) rfl ?_
            refine zw_gf hm_140 dX11_kind_57 (v := .inr (.inr (some 68))) (zT_is (zT_pi hS) s_64) (zT_t (zT_pi hS) s_64) rfl f_11_20_11 (zT_f (zT_pi hS) r_64_6) ?_
            refine zw_push hm_140 dX11_kind_60 (v := .inr (.inr (some 64))) rfl ?_
            refine zw_gf hm_140 dX11_kind_61 (v := .inl (mI S 64 7)) (zT_is (zT_pi hS) s_64) (zT_t (zT_pi hS) s_64) rfl f_11_82_11 rfl ?_
            refine zw_push hm_140 dX11_kind_64 (v := .inl rf) rfl ?_
            obtain ⟨hg, h⟩ := h
            refine zw_ias hm_140 dX11_kind_65 (zT_is (zT_pi hS) s_68) (zT_h (zT_pi hS) s_68) rfl hg ?_
            refine zw_push hm_140 dX11_kind_66 (v := .inr (.inr (some 64))) rfl ?_
            refine zw_stk hm_140 dX11_kind_67 (st' := [.inr (.inr (some 64)), .inr (.inr (some 64))]) rfl rfl ?_
            refine zw_gf hm_140 dX11_kind_68 (v := .inl (mI S 64 7)) (zT_is (zT_pi (zT_pi hS)) s_64) (zT_t (zT_pi (zT_pi hS)) s_64) rfl f_11_82_11 rfl ?_
            refine zw_push hm_140 dX11_kind_71 (v := .inl (1 : Int32)) rfl ?_
            refine zw_stk hm_140 dX11_kind_72 (st' := [.inl ((mI S 64 7) + (1 : Int32)), .inr (.inr (some 64))]) rfl rfl ?_
            refine zw_pf hm_140 dX11_kind_73 (zT_is (zT_pi (zT_pi hS)) s_64) (zT_t (zT_pi (zT_pi hS)) s_64) p_11_82_11 zk_int ?_
            refine zw_push hm_140 dX11_kind_76 (v := .inr (.inr (some 64))) rfl ?_
            refine zw_gf hm_140 dX11_kind_77 (v := .inl ((mI S 64 7) + (1 : Int32))) (zT_is (zT_pi (zT_pi (zT_pi hS))) s_64) (zT_t (zT_pi (zT_pi (zT_pi hS))) s_64) rfl f_11_82_11 rfl ?_
            refine zw_push hm_140 dX11_kind_80 (v := .inl (1 : Int32)) rfl ?_
            refine zw_stk hm_140 dX11_kind_81 (st' := [.inl (((mI S 64 7) + (1 : Int32)) - (1 : Int32))]) rfl rfl ?_
            exact zw_iret hm_140 dX11_kind_82 h
          · intro hc
            rw [if_neg hc] at h
            exact zw_thr hm_140 dX11_kind_38 dX11_kind_41 dX11_kind_42 dX11_kind_45 x_11_85_87 n_11_85 (by omega) (by show 0 + 81 ≤ w; omega) h
        · intro hc
          rw [if_neg hc] at h
          exact zw_thr hm_140 dX11_kind_21 dX11_kind_24 dX11_kind_25 dX11_kind_28 x_11_79_81 n_11_79 (by omega) (by show 0 + 81 ≤ w; omega) h
theorem sp_140_64_zKd_s {X : Nat × (Nat → Int32)} {d w : Nat} {f : Nat → Nat → Int32} {r : Nat → Nat → Option Nat} {C Z N : Nat} {Q : Option ma_V ⊕ Nat → ma_S → Prop} {R : zRT} {a8 : Nat→Nat→Int32} {k67 : Nat→Int32} {k68 : Nat→Int32} {kn : Int32} {S : ma_S} (wd : Int32) (rf : Int32) (hd : 6 ≤ d) (hw : 89 ≤ w) (hI : zKd f r C Z N S) (hpre0 : (mI S 64 1).toInt = (mI S 94 3).toInt) (hpre1 : (mI S 64 7).toInt = (mI S 94 7).toInt) (hpre2 : xB S R) (hpre3 : aS 88 S = a8) (hpre4 : (mI S 67) = k67 ∧ (mI S 68) = k68 ∧ (mI S 64 7) = kn) (K : ∀ v S', zKd f r C Z N S' → ((mI S' 64 1).toInt = (mI S' 94 3).toInt ∧ v.toInt = (mI S' 94 7).toInt ∧ (mI S' 64 7).toInt = (mI S' 94 7).toInt + 1 ∧ (mI S' 94 7).toInt < 16 ∧ ¬ (wd.toInt < 0 ∨ 8 < wd.toInt ∨ rf.toInt < 0 ∨ ((1 : Int32) <<< (wd &&& 31)).toInt ≤ rf.toInt)) → (xB S' R) → (aS 88 S' = a8) → ((mI S' 67) = zUp k67 kn.toNatClampNeg wd ∧ (mI S' 68) = zUp k68 kn.toNatClampNeg rf) → Q (.inl (some (.inl v))) S') (KX : ∀ x S', (x = 2 ∨ x = 3) → zKd f r C Z N S' → ((mI S' 64 1).toInt = (mI S' 94 3).toInt ∧ (mI S' 64 7).toInt = (mI S' 94 7).toInt ∧ (x = 2 → (wd.toInt < 0 ∨ 8 < wd.toInt ∨ rf.toInt < 0 ∨ ((1 : Int32) <<< (wd &&& 31)).toInt ≤ rf.toInt)) ∧ (x = 3 → ¬ (wd.toInt < 0 ∨ 8 < wd.toInt ∨ rf.toInt < 0 ∨ ((1 : Int32) <<< (wd &&& 31)).toInt ≤ rf.toInt) ∧ 16 ≤ (mI S' 94 7).toInt)) → (xB S' R) → (aS 88 S' = a8) → ((mI S' 67) = k67 ∧ (mI S' 68) = k68 ∧ (mI S' 64 7) = kn) → Q (.inr x) (ma_bump S')) : ma_wp X d w 140 0 [(0, .inr (.inr (some 64))), (1, .inl wd), (2, .inl rf)] [] S Q := by
  refine g_140_64_zKd_s_0 wd rf (by omega) (by omega) (zG_T hI) ?_
  have f1 := zG_s hI (0) (100) (c := 64) (k := 1) (by decide)
  have q2 : (mI S 94 3).toInt = (f 94 3).toInt := zG_zi hI rfl
  have b3 := i_bd (mI S 94 3)
  have f4 := zG_s hI (0) (16) (c := 64) (k := 7) (by decide)
  have q5 : (mI S 94 7).toInt = (f 94 7).toInt := zG_zi hI rfl
  have b6 := i_bd (mI S 94 7)
  have b7 := i_bd wd
  have li8 : (0 : Int32).toInt = 0 := rfl
  refine zd (fun h9 => ?_) (fun h9 => ?_)
  · skip
    have g10 := i_lt h9
    exact KX 2 _ (by decide) hI (show (mI S 64 1).toInt = (mI S 94 3).toInt ∧ (mI S 64 7).toInt = (mI S 94 7).toInt ∧ (2 = 2 → (wd.toInt < 0 ∨ 8 < wd.toInt ∨ rf.toInt < 0 ∨ ((1 : Int32) <<< (wd &&& 31)).toInt ≤ rf.toInt)) ∧ (2 = 3 → ¬ (wd.toInt < 0 ∨ 8 < wd.toInt ∨ rf.toInt < 0 ∨ ((1 : Int32) <<< (wd &&& 31)).toInt ≤ rf.toInt) ∧ 16 ≤ (mI S 94 7).toInt) from by omega) (show xB S R from by first | (exact (xC_o (W := 75) hpre2).2)) (show aS 88 S = a8 from by first | (exact (xC_o (W := 88) hpre2).1.trans hpre3)) (show (mI S 67) = k67 ∧ (mI S 68) = k68 ∧ (mI S 64 7) = kn from by first | (exact hpre4))
  · skip
    have g11 := i_nlt h9
    have li12 : (8 : Int32).toInt = 8 := rfl
    refine zd (fun h13 => ?_) (fun h13 => ?_)
    · skip
      have g14 := i_lt h13
      exact KX 2 _ (by decide) hI (show (mI S 64 1).toInt = (mI S 94 3).toInt ∧ (mI S 64 7).toInt = (mI S 94 7).toInt ∧ (2 = 2 → (wd.toInt < 0 ∨ 8 < wd.toInt ∨ rf.toInt < 0 ∨ ((1 : Int32) <<< (wd &&& 31)).toInt ≤ rf.toInt)) ∧ (2 = 3 → ¬ (wd.toInt < 0 ∨ 8 < wd.toInt ∨ rf.toInt < 0 ∨ ((1 : Int32) <<< (wd &&& 31)).toInt ≤ rf.toInt) ∧ 16 ≤ (mI S 94 7).toInt) from by omega) (show xB S R from by first | (exact (xC_o (W := 75) hpre2).2)) (show aS 88 S = a8 from by first | (exact (xC_o (W := 88) hpre2).1.trans hpre3)) (show (mI S 67) = k67 ∧ (mI S 68) = k68 ∧ (mI S 64 7) = kn from by first | (exact hpre4))
    · skip
      have g15 := i_nlt h13
      have b16 := i_bd rf
      refine zd (fun h17 => ?_) (fun h17 => ?_)
      · skip
        have g18 := i_lt h17
        exact KX 2 _ (by decide) hI (show (mI S 64 1).toInt = (mI S 94 3).toInt ∧ (mI S 64 7).toInt = (mI S 94 7).toInt ∧ (2 = 2 → (wd.toInt < 0 ∨ 8 < wd.toInt ∨ rf.toInt < 0 ∨ ((1 : Int32) <<< (wd &&& 31)).toInt ≤ rf.toInt)) ∧ (2 = 3 → ¬ (wd.toInt < 0 ∨ 8 < wd.toInt ∨ rf.toInt < 0 ∨ ((1 : Int32) <<< (wd &&& 31)).toInt ≤ rf.toInt) ∧ 16 ≤ (mI S 94 7).toInt) from by omega) (show xB S R from by first | (exact (xC_o (W := 75) hpre2).2)) (show aS 88 S = a8 from by first | (exact (xC_o (W := 88) hpre2).1.trans hpre3)) (show (mI S 67) = k67 ∧ (mI S 68) = k68 ∧ (mI S 64 7) = kn from by first | (exact hpre4))
      · skip
        have g19 := i_nlt h17
        have b20 := i_bd ((1 : Int32) <<< (wd &&& 31))
        refine zd (fun h21 => ?_) (fun h21 => ?_)
        · skip
          have g22 := i_lt h21
          have li23 : (16 : Int32).toInt = 16 := rfl
          refine zd (fun h24 => ?_) (fun h24 => ?_)
          · skip
            have g25 := i_lt h24
            refine ⟨i_ix (by omega) (by omega), ?_⟩
            refine ⟨i_ix (by omega) (by omega), ?_⟩
            have hI26 : zKd f r C Z N (ma_put S 67 (mI S 64 7).toNatClampNeg (.inl wd)) := zG_sa hI (0) (8) rfl (by decide) (by decide) (by decide) trivial (by omega) (by omega)
            have hI27 : zKd f r C Z N (ma_put (ma_put S 67 (mI S 64 7).toNatClampNeg (.inl wd)) 68 (mI S 64 7).toNatClampNeg (.inl rf)) := zG_fa hI26 rfl (by decide) (by decide) (by decide) trivial
            first | have e29 : ((mI S 64 7) + (1 : Int32)).toInt = (mI S 64 7).toInt + (1) := i_addk rfl (by omega) (by omega) | have b30 := i_bd ((mI S 64 7) + (1 : Int32))
            have hI28 : zKd f r C Z N (ma_put (ma_put (ma_put S 67 (mI S 64 7).toNatClampNeg (.inl wd)) 68 (mI S 64 7).toNatClampNeg (.inl rf)) 64 7 (.inl ((mI S 64 7) + (1 : Int32)))) := zG_sp hI27 (0) (16) rfl (by decide) (by decide) (by decide) trivial (by omega) (by omega)
            first | have e31 : (((mI S 64 7) + (1 : Int32)) - (1 : Int32)).toInt = ((mI S 64 7) + (1 : Int32)).toInt - (1) := i_subk rfl (by omega) (by omega) | have b32 := i_bd (((mI S 64 7) + (1 : Int32)) - (1 : Int32))
            exact K ((((mI S 64 7) + (1 : Int32)) - (1 : Int32))) _ hI28 (show (mI S 64 1).toInt = (mI S 94 3).toInt ∧ (((mI S 64 7) + (1 : Int32)) - (1 : Int32)).toInt = (mI S 94 7).toInt ∧ ((mI S 64 7) + (1 : Int32)).toInt = (mI S 94 7).toInt + 1 ∧ (mI S 94 7).toInt < 16 ∧ ¬ (wd.toInt < 0 ∨ 8 < wd.toInt ∨ rf.toInt < 0 ∨ ((1 : Int32) <<< (wd &&& 31)).toInt ≤ rf.toInt) from by omega) (show xB (ma_put (ma_put (ma_put S 67 (mI S 64 7).toNatClampNeg (.inl wd)) 68 (mI S 64 7).toNatClampNeg (.inl rf)) 64 7 (.inl ((mI S 64 7) + (1 : Int32)))) R from by first | (exact (xC_n (c := 64) (k := 7) (x := ((mI S 64 7) + (1 : Int32))) (xC_n (c := 68) (k := (mI S 64 7).toNatClampNeg) (x := rf) (xC_n (c := 67) (k := (mI S 64 7).toNatClampNeg) (x := wd) (xC_o (W := 75) hpre2) ⟨by decide, Or.inl ⟨rfl, rfl⟩⟩) ⟨by decide, Or.inl ⟨rfl, rfl⟩⟩) ⟨by decide, Or.inl ⟨rfl, rfl⟩⟩).2)) (show aS 88 (ma_put (ma_put (ma_put S 67 (mI S 64 7).toNatClampNeg (.inl wd)) 68 (mI S 64 7).toNatClampNeg (.inl rf)) 64 7 (.inl ((mI S 64 7) + (1 : Int32)))) = a8 from by first | (exact (xC_n (c := 64) (k := 7) (x := ((mI S 64 7) + (1 : Int32))) (xC_n (c := 68) (k := (mI S 64 7).toNatClampNeg) (x := rf) (xC_n (c := 67) (k := (mI S 64 7).toNatClampNeg) (x := wd) (xC_o (W := 88) hpre2) ⟨by decide, Or.inr ⟨rfl, Or.inr ⟨rfl, by decide⟩⟩⟩) ⟨by decide, Or.inr ⟨rfl, Or.inr ⟨rfl, by decide⟩⟩⟩) ⟨by decide, Or.inr ⟨rfl, Or.inr ⟨rfl, by decide⟩⟩⟩).1.trans hpre3)) (show (mI (ma_put (ma_put (ma_put S 67 (mI S 64 7).toNatClampNeg (.inl wd)) 68 (mI S 64 7).toNatClampNeg (.inl rf)) 64 7 (.inl ((mI S 64 7) + (1 : Int32)))) 67) = zUp k67 kn.toNatClampNeg wd ∧ (mI (ma_put (ma_put (ma_put S 67 (mI S 64 7).toNatClampNeg (.inl wd)) 68 (mI S 64 7).toNatClampNeg (.inl rf)) 64 7 (.inl ((mI S 64 7) + (1 : Int32)))) 68) = zUp k68 kn.toNatClampNeg rf from by first | (refine ⟨up_67.trans ?_, up_68.trans ?_⟩; (rw [hpre4.1, hpre4.2.2]); (rw [hpre4.2.1, hpre4.2.2])))
          · skip
            have g33 := i_nlt h24
            exact KX 3 _ (by decide) hI (show (mI S 64 1).toInt = (mI S 94 3).toInt ∧ (mI S 64 7).toInt = (mI S 94 7).toInt ∧ (3 = 2 → (wd.toInt < 0 ∨ 8 < wd.toInt ∨ rf.toInt < 0 ∨ ((1 : Int32) <<< (wd &&& 31)).toInt ≤ rf.toInt)) ∧ (3 = 3 → ¬ (wd.toInt < 0 ∨ 8 < wd.toInt ∨ rf.toInt < 0 ∨ ((1 : Int32) <<< (wd &&& 31)).toInt ≤ rf.toInt) ∧ 16 ≤ (mI S 94 7).toInt) from by omega) (show xB S R from by first | (exact (xC_o (W := 75) hpre2).2)) (show aS 88 S = a8 from by first | (exact (xC_o (W := 88) hpre2).1.trans hpre3)) (show (mI S 67) = k67 ∧ (mI S 68) = k68 ∧ (mI S 64 7) = kn from by first | (exact hpre4))
        · skip
          have g34 := i_nlt h21
          exact KX 2 _ (by decide) hI (show (mI S 64 1).toInt = (mI S 94 3).toInt ∧ (mI S 64 7).toInt = (mI S 94 7).toInt ∧ (2 = 2 → (wd.toInt < 0 ∨ 8 < wd.toInt ∨ rf.toInt < 0 ∨ ((1 : Int32) <<< (wd &&& 31)).toInt ≤ rf.toInt)) ∧ (2 = 3 → ¬ (wd.toInt < 0 ∨ 8 < wd.toInt ∨ rf.toInt < 0 ∨ ((1 : Int32) <<< (wd &&& 31)).toInt ≤ rf.toInt) ∧ 16 ≤ (mI S 94 7).toInt) from by omega) (show xB S R from by first | (exact (xC_o (W := 75) hpre2).2)) (show aS 88 S = a8 from by first | (exact (xC_o (W := 88) hpre2).1.trans hpre3)) (show (mI S 67) = k67 ∧ (mI S 68) = k68 ∧ (mI S 64 7) = kn from by first | (exact hpre4))
/-! tokens, by their number -/
def zte (t : Nat → Int32) (n : Int) : Nat → Int
  | 0 => tk false t n (tk true t n 0)
  | k + 1 => tk false t n (tk true t n (zte t n k))
def zts (t : Nat → Int32) (n : Int) : Nat → Int
  | 0 => tk true t n 0
  | k + 1 => tk true t n (zte t n k)
def zVal (t : Nat → Int32) (n : Int) (c k : Nat) : Int := zPart c t (zts t n k) (zte t n k) 0
theorem zt_s {t : Nat → Int32} {n s p p' : Int} {k : Nat} (hs : s = tk true t n p') (hp : p' = p) (hk : p = zte t n k) : s = zts t n (k + 1) := by
  rw [hs, hp, hk]
  rfl
theorem zt_e {t : Nat → Int32} {n s e : Int} {k : Nat} (he : e = tk false t n s) (hs : s = zts t n k) : e = zte t n k := by
  rw [he, hs]
  cases k <;> rfl
