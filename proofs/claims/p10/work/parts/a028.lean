/-! from 95.k15 -/
/-! the collectors that sweep, the class (written by wip/tools/gen20.py) -/
theorem g_104_79_s_0 {X : Nat × (Nat → Int32)} {d w : Nat} {S : ma_S} {Q : Option ma_V ⊕ Nat → ma_S → Prop} (a : Int32) (b : Int32) (z : Int32) (hd : 2 ≤ d) (hw : 45 ≤ w) (hS : zT S) (h : ma_wp X (d - 1) (w - 23) 105 0 [(0, .inr (.inr (some 79))), (1, .inl a)] [] S (zi (fun v2 S1 => zT S1 ∧ (ma_wp X d w 104 10 [(0, .inr (.inr (some 79))), (2, .inl b), (3, .inl z), (4, .inl v2), (5, .inl (0 : Int32))] [] S1 Q)) (fun x S9 => Q (.inr x) S9))) : ma_wp X d w 104 0 [(0, .inr (.inr (some 79))), (1, .inl a), (2, .inl b), (3, .inl z)] [] S Q := by
  refine zw_push hm_104 dX8_fitFirst_0 (v := .inr (.inr (some 79))) rfl ?_
  refine zw_push hm_104 dX8_fitFirst_1 (v := .inl a) rfl ?_
  refine zw_cv hm_104 dX8_fitFirst_2 v_8_40_8 hm_105 [.inl a] [] rfl (zT_rt hS s_79 rfl) ⟨by omega, by omega⟩ rfl (zw_mono h (zi_go ?_ ?_))
  · intro v2 S1 hv
    obtain ⟨hS1, h⟩ := hv
    refine zw_sto hm_104 dX8_fitFirst_5 [(4, .inl v2), (0, .inr (.inr (some 79))), (1, .inl a), (2, .inl b), (3, .inl z)] rfl rfl rfl ?_
    refine zw_push hm_104 dX8_fitFirst_7 (v := .inl (0 : Int32)) rfl ?_
    refine zw_sto hm_104 dX8_fitFirst_8 [(5, .inl (0 : Int32)), (4, .inl v2), (0, .inr (.inr (some 79))), (1, .inl a), (2, .inl b), (3, .inl z)] rfl rfl rfl ?_
    exact zw_sub (ma_nd_of (ks := [0, 2, 3, 4, 5]) rfl (by decide)) (ma_nd_of (ks := [5, 4, 0, 1, 2, 3]) rfl (by decide)) (ma_le_cons rfl (ma_le_cons rfl (ma_le_cons rfl (ma_le_cons rfl (ma_le_cons rfl (ma_le_nil _)))))) h
  · intro x S9 hx
    exact ⟨by decide, hx⟩
theorem g_104_79_s_10 {X : Nat × (Nat → Int32)} {d w : Nat} {S : ma_S} {Q : Option ma_V ⊕ Nat → ma_S → Prop} (l2 : Int32) (l3 : Int32) (l4 : Int32) (l5 : Int32) (hd : 2 ≤ d) (hw : 45 ≤ w) (hS : zT S) (h : if (4500 : Int32) ≤ l5 then (Q (.inl (some (.inl (-1 : Int32)))) S) else (if l2 ≤ l4 then (Q (.inl (some (.inl (-1 : Int32)))) S) else (ma_wp X (d - 1) (w - 22) 106 0 [(0, .inr (.inr (some 79))), (1, .inl l4)] [] S (zi (fun v2 S1 => zT S1 ∧ (if (v2 - l4) < l3 then (ma_wp X (d - 1) (w - 23) 105 0 [(0, .inr (.inr (some 79))), (1, .inl v2)] [] (ma_put S1 69 12 (.inl ((mI S1 69 12) + (1 : Int32)))) (zi (fun v4 S3 => zT S3 ∧ (ma_wp X d w 104 10 [(0, .inr (.inr (some 79))), (2, .inl l2), (3, .inl l3), (4, .inl v4), (5, .inl (l5 + (1 : Int32)))] [] S3 Q)) (fun x S9 => Q (.inr x) S9))) else (Q (.inl (some (.inl l4))) (ma_put S1 69 12 (.inl ((mI S1 69 12) + (1 : Int32))))))) (fun x S9 => Q (.inr x) S9))))) : ma_wp X d w 104 10 [(0, .inr (.inr (some 79))), (2, .inl l2), (3, .inl l3), (4, .inl l4), (5, .inl l5)] [] S Q := by
  refine zw_push hm_104 dX8_fitFirst_10 (v := .inl l5) rfl ?_
  refine zw_push hm_104 dX8_fitFirst_12 (v := .inl (4500 : Int32)) rfl ?_
  refine zw_if2 hm_104 dX8_fitFirst_15 (t := 71) rfl zc2_ge ?_ ?_
  · intro hc
    rw [if_pos hc] at h
    refine zw_push hm_104 dX8_fitFirst_71 (v := .inl (-1 : Int32)) rfl ?_
    exact zw_iret hm_104 dX8_fitFirst_72 h
  · intro hc
    rw [if_neg hc] at h
    refine zw_push hm_104 dX8_fitFirst_18 (v := .inl l4) rfl ?_
    refine zw_push hm_104 dX8_fitFirst_20 (v := .inl l2) rfl ?_
    refine zw_if2 hm_104 dX8_fitFirst_21 (t := 71) rfl zc2_ge ?_ ?_
    · intro hc
      rw [if_pos hc] at h
      refine zw_push hm_104 dX8_fitFirst_71 (v := .inl (-1 : Int32)) rfl ?_
      exact zw_iret hm_104 dX8_fitFirst_72 h
    · intro hc
      rw [if_neg hc] at h
      refine zw_push hm_104 dX8_fitFirst_24 (v := .inr (.inr (some 79))) rfl ?_
      refine zw_push hm_104 dX8_fitFirst_25 (v := .inl l4) rfl ?_
      refine zw_cv hm_104 dX8_fitFirst_27 v_8_43_8 hm_106 [.inl l4] [] rfl (zT_rt hS s_79 rfl) ⟨by omega, by omega⟩ rfl (zw_mono h (zi_go ?_ ?_))
      · intro v2 S1 hv
        obtain ⟨hS1, h⟩ := hv
        refine zw_sto hm_104 dX8_fitFirst_30 [(6, .inl v2), (0, .inr (.inr (some 79))), (2, .inl l2), (3, .inl l3), (4, .inl l4), (5, .inl l5)] rfl rfl rfl ?_
        refine zw_push hm_104 dX8_fitFirst_32 (v := .inr (.inr (some 79))) rfl ?_
        refine zw_gf hm_104 dX8_fitFirst_33 (v := .inr (.inr (some 69))) (zT_is hS1 s_79) (zT_t hS1 s_79) rfl f_8_46_8 (zT_f hS1 r_79_0) ?_
        refine zw_stk hm_104 dX8_fitFirst_36 (st₉ := [.inr (.inr (some 69)), .inr (.inr (some 69))]) rfl rfl ?_
        refine zw_gf hm_104 dX8_fitFirst_37 (v := .inl (mI S1 69 12)) (zT_is hS1 s_69) (zT_t hS1 s_69) rfl f_8_67_7 rfl ?_
        refine zw_push hm_104 dX8_fitFirst_40 (v := .inl (1 : Int32)) rfl ?_
        refine zw_stk hm_104 dX8_fitFirst_41 (st₉ := [.inl ((mI S1 69 12) + (1 : Int32)), .inr (.inr (some 69))]) rfl rfl ?_
        refine zw_pf hm_104 dX8_fitFirst_42 (zT_is hS1 s_69) (zT_t hS1 s_69) p_8_67_7 zk_int ?_
        refine zw_push hm_104 dX8_fitFirst_45 (v := .inl v2) rfl ?_
        refine zw_push hm_104 dX8_fitFirst_47 (v := .inl l4) rfl ?_
        refine zw_stk hm_104 dX8_fitFirst_49 (st₉ := [.inl (v2 - l4)]) rfl rfl ?_
        refine zw_push hm_104 dX8_fitFirst_50 (v := .inl l3) rfl ?_
        refine zw_if2 hm_104 dX8_fitFirst_51 (t := 57) rfl zc2_lt ?_ ?_
        · intro hc
          rw [if_pos hc] at h
          refine zw_push hm_104 dX8_fitFirst_57 (v := .inr (.inr (some 79))) rfl ?_
          refine zw_push hm_104 dX8_fitFirst_58 (v := .inl v2) rfl ?_
          refine zw_cv hm_104 dX8_fitFirst_60 v_8_40_8 hm_105 [.inl v2] [] rfl (zT_rt (zT_pi hS1) s_79 rfl) ⟨by omega, by omega⟩ rfl (zw_mono h (zi_go ?_ ?_))
          · intro v4 S3 hv
            obtain ⟨hS3, h⟩ := hv
            refine zw_sto hm_104 dX8_fitFirst_63 [(4, .inl v4), (6, .inl v2), (0, .inr (.inr (some 79))), (2, .inl l2), (3, .inl l3), (5, .inl l5)] rfl rfl rfl ?_
            refine zw_sto hm_104 dX8_fitFirst_65 [(5, .inl (l5 + (1 : Int32))), (4, .inl v4), (6, .inl v2), (0, .inr (.inr (some 79))), (2, .inl l2), (3, .inl l3)] rfl rfl rfl ?_
            refine zw_goto hm_104 dX8_fitFirst_68 (t := 10) rfl ?_
            exact zw_sub (ma_nd_of (ks := [0, 2, 3, 4, 5]) rfl (by decide)) (ma_nd_of (ks := [5, 4, 6, 0, 2, 3]) rfl (by decide)) (ma_le_cons rfl (ma_le_cons rfl (ma_le_cons rfl (ma_le_cons rfl (ma_le_cons rfl (ma_le_nil _)))))) h
          · intro x S9 hx
            exact ⟨by decide, hx⟩
        · intro hc
          rw [if_neg hc] at h
          refine zw_push hm_104 dX8_fitFirst_54 (v := .inl l4) rfl ?_
          exact zw_iret hm_104 dX8_fitFirst_56 h
      · intro x S9 hx
        exact ⟨by decide, hx⟩
theorem lp_104_79_s_10 {X : Nat × (Nat → Int32)} {d w : Nat} {f : Nat → Nat → Int32} {r : Nat → Nat → Option Nat} {C Z N : Nat} {Q : Option ma_V ⊕ Nat → ma_S → Prop} {ab : Nat→Nat→Int32} {a : Int32} {b : Int32} {z : Int32} (hd : 2 ≤ d) (hw : 45 ≤ w) (K : ∀ v S₉, zJ79 f r C Z N S₉ → (-1 ≤ v.toInt ∧ v.toInt ≤ 1500) → (xB S₉ (mR S₉ 70)) → (aT 79 S₉ = ab) → (v.toInt = aFf ab z.toInt b.toInt 4500 (aN ab a.toInt)) → Q (.inl (some (.inl v))) S₉) : ∀ (n : Nat) (S : ma_S) (l2 : Int32) (l3 : Int32) (l4 : Int32) (l5 : Int32), (4500 - l5.toInt).toNat = n → zJ79 f r C Z N S → (0 ≤ l4.toInt) → (l4.toInt ≤ 1500) → (0 ≤ l5.toInt) → (xB S (mR S 70)) → (aT 79 S = ab) → (aFf ab l3.toInt l2.toInt (4500 - l5.toInt).toNat l4.toInt = aFf ab z.toInt b.toInt 4500 (aN ab a.toInt)) → ma_wp X d w 104 10 [(0, .inr (.inr (some 79))), (2, .inl l2), (3, .inl l3), (4, .inl l4), (5, .inl l5)] [] S Q := by
  intro n
  induction n using Nat.strongRecOn with
  | _ n IH =>
    intro S l2 l3 l4 l5 hmu hI  hi0 hi1 hi2 hi3 hi4 hi5
    refine g_104_79_s_10 l2 l3 l4 l5 (by omega) (by omega) (zG_T hI) ?_
    have li1 : (4500 : Int32).toInt = 4500 := rfl
    have b2 := i_bd l5
    refine zd (fun h3 => ?_) (fun h3 => ?_)
    · skip
      have g4 := i_le h3
      have li5 : (-1 : Int32).toInt = -1 := rfl
      exact K ((-1 : Int32)) _ hI (by omega) (show xB S (mR S 70) from by first | (exact xB_x (xC_o (W := 75) hi3).2)) (show aT 79 S = ab from by first | (exact (tC (P := 79) (xC_o (W := 75) hi3).1 (fun _ => rfl) (fun _ => rfl)).trans hi4)) (show (-1 : Int32).toInt = aFf ab z.toInt b.toInt 4500 (aN ab a.toInt) from by first | (have q := (aFf_st (by omega)).symm.trans hi5; exact q))
    · skip
      have g6 := i_nle h3
      have b7 := i_bd l2
      have b8 := i_bd l4
      refine zd (fun h9 => ?_) (fun h9 => ?_)
      · skip
        have g10 := i_le h9
        have li11 : (-1 : Int32).toInt = -1 := rfl
        exact K ((-1 : Int32)) _ hI (by omega) (show xB S (mR S 70) from by first | (exact xB_x (xC_o (W := 75) hi3).2)) (show aT 79 S = ab from by first | (exact (tC (P := 79) (xC_o (W := 75) hi3).1 (fun _ => rfl) (fun _ => rfl)).trans hi4)) (show (-1 : Int32).toInt = aFf ab z.toInt b.toInt 4500 (aN ab a.toInt) from by first | (have q := (aFf_st (by omega)).symm.trans hi5; exact q))
      · skip
        have g12 := i_nle h9
        refine sp_106_79_s (ab := (aT 79 S)) (l4) (by omega) (by omega) hI (show xB S (mR S 70) from by first | (exact xB_x (xC_o (W := 75) hi3).2)) (show aT 79 S = (aT 79 S) from by first | (exact rfl) | (exact hi4)) (by omega) (by omega) (fun v2 S1 eS_S1 hp_v2 rp0_S1 => zi_n ⟨(by rw [eS_S1]; exact zG_T hI), ?_⟩)
        replace eS_S1 := eS_S1.symm; subst eS_S1
        have rp0_S1 : v2.toInt = aE (aT 79 S) l4.toInt := rp0_S1
        have b13 := i_bd v2
        first | have e14 : (v2 - l4).toInt = v2.toInt - l4.toInt := i_sub (by omega) (by omega) | have b15 := i_bd (v2 - l4)
        have b16 := i_bd l3
        refine zd (fun h17 => ?_) (fun h17 => ?_)
        · skip
          have g18 := i_lt h17
          have hI19 : zJ79 f r C Z N (ma_put S 69 12 (.inl ((mI S 69 12) + (1 : Int32)))) := zG_fr hI rfl (by decide) (by decide) (by decide) trivial
          refine sp_105_79_s (ab := (aT 79 (ma_put S 69 12 (.inl ((mI S 69 12) + (1 : Int32)))))) (v2) (by omega) (by omega) hI19 (show xB (ma_put S 69 12 (.inl ((mI S 69 12) + (1 : Int32)))) (mR (ma_put S 69 12 (.inl ((mI S 69 12) + (1 : Int32)))) 70) from by first | (exact xB_x (xC_n (c := 69) (k := 12) (x := ((mI S 69 12) + (1 : Int32))) (xC_o (W := 75) hi3) ⟨by decide, Or.inl ⟨rfl, rfl⟩⟩).2)) (show aT 79 (ma_put S 69 12 (.inl ((mI S 69 12) + (1 : Int32)))) = (aT 79 (ma_put S 69 12 (.inl ((mI S 69 12) + (1 : Int32))))) from by first | (exact rfl) | (exact hi4)) (by omega) (fun v4 S3 eS_S3 hp_v4 rp0_S3 => zi_n ⟨(by rw [eS_S3]; exact zG_T hI19), ?_⟩)
          replace eS_S3 := eS_S3.symm; subst eS_S3
          have rp0_S3 : v4.toInt = aN (aT 79 (ma_put S 69 12 (.inl ((mI S 69 12) + (1 : Int32))))) v2.toInt := rp0_S3
          have b20 := i_bd v4
          first | have e21 : (l5 + (1 : Int32)).toInt = l5.toInt + (1) := i_addk rfl (by omega) (by omega) | have b22 := i_bd (l5 + (1 : Int32))
          exact IH _ (by omega) _ (l2) (l3) (v4) ((l5 + (1 : Int32))) rfl hI19 (by omega) (by omega) (by omega) (show xB (ma_put S 69 12 (.inl ((mI S 69 12) + (1 : Int32)))) (mR (ma_put S 69 12 (.inl ((mI S 69 12) + (1 : Int32)))) 70) from by first | (exact xB_x (xC_n (c := 69) (k := 12) (x := ((mI S 69 12) + (1 : Int32))) (xC_o (W := 75) hi3) ⟨by decide, Or.inl ⟨rfl, rfl⟩⟩).2)) (show aT 79 (ma_put S 69 12 (.inl ((mI S 69 12) + (1 : Int32)))) = ab from by first | (exact (tC (P := 79) (xC_n (c := 69) (k := 12) (x := ((mI S 69 12) + (1 : Int32))) (xC_o (W := 75) hi3) ⟨by decide, Or.inl ⟨rfl, rfl⟩⟩).1 (fun _ => rfl) (fun _ => rfl)).trans hi4)) (show aFf ab (l3).toInt (l2).toInt (4500 - ((l5 + (1 : Int32))).toInt).toNat (v4).toInt = aFf ab z.toInt b.toInt 4500 (aN ab a.toInt) from by first | (have e1 := rp0_S1; rw [hi4] at e1; have e2 := rp0_S3; rw [(tC (P := 79) (xC_n (c := 69) (k := 12) (x := ((mI S 69 12) + (1 : Int32))) (xC_o (W := 75) hi3) ⟨by decide, Or.inl ⟨rfl, rfl⟩⟩).1 (fun _ => rfl) (fun _ => rfl)), hi4, e1] at e2; rw [e2]; exact ((congrArg (fun q => aFf ab l3.toInt l2.toInt q l4.toInt) (show (4500 - l5.toInt).toNat = (4500 - (l5 + (1 : Int32)).toInt).toNat + 1 by omega)).trans (aFf_n (by omega) (by omega))).symm.trans hi5))
        · skip
          have g23 := i_nlt h17
          have hI24 : zJ79 f r C Z N (ma_put S 69 12 (.inl ((mI S 69 12) + (1 : Int32)))) := zG_fr hI rfl (by decide) (by decide) (by decide) trivial
          exact K (l4) _ hI24 (by omega) (show xB (ma_put S 69 12 (.inl ((mI S 69 12) + (1 : Int32)))) (mR (ma_put S 69 12 (.inl ((mI S 69 12) + (1 : Int32)))) 70) from by first | (exact xB_x (xC_n (c := 69) (k := 12) (x := ((mI S 69 12) + (1 : Int32))) (xC_o (W := 75) hi3) ⟨by decide, Or.inl ⟨rfl, rfl⟩⟩).2)) (show aT 79 (ma_put S 69 12 (.inl ((mI S 69 12) + (1 : Int32)))) = ab from by first | (exact (tC (P := 79) (xC_n (c := 69) (k := 12) (x := ((mI S 69 12) + (1 : Int32))) (xC_o (W := 75) hi3) ⟨by decide, Or.inl ⟨rfl, rfl⟩⟩).1 (fun _ => rfl) (fun _ => rfl)).trans hi4)) (show l4.toInt = aFf ab z.toInt b.toInt 4500 (aN ab a.toInt) from by first | (have e1 := rp0_S1; rw [hi4] at e1; have q := ((congrArg (fun q => aFf ab l3.toInt l2.toInt q l4.toInt) (show (4500 - l5.toInt).toNat = (4500 - l5.toInt - 1).toNat + 1 by omega)).trans (aFf_y (by omega) (by omega))).symm.trans hi5; exact q))
theorem sp_104_79_s {X : Nat × (Nat → Int32)} {d w : Nat} {f : Nat → Nat → Int32} {r : Nat → Nat → Option Nat} {C Z N : Nat} {Q : Option ma_V ⊕ Nat → ma_S → Prop} {ab : Nat→Nat→Int32} {S : ma_S} (a : Int32) (b : Int32) (z : Int32) (hd : 2 ≤ d) (hw : 45 ≤ w) (hI : zJ79 f r C Z N S) (hpre0 : xB S (mR S 70)) (hpre1 : aT 79 S = ab) (hpre2 : 0 ≤ a.toInt) (K : ∀ v S₉, zJ79 f r C Z N S₉ → (-1 ≤ v.toInt ∧ v.toInt ≤ 1500) → (xB S₉ (mR S₉ 70)) → (aT 79 S₉ = ab) → (v.toInt = aFf ab z.toInt b.toInt 4500 (aN ab a.toInt)) → Q (.inl (some (.inl v))) S₉) : ma_wp X d w 104 0 [(0, .inr (.inr (some 79))), (1, .inl a), (2, .inl b), (3, .inl z)] [] S Q := by
  refine g_104_79_s_0 a b z (by omega) (by omega) (zG_T hI) ?_
  have b1 := i_bd a
  refine sp_105_79_s (ab := (aT 79 S)) (a) (by omega) (by omega) hI (show xB S (mR S 70) from by first | (exact xB_x (xC_o (W := 75) hpre0).2)) (show aT 79 S = (aT 79 S) from by first | (exact rfl) | (exact hpre1)) (by omega) (fun v2 S1 eS_S1 hp_v2 rp0_S1 => zi_n ⟨(by rw [eS_S1]; exact zG_T hI), ?_⟩)
  replace eS_S1 := eS_S1.symm; subst eS_S1
  have rp0_S1 : v2.toInt = aN (aT 79 S) a.toInt := rp0_S1
  have b2 := i_bd b
  have b3 := i_bd z
  have b4 := i_bd v2
  have li5 : (0 : Int32).toInt = 0 := rfl
  exact lp_104_79_s_10 (by omega) (by omega) K _ _ (b) (z) (v2) ((0 : Int32)) rfl hI (by omega) (by omega) (by omega) (show xB S (mR S 70) from by first | (exact xB_x (xC_o (W := 75) hpre0).2)) (show aT 79 S = ab from by first | (exact (tC (P := 79) (xC_o (W := 75) hpre0).1 (fun _ => rfl) (fun _ => rfl)).trans hpre1)) (show aFf ab (z).toInt (b).toInt (4500 - ((0 : Int32)).toInt).toNat (v2).toInt = aFf ab z.toInt b.toInt 4500 (aN ab a.toInt) from by first | (rw [← hpre1, ← rp0_S1]; rfl))
theorem g_107_79_s_0 {X : Nat × (Nat → Int32)} {d w : Nat} {S : ma_S} {Q : Option ma_V ⊕ Nat → ma_S → Prop} (n : Int32) (hd : 3 ≤ d) (hw : 71 ≤ w) (hS : zT S) (h : ma_wp X (d - 1) (w - 26) 104 0 [(0, .inr (.inr (some 79))), (1, .inl (mI S 79 4)), (2, .inl (mI S 79 2)), (3, .inl n)] [] S (zi (fun v2 S1 => zT S1 ∧ (if v2 = (-1 : Int32) then (ma_wp X (d - 1) (w - 26) 104 0 [(0, .inr (.inr (some 79))), (1, .inl (0 : Int32)), (2, .inl (mI S1 79 4)), (3, .inl n)] [] S1 (zi (fun v4 S3 => zT S3 ∧ (Q (.inl (some (.inl v4))) S3)) (fun x S9 => Q (.inr x) S9))) else (Q (.inl (some (.inl v2))) S1))) (fun x S9 => Q (.inr x) S9))) : ma_wp X d w 107 0 [(0, .inr (.inr (some 79))), (1, .inl n)] [] S Q := by
  refine zw_push hm_107 dX8_fitNext_0 (v := .inr (.inr (some 79))) rfl ?_
  refine zw_push hm_107 dX8_fitNext_1 (v := .inr (.inr (some 79))) rfl ?_
  refine zw_gf hm_107 dX8_fitNext_2 (v := .inl (mI S 79 4)) (zT_is hS s_79) (zT_t hS s_79) rfl f_8_18_8 rfl ?_
  refine zw_push hm_107 dX8_fitNext_5 (v := .inr (.inr (some 79))) rfl ?_
  refine zw_gf hm_107 dX8_fitNext_6 (v := .inl (mI S 79 2)) (zT_is hS s_79) (zT_t hS s_79) rfl f_8_9_8 rfl ?_
  refine zw_push hm_107 dX8_fitNext_9 (v := .inl n) rfl ?_
  refine zw_cv hm_107 dX8_fitNext_10 v_8_56_8 hm_104 [.inl n, .inl (mI S 79 2), .inl (mI S 79 4)] [] rfl (zT_rt hS s_79 rfl) ⟨by omega, by omega⟩ rfl (zw_mono h (zi_go ?_ ?_))
  · intro v2 S1 hv
    obtain ⟨hS1, h⟩ := hv
    refine zw_sto hm_107 dX8_fitNext_13 [(2, .inl v2), (0, .inr (.inr (some 79))), (1, .inl n)] rfl rfl rfl ?_
    refine zw_push hm_107 dX8_fitNext_14 (v := .inl v2) rfl ?_
    refine zw_push hm_107 dX8_fitNext_15 (v := .inl (-1 : Int32)) rfl ?_
    refine zw_if2 hm_107 dX8_fitNext_16 (t := 23) rfl zc2_eq ?_ ?_
    · intro hc
      rw [if_pos hc] at h
      refine zw_push hm_107 dX8_fitNext_23 (v := .inr (.inr (some 79))) rfl ?_
      refine zw_push hm_107 dX8_fitNext_24 (v := .inl (0 : Int32)) rfl ?_
      refine zw_push hm_107 dX8_fitNext_25 (v := .inr (.inr (some 79))) rfl ?_
      refine zw_gf hm_107 dX8_fitNext_26 (v := .inl (mI S1 79 4)) (zT_is hS1 s_79) (zT_t hS1 s_79) rfl f_8_18_8 rfl ?_
      refine zw_push hm_107 dX8_fitNext_29 (v := .inl n) rfl ?_
      refine zw_cv hm_107 dX8_fitNext_30 v_8_56_8 hm_104 [.inl n, .inl (mI S1 79 4), .inl (0 : Int32)] [] rfl (zT_rt hS1 s_79 rfl) ⟨by omega, by omega⟩ rfl (zw_mono h (zi_go ?_ ?_))
      · intro v4 S3 hv
        obtain ⟨hS3, h⟩ := hv
        exact zw_iret hm_107 dX8_fitNext_33 h
      · intro x S9 hx
        exact ⟨by decide, hx⟩
    · intro hc
      rw [if_neg hc] at h
      refine zw_push hm_107 dX8_fitNext_19 (v := .inl v2) rfl ?_
      refine zw_goto hm_107 dX8_fitNext_20 (t := 33) rfl ?_
      exact zw_iret hm_107 dX8_fitNext_33 h
  · intro x S9 hx
    exact ⟨by decide, hx⟩
theorem sp_107_79_s {X : Nat × (Nat → Int32)} {d w : Nat} {f : Nat → Nat → Int32} {r : Nat → Nat → Option Nat} {C Z N : Nat} {Q : Option ma_V ⊕ Nat → ma_S → Prop} {ab : Nat→Nat→Int32} {S : ma_S} (n : Int32) (hd : 3 ≤ d) (hw : 71 ≤ w) (hI : zJ79 f r C Z N S) (hpre0 : xB S (mR S 70)) (hpre1 : aT 79 S = ab) (K : ∀ v S₉, zJ79 f r C Z N S₉ → (-1 ≤ v.toInt ∧ v.toInt ≤ 1500) → (xB S₉ (mR S₉ 70)) → (aT 79 S₉ = ab) → (v.toInt = aFx ab n.toInt) → Q (.inl (some (.inl v))) S₉) : ma_wp X d w 107 0 [(0, .inr (.inr (some 79))), (1, .inl n)] [] S Q := by
  refine g_107_79_s_0 n (by omega) (by omega) (zG_T hI) ?_
  have f1 := zG_s hI (0) (400000) (c := 79) (k := 4) (by decide)
  have f2 := zG_s hI (0) (1500) (c := 79) (k := 2) (by decide)
  have b3 := i_bd n
  refine sp_104_79_s (ab := (aT 79 S)) ((mI S 79 4)) ((mI S 79 2)) (n) (by omega) (by omega) hI (show xB S (mR S 70) from by first | (exact xB_x (xC_o (W := 75) hpre0).2)) (show aT 79 S = (aT 79 S) from by first | (exact rfl) | (exact (tC (P := 79) (xC_o (W := 75) hpre0).1 (fun _ => rfl) (fun _ => rfl)).trans hpre1)) (by omega) (fun v2 S1 hI_S1 hp_v2 rp0_S1 rp1_S1 rp2_S1 => zi_n ⟨zG_T hI_S1, ?_⟩)
  have rp0_S1 : xB S1 (mR S1 70) := rp0_S1
  have rp1_S1 : aT 79 S1 = (aT 79 S) := rp1_S1
  have rp2_S1 : v2.toInt = aFf (aT 79 S) n.toInt (mI S 79 2).toInt 4500 (aN (aT 79 S) (mI S 79 4).toInt) := rp2_S1
  have b4 := i_bd v2
  have li5 : (-1 : Int32).toInt = -1 := rfl
  refine zd (fun h6 => ?_) (fun h6 => ?_)
  · skip
    have g7 := i_eq h6
    have li8 : (0 : Int32).toInt = 0 := rfl
    have f9 := zG_s hI_S1 (0) (400000) (c := 79) (k := 4) (by decide)
    refine sp_104_79_s (ab := (aT 79 S1)) ((0 : Int32)) ((mI S1 79 4)) (n) (by omega) (by omega) hI_S1 (show xB S1 (mR S1 70) from by first | (exact xB_x (xC_o (W := 75) rp0_S1).2)) (show aT 79 S1 = (aT 79 S1) from by first | (exact rfl) | (exact (tC (P := 79) (xC_o (W := 75) rp0_S1).1 (fun _ => rfl) (fun _ => rfl)).trans rp1_S1)) (by omega) (fun v4 S3 hI_S3 hp_v4 rp0_S3 rp1_S3 rp2_S3 => zi_n ⟨zG_T hI_S3, ?_⟩)
    have rp0_S3 : xB S3 (mR S3 70) := rp0_S3
    have rp1_S3 : aT 79 S3 = (aT 79 S1) := rp1_S3
    have rp2_S3 : v4.toInt = aFf (aT 79 S1) n.toInt (mI S1 79 4).toInt 4500 (aN (aT 79 S1) (0 : Int32).toInt) := rp2_S3
    have b10 := i_bd v4
    exact K (v4) _ hI_S3 (by omega) (show xB S3 (mR S3 70) from by first | (exact xB_x (xC_o (W := 75) rp0_S3).2)) (show aT 79 S3 = ab from by first | (exact rp1_S3.trans (rp1_S1.trans (hpre1)))) (show v4.toInt = aFx ab n.toInt from by first | (have e0 : aT 79 S1 = aT 79 S := rp1_S1; have e1 := rp2_S1; have e2 := rp2_S3; rw [← (show aT 79 S1 87 2 = mI S1 79 4 from rfl), e0, (show aT 79 S 87 2 = mI S 79 4 from rfl), show (0 : Int32).toInt = 0 from rfl] at e2; rw [← hpre1]; unfold aFx; rw [(show aT 79 S 87 0 = mI S 79 2 from rfl), (show aT 79 S 87 2 = mI S 79 4 from rfl), ← e1]; rw [← e2]; exact (if_pos (by omega)).symm))
  · skip
    have g11 := i_ne h6
    exact K (v2) _ hI_S1 (by omega) (show xB S1 (mR S1 70) from by first | (exact xB_x (xC_o (W := 75) rp0_S1).2)) (show aT 79 S1 = ab from by first | (exact rp1_S1.trans (hpre1))) (show v2.toInt = aFx ab n.toInt from by first | (have e0 : aT 79 S1 = aT 79 S := rp1_S1; have e1 := rp2_S1; rw [← hpre1]; unfold aFx; rw [(show aT 79 S 87 0 = mI S 79 2 from rfl), (show aT 79 S 87 2 = mI S 79 4 from rfl), ← e1]; exact (if_neg (by omega)).symm))

/-! from 95.k16 -/
/-! the collectors that sweep, the class (written by wip/tools/gen20.py) -/
theorem g_108_79_s_0 {X : Nat × (Nat → Int32)} {d w : Nat} {S : ma_S} {Q : Option ma_V ⊕ Nat → ma_S → Prop} (z : Int32) (b : Int32) (hd : 2 ≤ d) (hw : 45 ≤ w) (hS : zT S) (h : ma_wp X (d - 1) (w - 23) 105 0 [(0, .inr (.inr (some 79))), (1, .inl (0 : Int32))] [] S (zi (fun v2 S1 => zT S1 ∧ (ma_wp X d w 108 15 [(0, .inr (.inr (some 79))), (1, .inl z), (2, .inl b), (3, .inl (-1 : Int32)), (4, .inl (0 : Int32)), (5, .inl v2), (6, .inl (0 : Int32))] [] S1 Q)) (fun x S9 => Q (.inr x) S9))) : ma_wp X d w 108 0 [(0, .inr (.inr (some 79))), (1, .inl z), (2, .inl b)] [] S Q := by
  refine zw_push hm_108 dX8_fitByLength_0 (v := .inl (-1 : Int32)) rfl ?_
  refine zw_sto hm_108 dX8_fitByLength_1 [(3, .inl (-1 : Int32)), (0, .inr (.inr (some 79))), (1, .inl z), (2, .inl b)] rfl rfl rfl ?_
  refine zw_push hm_108 dX8_fitByLength_2 (v := .inl (0 : Int32)) rfl ?_
  refine zw_sto hm_108 dX8_fitByLength_3 [(4, .inl (0 : Int32)), (3, .inl (-1 : Int32)), (0, .inr (.inr (some 79))), (1, .inl z), (2, .inl b)] rfl rfl rfl ?_
  refine zw_push hm_108 dX8_fitByLength_5 (v := .inr (.inr (some 79))) rfl ?_
  refine zw_push hm_108 dX8_fitByLength_6 (v := .inl (0 : Int32)) rfl ?_
  refine zw_cv hm_108 dX8_fitByLength_7 v_8_40_8 hm_105 [.inl (0 : Int32)] [] rfl (zT_rt hS s_79 rfl) ⟨by omega, by omega⟩ rfl (zw_mono h (zi_go ?_ ?_))
  · intro v2 S1 hv
    obtain ⟨hS1, h⟩ := hv
    refine zw_sto hm_108 dX8_fitByLength_10 [(5, .inl v2), (4, .inl (0 : Int32)), (3, .inl (-1 : Int32)), (0, .inr (.inr (some 79))), (1, .inl z), (2, .inl b)] rfl rfl rfl ?_
    refine zw_push hm_108 dX8_fitByLength_12 (v := .inl (0 : Int32)) rfl ?_
    refine zw_sto hm_108 dX8_fitByLength_13 [(6, .inl (0 : Int32)), (5, .inl v2), (4, .inl (0 : Int32)), (3, .inl (-1 : Int32)), (0, .inr (.inr (some 79))), (1, .inl z), (2, .inl b)] rfl rfl rfl ?_
    exact zw_sub (ma_nd_of (ks := [0, 1, 2, 3, 4, 5, 6]) rfl (by decide)) (ma_nd_of (ks := [6, 5, 4, 3, 0, 1, 2]) rfl (by decide)) (ma_le_cons rfl (ma_le_cons rfl (ma_le_cons rfl (ma_le_cons rfl (ma_le_cons rfl (ma_le_cons rfl (ma_le_cons rfl (ma_le_nil _)))))))) h
  · intro x S9 hx
    exact ⟨by decide, hx⟩
theorem g_108_79_s_15 {X : Nat × (Nat → Int32)} {d w : Nat} {S : ma_S} {Q : Option ma_V ⊕ Nat → ma_S → Prop} (l1 : Int32) (l2 : Int32) (l3 : Int32) (l4 : Int32) (l5 : Int32) (l6 : Int32) (hd : 2 ≤ d) (hw : 45 ≤ w) (hS : zT S) (h : if (4500 : Int32) ≤ l6 then (Q (.inl (some (.inl l3))) S) else (if (mI S 79 2) ≤ l5 then (Q (.inl (some (.inl l3))) S) else (ma_wp X (d - 1) (w - 22) 106 0 [(0, .inr (.inr (some 79))), (1, .inl l5)] [] S (zi (fun v2 S1 => zT S1 ∧ (if (v2 - l5) < l1 then (ma_wp X (d - 1) (w - 23) 105 0 [(0, .inr (.inr (some 79))), (1, .inl v2)] [] (ma_put S1 69 12 (.inl ((mI S1 69 12) + (1 : Int32)))) (zi (fun v4 S3 => zT S3 ∧ (ma_wp X d w 108 15 [(0, .inr (.inr (some 79))), (1, .inl l1), (2, .inl l2), (3, .inl l3), (4, .inl l4), (5, .inl v4), (6, .inl (l6 + (1 : Int32)))] [] S3 Q)) (fun x S9 => Q (.inr x) S9))) else (if l3 = (-1 : Int32) then (ma_wp X (d - 1) (w - 23) 105 0 [(0, .inr (.inr (some 79))), (1, .inl v2)] [] (ma_put S1 69 12 (.inl ((mI S1 69 12) + (1 : Int32)))) (zi (fun v6 S5 => zT S5 ∧ (ma_wp X d w 108 15 [(0, .inr (.inr (some 79))), (1, .inl l1), (2, .inl l2), (3, .inl l5), (4, .inl (v2 - l5)), (5, .inl v6), (6, .inl (l6 + (1 : Int32)))] [] S5 Q)) (fun x S9 => Q (.inr x) S9))) else (if l2 = 0 then (if (v2 - l5) ≤ l4 then (ma_wp X (d - 1) (w - 23) 105 0 [(0, .inr (.inr (some 79))), (1, .inl v2)] [] (ma_put S1 69 12 (.inl ((mI S1 69 12) + (1 : Int32)))) (zi (fun v8 S7 => zT S7 ∧ (ma_wp X d w 108 15 [(0, .inr (.inr (some 79))), (1, .inl l1), (2, .inl l2), (3, .inl l3), (4, .inl l4), (5, .inl v8), (6, .inl (l6 + (1 : Int32)))] [] S7 Q)) (fun x S9 => Q (.inr x) S9))) else (ma_wp X (d - 1) (w - 23) 105 0 [(0, .inr (.inr (some 79))), (1, .inl v2)] [] (ma_put S1 69 12 (.inl ((mI S1 69 12) + (1 : Int32)))) (zi (fun v10 S9 => zT S9 ∧ (ma_wp X d w 108 15 [(0, .inr (.inr (some 79))), (1, .inl l1), (2, .inl l2), (3, .inl l5), (4, .inl (v2 - l5)), (5, .inl v10), (6, .inl (l6 + (1 : Int32)))] [] S9 Q)) (fun x S9 => Q (.inr x) S9)))) else (if l4 ≤ (v2 - l5) then (ma_wp X (d - 1) (w - 23) 105 0 [(0, .inr (.inr (some 79))), (1, .inl v2)] [] (ma_put S1 69 12 (.inl ((mI S1 69 12) + (1 : Int32)))) (zi (fun v12 S11 => zT S11 ∧ (ma_wp X d w 108 15 [(0, .inr (.inr (some 79))), (1, .inl l1), (2, .inl l2), (3, .inl l3), (4, .inl l4), (5, .inl v12), (6, .inl (l6 + (1 : Int32)))] [] S11 Q)) (fun x S9 => Q (.inr x) S9))) else (ma_wp X (d - 1) (w - 23) 105 0 [(0, .inr (.inr (some 79))), (1, .inl v2)] [] (ma_put S1 69 12 (.inl ((mI S1 69 12) + (1 : Int32)))) (zi (fun v14 S13 => zT S13 ∧ (ma_wp X d w 108 15 [(0, .inr (.inr (some 79))), (1, .inl l1), (2, .inl l2), (3, .inl l5), (4, .inl (v2 - l5)), (5, .inl v14), (6, .inl (l6 + (1 : Int32)))] [] S13 Q)) (fun x S9 => Q (.inr x) S9)))))))) (fun x S9 => Q (.inr x) S9))))) : ma_wp X d w 108 15 [(0, .inr (.inr (some 79))), (1, .inl l1), (2, .inl l2), (3, .inl l3), (4, .inl l4), (5, .inl l5), (6, .inl l6)] [] S Q := by
  refine zw_push hm_108 dX8_fitByLength_15 (v := .inl l6) rfl ?_
  refine zw_push hm_108 dX8_fitByLength_17 (v := .inl (4500 : Int32)) rfl ?_
  refine zw_if2 hm_108 dX8_fitByLength_20 (t := 113) rfl zc2_ge ?_ ?_
  · intro hc
    rw [if_pos hc] at h
    refine zw_push hm_108 dX8_fitByLength_113 (v := .inl l3) rfl ?_
    exact zw_iret hm_108 dX8_fitByLength_114 h
  · intro hc
    rw [if_neg hc] at h
    refine zw_push hm_108 dX8_fitByLength_23 (v := .inl l5) rfl ?_
    refine zw_push hm_108 dX8_fitByLength_25 (v := .inr (.inr (some 79))) rfl ?_
    refine zw_gf hm_108 dX8_fitByLength_26 (v := .inl (mI S 79 2)) (zT_is hS s_79) (zT_t hS s_79) rfl f_8_9_8 rfl ?_
    refine zw_if2 hm_108 dX8_fitByLength_29 (t := 113) rfl zc2_ge ?_ ?_
    · intro hc
      rw [if_pos hc] at h
      refine zw_push hm_108 dX8_fitByLength_113 (v := .inl l3) rfl ?_
      exact zw_iret hm_108 dX8_fitByLength_114 h
    · intro hc
      rw [if_neg hc] at h
      refine zw_push hm_108 dX8_fitByLength_32 (v := .inr (.inr (some 79))) rfl ?_
      refine zw_push hm_108 dX8_fitByLength_33 (v := .inl l5) rfl ?_
      refine zw_cv hm_108 dX8_fitByLength_35 v_8_43_8 hm_106 [.inl l5] [] rfl (zT_rt hS s_79 rfl) ⟨by omega, by omega⟩ rfl (zw_mono h (zi_go ?_ ?_))
      · intro v2 S1 hv
        obtain ⟨hS1, h⟩ := hv
        refine zw_sto hm_108 dX8_fitByLength_38 [(7, .inl v2), (0, .inr (.inr (some 79))), (1, .inl l1), (2, .inl l2), (3, .inl l3), (4, .inl l4), (5, .inl l5), (6, .inl l6)] rfl rfl rfl ?_
        refine zw_push hm_108 dX8_fitByLength_40 (v := .inl v2) rfl ?_
        refine zw_push hm_108 dX8_fitByLength_42 (v := .inl l5) rfl ?_
        refine zw_stk hm_108 dX8_fitByLength_44 (st₉ := [.inl (v2 - l5)]) rfl rfl ?_
        refine zw_sto hm_108 dX8_fitByLength_45 [(8, .inl (v2 - l5)), (7, .inl v2), (0, .inr (.inr (some 79))), (1, .inl l1), (2, .inl l2), (3, .inl l3), (4, .inl l4), (5, .inl l5), (6, .inl l6)] rfl rfl rfl ?_
        refine zw_push hm_108 dX8_fitByLength_47 (v := .inr (.inr (some 79))) rfl ?_
        refine zw_gf hm_108 dX8_fitByLength_48 (v := .inr (.inr (some 69))) (zT_is hS1 s_79) (zT_t hS1 s_79) rfl f_8_46_8 (zT_f hS1 r_79_0) ?_
        refine zw_stk hm_108 dX8_fitByLength_51 (st₉ := [.inr (.inr (some 69)), .inr (.inr (some 69))]) rfl rfl ?_
        refine zw_gf hm_108 dX8_fitByLength_52 (v := .inl (mI S1 69 12)) (zT_is hS1 s_69) (zT_t hS1 s_69) rfl f_8_67_7 rfl ?_
        refine zw_push hm_108 dX8_fitByLength_55 (v := .inl (1 : Int32)) rfl ?_
        refine zw_stk hm_108 dX8_fitByLength_56 (st₉ := [.inl ((mI S1 69 12) + (1 : Int32)), .inr (.inr (some 69))]) rfl rfl ?_
        refine zw_pf hm_108 dX8_fitByLength_57 (zT_is hS1 s_69) (zT_t hS1 s_69) p_8_67_7 zk_int ?_
        refine zw_push hm_108 dX8_fitByLength_60 (v := .inl (v2 - l5)) rfl ?_
        refine zw_push hm_108 dX8_fitByLength_62 (v := .inl l1) rfl ?_
        refine zw_if2 hm_108 dX8_fitByLength_63 (t := 99) rfl zc2_lt ?_ ?_
        · intro hc
          rw [if_pos hc] at h
          refine zw_push hm_108 dX8_fitByLength_99 (v := .inr (.inr (some 79))) rfl ?_
          refine zw_push hm_108 dX8_fitByLength_100 (v := .inl v2) rfl ?_
          refine zw_cv hm_108 dX8_fitByLength_102 v_8_40_8 hm_105 [.inl v2] [] rfl (zT_rt (zT_pi hS1) s_79 rfl) ⟨by omega, by omega⟩ rfl (zw_mono h (zi_go ?_ ?_))
          · intro v4 S3 hv
            obtain ⟨hS3, h⟩ := hv
            refine zw_sto hm_108 dX8_fitByLength_105 [(5, .inl v4), (8, .inl (v2 - l5)), (7, .inl v2), (0, .inr (.inr (some 79))), (1, .inl l1), (2, .inl l2), (3, .inl l3), (4, .inl l4), (6, .inl l6)] rfl rfl rfl ?_
            refine zw_sto hm_108 dX8_fitByLength_107 [(6, .inl (l6 + (1 : Int32))), (5, .inl v4), (8, .inl (v2 - l5)), (7, .inl v2), (0, .inr (.inr (some 79))), (1, .inl l1), (2, .inl l2), (3, .inl l3), (4, .inl l4)] rfl rfl rfl ?_
            refine zw_goto hm_108 dX8_fitByLength_110 (t := 15) rfl ?_
            exact zw_sub (ma_nd_of (ks := [0, 1, 2, 3, 4, 5, 6]) rfl (by decide)) (ma_nd_of (ks := [6, 5, 8, 7, 0, 1, 2, 3, 4]) rfl (by decide)) (ma_le_cons rfl (ma_le_cons rfl (ma_le_cons rfl (ma_le_cons rfl (ma_le_cons rfl (ma_le_cons rfl (ma_le_cons rfl (ma_le_nil _)))))))) h
          · intro x S9 hx
            exact ⟨by decide, hx⟩
        · intro hc
          rw [if_neg hc] at h
          refine zw_push hm_108 dX8_fitByLength_66 (v := .inl l3) rfl ?_
          refine zw_push hm_108 dX8_fitByLength_67 (v := .inl (-1 : Int32)) rfl ?_
          refine zw_if2 hm_108 dX8_fitByLength_68 (t := 92) rfl zc2_eq ?_ ?_
          · intro hc
            rw [if_pos hc] at h
            refine zw_push hm_108 dX8_fitByLength_92 (v := .inl l5) rfl ?_
            refine zw_sto hm_108 dX8_fitByLength_94 [(3, .inl l5), (8, .inl (v2 - l5)), (7, .inl v2), (0, .inr (.inr (some 79))), (1, .inl l1), (2, .inl l2), (4, .inl l4), (5, .inl l5), (6, .inl l6)] rfl rfl rfl ?_
            refine zw_push hm_108 dX8_fitByLength_95 (v := .inl (v2 - l5)) rfl ?_
            refine zw_sto hm_108 dX8_fitByLength_97 [(4, .inl (v2 - l5)), (3, .inl l5), (8, .inl (v2 - l5)), (7, .inl v2), (0, .inr (.inr (some 79))), (1, .inl l1), (2, .inl l2), (5, .inl l5), (6, .inl l6)] rfl rfl rfl ?_
            refine zw_push hm_108 dX8_fitByLength_99 (v := .inr (.inr (some 79))) rfl ?_
            refine zw_push hm_108 dX8_fitByLength_100 (v := .inl v2) rfl ?_
            refine zw_cv hm_108 dX8_fitByLength_102 v_8_40_8 hm_105 [.inl v2] [] rfl (zT_rt (zT_pi hS1) s_79 rfl) ⟨by omega, by omega⟩ rfl (zw_mono h (zi_go ?_ ?_))
            · intro v6 S5 hv
              obtain ⟨hS5, h⟩ := hv
              refine zw_sto hm_108 dX8_fitByLength_105 [(5, .inl v6), (4, .inl (v2 - l5)), (3, .inl l5), (8, .inl (v2 - l5)), (7, .inl v2), (0, .inr (.inr (some 79))), (1, .inl l1), (2, .inl l2), (6, .inl l6)] rfl rfl rfl ?_
              refine zw_sto hm_108 dX8_fitByLength_107 [(6, .inl (l6 + (1 : Int32))), (5, .inl v6), (4, .inl (v2 - l5)), (3, .inl l5), (8, .inl (v2 - l5)), (7, .inl v2), (0, .inr (.inr (some 79))), (1, .inl l1), (2, .inl l2)] rfl rfl rfl ?_
              refine zw_goto hm_108 dX8_fitByLength_110 (t := 15) rfl ?_
              exact zw_sub (ma_nd_of (ks := [0, 1, 2, 3, 4, 5, 6]) rfl (by decide)) (ma_nd_of (ks := [6, 5, 4, 3, 8, 7, 0, 1, 2]) rfl (by decide)) (ma_le_cons rfl (ma_le_cons rfl (ma_le_cons rfl (ma_le_cons rfl (ma_le_cons rfl (ma_le_cons rfl (ma_le_cons rfl (ma_le_nil _)))))))) h
            · intro x S9 hx
              exact ⟨by decide, hx⟩
          · intro hc
            rw [if_neg hc] at h
            refine zw_push hm_108 dX8_fitByLength_71 (v := .inl l2) rfl ?_
            refine zw_if0 hm_108 dX8_fitByLength_72 (t := 85) rfl zc0_eq ?_ ?_
            · intro hc
              rw [if_pos hc] at h
              refine zw_push hm_108 dX8_fitByLength_85 (v := .inl (v2 - l5)) rfl ?_
              refine zw_push hm_108 dX8_fitByLength_87 (v := .inl l4) rfl ?_
              refine zw_if2 hm_108 dX8_fitByLength_89 (t := 99) rfl zc2_le ?_ ?_
              · intro hc
                rw [if_pos hc] at h
                refine zw_push hm_108 dX8_fitByLength_99 (v := .inr (.inr (some 79))) rfl ?_
                refine zw_push hm_108 dX8_fitByLength_100 (v := .inl v2) rfl ?_
                refine zw_cv hm_108 dX8_fitByLength_102 v_8_40_8 hm_105 [.inl v2] [] rfl (zT_rt (zT_pi hS1) s_79 rfl) ⟨by omega, by omega⟩ rfl (zw_mono h (zi_go ?_ ?_))
                · intro v8 S7 hv
                  obtain ⟨hS7, h⟩ := hv
                  refine zw_sto hm_108 dX8_fitByLength_105 [(5, .inl v8), (8, .inl (v2 - l5)), (7, .inl v2), (0, .inr (.inr (some 79))), (1, .inl l1), (2, .inl l2), (3, .inl l3), (4, .inl l4), (6, .inl l6)] rfl rfl rfl ?_
                  refine zw_sto hm_108 dX8_fitByLength_107 [(6, .inl (l6 + (1 : Int32))), (5, .inl v8), (8, .inl (v2 - l5)), (7, .inl v2), (0, .inr (.inr (some 79))), (1, .inl l1), (2, .inl l2), (3, .inl l3), (4, .inl l4)] rfl rfl rfl ?_
                  refine zw_goto hm_108 dX8_fitByLength_110 (t := 15) rfl ?_
                  exact zw_sub (ma_nd_of (ks := [0, 1, 2, 3, 4, 5, 6]) rfl (by decide)) (ma_nd_of (ks := [6, 5, 8, 7, 0, 1, 2, 3, 4]) rfl (by decide)) (ma_le_cons rfl (ma_le_cons rfl (ma_le_cons rfl (ma_le_cons rfl (ma_le_cons rfl (ma_le_cons rfl (ma_le_cons rfl (ma_le_nil _)))))))) h
                · intro x S9 hx
                  exact ⟨by decide, hx⟩
              · intro hc
                rw [if_neg hc] at h
                refine zw_push hm_108 dX8_fitByLength_92 (v := .inl l5) rfl ?_
                refine zw_sto hm_108 dX8_fitByLength_94 [(3, .inl l5), (8, .inl (v2 - l5)), (7, .inl v2), (0, .inr (.inr (some 79))), (1, .inl l1), (2, .inl l2), (4, .inl l4), (5, .inl l5), (6, .inl l6)] rfl rfl rfl ?_
                refine zw_push hm_108 dX8_fitByLength_95 (v := .inl (v2 - l5)) rfl ?_
                refine zw_sto hm_108 dX8_fitByLength_97 [(4, .inl (v2 - l5)), (3, .inl l5), (8, .inl (v2 - l5)), (7, .inl v2), (0, .inr (.inr (some 79))), (1, .inl l1), (2, .inl l2), (5, .inl l5), (6, .inl l6)] rfl rfl rfl ?_
                refine zw_push hm_108 dX8_fitByLength_99 (v := .inr (.inr (some 79))) rfl ?_
                refine zw_push hm_108 dX8_fitByLength_100 (v := .inl v2) rfl ?_
                refine zw_cv hm_108 dX8_fitByLength_102 v_8_40_8 hm_105 [.inl v2] [] rfl (zT_rt (zT_pi hS1) s_79 rfl) ⟨by omega, by omega⟩ rfl (zw_mono h (zi_go ?_ ?_))
                · intro v10 S9 hv
                  obtain ⟨hS9, h⟩ := hv
                  refine zw_sto hm_108 dX8_fitByLength_105 [(5, .inl v10), (4, .inl (v2 - l5)), (3, .inl l5), (8, .inl (v2 - l5)), (7, .inl v2), (0, .inr (.inr (some 79))), (1, .inl l1), (2, .inl l2), (6, .inl l6)] rfl rfl rfl ?_
                  refine zw_sto hm_108 dX8_fitByLength_107 [(6, .inl (l6 + (1 : Int32))), (5, .inl v10), (4, .inl (v2 - l5)), (3, .inl l5), (8, .inl (v2 - l5)), (7, .inl v2), (0, .inr (.inr (some 79))), (1, .inl l1), (2, .inl l2)] rfl rfl rfl ?_
                  refine zw_goto hm_108 dX8_fitByLength_110 (t := 15) rfl ?_
                  exact zw_sub (ma_nd_of (ks := [0, 1, 2, 3, 4, 5, 6]) rfl (by decide)) (ma_nd_of (ks := [6, 5, 4, 3, 8, 7, 0, 1, 2]) rfl (by decide)) (ma_le_cons rfl (ma_le_cons rfl (ma_le_cons rfl (ma_le_cons rfl (ma_le_cons rfl (ma_le_cons rfl (ma_le_cons rfl (ma_le_nil _)))))))) h
                · intro x S9 hx
                  exact ⟨by decide, hx⟩
            · intro hc
              rw [if_neg hc] at h
              refine zw_push hm_108 dX8_fitByLength_75 (v := .inl (v2 - l5)) rfl ?_
              refine zw_push hm_108 dX8_fitByLength_77 (v := .inl l4) rfl ?_
              refine zw_if2 hm_108 dX8_fitByLength_79 (t := 99) rfl zc2_ge ?_ ?_
              · intro hc
                rw [if_pos hc] at h
                refine zw_push hm_108 dX8_fitByLength_99 (v := .inr (.inr (some 79))) rfl ?_
                refine zw_push hm_108 dX8_fitByLength_100 (v := .inl v2) rfl ?_
                refine zw_cv hm_108 dX8_fitByLength_102 v_8_40_8 hm_105 [.inl v2] [] rfl (zT_rt (zT_pi hS1) s_79 rfl) ⟨by omega, by omega⟩ rfl (zw_mono h (zi_go ?_ ?_))
                · intro v12 S11 hv
                  obtain ⟨hS11, h⟩ := hv
                  refine zw_sto hm_108 dX8_fitByLength_105 [(5, .inl v12), (8, .inl (v2 - l5)), (7, .inl v2), (0, .inr (.inr (some 79))), (1, .inl l1), (2, .inl l2), (3, .inl l3), (4, .inl l4), (6, .inl l6)] rfl rfl rfl ?_
                  refine zw_sto hm_108 dX8_fitByLength_107 [(6, .inl (l6 + (1 : Int32))), (5, .inl v12), (8, .inl (v2 - l5)), (7, .inl v2), (0, .inr (.inr (some 79))), (1, .inl l1), (2, .inl l2), (3, .inl l3), (4, .inl l4)] rfl rfl rfl ?_
                  refine zw_goto hm_108 dX8_fitByLength_110 (t := 15) rfl ?_
                  exact zw_sub (ma_nd_of (ks := [0, 1, 2, 3, 4, 5, 6]) rfl (by decide)) (ma_nd_of (ks := [6, 5, 8, 7, 0, 1, 2, 3, 4]) rfl (by decide)) (ma_le_cons rfl (ma_le_cons rfl (ma_le_cons rfl (ma_le_cons rfl (ma_le_cons rfl (ma_le_cons rfl (ma_le_cons rfl (ma_le_nil _)))))))) h
                · intro x S9 hx
                  exact ⟨by decide, hx⟩
              · intro hc
                rw [if_neg hc] at h
                refine zw_goto hm_108 dX8_fitByLength_82 (t := 92) rfl ?_
                refine zw_push hm_108 dX8_fitByLength_92 (v := .inl l5) rfl ?_
                refine zw_sto hm_108 dX8_fitByLength_94 [(3, .inl l5), (8, .inl (v2 - l5)), (7, .inl v2), (0, .inr (.inr (some 79))), (1, .inl l1), (2, .inl l2), (4, .inl l4), (5, .inl l5), (6, .inl l6)] rfl rfl rfl ?_
                refine zw_push hm_108 dX8_fitByLength_95 (v := .inl (v2 - l5)) rfl ?_
                refine zw_sto hm_108 dX8_fitByLength_97 [(4, .inl (v2 - l5)), (3, .inl l5), (8, .inl (v2 - l5)), (7, .inl v2), (0, .inr (.inr (some 79))), (1, .inl l1), (2, .inl l2), (5, .inl l5), (6, .inl l6)] rfl rfl rfl ?_
                refine zw_push hm_108 dX8_fitByLength_99 (v := .inr (.inr (some 79))) rfl ?_
                refine zw_push hm_108 dX8_fitByLength_100 (v := .inl v2) rfl ?_
                refine zw_cv hm_108 dX8_fitByLength_102 v_8_40_8 hm_105 [.inl v2] [] rfl (zT_rt (zT_pi hS1) s_79 rfl) ⟨by omega, by omega⟩ rfl (zw_mono h (zi_go ?_ ?_))
                · intro v14 S13 hv
                  obtain ⟨hS13, h⟩ := hv
                  refine zw_sto hm_108 dX8_fitByLength_105 [(5, .inl v14), (4, .inl (v2 - l5)), (3, .inl l5), (8, .inl (v2 - l5)), (7, .inl v2), (0, .inr (.inr (some 79))), (1, .inl l1), (2, .inl l2), (6, .inl l6)] rfl rfl rfl ?_
                  refine zw_sto hm_108 dX8_fitByLength_107 [(6, .inl (l6 + (1 : Int32))), (5, .inl v14), (4, .inl (v2 - l5)), (3, .inl l5), (8, .inl (v2 - l5)), (7, .inl v2), (0, .inr (.inr (some 79))), (1, .inl l1), (2, .inl l2)] rfl rfl rfl ?_
                  refine zw_goto hm_108 dX8_fitByLength_110 (t := 15) rfl ?_
                  exact zw_sub (ma_nd_of (ks := [0, 1, 2, 3, 4, 5, 6]) rfl (by decide)) (ma_nd_of (ks := [6, 5, 4, 3, 8, 7, 0, 1, 2]) rfl (by decide)) (ma_le_cons rfl (ma_le_cons rfl (ma_le_cons rfl (ma_le_cons rfl (ma_le_cons rfl (ma_le_cons rfl (ma_le_cons rfl (ma_le_nil _)))))))) h
                · intro x S9 hx
                  exact ⟨by decide, hx⟩
      · intro x S9 hx
        exact ⟨by decide, hx⟩
theorem lp_108_79_s_15 {X : Nat × (Nat → Int32)} {d w : Nat} {f : Nat → Nat → Int32} {r : Nat → Nat → Option Nat} {C Z N : Nat} {Q : Option ma_V ⊕ Nat → ma_S → Prop} {ab : Nat→Nat→Int32} {z : Int32} {b : Int32} (hd : 2 ≤ d) (hw : 45 ≤ w) (K : ∀ v S₉, zJ79 f r C Z N S₉ → (-1 ≤ v.toInt ∧ v.toInt ≤ 1500) → (xB S₉ (mR S₉ 70)) → (aT 79 S₉ = ab) → (v.toInt = aFl ab z.toInt b 4500 (aN ab 0) (-1) 0) → Q (.inl (some (.inl v))) S₉) : ∀ (n : Nat) (S : ma_S) (l1 : Int32) (l2 : Int32) (l3 : Int32) (l4 : Int32) (l5 : Int32) (l6 : Int32), (4500 - l6.toInt).toNat = n → zJ79 f r C Z N S → (0 ≤ l5.toInt) → (l5.toInt ≤ 1500) → (0 ≤ l6.toInt) → (-1 ≤ l3.toInt) → (l3.toInt ≤ 1500) → (xB S (mR S 70)) → (aT 79 S = ab) → (aFl ab l1.toInt l2 (4500 - l6.toInt).toNat l5.toInt l3.toInt l4.toInt = aFl ab z.toInt b 4500 (aN ab 0) (-1) 0) → ma_wp X d w 108 15 [(0, .inr (.inr (some 79))), (1, .inl l1), (2, .inl l2), (3, .inl l3), (4, .inl l4), (5, .inl l5), (6, .inl l6)] [] S Q := by
  intro n
  induction n using Nat.strongRecOn with
  | _ n IH =>
    intro S l1 l2 l3 l4 l5 l6 hmu hI  hi0 hi1 hi2 hi3 hi4 hi5 hi6 hi7
    refine g_108_79_s_15 l1 l2 l3 l4 l5 l6 (by omega) (by omega) (zG_T hI) ?_
    have li1 : (4500 : Int32).toInt = 4500 := rfl
    have b2 := i_bd l6
    refine zd (fun h3 => ?_) (fun h3 => ?_)
    · skip
      have g4 := i_le h3
      have b5 := i_bd l3
      exact K (l3) _ hI (by omega) (show xB S (mR S 70) from by first | (exact xB_x (xC_o (W := 75) hi5).2)) (show aT 79 S = ab from by first | (exact (tC (P := 79) (xC_o (W := 75) hi5).1 (fun _ => rfl) (fun _ => rfl)).trans hi6)) (show l3.toInt = aFl ab z.toInt b 4500 (aN ab 0) (-1) 0 from by first | (have r0 := congrArg Int32.toInt (show aT 79 S 87 0 = mI S 79 2 from rfl); rw [hi6] at r0; have q := (aFl_st (by omega)).symm.trans hi7; exact q))
    · skip
      have g6 := i_nle h3
      have f7 := zG_s hI (0) (1500) (c := 79) (k := 2) (by decide)
      have b8 := i_bd l5
      refine zd (fun h9 => ?_) (fun h9 => ?_)
      · skip
        have g10 := i_le h9
        have b11 := i_bd l3
        exact K (l3) _ hI (by omega) (show xB S (mR S 70) from by first | (exact xB_x (xC_o (W := 75) hi5).2)) (show aT 79 S = ab from by first | (exact (tC (P := 79) (xC_o (W := 75) hi5).1 (fun _ => rfl) (fun _ => rfl)).trans hi6)) (show l3.toInt = aFl ab z.toInt b 4500 (aN ab 0) (-1) 0 from by first | (have r0 := congrArg Int32.toInt (show aT 79 S 87 0 = mI S 79 2 from rfl); rw [hi6] at r0; have q := (aFl_st (by omega)).symm.trans hi7; exact q))
      · skip
        have g12 := i_nle h9
        refine sp_106_79_s (ab := (aT 79 S)) (l5) (by omega) (by omega) hI (show xB S (mR S 70) from by first | (exact xB_x (xC_o (W := 75) hi5).2)) (show aT 79 S = (aT 79 S) from by first | (exact rfl) | (exact hi6)) (by omega) (by omega) (fun v2 S1 eS_S1 hp_v2 rp0_S1 => zi_n ⟨(by rw [eS_S1]; exact zG_T hI), ?_⟩)
        replace eS_S1 := eS_S1.symm; subst eS_S1
        have rp0_S1 : v2.toInt = aE (aT 79 S) l5.toInt := rp0_S1
        have b13 := i_bd v2
        first | have e14 : (v2 - l5).toInt = v2.toInt - l5.toInt := i_sub (by omega) (by omega) | have b15 := i_bd (v2 - l5)
        have b16 := i_bd l1
        refine zd (fun h17 => ?_) (fun h17 => ?_)
        · skip
          have g18 := i_lt h17
          have hI19 : zJ79 f r C Z N (ma_put S 69 12 (.inl ((mI S 69 12) + (1 : Int32)))) := zG_fr hI rfl (by decide) (by decide) (by decide) trivial
          refine sp_105_79_s (ab := (aT 79 (ma_put S 69 12 (.inl ((mI S 69 12) + (1 : Int32)))))) (v2) (by omega) (by omega) hI19 (show xB (ma_put S 69 12 (.inl ((mI S 69 12) + (1 : Int32)))) (mR (ma_put S 69 12 (.inl ((mI S 69 12) + (1 : Int32)))) 70) from by first | (exact xB_x (xC_n (c := 69) (k := 12) (x := ((mI S 69 12) + (1 : Int32))) (xC_o (W := 75) hi5) ⟨by decide, Or.inl ⟨rfl, rfl⟩⟩).2)) (show aT 79 (ma_put S 69 12 (.inl ((mI S 69 12) + (1 : Int32)))) = (aT 79 (ma_put S 69 12 (.inl ((mI S 69 12) + (1 : Int32))))) from by first | (exact rfl) | (exact hi6)) (by omega) (fun v4 S3 eS_S3 hp_v4 rp0_S3 => zi_n ⟨(by rw [eS_S3]; exact zG_T hI19), ?_⟩)
          replace eS_S3 := eS_S3.symm; subst eS_S3
          have rp0_S3 : v4.toInt = aN (aT 79 (ma_put S 69 12 (.inl ((mI S 69 12) + (1 : Int32))))) v2.toInt := rp0_S3
          have b20 := i_bd l2
          have b21 := i_bd l3
          have b22 := i_bd l4
          have b23 := i_bd v4
          first | have e24 : (l6 + (1 : Int32)).toInt = l6.toInt + (1) := i_addk rfl (by omega) (by omega) | have b25 := i_bd (l6 + (1 : Int32))
          exact IH _ (by omega) _ (l1) (l2) (l3) (l4) (v4) ((l6 + (1 : Int32))) rfl hI19 (by omega) (by omega) (by omega) (by omega) (by omega) (show xB (ma_put S 69 12 (.inl ((mI S 69 12) + (1 : Int32)))) (mR (ma_put S 69 12 (.inl ((mI S 69 12) + (1 : Int32)))) 70) from by first | (exact xB_x (xC_n (c := 69) (k := 12) (x := ((mI S 69 12) + (1 : Int32))) (xC_o (W := 75) hi5) ⟨by decide, Or.inl ⟨rfl, rfl⟩⟩).2)) (show aT 79 (ma_put S 69 12 (.inl ((mI S 69 12) + (1 : Int32)))) = ab from by first | (exact (tC (P := 79) (xC_n (c := 69) (k := 12) (x := ((mI S 69 12) + (1 : Int32))) (xC_o (W := 75) hi5) ⟨by decide, Or.inl ⟨rfl, rfl⟩⟩).1 (fun _ => rfl) (fun _ => rfl)).trans hi6)) (show aFl ab (l1).toInt (l2) (4500 - ((l6 + (1 : Int32))).toInt).toNat (v4).toInt (l3).toInt (l4).toInt = aFl ab z.toInt b 4500 (aN ab 0) (-1) 0 from by first | (have r0 := congrArg Int32.toInt (show aT 79 S 87 0 = mI S 79 2 from rfl); rw [hi6] at r0; have e1 := rp0_S1; rw [hi6] at e1; have e2 := rp0_S3; rw [(tC (P := 79) (xC_n (c := 69) (k := 12) (x := ((mI S 69 12) + (1 : Int32))) (xC_o (W := 75) hi5) ⟨by decide, Or.inl ⟨rfl, rfl⟩⟩).1 (fun _ => rfl) (fun _ => rfl)), hi6, e1] at e2; rw [e2]; exact ((congrArg (fun q => aFl ab l1.toInt l2 q l5.toInt l3.toInt l4.toInt) (show (4500 - l6.toInt).toNat = (4500 - (l6 + (1 : Int32)).toInt).toNat + 1 by omega)).trans (aFl_n (by omega) (Or.inl (by omega)))).symm.trans hi7) | (have r0 := congrArg Int32.toInt (show aT 79 S 87 0 = mI S 79 2 from rfl); rw [hi6] at r0; have e1 := rp0_S1; rw [hi6] at e1; have e2 := rp0_S3; rw [(tC (P := 79) (xC_n (c := 69) (k := 12) (x := ((mI S 69 12) + (1 : Int32))) (xC_o (W := 75) hi5) ⟨by decide, Or.inl ⟨rfl, rfl⟩⟩).1 (fun _ => rfl) (fun _ => rfl)), hi6, e1] at e2; rw [e2]; exact ((congrArg (fun q => aFl ab l1.toInt l2 q l5.toInt l3.toInt l4.toInt) (show (4500 - l6.toInt).toNat = (4500 - (l6 + (1 : Int32)).toInt).toNat + 1 by omega)).trans (aFl_n (by omega) (Or.inr ⟨by omega, Or.inl ⟨by assumption, by omega⟩⟩))).symm.trans hi7) | (have r0 := congrArg Int32.toInt (show aT 79 S 87 0 = mI S 79 2 from rfl); rw [hi6] at r0; have e1 := rp0_S1; rw [hi6] at e1; have e2 := rp0_S3; rw [(tC (P := 79) (xC_n (c := 69) (k := 12) (x := ((mI S 69 12) + (1 : Int32))) (xC_o (W := 75) hi5) ⟨by decide, Or.inl ⟨rfl, rfl⟩⟩).1 (fun _ => rfl) (fun _ => rfl)), hi6, e1] at e2; rw [e2]; exact ((congrArg (fun q => aFl ab l1.toInt l2 q l5.toInt l3.toInt l4.toInt) (show (4500 - l6.toInt).toNat = (4500 - (l6 + (1 : Int32)).toInt).toNat + 1 by omega)).trans (aFl_n (by omega) (Or.inr ⟨by omega, Or.inr ⟨by assumption, by omega⟩⟩))).symm.trans hi7))
        · skip
          have g26 := i_nlt h17
          have b27 := i_bd l3
          have li28 : (-1 : Int32).toInt = -1 := rfl
          refine zd (fun h29 => ?_) (fun h29 => ?_)
          · skip
            have g30 := i_eq h29
            have hI31 : zJ79 f r C Z N (ma_put S 69 12 (.inl ((mI S 69 12) + (1 : Int32)))) := zG_fr hI rfl (by decide) (by decide) (by decide) trivial
            refine sp_105_79_s (ab := (aT 79 (ma_put S 69 12 (.inl ((mI S 69 12) + (1 : Int32)))))) (v2) (by omega) (by omega) hI31 (show xB (ma_put S 69 12 (.inl ((mI S 69 12) + (1 : Int32)))) (mR (ma_put S 69 12 (.inl ((mI S 69 12) + (1 : Int32)))) 70) from by first | (exact xB_x (xC_n (c := 69) (k := 12) (x := ((mI S 69 12) + (1 : Int32))) (xC_o (W := 75) hi5) ⟨by decide, Or.inl ⟨rfl, rfl⟩⟩).2)) (show aT 79 (ma_put S 69 12 (.inl ((mI S 69 12) + (1 : Int32)))) = (aT 79 (ma_put S 69 12 (.inl ((mI S 69 12) + (1 : Int32))))) from by first | (exact rfl) | (exact hi6)) (by omega) (fun v6 S5 eS_S5 hp_v6 rp0_S5 => zi_n ⟨(by rw [eS_S5]; exact zG_T hI31), ?_⟩)
            replace eS_S5 := eS_S5.symm; subst eS_S5
            have rp0_S5 : v6.toInt = aN (aT 79 (ma_put S 69 12 (.inl ((mI S 69 12) + (1 : Int32))))) v2.toInt := rp0_S5
            have b32 := i_bd l2
            have b33 := i_bd v6
            first | have e34 : (l6 + (1 : Int32)).toInt = l6.toInt + (1) := i_addk rfl (by omega) (by omega) | have b35 := i_bd (l6 + (1 : Int32))
            exact IH _ (by omega) _ (l1) (l2) (l5) ((v2 - l5)) (v6) ((l6 + (1 : Int32))) rfl hI31 (by omega) (by omega) (by omega) (by omega) (by omega) (show xB (ma_put S 69 12 (.inl ((mI S 69 12) + (1 : Int32)))) (mR (ma_put S 69 12 (.inl ((mI S 69 12) + (1 : Int32)))) 70) from by first | (exact xB_x (xC_n (c := 69) (k := 12) (x := ((mI S 69 12) + (1 : Int32))) (xC_o (W := 75) hi5) ⟨by decide, Or.inl ⟨rfl, rfl⟩⟩).2)) (show aT 79 (ma_put S 69 12 (.inl ((mI S 69 12) + (1 : Int32)))) = ab from by first | (exact (tC (P := 79) (xC_n (c := 69) (k := 12) (x := ((mI S 69 12) + (1 : Int32))) (xC_o (W := 75) hi5) ⟨by decide, Or.inl ⟨rfl, rfl⟩⟩).1 (fun _ => rfl) (fun _ => rfl)).trans hi6)) (show aFl ab (l1).toInt (l2) (4500 - ((l6 + (1 : Int32))).toInt).toNat (v6).toInt (l5).toInt ((v2 - l5)).toInt = aFl ab z.toInt b 4500 (aN ab 0) (-1) 0 from by first | (have r0 := congrArg Int32.toInt (show aT 79 S 87 0 = mI S 79 2 from rfl); rw [hi6] at r0; have e1 := rp0_S1; rw [hi6] at e1; have e2 := rp0_S5; rw [(tC (P := 79) (xC_n (c := 69) (k := 12) (x := ((mI S 69 12) + (1 : Int32))) (xC_o (W := 75) hi5) ⟨by decide, Or.inl ⟨rfl, rfl⟩⟩).1 (fun _ => rfl) (fun _ => rfl)), hi6, e1] at e2; rw [e2]; rw [show ((v2 - l5)).toInt = aE ab l5.toInt - l5.toInt from by omega]; exact ((congrArg (fun q => aFl ab l1.toInt l2 q l5.toInt l3.toInt l4.toInt) (show (4500 - l6.toInt).toNat = (4500 - (l6 + (1 : Int32)).toInt).toNat + 1 by omega)).trans (aFl_y (by omega) (by omega) (Or.inl (by omega)))).symm.trans hi7) | (have r0 := congrArg Int32.toInt (show aT 79 S 87 0 = mI S 79 2 from rfl); rw [hi6] at r0; have e1 := rp0_S1; rw [hi6] at e1; have e2 := rp0_S5; rw [(tC (P := 79) (xC_n (c := 69) (k := 12) (x := ((mI S 69 12) + (1 : Int32))) (xC_o (W := 75) hi5) ⟨by decide, Or.inl ⟨rfl, rfl⟩⟩).1 (fun _ => rfl) (fun _ => rfl)), hi6, e1] at e2; rw [e2]; rw [show ((v2 - l5)).toInt = aE ab l5.toInt - l5.toInt from by omega]; exact ((congrArg (fun q => aFl ab l1.toInt l2 q l5.toInt l3.toInt l4.toInt) (show (4500 - l6.toInt).toNat = (4500 - (l6 + (1 : Int32)).toInt).toNat + 1 by omega)).trans (aFl_y (by omega) (by omega) (Or.inr (Or.inl ⟨by assumption, by omega⟩)))).symm.trans hi7) | (have r0 := congrArg Int32.toInt (show aT 79 S 87 0 = mI S 79 2 from rfl); rw [hi6] at r0; have e1 := rp0_S1; rw [hi6] at e1; have e2 := rp0_S5; rw [(tC (P := 79) (xC_n (c := 69) (k := 12) (x := ((mI S 69 12) + (1 : Int32))) (xC_o (W := 75) hi5) ⟨by decide, Or.inl ⟨rfl, rfl⟩⟩).1 (fun _ => rfl) (fun _ => rfl)), hi6, e1] at e2; rw [e2]; rw [show ((v2 - l5)).toInt = aE ab l5.toInt - l5.toInt from by omega]; exact ((congrArg (fun q => aFl ab l1.toInt l2 q l5.toInt l3.toInt l4.toInt) (show (4500 - l6.toInt).toNat = (4500 - (l6 + (1 : Int32)).toInt).toNat + 1 by omega)).trans (aFl_y (by omega) (by omega) (Or.inr (Or.inr ⟨by assumption, by omega⟩)))).symm.trans hi7))
          · skip
            have g36 := i_ne h29
            have b37 := i_bd l2
            have li38 : (0 : Int32).toInt = 0 := rfl
            refine zd (fun h39 => ?_) (fun h39 => ?_)
            · skip
              have g40 := i_eq h39
              have b41 := i_bd l4
              refine zd (fun h42 => ?_) (fun h42 => ?_)
              · skip
                have g43 := i_le h42
                have hI44 : zJ79 f r C Z N (ma_put S 69 12 (.inl ((mI S 69 12) + (1 : Int32)))) := zG_fr hI rfl (by decide) (by decide) (by decide) trivial
                refine sp_105_79_s (ab := (aT 79 (ma_put S 69 12 (.inl ((mI S 69 12) + (1 : Int32)))))) (v2) (by omega) (by omega) hI44 (show xB (ma_put S 69 12 (.inl ((mI S 69 12) + (1 : Int32)))) (mR (ma_put S 69 12 (.inl ((mI S 69 12) + (1 : Int32)))) 70) from by first | (exact xB_x (xC_n (c := 69) (k := 12) (x := ((mI S 69 12) + (1 : Int32))) (xC_o (W := 75) hi5) ⟨by decide, Or.inl ⟨rfl, rfl⟩⟩).2)) (show aT 79 (ma_put S 69 12 (.inl ((mI S 69 12) + (1 : Int32)))) = (aT 79 (ma_put S 69 12 (.inl ((mI S 69 12) + (1 : Int32))))) from by first | (exact rfl) | (exact hi6)) (by omega) (fun v8 S7 eS_S7 hp_v8 rp0_S7 => zi_n ⟨(by rw [eS_S7]; exact zG_T hI44), ?_⟩)
                replace eS_S7 := eS_S7.symm; subst eS_S7
                have rp0_S7 : v8.toInt = aN (aT 79 (ma_put S 69 12 (.inl ((mI S 69 12) + (1 : Int32))))) v2.toInt := rp0_S7
                have b45 := i_bd v8
                first | have e46 : (l6 + (1 : Int32)).toInt = l6.toInt + (1) := i_addk rfl (by omega) (by omega) | have b47 := i_bd (l6 + (1 : Int32))
                exact IH _ (by omega) _ (l1) (l2) (l3) (l4) (v8) ((l6 + (1 : Int32))) rfl hI44 (by omega) (by omega) (by omega) (by omega) (by omega) (show xB (ma_put S 69 12 (.inl ((mI S 69 12) + (1 : Int32)))) (mR (ma_put S 69 12 (.inl ((mI S 69 12) + (1 : Int32)))) 70) from by first | (exact xB_x (xC_n (c := 69) (k := 12) (x := ((mI S 69 12) + (1 : Int32))) (xC_o (W := 75) hi5) ⟨by decide, Or.inl ⟨rfl, rfl⟩⟩).2)) (show aT 79 (ma_put S 69 12 (.inl ((mI S 69 12) + (1 : Int32)))) = ab from by first | (exact (tC (P := 79) (xC_n (c := 69) (k := 12) (x := ((mI S 69 12) + (1 : Int32))) (xC_o (W := 75) hi5) ⟨by decide, Or.inl ⟨rfl, rfl⟩⟩).1 (fun _ => rfl) (fun _ => rfl)).trans hi6)) (show aFl ab (l1).toInt (l2) (4500 - ((l6 + (1 : Int32))).toInt).toNat (v8).toInt (l3).toInt (l4).toInt = aFl ab z.toInt b 4500 (aN ab 0) (-1) 0 from by first | (have r0 := congrArg Int32.toInt (show aT 79 S 87 0 = mI S 79 2 from rfl); rw [hi6] at r0; have e1 := rp0_S1; rw [hi6] at e1; have e2 := rp0_S7; rw [(tC (P := 79) (xC_n (c := 69) (k := 12) (x := ((mI S 69 12) + (1 : Int32))) (xC_o (W := 75) hi5) ⟨by decide, Or.inl ⟨rfl, rfl⟩⟩).1 (fun _ => rfl) (fun _ => rfl)), hi6, e1] at e2; rw [e2]; exact ((congrArg (fun q => aFl ab l1.toInt l2 q l5.toInt l3.toInt l4.toInt) (show (4500 - l6.toInt).toNat = (4500 - (l6 + (1 : Int32)).toInt).toNat + 1 by omega)).trans (aFl_n (by omega) (Or.inl (by omega)))).symm.trans hi7) | (have r0 := congrArg Int32.toInt (show aT 79 S 87 0 = mI S 79 2 from rfl); rw [hi6] at r0; have e1 := rp0_S1; rw [hi6] at e1; have e2 := rp0_S7; rw [(tC (P := 79) (xC_n (c := 69) (k := 12) (x := ((mI S 69 12) + (1 : Int32))) (xC_o (W := 75) hi5) ⟨by decide, Or.inl ⟨rfl, rfl⟩⟩).1 (fun _ => rfl) (fun _ => rfl)), hi6, e1] at e2; rw [e2]; exact ((congrArg (fun q => aFl ab l1.toInt l2 q l5.toInt l3.toInt l4.toInt) (show (4500 - l6.toInt).toNat = (4500 - (l6 + (1 : Int32)).toInt).toNat + 1 by omega)).trans (aFl_n (by omega) (Or.inr ⟨by omega, Or.inl ⟨by assumption, by omega⟩⟩))).symm.trans hi7) | (have r0 := congrArg Int32.toInt (show aT 79 S 87 0 = mI S 79 2 from rfl); rw [hi6] at r0; have e1 := rp0_S1; rw [hi6] at e1; have e2 := rp0_S7; rw [(tC (P := 79) (xC_n (c := 69) (k := 12) (x := ((mI S 69 12) + (1 : Int32))) (xC_o (W := 75) hi5) ⟨by decide, Or.inl ⟨rfl, rfl⟩⟩).1 (fun _ => rfl) (fun _ => rfl)), hi6, e1] at e2; rw [e2]; exact ((congrArg (fun q => aFl ab l1.toInt l2 q l5.toInt l3.toInt l4.toInt) (show (4500 - l6.toInt).toNat = (4500 - (l6 + (1 : Int32)).toInt).toNat + 1 by omega)).trans (aFl_n (by omega) (Or.inr ⟨by omega, Or.inr ⟨by assumption, by omega⟩⟩))).symm.trans hi7))
              · skip
                have g48 := i_nle h42
                have hI49 : zJ79 f r C Z N (ma_put S 69 12 (.inl ((mI S 69 12) + (1 : Int32)))) := zG_fr hI rfl (by decide) (by decide) (by decide) trivial
                refine sp_105_79_s (ab := (aT 79 (ma_put S 69 12 (.inl ((mI S 69 12) + (1 : Int32)))))) (v2) (by omega) (by omega) hI49 (show xB (ma_put S 69 12 (.inl ((mI S 69 12) + (1 : Int32)))) (mR (ma_put S 69 12 (.inl ((mI S 69 12) + (1 : Int32)))) 70) from by first | (exact xB_x (xC_n (c := 69) (k := 12) (x := ((mI S 69 12) + (1 : Int32))) (xC_o (W := 75) hi5) ⟨by decide, Or.inl ⟨rfl, rfl⟩⟩).2)) (show aT 79 (ma_put S 69 12 (.inl ((mI S 69 12) + (1 : Int32)))) = (aT 79 (ma_put S 69 12 (.inl ((mI S 69 12) + (1 : Int32))))) from by first | (exact rfl) | (exact hi6)) (by omega) (fun v10 S9 eS_S9 hp_v10 rp0_S9 => zi_n ⟨(by rw [eS_S9]; exact zG_T hI49), ?_⟩)
                replace eS_S9 := eS_S9.symm; subst eS_S9
                have rp0_S9 : v10.toInt = aN (aT 79 (ma_put S 69 12 (.inl ((mI S 69 12) + (1 : Int32))))) v2.toInt := rp0_S9
                have b50 := i_bd v10
                first | have e51 : (l6 + (1 : Int32)).toInt = l6.toInt + (1) := i_addk rfl (by omega) (by omega) | have b52 := i_bd (l6 + (1 : Int32))
                exact IH _ (by omega) _ (l1) (l2) (l5) ((v2 - l5)) (v10) ((l6 + (1 : Int32))) rfl hI49 (by omega) (by omega) (by omega) (by omega) (by omega) (show xB (ma_put S 69 12 (.inl ((mI S 69 12) + (1 : Int32)))) (mR (ma_put S 69 12 (.inl ((mI S 69 12) + (1 : Int32)))) 70) from by first | (exact xB_x (xC_n (c := 69) (k := 12) (x := ((mI S 69 12) + (1 : Int32))) (xC_o (W := 75) hi5) ⟨by decide, Or.inl ⟨rfl, rfl⟩⟩).2)) (show aT 79 (ma_put S 69 12 (.inl ((mI S 69 12) + (1 : Int32)))) = ab from by first | (exact (tC (P := 79) (xC_n (c := 69) (k := 12) (x := ((mI S 69 12) + (1 : Int32))) (xC_o (W := 75) hi5) ⟨by decide, Or.inl ⟨rfl, rfl⟩⟩).1 (fun _ => rfl) (fun _ => rfl)).trans hi6)) (show aFl ab (l1).toInt (l2) (4500 - ((l6 + (1 : Int32))).toInt).toNat (v10).toInt (l5).toInt ((v2 - l5)).toInt = aFl ab z.toInt b 4500 (aN ab 0) (-1) 0 from by first | (have r0 := congrArg Int32.toInt (show aT 79 S 87 0 = mI S 79 2 from rfl); rw [hi6] at r0; have e1 := rp0_S1; rw [hi6] at e1; have e2 := rp0_S9; rw [(tC (P := 79) (xC_n (c := 69) (k := 12) (x := ((mI S 69 12) + (1 : Int32))) (xC_o (W := 75) hi5) ⟨by decide, Or.inl ⟨rfl, rfl⟩⟩).1 (fun _ => rfl) (fun _ => rfl)), hi6, e1] at e2; rw [e2]; rw [show ((v2 - l5)).toInt = aE ab l5.toInt - l5.toInt from by omega]; exact ((congrArg (fun q => aFl ab l1.toInt l2 q l5.toInt l3.toInt l4.toInt) (show (4500 - l6.toInt).toNat = (4500 - (l6 + (1 : Int32)).toInt).toNat + 1 by omega)).trans (aFl_y (by omega) (by omega) (Or.inl (by omega)))).symm.trans hi7) | (have r0 := congrArg Int32.toInt (show aT 79 S 87 0 = mI S 79 2 from rfl); rw [hi6] at r0; have e1 := rp0_S1; rw [hi6] at e1; have e2 := rp0_S9; rw [(tC (P := 79) (xC_n (c := 69) (k := 12) (x := ((mI S 69 12) + (1 : Int32))) (xC_o (W := 75) hi5) ⟨by decide, Or.inl ⟨rfl, rfl⟩⟩).1 (fun _ => rfl) (fun _ => rfl)), hi6, e1] at e2; rw [e2]; rw [show ((v2 - l5)).toInt = aE ab l5.toInt - l5.toInt from by omega]; exact ((congrArg (fun q => aFl ab l1.toInt l2 q l5.toInt l3.toInt l4.toInt) (show (4500 - l6.toInt).toNat = (4500 - (l6 + (1 : Int32)).toInt).toNat + 1 by omega)).trans (aFl_y (by omega) (by omega) (Or.inr (Or.inl ⟨by assumption, by omega⟩)))).symm.trans hi7) | (have r0 := congrArg Int32.toInt (show aT 79 S 87 0 = mI S 79 2 from rfl); rw [hi6] at r0; have e1 := rp0_S1; rw [hi6] at e1; have e2 := rp0_S9; rw [(tC (P := 79) (xC_n (c := 69) (k := 12) (x := ((mI S 69 12) + (1 : Int32))) (xC_o (W := 75) hi5) ⟨by decide, Or.inl ⟨rfl, rfl⟩⟩).1 (fun _ => rfl) (fun _ => rfl)), hi6, e1] at e2; rw [e2]; rw [show ((v2 - l5)).toInt = aE ab l5.toInt - l5.toInt from by omega]; exact ((congrArg (fun q => aFl ab l1.toInt l2 q l5.toInt l3.toInt l4.toInt) (show (4500 - l6.toInt).toNat = (4500 - (l6 + (1 : Int32)).toInt).toNat + 1 by omega)).trans (aFl_y (by omega) (by omega) (Or.inr (Or.inr ⟨by assumption, by omega⟩)))).symm.trans hi7))
            · skip
              have g53 := i_ne h39
              have b54 := i_bd l4
              refine zd (fun h55 => ?_) (fun h55 => ?_)
              · skip
                have g56 := i_le h55
                have hI57 : zJ79 f r C Z N (ma_put S 69 12 (.inl ((mI S 69 12) + (1 : Int32)))) := zG_fr hI rfl (by decide) (by decide) (by decide) trivial
                refine sp_105_79_s (ab := (aT 79 (ma_put S 69 12 (.inl ((mI S 69 12) + (1 : Int32)))))) (v2) (by omega) (by omega) hI57 (show xB (ma_put S 69 12 (.inl ((mI S 69 12) + (1 : Int32)))) (mR (ma_put S 69 12 (.inl ((mI S 69 12) + (1 : Int32)))) 70) from by first | (exact xB_x (xC_n (c := 69) (k := 12) (x := ((mI S 69 12) + (1 : Int32))) (xC_o (W := 75) hi5) ⟨by decide, Or.inl ⟨rfl, rfl⟩⟩).2)) (show aT 79 (ma_put S 69 12 (.inl ((mI S 69 12) + (1 : Int32)))) = (aT 79 (ma_put S 69 12 (.inl ((mI S 69 12) + (1 : Int32))))) from by first | (exact rfl) | (exact hi6)) (by omega) (fun v12 S11 eS_S11 hp_v12 rp0_S11 => zi_n ⟨(by rw [eS_S11]; exact zG_T hI57), ?_⟩)
                replace eS_S11 := eS_S11.symm; subst eS_S11
                have rp0_S11 : v12.toInt = aN (aT 79 (ma_put S 69 12 (.inl ((mI S 69 12) + (1 : Int32))))) v2.toInt := rp0_S11
                have b58 := i_bd v12
                first | have e59 : (l6 + (1 : Int32)).toInt = l6.toInt + (1) := i_addk rfl (by omega) (by omega) | have b60 := i_bd (l6 + (1 : Int32))
                exact IH _ (by omega) _ (l1) (l2) (l3) (l4) (v12) ((l6 + (1 : Int32))) rfl hI57 (by omega) (by omega) (by omega) (by omega) (by omega) (show xB (ma_put S 69 12 (.inl ((mI S 69 12) + (1 : Int32)))) (mR (ma_put S 69 12 (.inl ((mI S 69 12) + (1 : Int32)))) 70) from by first | (exact xB_x (xC_n (c := 69) (k := 12) (x := ((mI S 69 12) + (1 : Int32))) (xC_o (W := 75) hi5) ⟨by decide, Or.inl ⟨rfl, rfl⟩⟩).2)) (show aT 79 (ma_put S 69 12 (.inl ((mI S 69 12) + (1 : Int32)))) = ab from by first | (exact (tC (P := 79) (xC_n (c := 69) (k := 12) (x := ((mI S 69 12) + (1 : Int32))) (xC_o (W := 75) hi5) ⟨by decide, Or.inl ⟨rfl, rfl⟩⟩).1 (fun _ => rfl) (fun _ => rfl)).trans hi6)) (show aFl ab (l1).toInt (l2) (4500 - ((l6 + (1 : Int32))).toInt).toNat (v12).toInt (l3).toInt (l4).toInt = aFl ab z.toInt b 4500 (aN ab 0) (-1) 0 from by first | (have r0 := congrArg Int32.toInt (show aT 79 S 87 0 = mI S 79 2 from rfl); rw [hi6] at r0; have e1 := rp0_S1; rw [hi6] at e1; have e2 := rp0_S11; rw [(tC (P := 79) (xC_n (c := 69) (k := 12) (x := ((mI S 69 12) + (1 : Int32))) (xC_o (W := 75) hi5) ⟨by decide, Or.inl ⟨rfl, rfl⟩⟩).1 (fun _ => rfl) (fun _ => rfl)), hi6, e1] at e2; rw [e2]; exact ((congrArg (fun q => aFl ab l1.toInt l2 q l5.toInt l3.toInt l4.toInt) (show (4500 - l6.toInt).toNat = (4500 - (l6 + (1 : Int32)).toInt).toNat + 1 by omega)).trans (aFl_n (by omega) (Or.inl (by omega)))).symm.trans hi7) | (have r0 := congrArg Int32.toInt (show aT 79 S 87 0 = mI S 79 2 from rfl); rw [hi6] at r0; have e1 := rp0_S1; rw [hi6] at e1; have e2 := rp0_S11; rw [(tC (P := 79) (xC_n (c := 69) (k := 12) (x := ((mI S 69 12) + (1 : Int32))) (xC_o (W := 75) hi5) ⟨by decide, Or.inl ⟨rfl, rfl⟩⟩).1 (fun _ => rfl) (fun _ => rfl)), hi6, e1] at e2; rw [e2]; exact ((congrArg (fun q => aFl ab l1.toInt l2 q l5.toInt l3.toInt l4.toInt) (show (4500 - l6.toInt).toNat = (4500 - (l6 + (1 : Int32)).toInt).toNat + 1 by omega)).trans (aFl_n (by omega) (Or.inr ⟨by omega, Or.inl ⟨by assumption, by omega⟩⟩))).symm.trans hi7) | (have r0 := congrArg Int32.toInt (show aT 79 S 87 0 = mI S 79 2 from rfl); rw [hi6] at r0; have e1 := rp0_S1; rw [hi6] at e1; have e2 := rp0_S11; rw [(tC (P := 79) (xC_n (c := 69) (k := 12) (x := ((mI S 69 12) + (1 : Int32))) (xC_o (W := 75) hi5) ⟨by decide, Or.inl ⟨rfl, rfl⟩⟩).1 (fun _ => rfl) (fun _ => rfl)), hi6, e1] at e2; rw [e2]; exact ((congrArg (fun q => aFl ab l1.toInt l2 q l5.toInt l3.toInt l4.toInt) (show (4500 - l6.toInt).toNat = (4500 - (l6 + (1 : Int32)).toInt).toNat + 1 by omega)).trans (aFl_n (by omega) (Or.inr ⟨by omega, Or.inr ⟨by assumption, by omega⟩⟩))).symm.trans hi7))
              · skip
                have g61 := i_nle h55
                have hI62 : zJ79 f r C Z N (ma_put S 69 12 (.inl ((mI S 69 12) + (1 : Int32)))) := zG_fr hI rfl (by decide) (by decide) (by decide) trivial
                refine sp_105_79_s (ab := (aT 79 (ma_put S 69 12 (.inl ((mI S 69 12) + (1 : Int32)))))) (v2) (by omega) (by omega) hI62 (show xB (ma_put S 69 12 (.inl ((mI S 69 12) + (1 : Int32)))) (mR (ma_put S 69 12 (.inl ((mI S 69 12) + (1 : Int32)))) 70) from by first | (exact xB_x (xC_n (c := 69) (k := 12) (x := ((mI S 69 12) + (1 : Int32))) (xC_o (W := 75) hi5) ⟨by decide, Or.inl ⟨rfl, rfl⟩⟩).2)) (show aT 79 (ma_put S 69 12 (.inl ((mI S 69 12) + (1 : Int32)))) = (aT 79 (ma_put S 69 12 (.inl ((mI S 69 12) + (1 : Int32))))) from by first | (exact rfl) | (exact hi6)) (by omega) (fun v14 S13 eS_S13 hp_v14 rp0_S13 => zi_n ⟨(by rw [eS_S13]; exact zG_T hI62), ?_⟩)
                replace eS_S13 := eS_S13.symm; subst eS_S13
                have rp0_S13 : v14.toInt = aN (aT 79 (ma_put S 69 12 (.inl ((mI S 69 12) + (1 : Int32))))) v2.toInt := rp0_S13
                have b63 := i_bd v14
                first | have e64 : (l6 + (1 : Int32)).toInt = l6.toInt + (1) := i_addk rfl (by omega) (by omega) | have b65 := i_bd (l6 + (1 : Int32))
                exact IH _ (by omega) _ (l1) (l2) (l5) ((v2 - l5)) (v14) ((l6 + (1 : Int32))) rfl hI62 (by omega) (by omega) (by omega) (by omega) (by omega) (show xB (ma_put S 69 12 (.inl ((mI S 69 12) + (1 : Int32)))) (mR (ma_put S 69 12 (.inl ((mI S 69 12) + (1 : Int32)))) 70) from by first | (exact xB_x (xC_n (c := 69) (k := 12) (x := ((mI S 69 12) + (1 : Int32))) (xC_o (W := 75) hi5) ⟨by decide, Or.inl ⟨rfl, rfl⟩⟩).2)) (show aT 79 (ma_put S 69 12 (.inl ((mI S 69 12) + (1 : Int32)))) = ab from by first | (exact (tC (P := 79) (xC_n (c := 69) (k := 12) (x := ((mI S 69 12) + (1 : Int32))) (xC_o (W := 75) hi5) ⟨by decide, Or.inl ⟨rfl, rfl⟩⟩).1 (fun _ => rfl) (fun _ => rfl)).trans hi6)) (show aFl ab (l1).toInt (l2) (4500 - ((l6 + (1 : Int32))).toInt).toNat (v14).toInt (l5).toInt ((v2 - l5)).toInt = aFl ab z.toInt b 4500 (aN ab 0) (-1) 0 from by first | (have r0 := congrArg Int32.toInt (show aT 79 S 87 0 = mI S 79 2 from rfl); rw [hi6] at r0; have e1 := rp0_S1; rw [hi6] at e1; have e2 := rp0_S13; rw [(tC (P := 79) (xC_n (c := 69) (k := 12) (x := ((mI S 69 12) + (1 : Int32))) (xC_o (W := 75) hi5) ⟨by decide, Or.inl ⟨rfl, rfl⟩⟩).1 (fun _ => rfl) (fun _ => rfl)), hi6, e1] at e2; rw [e2]; rw [show ((v2 - l5)).toInt = aE ab l5.toInt - l5.toInt from by omega]; exact ((congrArg (fun q => aFl ab l1.toInt l2 q l5.toInt l3.toInt l4.toInt) (show (4500 - l6.toInt).toNat = (4500 - (l6 + (1 : Int32)).toInt).toNat + 1 by omega)).trans (aFl_y (by omega) (by omega) (Or.inl (by omega)))).symm.trans hi7) | (have r0 := congrArg Int32.toInt (show aT 79 S 87 0 = mI S 79 2 from rfl); rw [hi6] at r0; have e1 := rp0_S1; rw [hi6] at e1; have e2 := rp0_S13; rw [(tC (P := 79) (xC_n (c := 69) (k := 12) (x := ((mI S 69 12) + (1 : Int32))) (xC_o (W := 75) hi5) ⟨by decide, Or.inl ⟨rfl, rfl⟩⟩).1 (fun _ => rfl) (fun _ => rfl)), hi6, e1] at e2; rw [e2]; rw [show ((v2 - l5)).toInt = aE ab l5.toInt - l5.toInt from by omega]; exact ((congrArg (fun q => aFl ab l1.toInt l2 q l5.toInt l3.toInt l4.toInt) (show (4500 - l6.toInt).toNat = (4500 - (l6 + (1 : Int32)).toInt).toNat + 1 by omega)).trans (aFl_y (by omega) (by omega) (Or.inr (Or.inl ⟨by assumption, by omega⟩)))).symm.trans hi7) | (have r0 := congrArg Int32.toInt (show aT 79 S 87 0 = mI S 79 2 from rfl); rw [hi6] at r0; have e1 := rp0_S1; rw [hi6] at e1; have e2 := rp0_S13; rw [(tC (P := 79) (xC_n (c := 69) (k := 12) (x := ((mI S 69 12) + (1 : Int32))) (xC_o (W := 75) hi5) ⟨by decide, Or.inl ⟨rfl, rfl⟩⟩).1 (fun _ => rfl) (fun _ => rfl)), hi6, e1] at e2; rw [e2]; rw [show ((v2 - l5)).toInt = aE ab l5.toInt - l5.toInt from by omega]; exact ((congrArg (fun q => aFl ab l1.toInt l2 q l5.toInt l3.toInt l4.toInt) (show (4500 - l6.toInt).toNat = (4500 - (l6 + (1 : Int32)).toInt).toNat + 1 by omega)).trans (aFl_y (by omega) (by omega) (Or.inr (Or.inr ⟨by assumption, by omega⟩)))).symm.trans hi7))
theorem sp_108_79_s {X : Nat × (Nat → Int32)} {d w : Nat} {f : Nat → Nat → Int32} {r : Nat → Nat → Option Nat} {C Z N : Nat} {Q : Option ma_V ⊕ Nat → ma_S → Prop} {ab : Nat→Nat→Int32} {S : ma_S} (z : Int32) (b : Int32) (hd : 2 ≤ d) (hw : 45 ≤ w) (hI : zJ79 f r C Z N S) (hpre0 : xB S (mR S 70)) (hpre1 : aT 79 S = ab) (K : ∀ v S₉, zJ79 f r C Z N S₉ → (-1 ≤ v.toInt ∧ v.toInt ≤ 1500) → (xB S₉ (mR S₉ 70)) → (aT 79 S₉ = ab) → (v.toInt = aFl ab z.toInt b 4500 (aN ab 0) (-1) 0) → Q (.inl (some (.inl v))) S₉) : ma_wp X d w 108 0 [(0, .inr (.inr (some 79))), (1, .inl z), (2, .inl b)] [] S Q := by
  refine g_108_79_s_0 z b (by omega) (by omega) (zG_T hI) ?_
  have li1 : (0 : Int32).toInt = 0 := rfl
  refine sp_105_79_s (ab := (aT 79 S)) ((0 : Int32)) (by omega) (by omega) hI (show xB S (mR S 70) from by first | (exact xB_x (xC_o (W := 75) hpre0).2)) (show aT 79 S = (aT 79 S) from by first | (exact rfl) | (exact hpre1)) (by omega) (fun v2 S1 eS_S1 hp_v2 rp0_S1 => zi_n ⟨(by rw [eS_S1]; exact zG_T hI), ?_⟩)
  replace eS_S1 := eS_S1.symm; subst eS_S1
  have rp0_S1 : v2.toInt = aN (aT 79 S) (0 : Int32).toInt := rp0_S1
  have b2 := i_bd z
  have b3 := i_bd b
  have li4 : (-1 : Int32).toInt = -1 := rfl
  have b5 := i_bd v2
  exact lp_108_79_s_15 (by omega) (by omega) K _ _ (z) (b) ((-1 : Int32)) ((0 : Int32)) (v2) ((0 : Int32)) rfl hI (by omega) (by omega) (by omega) (by omega) (by omega) (show xB S (mR S 70) from by first | (exact xB_x (xC_o (W := 75) hpre0).2)) (show aT 79 S = ab from by first | (exact (tC (P := 79) (xC_o (W := 75) hpre0).1 (fun _ => rfl) (fun _ => rfl)).trans hpre1)) (show aFl ab (z).toInt (b) (4500 - ((0 : Int32)).toInt).toNat (v2).toInt ((-1 : Int32)).toInt ((0 : Int32)).toInt = aFl ab z.toInt b 4500 (aN ab 0) (-1) 0 from by first | (have q := rp0_S1; rw [show (0 : Int32).toInt = 0 from rfl] at q; rw [← hpre1, ← q]; rfl))

/-! from 95.k17 -/
/-! the collectors that sweep, the class (written by wip/tools/gen20.py) -/
theorem g_103_79_s_0 {X : Nat × (Nat → Int32)} {d w : Nat} {S : ma_S} {Q : Option ma_V ⊕ Nat → ma_S → Prop} (n : Int32) (hd : 4 ≤ d) (hw : 93 ≤ w) (hS : zT S) (h : if (mI S 79 3) = (0 : Int32) then (ma_wp X (d - 1) (w - 26) 104 0 [(0, .inr (.inr (some 79))), (1, .inl (0 : Int32)), (2, .inl (mI S 79 2)), (3, .inl n)] [] S (zi (fun v2 S1 => zT S1 ∧ (Q (.inl (some (.inl v2))) S1)) (fun x S9 => Q (.inr x) S9))) else (if (mI S 79 3) = (1 : Int32) then (ma_wp X (d - 1) (w - 22) 107 0 [(0, .inr (.inr (some 79))), (1, .inl n)] [] S (zi (fun v4 S3 => zT S3 ∧ (Q (.inl (some (.inl v4))) S3)) (fun x S9 => Q (.inr x) S9))) else (if (mI S 79 3) = (2 : Int32) then (ma_wp X (d - 1) (w - 28) 108 0 [(0, .inr (.inr (some 79))), (1, .inl n), (2, .inl (1 : Int32))] [] S (zi (fun v6 S5 => zT S5 ∧ (Q (.inl (some (.inl v6))) S5)) (fun x S9 => Q (.inr x) S9))) else (ma_wp X (d - 1) (w - 28) 108 0 [(0, .inr (.inr (some 79))), (1, .inl n), (2, .inl (0 : Int32))] [] S (zi (fun v8 S7 => zT S7 ∧ (Q (.inl (some (.inl v8))) S7)) (fun x S9 => Q (.inr x) S9)))))) : ma_wp X d w 103 0 [(0, .inr (.inr (some 79))), (1, .inl n)] [] S Q := by
  refine zw_push hm_103 dX8_fit_0 (v := .inr (.inr (some 79))) rfl ?_
  refine zw_gf hm_103 dX8_fit_1 (v := .inl (mI S 79 3)) (zT_is hS s_79) (zT_t hS s_79) rfl f_8_15_8 rfl ?_
  by_cases hc0 : (mI S 79 3) = (0 : Int32)
  · rw [if_pos hc0] at h
    refine zw_jmp hm_103 dX8_fit_4 (t := 32) (st₉ := []) rfl rfl rfl (ma_jmp_tab (by rw [hc0]; decide +kernel)) ?_
    refine zw_push hm_103 dX8_fit_32 (v := .inr (.inr (some 79))) rfl ?_
    refine zw_push hm_103 dX8_fit_33 (v := .inl (0 : Int32)) rfl ?_
    refine zw_push hm_103 dX8_fit_34 (v := .inr (.inr (some 79))) rfl ?_
    refine zw_gf hm_103 dX8_fit_35 (v := .inl (mI S 79 2)) (zT_is hS s_79) (zT_t hS s_79) rfl f_8_9_8 rfl ?_
    refine zw_push hm_103 dX8_fit_38 (v := .inl n) rfl ?_
    refine zw_cv hm_103 dX8_fit_39 v_8_56_8 hm_104 [.inl n, .inl (mI S 79 2), .inl (0 : Int32)] [] rfl (zT_rt hS s_79 rfl) ⟨by omega, by omega⟩ rfl (zw_mono h (zi_go ?_ ?_))
    · intro v2 S1 hv
      obtain ⟨hS1, h⟩ := hv
      exact zw_iret hm_103 dX8_fit_42 h
    · intro x S9 hx
      exact ⟨by decide, hx⟩
  rw [if_neg hc0] at h
  by_cases hc1 : (mI S 79 3) = (1 : Int32)
  · rw [if_pos hc1] at h
    refine zw_jmp hm_103 dX8_fit_4 (t := 43) (st₉ := []) rfl rfl rfl (ma_jmp_tab (by rw [hc1]; decide +kernel)) ?_
    refine zw_push hm_103 dX8_fit_43 (v := .inr (.inr (some 79))) rfl ?_
    refine zw_push hm_103 dX8_fit_44 (v := .inl n) rfl ?_
    refine zw_cv hm_103 dX8_fit_45 v_8_60_8 hm_107 [.inl n] [] rfl (zT_rt hS s_79 rfl) ⟨by omega, by omega⟩ rfl (zw_mono h (zi_go ?_ ?_))
    · intro v4 S3 hv
      obtain ⟨hS3, h⟩ := hv
      exact zw_iret hm_103 dX8_fit_48 h
    · intro x S9 hx
      exact ⟨by decide, hx⟩
  rw [if_neg hc1] at h
  by_cases hc2 : (mI S 79 3) = (2 : Int32)
  · rw [if_pos hc2] at h
    refine zw_jmp hm_103 dX8_fit_4 (t := 49) (st₉ := []) rfl rfl rfl (ma_jmp_tab (by rw [hc2]; decide +kernel)) ?_
    refine zw_push hm_103 dX8_fit_49 (v := .inr (.inr (some 79))) rfl ?_
    refine zw_push hm_103 dX8_fit_50 (v := .inl n) rfl ?_
    refine zw_push hm_103 dX8_fit_51 (v := .inl (1 : Int32)) rfl ?_
    refine zw_cv hm_103 dX8_fit_52 v_8_63_8 hm_108 [.inl (1 : Int32), .inl n] [] rfl (zT_rt hS s_79 rfl) ⟨by omega, by omega⟩ rfl (zw_mono h (zi_go ?_ ?_))
    · intro v6 S5 hv
      obtain ⟨hS5, h⟩ := hv
      exact zw_iret hm_103 dX8_fit_55 h
    · intro x S9 hx
      exact ⟨by decide, hx⟩
  rw [if_neg hc2] at h
  refine zw_jmp hm_103 dX8_fit_4 (t := 56) (st₉ := []) rfl rfl rfl (ma_jmp_def (m := 3) (by decide) (fun j hj => by
      have hj2 : j = 0 ∨ j = 1 ∨ j = 2 := by omega
      rcases hj2 with rfl | rfl | rfl
      · exact hc0
      · exact hc1
      · exact hc2
      ) rfl) ?_
  refine zw_push hm_103 dX8_fit_56 (v := .inr (.inr (some 79))) rfl ?_
  refine zw_push hm_103 dX8_fit_57 (v := .inl n) rfl ?_
  refine zw_push hm_103 dX8_fit_58 (v := .inl (0 : Int32)) rfl ?_
  refine zw_cv hm_103 dX8_fit_59 v_8_63_8 hm_108 [.inl (0 : Int32), .inl n] [] rfl (zT_rt hS s_79 rfl) ⟨by omega, by omega⟩ rfl (zw_mono h (zi_go ?_ ?_))
  · intro v8 S7 hv
    obtain ⟨hS7, h⟩ := hv
    exact zw_iret hm_103 dX8_fit_62 h
  · intro x S9 hx
    exact ⟨by decide, hx⟩
theorem sp_103_79_s {X : Nat × (Nat → Int32)} {d w : Nat} {f : Nat → Nat → Int32} {r : Nat → Nat → Option Nat} {C Z N : Nat} {Q : Option ma_V ⊕ Nat → ma_S → Prop} {ab : Nat→Nat→Int32} {S : ma_S} (n : Int32) (hd : 4 ≤ d) (hw : 93 ≤ w) (hI : zJ79 f r C Z N S) (hpre0 : xB S (mR S 70)) (hpre1 : aT 79 S = ab) (K : ∀ v S₉, zJ79 f r C Z N S₉ → (-1 ≤ v.toInt ∧ v.toInt ≤ 1500) → (xB S₉ (mR S₉ 70)) → (aT 79 S₉ = ab) → (v.toInt = aFt ab n.toInt) → Q (.inl (some (.inl v))) S₉) : ma_wp X d w 103 0 [(0, .inr (.inr (some 79))), (1, .inl n)] [] S Q := by
  refine g_103_79_s_0 n (by omega) (by omega) (zG_T hI) ?_
  have b1 := i_bd (mI S 79 3)
  have li2 : (0 : Int32).toInt = 0 := rfl
  refine zd (fun h3 => ?_) (fun h3 => ?_)
  · skip
    have g4 := i_eq h3
    have f5 := zG_s hI (0) (1500) (c := 79) (k := 2) (by decide)
    have b6 := i_bd n
    refine sp_104_79_s (ab := (aT 79 S)) ((0 : Int32)) ((mI S 79 2)) (n) (by omega) (by omega) hI (show xB S (mR S 70) from by first | (exact xB_x (xC_o (W := 75) hpre0).2)) (show aT 79 S = (aT 79 S) from by first | (exact rfl) | (exact (tC (P := 79) (xC_o (W := 75) hpre0).1 (fun _ => rfl) (fun _ => rfl)).trans hpre1)) (by omega) (fun v2 S1 hI_S1 hp_v2 rp0_S1 rp1_S1 rp2_S1 => zi_n ⟨zG_T hI_S1, ?_⟩)
    have rp0_S1 : xB S1 (mR S1 70) := rp0_S1
    have rp1_S1 : aT 79 S1 = (aT 79 S) := rp1_S1
    have rp2_S1 : v2.toInt = aFf (aT 79 S) n.toInt (mI S 79 2).toInt 4500 (aN (aT 79 S) (0 : Int32).toInt) := rp2_S1
    have b7 := i_bd v2
    exact K (v2) _ hI_S1 (by omega) (show xB S1 (mR S1 70) from by first | (exact xB_x (xC_o (W := 75) rp0_S1).2)) (show aT 79 S1 = ab from by first | (exact rp1_S1.trans (hpre1))) (show v2.toInt = aFt ab n.toInt from by first | (have q := rp2_S1; rw [← (show aT 79 S 87 0 = mI S 79 2 from rfl), hpre1, show (0 : Int32).toInt = 0 from rfl] at q; refine q.trans ?_; unfold aFt; refine (if_pos ?_).symm; rw [← hpre1, (show aT 79 S 87 1 = mI S 79 3 from rfl)]; assumption))
  · skip
    have g8 := i_ne h3
    have li9 : (1 : Int32).toInt = 1 := rfl
    refine zd (fun h10 => ?_) (fun h10 => ?_)
    · skip
      have g11 := i_eq h10
      have b12 := i_bd n
      refine sp_107_79_s (ab := (aT 79 S)) (n) (by omega) (by omega) hI (show xB S (mR S 70) from by first | (exact xB_x (xC_o (W := 75) hpre0).2)) (show aT 79 S = (aT 79 S) from by first | (exact rfl)) (fun v4 S3 hI_S3 hp_v4 rp0_S3 rp1_S3 rp2_S3 => zi_n ⟨zG_T hI_S3, ?_⟩)
      have rp0_S3 : xB S3 (mR S3 70) := rp0_S3
      have rp1_S3 : aT 79 S3 = (aT 79 S) := rp1_S3
      have rp2_S3 : v4.toInt = aFx (aT 79 S) n.toInt := rp2_S3
      have b13 := i_bd v4
      exact K (v4) _ hI_S3 (by omega) (show xB S3 (mR S3 70) from by first | (exact xB_x (xC_o (W := 75) rp0_S3).2)) (show aT 79 S3 = ab from by first | (exact rp1_S3.trans (hpre1))) (show v4.toInt = aFt ab n.toInt from by first | (have q := rp2_S3; rw [hpre1] at q; refine q.trans ?_; unfold aFt; rw [← hpre1, (show aT 79 S 87 1 = mI S 79 3 from rfl)]; exact ((if_neg (by assumption)).trans (if_pos (by assumption))).symm))
    · skip
      have g14 := i_ne h10
      have li15 : (2 : Int32).toInt = 2 := rfl
      refine zd (fun h16 => ?_) (fun h16 => ?_)
      · skip
        have g17 := i_eq h16
        have b18 := i_bd n
        refine sp_108_79_s (ab := (aT 79 S)) (n) ((1 : Int32)) (by omega) (by omega) hI (show xB S (mR S 70) from by first | (exact xB_x (xC_o (W := 75) hpre0).2)) (show aT 79 S = (aT 79 S) from by first | (exact rfl) | (exact (tC (P := 79) (xC_o (W := 75) hpre0).1 (fun _ => rfl) (fun _ => rfl)).trans hpre1)) (fun v6 S5 hI_S5 hp_v6 rp0_S5 rp1_S5 rp2_S5 => zi_n ⟨zG_T hI_S5, ?_⟩)
        have rp0_S5 : xB S5 (mR S5 70) := rp0_S5
        have rp1_S5 : aT 79 S5 = (aT 79 S) := rp1_S5
        have rp2_S5 : v6.toInt = aFl (aT 79 S) n.toInt (1 : Int32) 4500 (aN (aT 79 S) 0) (-1) 0 := rp2_S5
        have b19 := i_bd v6
        exact K (v6) _ hI_S5 (by omega) (show xB S5 (mR S5 70) from by first | (exact xB_x (xC_o (W := 75) rp0_S5).2)) (show aT 79 S5 = ab from by first | (exact rp1_S5.trans (hpre1))) (show v6.toInt = aFt ab n.toInt from by first | (have q := rp2_S5; rw [hpre1] at q; refine q.trans ?_; unfold aFt; rw [← hpre1, (show aT 79 S 87 1 = mI S 79 3 from rfl)]; exact ((if_neg (by assumption)).trans ((if_neg (by assumption)).trans (if_pos (by assumption)))).symm) | (have q := rp2_S5; rw [hpre1] at q; refine q.trans ?_; unfold aFt; rw [← hpre1, (show aT 79 S 87 1 = mI S 79 3 from rfl)]; exact ((if_neg (by assumption)).trans ((if_neg (by assumption)).trans (if_neg (by assumption)))).symm))
      · skip
        have g20 := i_ne h16
        have b21 := i_bd n
        refine sp_108_79_s (ab := (aT 79 S)) (n) ((0 : Int32)) (by omega) (by omega) hI (show xB S (mR S 70) from by first | (exact xB_x (xC_o (W := 75) hpre0).2)) (show aT 79 S = (aT 79 S) from by first | (exact rfl) | (exact (tC (P := 79) (xC_o (W := 75) hpre0).1 (fun _ => rfl) (fun _ => rfl)).trans hpre1)) (fun v8 S7 hI_S7 hp_v8 rp0_S7 rp1_S7 rp2_S7 => zi_n ⟨zG_T hI_S7, ?_⟩)
        have rp0_S7 : xB S7 (mR S7 70) := rp0_S7
        have rp1_S7 : aT 79 S7 = (aT 79 S) := rp1_S7
        have rp2_S7 : v8.toInt = aFl (aT 79 S) n.toInt (0 : Int32) 4500 (aN (aT 79 S) 0) (-1) 0 := rp2_S7
        have b22 := i_bd v8
        exact K (v8) _ hI_S7 (by omega) (show xB S7 (mR S7 70) from by first | (exact xB_x (xC_o (W := 75) rp0_S7).2)) (show aT 79 S7 = ab from by first | (exact rp1_S7.trans (hpre1))) (show v8.toInt = aFt ab n.toInt from by first | (have q := rp2_S7; rw [hpre1] at q; refine q.trans ?_; unfold aFt; rw [← hpre1, (show aT 79 S 87 1 = mI S 79 3 from rfl)]; exact ((if_neg (by assumption)).trans ((if_neg (by assumption)).trans (if_pos (by assumption)))).symm) | (have q := rp2_S7; rw [hpre1] at q; refine q.trans ?_; unfold aFt; rw [← hpre1, (show aT 79 S 87 1 = mI S 79 3 from rfl)]; exact ((if_neg (by assumption)).trans ((if_neg (by assumption)).trans (if_neg (by assumption)))).symm))
theorem g_105_84_s_0 {X : Nat × (Nat → Int32)} {d w : Nat} {S : ma_S} {Q : Option ma_V ⊕ Nat → ma_S → Prop} (p : Int32) (hd : 1 ≤ d) (hw : 22 ≤ w) (hS : zT S) (h : ma_wp X d w 105 2 [(0, .inr (.inr (some 84))), (2, .inl p)] [] S Q) : ma_wp X d w 105 0 [(0, .inr (.inr (some 84))), (1, .inl p)] [] S Q := by
  refine zw_push hm_105 dX8_freeFrom_0 (v := .inl p) rfl ?_
  refine zw_sto hm_105 dX8_freeFrom_1 [(2, .inl p), (0, .inr (.inr (some 84))), (1, .inl p)] rfl rfl rfl ?_
  exact zw_sub (ma_nd_of (ks := [0, 2]) rfl (by decide)) (ma_nd_of (ks := [2, 0, 1]) rfl (by decide)) (ma_le_cons rfl (ma_le_cons rfl (ma_le_nil _))) h
theorem g_105_84_s_2 {X : Nat × (Nat → Int32)} {d w : Nat} {S : ma_S} {Q : Option ma_V ⊕ Nat → ma_S → Prop} (l2 : Int32) (hd : 1 ≤ d) (hw : 22 ≤ w) (hS : zT S) (h : if (mI S 84 0) ≤ l2 then (Q (.inl (some (.inl (mI S 84 0)))) S) else (if l2 < 0 then (Q (.inl (some (.inl l2))) S) else (if (4500 : Int32) ≤ l2 then (Q (.inl (some (.inl l2))) S) else ((0 ≤ l2 ∧ l2.toNatClampNeg < 4500) ∧ (if (mI S 71 l2.toNatClampNeg) < 0 then (Q (.inl (some (.inl l2))) S) else (if (512 : Int32) ≤ (mI S 71 l2.toNatClampNeg) then (Q (.inl (some (.inl l2))) S) else ((0 ≤ (mI S 71 l2.toNatClampNeg) ∧ (mI S 71 l2.toNatClampNeg).toNatClampNeg < 512) ∧ (((mR S 70 (mI S 71 l2.toNatClampNeg).toNatClampNeg) = none → Q (.inl (some (.inl l2))) S) ∧ (∀ c1, (mR S 70 (mI S 71 l2.toNatClampNeg).toNatClampNeg) = some c1 → (126 ≤ c1 ∧ c1 < mN S) ∧ (ma_wp X d w 105 2 [(0, .inr (.inr (some 84))), (2, .inl (l2 + (mI S c1 2)))] [] S Q)))))))))) : ma_wp X d w 105 2 [(0, .inr (.inr (some 84))), (2, .inl l2)] [] S Q := by
  refine zw_push hm_105 dX8_freeFrom_2 (v := .inl l2) rfl ?_
  refine zw_push hm_105 dX8_freeFrom_3 (v := .inr (.inr (some 84))) rfl ?_
  refine zw_gf hm_105 dX8_freeFrom_4 (v := .inl (mI S 84 0)) (zT_is hS s_84) (zT_t hS s_84) rfl f_8_9_2 rfl ?_
  refine zw_if2 hm_105 dX8_freeFrom_7 (t := 35) rfl zc2_ge ?_ ?_
  · intro hc
    rw [if_pos hc] at h
    refine zw_push hm_105 dX8_freeFrom_35 (v := .inr (.inr (some 84))) rfl ?_
    refine zw_gf hm_105 dX8_freeFrom_36 (v := .inl (mI S 84 0)) (zT_is hS s_84) (zT_t hS s_84) rfl f_8_9_2 rfl ?_
    exact zw_iret hm_105 dX8_freeFrom_39 h
  · intro hc
    rw [if_neg hc] at h
    refine zw_push hm_105 dX8_freeFrom_10 (v := .inr (.inr (some 84))) rfl ?_
    refine zw_gf hm_105 dX8_freeFrom_11 (v := .inr (.inr (some 69))) (zT_is hS s_84) (zT_t hS s_84) rfl f_8_46_2 (zT_f hS r_84_3) ?_
    refine zw_push hm_105 dX8_freeFrom_14 (v := .inl l2) rfl ?_
    refine zw_cv hm_105 dX8_freeFrom_15 v_8_50_7 hm_89 [.inl l2] [] rfl (zT_rt hS s_69 rfl) ⟨by omega, by omega⟩ rfl ?_
    show ma_wp X (d - 1) (w - 22) 89 0 [(0, .inr (.inr (some 69))), (1, .inl l2)] [] S _
    refine zw_push hm_89 dX7_thingFrom_0 (v := .inl l2) rfl ?_
    refine zw_if0 hm_89 dX7_thingFrom_1 (t := 20) rfl zc0_lt ?_ ?_
    · intro hc
      rw [if_pos hc] at h
      refine zw_push hm_89 dX7_thingFrom_20 (v := .inl (-1 : Int32)) rfl ?_
      refine zw_sto hm_89 dX7_thingFrom_21 [(2, .inl (-1 : Int32)), (0, .inr (.inr (some 69))), (1, .inl l2)] rfl rfl rfl ?_
      refine zw_push hm_89 dX7_thingFrom_22 (v := .inl (-1 : Int32)) rfl ?_
      refine zw_if0 hm_89 dX7_thingFrom_23 (t := 42) rfl zc0_lt (fun _ => ?_) (fun hc => absurd (by decide) hc)
      refine zw_push hm_89 dX7_thingFrom_42 (v := .inr (.inr none)) rfl ?_
      refine zw_aret hm_89 dX7_thingFrom_43 ?_
      show ma_wp X d w 105 18 [(0, .inr (.inr (some 84))), (2, .inl l2)] [.inr (.inr none)] S _
      refine zw_sto hm_105 dX8_freeFrom_18 [(3, .inr (.inr none)), (0, .inr (.inr (some 84))), (2, .inl l2)] rfl rfl rfl ?_
      refine zw_push hm_105 dX8_freeFrom_19 (v := .inr (.inr none)) rfl ?_
      refine zw_ifnonnull hm_105 dX8_freeFrom_20 (t := 25) rfl (fun _ => ?_) (fun _ z => by cases z)
      refine zw_push hm_105 dX8_freeFrom_23 (v := .inl l2) rfl ?_
      exact zw_iret hm_105 dX8_freeFrom_24 h
    · intro hc
      rw [if_neg hc] at h
      refine zw_push hm_89 dX7_thingFrom_4 (v := .inl l2) rfl ?_
      refine zw_push hm_89 dX7_thingFrom_5 (v := .inl (4500 : Int32)) rfl ?_
      refine zw_if2 hm_89 dX7_thingFrom_8 (t := 20) rfl zc2_ge ?_ ?_
      · intro hc
        rw [if_pos hc] at h
        refine zw_push hm_89 dX7_thingFrom_20 (v := .inl (-1 : Int32)) rfl ?_
        refine zw_sto hm_89 dX7_thingFrom_21 [(2, .inl (-1 : Int32)), (0, .inr (.inr (some 69))), (1, .inl l2)] rfl rfl rfl ?_
        refine zw_push hm_89 dX7_thingFrom_22 (v := .inl (-1 : Int32)) rfl ?_
        refine zw_if0 hm_89 dX7_thingFrom_23 (t := 42) rfl zc0_lt (fun _ => ?_) (fun hc => absurd (by decide) hc)
        refine zw_push hm_89 dX7_thingFrom_42 (v := .inr (.inr none)) rfl ?_
        refine zw_aret hm_89 dX7_thingFrom_43 ?_
        show ma_wp X d w 105 18 [(0, .inr (.inr (some 84))), (2, .inl l2)] [.inr (.inr none)] S _
        refine zw_sto hm_105 dX8_freeFrom_18 [(3, .inr (.inr none)), (0, .inr (.inr (some 84))), (2, .inl l2)] rfl rfl rfl ?_
        refine zw_push hm_105 dX8_freeFrom_19 (v := .inr (.inr none)) rfl ?_
        refine zw_ifnonnull hm_105 dX8_freeFrom_20 (t := 25) rfl (fun _ => ?_) (fun _ z => by cases z)
        refine zw_push hm_105 dX8_freeFrom_23 (v := .inl l2) rfl ?_
        exact zw_iret hm_105 dX8_freeFrom_24 h
      · intro hc
        rw [if_neg hc] at h
        refine zw_push hm_89 dX7_thingFrom_11 (v := .inr (.inr (some 69))) rfl ?_
        refine zw_gf hm_89 dX7_thingFrom_12 (v := .inr (.inr (some 71))) (zT_is hS s_69) (zT_t hS s_69) rfl f_7_17_7 (zT_f hS r_69_1) ?_
        refine zw_push hm_89 dX7_thingFrom_15 (v := .inl l2) rfl ?_
        obtain ⟨hg, h⟩ := h
        refine zw_ia hm_89 dX7_thingFrom_16 (zT_is hS s_71) (zT_h hS s_71) rfl hg ?_
        show ma_wp X (d - 1) (w - 22) 89 17 [(0, .inr (.inr (some 69))), (1, .inl l2)] [.inl (mI S 71 l2.toNatClampNeg)] S _
        refine zw_goto hm_89 dX7_thingFrom_17 (t := 21) rfl ?_
        refine zw_sto hm_89 dX7_thingFrom_21 [(2, .inl (mI S 71 l2.toNatClampNeg)), (0, .inr (.inr (some 69))), (1, .inl l2)] rfl rfl rfl ?_
        refine zw_push hm_89 dX7_thingFrom_22 (v := .inl (mI S 71 l2.toNatClampNeg)) rfl ?_
        refine zw_if0 hm_89 dX7_thingFrom_23 (t := 42) rfl zc0_lt ?_ ?_
        · intro hc
          rw [if_pos hc] at h
          refine zw_push hm_89 dX7_thingFrom_42 (v := .inr (.inr none)) rfl ?_
          refine zw_aret hm_89 dX7_thingFrom_43 ?_
          show ma_wp X d w 105 18 [(0, .inr (.inr (some 84))), (2, .inl l2)] [.inr (.inr none)] S _
          refine zw_sto hm_105 dX8_freeFrom_18 [(3, .inr (.inr none)), (0, .inr (.inr (some 84))), (2, .inl l2)] rfl rfl rfl ?_
          refine zw_push hm_105 dX8_freeFrom_19 (v := .inr (.inr none)) rfl ?_
          refine zw_ifnonnull hm_105 dX8_freeFrom_20 (t := 25) rfl (fun _ => ?_) (fun _ z => by cases z)
          refine zw_push hm_105 dX8_freeFrom_23 (v := .inl l2) rfl ?_
          exact zw_iret hm_105 dX8_freeFrom_24 h
        · intro hc
          rw [if_neg hc] at h
          refine zw_push hm_89 dX7_thingFrom_26 (v := .inl (mI S 71 l2.toNatClampNeg)) rfl ?_
          refine zw_push hm_89 dX7_thingFrom_27 (v := .inl (512 : Int32)) rfl ?_
          refine zw_if2 hm_89 dX7_thingFrom_30 (t := 42) rfl zc2_ge ?_ ?_
          · intro hc
            rw [if_pos hc] at h
            refine zw_push hm_89 dX7_thingFrom_42 (v := .inr (.inr none)) rfl ?_
            refine zw_aret hm_89 dX7_thingFrom_43 ?_
            show ma_wp X d w 105 18 [(0, .inr (.inr (some 84))), (2, .inl l2)] [.inr (.inr none)] S _
            refine zw_sto hm_105 dX8_freeFrom_18 [(3, .inr (.inr none)), (0, .inr (.inr (some 84))), (2, .inl l2)] rfl rfl rfl ?_
            refine zw_push hm_105 dX8_freeFrom_19 (v := .inr (.inr none)) rfl ?_
            refine zw_ifnonnull hm_105 dX8_freeFrom_20 (t := 25) rfl (fun _ => ?_) (fun _ z => by cases z)
            refine zw_push hm_105 dX8_freeFrom_23 (v := .inl l2) rfl ?_
            exact zw_iret hm_105 dX8_freeFrom_24 h
          · intro hc
            rw [if_neg hc] at h
            refine zw_push hm_89 dX7_thingFrom_33 (v := .inr (.inr (some 69))) rfl ?_
            refine zw_gf hm_89 dX7_thingFrom_34 (v := .inr (.inr (some 70))) (zT_is hS s_69) (zT_t hS s_69) rfl f_7_11_7 (zT_f hS r_69_0) ?_
            refine zw_push hm_89 dX7_thingFrom_37 (v := .inl (mI S 71 l2.toNatClampNeg)) rfl ?_
            obtain ⟨hg, h⟩ := h
            refine zw_aa hm_89 dX7_thingFrom_38 (zT_is hS s_70) (zT_h hS s_70) rfl rfl hg rfl ?_
            show ma_wp X (d - 1) (w - 22) 89 39 [(2, .inl (mI S 71 l2.toNatClampNeg)), (0, .inr (.inr (some 69))), (1, .inl l2)] [.inr (.inr (mR S 70 (mI S 71 l2.toNatClampNeg).toNatClampNeg))] S _
            refine zw_goto hm_89 dX7_thingFrom_39 (t := 43) rfl ?_
            refine zw_aret hm_89 dX7_thingFrom_43 ?_
            show ma_wp X d w 105 18 [(0, .inr (.inr (some 84))), (2, .inl l2)] [.inr (.inr (mR S 70 (mI S 71 l2.toNatClampNeg).toNatClampNeg))] S _
            refine zw_sto hm_105 dX8_freeFrom_18 [(3, .inr (.inr (mR S 70 (mI S 71 l2.toNatClampNeg).toNatClampNeg))), (0, .inr (.inr (some 84))), (2, .inl l2)] rfl rfl rfl ?_
            refine zw_push hm_105 dX8_freeFrom_19 (v := .inr (.inr (mR S 70 (mI S 71 l2.toNatClampNeg).toNatClampNeg))) rfl ?_
            refine zw_ifnonnull hm_105 dX8_freeFrom_20 (t := 25) rfl ?_ ?_
            · intro hc
              have h := h.1 hc
              (try rw [hc])
              show ma_wp X d w 105 23 [(3, .inr (.inr none)), (0, .inr (.inr (some 84))), (2, .inl l2)] [] S _
              refine zw_push hm_105 dX8_freeFrom_23 (v := .inl l2) rfl ?_
              exact zw_iret hm_105 dX8_freeFrom_24 h
            · intro c1 hc
              have h := h.2 c1 hc
              (try rw [hc])
              show ma_wp X d w 105 25 [(3, .inr (.inr (some c1))), (0, .inr (.inr (some 84))), (2, .inl l2)] [] S _
              refine zw_push hm_105 dX8_freeFrom_25 (v := .inl l2) rfl ?_
              refine zw_push hm_105 dX8_freeFrom_26 (v := .inr (.inr (some c1))) rfl ?_
              obtain ⟨hg, h⟩ := h
              refine zw_gf hm_105 dX8_freeFrom_27 (v := .inl (mI S c1 2)) (zT_tis hS hg) (zT_tt hS hg) rfl f_8_34_9 rfl ?_
              refine zw_stk hm_105 dX8_freeFrom_30 (st₉ := [.inl (l2 + (mI S c1 2))]) rfl rfl ?_
              refine zw_sto hm_105 dX8_freeFrom_31 [(2, .inl (l2 + (mI S c1 2))), (3, .inr (.inr (some c1))), (0, .inr (.inr (some 84)))] rfl rfl rfl ?_
              refine zw_goto hm_105 dX8_freeFrom_32 (t := 2) rfl ?_
              exact zw_sub (ma_nd_of (ks := [0, 2]) rfl (by decide)) (ma_nd_of (ks := [2, 3, 0]) rfl (by decide)) (ma_le_cons rfl (ma_le_cons rfl (ma_le_nil _))) h
theorem lp_105_84_s_2 {X : Nat × (Nat → Int32)} {d w : Nat} {f : Nat → Nat → Int32} {r : Nat → Nat → Option Nat} {C Z N : Nat} {Q : Option ma_V ⊕ Nat → ma_S → Prop} {ab : Nat→Nat→Int32} {p : Int32} {S : ma_S} (hd : 1 ≤ d) (hw : 22 ≤ w) (K : ∀ v S₉, S₉ = S → (0 ≤ v.toInt ∧ v.toInt ≤ 1500) → (v.toInt = aN ab p.toInt) → Q (.inl (some (.inl v))) S₉) : ∀ (n : Nat) (l2 : Int32), (1500 - l2.toInt).toNat = n → zJ84 f r C Z N S → (0 ≤ l2.toInt) → (xB S (mR S 70)) → (aT 84 S = ab) → (aN ab l2.toInt = aN ab p.toInt) → ma_wp X d w 105 2 [(0, .inr (.inr (some 84))), (2, .inl l2)] [] S Q := by
  intro n
  induction n using Nat.strongRecOn with
  | _ n IH =>
    intro l2 hmu hI  hi0 hi1 hi2 hi3
    refine g_105_84_s_2 l2 (by omega) (by omega) (zG_T hI) ?_
    have f1 := zG_s hI (0) (1500) (c := 84) (k := 0) (by decide)
    have b2 := i_bd l2
    refine zd (fun h3 => ?_) (fun h3 => ?_)
    · skip
      have g4 := i_le h3
      exact K ((mI S 84 0)) _ rfl (by omega) (show (mI S 84 0).toInt = aN ab p.toInt from by first | (have nf := hi3; have r0 := (congrArg Int32.toInt (show aT 84 S 87 0 = mI S 84 0 from rfl)); have z := aN_ro (a := aT 84 S) (p := l2.toInt) (by omega); rw [hi2] at z r0; omega) | (have nf := hi3; have r0 := (congrArg Int32.toInt (show aT 84 S 87 0 = mI S 84 0 from rfl)); have o := ob_n1 (a := aT 84 S) (p := l2.toInt) (by omega); have z := aN_fr (a := aT 84 S) (p := l2.toInt) (by omega) (ob_neg o); rw [hi2] at z; omega) | (have nf := hi3; have r0 := (congrArg Int32.toInt (show aT 84 S 87 0 = mI S 84 0 from rfl)); have o := tb_n2 (P := 84) (S := S) (x := l2) (by omega); have z := aN_fr (a := aT 84 S) (p := l2.toInt) (by omega) (ob_neg o); rw [hi2] at z; omega))
    · skip
      have g5 := i_nle h3
      have li6 : (0 : Int32).toInt = 0 := rfl
      refine zd (fun h7 => ?_) (fun h7 => ?_)
      · skip
        have g8 := i_lt h7
        exact K (l2) _ rfl (by omega) (show l2.toInt = aN ab p.toInt from by first | (have nf := hi3; have r0 := (congrArg Int32.toInt (show aT 84 S 87 0 = mI S 84 0 from rfl)); have z := aN_ro (a := aT 84 S) (p := l2.toInt) (by omega); rw [hi2] at z r0; omega) | (have nf := hi3; have r0 := (congrArg Int32.toInt (show aT 84 S 87 0 = mI S 84 0 from rfl)); have o := ob_n1 (a := aT 84 S) (p := l2.toInt) (by omega); have z := aN_fr (a := aT 84 S) (p := l2.toInt) (by omega) (ob_neg o); rw [hi2] at z; omega) | (have nf := hi3; have r0 := (congrArg Int32.toInt (show aT 84 S 87 0 = mI S 84 0 from rfl)); have o := tb_n2 (P := 84) (S := S) (x := l2) (by omega); have z := aN_fr (a := aT 84 S) (p := l2.toInt) (by omega) (ob_neg o); rw [hi2] at z; omega))
      · skip
        have g9 := i_nlt h7
        have li10 : (4500 : Int32).toInt = 4500 := rfl
        refine zd (fun h11 => ?_) (fun h11 => ?_)
        · skip
          have g12 := i_le h11
          exact K (l2) _ rfl (by omega) (show l2.toInt = aN ab p.toInt from by first | (have nf := hi3; have r0 := (congrArg Int32.toInt (show aT 84 S 87 0 = mI S 84 0 from rfl)); have z := aN_ro (a := aT 84 S) (p := l2.toInt) (by omega); rw [hi2] at z r0; omega) | (have nf := hi3; have r0 := (congrArg Int32.toInt (show aT 84 S 87 0 = mI S 84 0 from rfl)); have o := ob_n1 (a := aT 84 S) (p := l2.toInt) (by omega); have z := aN_fr (a := aT 84 S) (p := l2.toInt) (by omega) (ob_neg o); rw [hi2] at z; omega) | (have nf := hi3; have r0 := (congrArg Int32.toInt (show aT 84 S 87 0 = mI S 84 0 from rfl)); have o := tb_n2 (P := 84) (S := S) (x := l2) (by omega); have z := aN_fr (a := aT 84 S) (p := l2.toInt) (by omega) (ob_neg o); rw [hi2] at z; omega))
        · skip
          have g13 := i_nle h11
          refine ⟨i_ix (by omega) (by omega), ?_⟩
          have b14 := i_bd (mI S 71 l2.toNatClampNeg)
          refine zd (fun h15 => ?_) (fun h15 => ?_)
          · skip
            have g16 := i_lt h15
            exact K (l2) _ rfl (by omega) (show l2.toInt = aN ab p.toInt from by first | (have nf := hi3; have r0 := (congrArg Int32.toInt (show aT 84 S 87 0 = mI S 84 0 from rfl)); have z := aN_ro (a := aT 84 S) (p := l2.toInt) (by omega); rw [hi2] at z r0; omega) | (have nf := hi3; have r0 := (congrArg Int32.toInt (show aT 84 S 87 0 = mI S 84 0 from rfl)); have o := ob_n1 (a := aT 84 S) (p := l2.toInt) (by omega); have z := aN_fr (a := aT 84 S) (p := l2.toInt) (by omega) (ob_neg o); rw [hi2] at z; omega) | (have nf := hi3; have r0 := (congrArg Int32.toInt (show aT 84 S 87 0 = mI S 84 0 from rfl)); have o := tb_n2 (P := 84) (S := S) (x := l2) (by omega); have z := aN_fr (a := aT 84 S) (p := l2.toInt) (by omega) (ob_neg o); rw [hi2] at z; omega))
          · skip
            have g17 := i_nlt h15
            have li18 : (512 : Int32).toInt = 512 := rfl
            refine zd (fun h19 => ?_) (fun h19 => ?_)
            · skip
              have g20 := i_le h19
              exact K (l2) _ rfl (by omega) (show l2.toInt = aN ab p.toInt from by first | (have nf := hi3; have r0 := (congrArg Int32.toInt (show aT 84 S 87 0 = mI S 84 0 from rfl)); have z := aN_ro (a := aT 84 S) (p := l2.toInt) (by omega); rw [hi2] at z r0; omega) | (have nf := hi3; have r0 := (congrArg Int32.toInt (show aT 84 S 87 0 = mI S 84 0 from rfl)); have o := ob_n1 (a := aT 84 S) (p := l2.toInt) (by omega); have z := aN_fr (a := aT 84 S) (p := l2.toInt) (by omega) (ob_neg o); rw [hi2] at z; omega) | (have nf := hi3; have r0 := (congrArg Int32.toInt (show aT 84 S 87 0 = mI S 84 0 from rfl)); have o := tb_n2 (P := 84) (S := S) (x := l2) (by omega); have z := aN_fr (a := aT 84 S) (p := l2.toInt) (by omega) (ob_neg o); rw [hi2] at z; omega))
            · skip
              have g21 := i_nle h19
              refine ⟨i_ix (by omega) (by omega), ?_⟩
              refine ⟨fun hc => ?_, fun c1 hc => ?_⟩
              · skip
                have rn_c1 : zTa (mR S 70) (mI S 71 l2.toNatClampNeg) = none := (ta_rd (y := (mI S 71 l2.toNatClampNeg)) hi1 (by omega) (by omega)).symm.trans hc
                exact K (l2) _ rfl (by omega) (show l2.toInt = aN ab p.toInt from by first | (have nf := hi3; have r0 := (congrArg Int32.toInt (show aT 84 S 87 0 = mI S 84 0 from rfl)); have z := aN_ro (a := aT 84 S) (p := l2.toInt) (by omega); rw [hi2] at z r0; omega) | (have nf := hi3; have r0 := (congrArg Int32.toInt (show aT 84 S 87 0 = mI S 84 0 from rfl)); have o := tb_n3 (P := 84) (x := l2) hi1 rn_c1; have z := aN_fr (a := aT 84 S) (p := l2.toInt) (by omega) (ob_neg o); rw [hi2] at z; omega))
              · skip
                have th_c1 := (fun _ z => zG_70 hI (c := 70) (by decide) z) c1 hc
                have rg_c1 : zTa (mR S 70) (mI S 71 l2.toNatClampNeg) = some c1 := (ta_rd (y := (mI S 71 l2.toNatClampNeg)) hi1 (by omega) (by omega)).symm.trans hc
                refine ⟨zG_n hI th_c1, ?_⟩
                have f22 := zG_th hI th_c1
                first | have e23 : (l2 + (mI S c1 2)).toInt = l2.toInt + (mI S c1 2).toInt := i_add (by omega) (by omega) | have b24 := i_bd (l2 + (mI S c1 2))
                exact IH _ (by omega) ((l2 + (mI S c1 2))) rfl hI (by omega) (show xB S (mR S 70) from by first | (exact xB_x (xC_o (W := 75) hi1).2)) (show aT 84 S = ab from by first | (exact hi2)) (show aN ab ((l2 + (mI S c1 2))).toInt = aN ab p.toInt from by first | (have r0 := (congrArg Int32.toInt (show aT 84 S 87 0 = mI S 84 0 from rfl)); have o := tb_y (P := 84) (x := l2) hi1 rg_c1 (by omega) (by omega); have z := aN_ob (a := aT 84 S) (p := l2.toInt) (tz_e (sz_of hI (by decide))) (by omega) (by rw [o.1]; omega); rw [o.1, o.2] at z; rw [hi2] at z; refine Eq.trans ?_ (z.symm.trans hi3); congr 1))
theorem sp_105_84_s {X : Nat × (Nat → Int32)} {d w : Nat} {f : Nat → Nat → Int32} {r : Nat → Nat → Option Nat} {C Z N : Nat} {Q : Option ma_V ⊕ Nat → ma_S → Prop} {ab : Nat→Nat→Int32} {S : ma_S} (p : Int32) (hd : 1 ≤ d) (hw : 22 ≤ w) (hI : zJ84 f r C Z N S) (hpre0 : xB S (mR S 70)) (hpre1 : aT 84 S = ab) (hpre2 : 0 ≤ p.toInt) (K : ∀ v S₉, S₉ = S → (0 ≤ v.toInt ∧ v.toInt ≤ 1500) → (v.toInt = aN ab p.toInt) → Q (.inl (some (.inl v))) S₉) : ma_wp X d w 105 0 [(0, .inr (.inr (some 84))), (1, .inl p)] [] S Q := by
  refine g_105_84_s_0 p (by omega) (by omega) (zG_T hI) ?_
  have b1 := i_bd p
  exact lp_105_84_s_2 (by omega) (by omega) K _ (p) rfl hI (by omega) (show xB S (mR S 70) from by first | (exact xB_x (xC_o (W := 75) hpre0).2)) (show aT 84 S = ab from by first | (exact hpre1)) (show aN ab (p).toInt = aN ab p.toInt from by first | (exact rfl))

/-! from 95.k18 -/
/-! the collectors that sweep, the class (written by wip/tools/gen20.py) -/
theorem g_106_84_s_0 {X : Nat × (Nat → Int32)} {d w : Nat} {S : ma_S} {Q : Option ma_V ⊕ Nat → ma_S → Prop} (p : Int32) (hd : 1 ≤ d) (hw : 22 ≤ w) (hS : zT S) (h : ma_wp X d w 106 2 [(0, .inr (.inr (some 84))), (2, .inl p)] [] S Q) : ma_wp X d w 106 0 [(0, .inr (.inr (some 84))), (1, .inl p)] [] S Q := by
  refine zw_push hm_106 dX8_freeEnd_0 (v := .inl p) rfl ?_
  refine zw_sto hm_106 dX8_freeEnd_1 [(2, .inl p), (0, .inr (.inr (some 84))), (1, .inl p)] rfl rfl rfl ?_
  exact zw_sub (ma_nd_of (ks := [0, 2]) rfl (by decide)) (ma_nd_of (ks := [2, 0, 1]) rfl (by decide)) (ma_le_cons rfl (ma_le_cons rfl (ma_le_nil _))) h
theorem g_106_84_s_2 {X : Nat × (Nat → Int32)} {d w : Nat} {S : ma_S} {Q : Option ma_V ⊕ Nat → ma_S → Prop} (l2 : Int32) (hd : 1 ≤ d) (hw : 22 ≤ w) (hS : zT S) (h : if (mI S 84 0) ≤ l2 then (Q (.inl (some (.inl l2))) S) else (if l2 < 0 then (ma_wp X d w 106 2 [(0, .inr (.inr (some 84))), (2, .inl (l2 + (1 : Int32)))] [] S Q) else (if (4500 : Int32) ≤ l2 then (ma_wp X d w 106 2 [(0, .inr (.inr (some 84))), (2, .inl (l2 + (1 : Int32)))] [] S Q) else ((0 ≤ l2 ∧ l2.toNatClampNeg < 4500) ∧ (if (mI S 71 l2.toNatClampNeg) < 0 then (ma_wp X d w 106 2 [(0, .inr (.inr (some 84))), (2, .inl (l2 + (1 : Int32)))] [] S Q) else (if (512 : Int32) ≤ (mI S 71 l2.toNatClampNeg) then (ma_wp X d w 106 2 [(0, .inr (.inr (some 84))), (2, .inl (l2 + (1 : Int32)))] [] S Q) else ((0 ≤ (mI S 71 l2.toNatClampNeg) ∧ (mI S 71 l2.toNatClampNeg).toNatClampNeg < 512) ∧ (((mR S 70 (mI S 71 l2.toNatClampNeg).toNatClampNeg) = none → ma_wp X d w 106 2 [(0, .inr (.inr (some 84))), (2, .inl (l2 + (1 : Int32)))] [] S Q) ∧ (∀ c1, (mR S 70 (mI S 71 l2.toNatClampNeg).toNatClampNeg) = some c1 → Q (.inl (some (.inl l2))) S))))))))) : ma_wp X d w 106 2 [(0, .inr (.inr (some 84))), (2, .inl l2)] [] S Q := by
  refine zw_push hm_106 dX8_freeEnd_2 (v := .inl l2) rfl ?_
  refine zw_push hm_106 dX8_freeEnd_3 (v := .inr (.inr (some 84))) rfl ?_
  refine zw_gf hm_106 dX8_freeEnd_4 (v := .inl (mI S 84 0)) (zT_is hS s_84) (zT_t hS s_84) rfl f_8_9_2 rfl ?_
  refine zw_if2 hm_106 dX8_freeEnd_7 (t := 27) rfl zc2_ge ?_ ?_
  · intro hc
    rw [if_pos hc] at h
    refine zw_push hm_106 dX8_freeEnd_27 (v := .inl l2) rfl ?_
    exact zw_iret hm_106 dX8_freeEnd_28 h
  · intro hc
    rw [if_neg hc] at h
    refine zw_push hm_106 dX8_freeEnd_10 (v := .inr (.inr (some 84))) rfl ?_
    refine zw_gf hm_106 dX8_freeEnd_11 (v := .inr (.inr (some 69))) (zT_is hS s_84) (zT_t hS s_84) rfl f_8_46_2 (zT_f hS r_84_3) ?_
    refine zw_push hm_106 dX8_freeEnd_14 (v := .inl l2) rfl ?_
    refine zw_cv hm_106 dX8_freeEnd_15 v_8_50_7 hm_89 [.inl l2] [] rfl (zT_rt hS s_69 rfl) ⟨by omega, by omega⟩ rfl ?_
    show ma_wp X (d - 1) (w - 22) 89 0 [(0, .inr (.inr (some 69))), (1, .inl l2)] [] S _
    refine zw_push hm_89 dX7_thingFrom_0 (v := .inl l2) rfl ?_
    refine zw_if0 hm_89 dX7_thingFrom_1 (t := 20) rfl zc0_lt ?_ ?_
    · intro hc
      rw [if_pos hc] at h
      refine zw_push hm_89 dX7_thingFrom_20 (v := .inl (-1 : Int32)) rfl ?_
      refine zw_sto hm_89 dX7_thingFrom_21 [(2, .inl (-1 : Int32)), (0, .inr (.inr (some 69))), (1, .inl l2)] rfl rfl rfl ?_
      refine zw_push hm_89 dX7_thingFrom_22 (v := .inl (-1 : Int32)) rfl ?_
      refine zw_if0 hm_89 dX7_thingFrom_23 (t := 42) rfl zc0_lt (fun _ => ?_) (fun hc => absurd (by decide) hc)
      refine zw_push hm_89 dX7_thingFrom_42 (v := .inr (.inr none)) rfl ?_
      refine zw_aret hm_89 dX7_thingFrom_43 ?_
      show ma_wp X d w 106 18 [(0, .inr (.inr (some 84))), (2, .inl l2)] [.inr (.inr none)] S _
      refine zw_ifnonnull hm_106 dX8_freeEnd_18 (t := 27) rfl (fun _ => ?_) (fun _ z => by cases z)
      refine zw_sto hm_106 dX8_freeEnd_21 [(2, .inl (l2 + (1 : Int32))), (0, .inr (.inr (some 84)))] rfl rfl rfl ?_
      refine zw_goto hm_106 dX8_freeEnd_24 (t := 2) rfl ?_
      exact zw_sub (ma_nd_of (ks := [0, 2]) rfl (by decide)) (ma_nd_of (ks := [2, 0]) rfl (by decide)) (ma_le_cons rfl (ma_le_cons rfl (ma_le_nil _))) h
    · intro hc
      rw [if_neg hc] at h
      refine zw_push hm_89 dX7_thingFrom_4 (v := .inl l2) rfl ?_
      refine zw_push hm_89 dX7_thingFrom_5 (v := .inl (4500 : Int32)) rfl ?_
      refine zw_if2 hm_89 dX7_thingFrom_8 (t := 20) rfl zc2_ge ?_ ?_
      · intro hc
        rw [if_pos hc] at h
        refine zw_push hm_89 dX7_thingFrom_20 (v := .inl (-1 : Int32)) rfl ?_
        refine zw_sto hm_89 dX7_thingFrom_21 [(2, .inl (-1 : Int32)), (0, .inr (.inr (some 69))), (1, .inl l2)] rfl rfl rfl ?_
        refine zw_push hm_89 dX7_thingFrom_22 (v := .inl (-1 : Int32)) rfl ?_
        refine zw_if0 hm_89 dX7_thingFrom_23 (t := 42) rfl zc0_lt (fun _ => ?_) (fun hc => absurd (by decide) hc)
        refine zw_push hm_89 dX7_thingFrom_42 (v := .inr (.inr none)) rfl ?_
        refine zw_aret hm_89 dX7_thingFrom_43 ?_
        show ma_wp X d w 106 18 [(0, .inr (.inr (some 84))), (2, .inl l2)] [.inr (.inr none)] S _
        refine zw_ifnonnull hm_106 dX8_freeEnd_18 (t := 27) rfl (fun _ => ?_) (fun _ z => by cases z)
        refine zw_sto hm_106 dX8_freeEnd_21 [(2, .inl (l2 + (1 : Int32))), (0, .inr (.inr (some 84)))] rfl rfl rfl ?_
        refine zw_goto hm_106 dX8_freeEnd_24 (t := 2) rfl ?_
        exact zw_sub (ma_nd_of (ks := [0, 2]) rfl (by decide)) (ma_nd_of (ks := [2, 0]) rfl (by decide)) (ma_le_cons rfl (ma_le_cons rfl (ma_le_nil _))) h
      · intro hc
        rw [if_neg hc] at h
        refine zw_push hm_89 dX7_thingFrom_11 (v := .inr (.inr (some 69))) rfl ?_
        refine zw_gf hm_89 dX7_thingFrom_12 (v := .inr (.inr (some 71))) (zT_is hS s_69) (zT_t hS s_69) rfl f_7_17_7 (zT_f hS r_69_1) ?_
        refine zw_push hm_89 dX7_thingFrom_15 (v := .inl l2) rfl ?_
        obtain ⟨hg, h⟩ := h
        refine zw_ia hm_89 dX7_thingFrom_16 (zT_is hS s_71) (zT_h hS s_71) rfl hg ?_
        show ma_wp X (d - 1) (w - 22) 89 17 [(0, .inr (.inr (some 69))), (1, .inl l2)] [.inl (mI S 71 l2.toNatClampNeg)] S _
        refine zw_goto hm_89 dX7_thingFrom_17 (t := 21) rfl ?_
        refine zw_sto hm_89 dX7_thingFrom_21 [(2, .inl (mI S 71 l2.toNatClampNeg)), (0, .inr (.inr (some 69))), (1, .inl l2)] rfl rfl rfl ?_
        refine zw_push hm_89 dX7_thingFrom_22 (v := .inl (mI S 71 l2.toNatClampNeg)) rfl ?_
        refine zw_if0 hm_89 dX7_thingFrom_23 (t := 42) rfl zc0_lt ?_ ?_
        · intro hc
          rw [if_pos hc] at h
          refine zw_push hm_89 dX7_thingFrom_42 (v := .inr (.inr none)) rfl ?_
          refine zw_aret hm_89 dX7_thingFrom_43 ?_
          show ma_wp X d w 106 18 [(0, .inr (.inr (some 84))), (2, .inl l2)] [.inr (.inr none)] S _
          refine zw_ifnonnull hm_106 dX8_freeEnd_18 (t := 27) rfl (fun _ => ?_) (fun _ z => by cases z)
          refine zw_sto hm_106 dX8_freeEnd_21 [(2, .inl (l2 + (1 : Int32))), (0, .inr (.inr (some 84)))] rfl rfl rfl ?_
          refine zw_goto hm_106 dX8_freeEnd_24 (t := 2) rfl ?_
          exact zw_sub (ma_nd_of (ks := [0, 2]) rfl (by decide)) (ma_nd_of (ks := [2, 0]) rfl (by decide)) (ma_le_cons rfl (ma_le_cons rfl (ma_le_nil _))) h
        · intro hc
          rw [if_neg hc] at h
          refine zw_push hm_89 dX7_thingFrom_26 (v := .inl (mI S 71 l2.toNatClampNeg)) rfl ?_
          refine zw_push hm_89 dX7_thingFrom_27 (v := .inl (512 : Int32)) rfl ?_
          refine zw_if2 hm_89 dX7_thingFrom_30 (t := 42) rfl zc2_ge ?_ ?_
          · intro hc
            rw [if_pos hc] at h
            refine zw_push hm_89 dX7_thingFrom_42 (v := .inr (.inr none)) rfl ?_
            refine zw_aret hm_89 dX7_thingFrom_43 ?_
            show ma_wp X d w 106 18 [(0, .inr (.inr (some 84))), (2, .inl l2)] [.inr (.inr none)] S _
            refine zw_ifnonnull hm_106 dX8_freeEnd_18 (t := 27) rfl (fun _ => ?_) (fun _ z => by cases z)
            refine zw_sto hm_106 dX8_freeEnd_21 [(2, .inl (l2 + (1 : Int32))), (0, .inr (.inr (some 84)))] rfl rfl rfl ?_
            refine zw_goto hm_106 dX8_freeEnd_24 (t := 2) rfl ?_
            exact zw_sub (ma_nd_of (ks := [0, 2]) rfl (by decide)) (ma_nd_of (ks := [2, 0]) rfl (by decide)) (ma_le_cons rfl (ma_le_cons rfl (ma_le_nil _))) h
          · intro hc
            rw [if_neg hc] at h
            refine zw_push hm_89 dX7_thingFrom_33 (v := .inr (.inr (some 69))) rfl ?_
            refine zw_gf hm_89 dX7_thingFrom_34 (v := .inr (.inr (some 70))) (zT_is hS s_69) (zT_t hS s_69) rfl f_7_11_7 (zT_f hS r_69_0) ?_
            refine zw_push hm_89 dX7_thingFrom_37 (v := .inl (mI S 71 l2.toNatClampNeg)) rfl ?_
            obtain ⟨hg, h⟩ := h
            refine zw_aa hm_89 dX7_thingFrom_38 (zT_is hS s_70) (zT_h hS s_70) rfl rfl hg rfl ?_
            show ma_wp X (d - 1) (w - 22) 89 39 [(2, .inl (mI S 71 l2.toNatClampNeg)), (0, .inr (.inr (some 69))), (1, .inl l2)] [.inr (.inr (mR S 70 (mI S 71 l2.toNatClampNeg).toNatClampNeg))] S _
            refine zw_goto hm_89 dX7_thingFrom_39 (t := 43) rfl ?_
            refine zw_aret hm_89 dX7_thingFrom_43 ?_
            show ma_wp X d w 106 18 [(0, .inr (.inr (some 84))), (2, .inl l2)] [.inr (.inr (mR S 70 (mI S 71 l2.toNatClampNeg).toNatClampNeg))] S _
            refine zw_ifnonnull hm_106 dX8_freeEnd_18 (t := 27) rfl ?_ ?_
            · intro hc
              have h := h.1 hc
              (try rw [hc])
              show ma_wp X d w 106 21 [(0, .inr (.inr (some 84))), (2, .inl l2)] [] S _
              refine zw_sto hm_106 dX8_freeEnd_21 [(2, .inl (l2 + (1 : Int32))), (0, .inr (.inr (some 84)))] rfl rfl rfl ?_
              refine zw_goto hm_106 dX8_freeEnd_24 (t := 2) rfl ?_
              exact zw_sub (ma_nd_of (ks := [0, 2]) rfl (by decide)) (ma_nd_of (ks := [2, 0]) rfl (by decide)) (ma_le_cons rfl (ma_le_cons rfl (ma_le_nil _))) h
            · intro c1 hc
              have h := h.2 c1 hc
              (try rw [hc])
              show ma_wp X d w 106 27 [(0, .inr (.inr (some 84))), (2, .inl l2)] [] S _
              refine zw_push hm_106 dX8_freeEnd_27 (v := .inl l2) rfl ?_
              exact zw_iret hm_106 dX8_freeEnd_28 h
theorem lp_106_84_s_2 {X : Nat × (Nat → Int32)} {d w : Nat} {f : Nat → Nat → Int32} {r : Nat → Nat → Option Nat} {C Z N : Nat} {Q : Option ma_V ⊕ Nat → ma_S → Prop} {ab : Nat→Nat→Int32} {p : Int32} {S : ma_S} (hd : 1 ≤ d) (hw : 22 ≤ w) (K : ∀ v S₉, S₉ = S → (0 ≤ v.toInt ∧ v.toInt ≤ 300000) → (v.toInt = aE ab p.toInt) → Q (.inl (some (.inl v))) S₉) : ∀ (n : Nat) (l2 : Int32), (1500 - l2.toInt).toNat = n → zJ84 f r C Z N S → (0 ≤ l2.toInt) → (l2.toInt ≤ 300000) → (xB S (mR S 70)) → (aT 84 S = ab) → (aE ab l2.toInt = aE ab p.toInt) → ma_wp X d w 106 2 [(0, .inr (.inr (some 84))), (2, .inl l2)] [] S Q := by
  intro n
  induction n using Nat.strongRecOn with
  | _ n IH =>
    intro l2 hmu hI  hi0 hi1 hi2 hi3 hi4
    refine g_106_84_s_2 l2 (by omega) (by omega) (zG_T hI) ?_
    have f1 := zG_s hI (0) (1500) (c := 84) (k := 0) (by decide)
    have b2 := i_bd l2
    refine zd (fun h3 => ?_) (fun h3 => ?_)
    · skip
      have g4 := i_le h3
      exact K (l2) _ rfl (by omega) (show l2.toInt = aE ab p.toInt from by first | (have ef := hi4; have r0 := (congrArg Int32.toInt (show aT 84 S 87 0 = mI S 84 0 from rfl)); have z := aE_st (a := aT 84 S) (p := l2.toInt) (by omega); rw [hi3] at z; omega))
    · skip
      have g5 := i_nle h3
      have li6 : (0 : Int32).toInt = 0 := rfl
      refine zd (fun h7 => ?_) (fun h7 => ?_)
      · skip
        have g8 := i_lt h7
        first | have e9 : (l2 + (1 : Int32)).toInt = l2.toInt + (1) := i_addk rfl (by omega) (by omega) | have b10 := i_bd (l2 + (1 : Int32))
        exact IH _ (by omega) ((l2 + (1 : Int32))) rfl hI (by omega) (by omega) (show xB S (mR S 70) from by first | (exact xB_x (xC_o (W := 75) hi2).2)) (show aT 84 S = ab from by first | (exact hi3)) (show aE ab ((l2 + (1 : Int32))).toInt = aE ab p.toInt from by first | (have r0 := (congrArg Int32.toInt (show aT 84 S 87 0 = mI S 84 0 from rfl)); have o := ob_n1 (a := aT 84 S) (p := l2.toInt) (by omega); have z := aE_go (a := aT 84 S) (p := l2.toInt) (by omega) (ob_neg o); rw [hi3] at z; rw [show (l2 + (1 : Int32)).toInt = l2.toInt + 1 from by omega]; exact z.symm.trans hi4) | (have r0 := (congrArg Int32.toInt (show aT 84 S 87 0 = mI S 84 0 from rfl)); have o := tb_n2 (P := 84) (S := S) (x := l2) (by omega); have z := aE_go (a := aT 84 S) (p := l2.toInt) (by omega) (ob_neg o); rw [hi3] at z; rw [show (l2 + (1 : Int32)).toInt = l2.toInt + 1 from by omega]; exact z.symm.trans hi4))
      · skip
        have g11 := i_nlt h7
        have li12 : (4500 : Int32).toInt = 4500 := rfl
        refine zd (fun h13 => ?_) (fun h13 => ?_)
        · skip
          have g14 := i_le h13
          first | have e15 : (l2 + (1 : Int32)).toInt = l2.toInt + (1) := i_addk rfl (by omega) (by omega) | have b16 := i_bd (l2 + (1 : Int32))
          exact IH _ (by omega) ((l2 + (1 : Int32))) rfl hI (by omega) (by omega) (show xB S (mR S 70) from by first | (exact xB_x (xC_o (W := 75) hi2).2)) (show aT 84 S = ab from by first | (exact hi3)) (show aE ab ((l2 + (1 : Int32))).toInt = aE ab p.toInt from by first | (have r0 := (congrArg Int32.toInt (show aT 84 S 87 0 = mI S 84 0 from rfl)); have o := ob_n1 (a := aT 84 S) (p := l2.toInt) (by omega); have z := aE_go (a := aT 84 S) (p := l2.toInt) (by omega) (ob_neg o); rw [hi3] at z; rw [show (l2 + (1 : Int32)).toInt = l2.toInt + 1 from by omega]; exact z.symm.trans hi4) | (have r0 := (congrArg Int32.toInt (show aT 84 S 87 0 = mI S 84 0 from rfl)); have o := tb_n2 (P := 84) (S := S) (x := l2) (by omega); have z := aE_go (a := aT 84 S) (p := l2.toInt) (by omega) (ob_neg o); rw [hi3] at z; rw [show (l2 + (1 : Int32)).toInt = l2.toInt + 1 from by omega]; exact z.symm.trans hi4))
        · skip
          have g17 := i_nle h13
          refine ⟨i_ix (by omega) (by omega), ?_⟩
          have b18 := i_bd (mI S 71 l2.toNatClampNeg)
          refine zd (fun h19 => ?_) (fun h19 => ?_)
          · skip
            have g20 := i_lt h19
            first | have e21 : (l2 + (1 : Int32)).toInt = l2.toInt + (1) := i_addk rfl (by omega) (by omega) | have b22 := i_bd (l2 + (1 : Int32))
            exact IH _ (by omega) ((l2 + (1 : Int32))) rfl hI (by omega) (by omega) (show xB S (mR S 70) from by first | (exact xB_x (xC_o (W := 75) hi2).2)) (show aT 84 S = ab from by first | (exact hi3)) (show aE ab ((l2 + (1 : Int32))).toInt = aE ab p.toInt from by first | (have r0 := (congrArg Int32.toInt (show aT 84 S 87 0 = mI S 84 0 from rfl)); have o := ob_n1 (a := aT 84 S) (p := l2.toInt) (by omega); have z := aE_go (a := aT 84 S) (p := l2.toInt) (by omega) (ob_neg o); rw [hi3] at z; rw [show (l2 + (1 : Int32)).toInt = l2.toInt + 1 from by omega]; exact z.symm.trans hi4) | (have r0 := (congrArg Int32.toInt (show aT 84 S 87 0 = mI S 84 0 from rfl)); have o := tb_n2 (P := 84) (S := S) (x := l2) (by omega); have z := aE_go (a := aT 84 S) (p := l2.toInt) (by omega) (ob_neg o); rw [hi3] at z; rw [show (l2 + (1 : Int32)).toInt = l2.toInt + 1 from by omega]; exact z.symm.trans hi4))
          · skip
            have g23 := i_nlt h19
            have li24 : (512 : Int32).toInt = 512 := rfl
            refine zd (fun h25 => ?_) (fun h25 => ?_)
            · skip
              have g26 := i_le h25
              first | have e27 : (l2 + (1 : Int32)).toInt = l2.toInt + (1) := i_addk rfl (by omega) (by omega) | have b28 := i_bd (l2 + (1 : Int32))
              exact IH _ (by omega) ((l2 + (1 : Int32))) rfl hI (by omega) (by omega) (show xB S (mR S 70) from by first | (exact xB_x (xC_o (W := 75) hi2).2)) (show aT 84 S = ab from by first | (exact hi3)) (show aE ab ((l2 + (1 : Int32))).toInt = aE ab p.toInt from by first | (have r0 := (congrArg Int32.toInt (show aT 84 S 87 0 = mI S 84 0 from rfl)); have o := ob_n1 (a := aT 84 S) (p := l2.toInt) (by omega); have z := aE_go (a := aT 84 S) (p := l2.toInt) (by omega) (ob_neg o); rw [hi3] at z; rw [show (l2 + (1 : Int32)).toInt = l2.toInt + 1 from by omega]; exact z.symm.trans hi4) | (have r0 := (congrArg Int32.toInt (show aT 84 S 87 0 = mI S 84 0 from rfl)); have o := tb_n2 (P := 84) (S := S) (x := l2) (by omega); have z := aE_go (a := aT 84 S) (p := l2.toInt) (by omega) (ob_neg o); rw [hi3] at z; rw [show (l2 + (1 : Int32)).toInt = l2.toInt + 1 from by omega]; exact z.symm.trans hi4))
            · skip
              have g29 := i_nle h25
              refine ⟨i_ix (by omega) (by omega), ?_⟩
              refine ⟨fun hc => ?_, fun c1 hc => ?_⟩
              · skip
                have rn_c1 : zTa (mR S 70) (mI S 71 l2.toNatClampNeg) = none := (ta_rd (y := (mI S 71 l2.toNatClampNeg)) hi2 (by omega) (by omega)).symm.trans hc
                first | have e30 : (l2 + (1 : Int32)).toInt = l2.toInt + (1) := i_addk rfl (by omega) (by omega) | have b31 := i_bd (l2 + (1 : Int32))
                exact IH _ (by omega) ((l2 + (1 : Int32))) rfl hI (by omega) (by omega) (show xB S (mR S 70) from by first | (exact xB_x (xC_o (W := 75) hi2).2)) (show aT 84 S = ab from by first | (exact hi3)) (show aE ab ((l2 + (1 : Int32))).toInt = aE ab p.toInt from by first | (have r0 := (congrArg Int32.toInt (show aT 84 S 87 0 = mI S 84 0 from rfl)); have o := tb_n3 (P := 84) (x := l2) hi2 rn_c1; have z := aE_go (a := aT 84 S) (p := l2.toInt) (by omega) (ob_neg o); rw [hi3] at z; rw [show (l2 + (1 : Int32)).toInt = l2.toInt + 1 from by omega]; exact z.symm.trans hi4))
              · skip
                have th_c1 := (fun _ z => zG_70 hI (c := 70) (by decide) z) c1 hc
                have rg_c1 : zTa (mR S 70) (mI S 71 l2.toNatClampNeg) = some c1 := (ta_rd (y := (mI S 71 l2.toNatClampNeg)) hi2 (by omega) (by omega)).symm.trans hc
                exact K (l2) _ rfl (by omega) (show l2.toInt = aE ab p.toInt from by first | (have ef := hi4; have r0 := (congrArg Int32.toInt (show aT 84 S 87 0 = mI S 84 0 from rfl)); have o := tb_y (P := 84) (x := l2) hi2 rg_c1 (by omega) (by omega); have z := aE_st (a := aT 84 S) (p := l2.toInt) (fun w => by rw [o.1] at w; omega); rw [hi3] at z; omega))
theorem sp_106_84_s {X : Nat × (Nat → Int32)} {d w : Nat} {f : Nat → Nat → Int32} {r : Nat → Nat → Option Nat} {C Z N : Nat} {Q : Option ma_V ⊕ Nat → ma_S → Prop} {ab : Nat→Nat→Int32} {S : ma_S} (p : Int32) (hd : 1 ≤ d) (hw : 22 ≤ w) (hI : zJ84 f r C Z N S) (hpre0 : xB S (mR S 70)) (hpre1 : aT 84 S = ab) (hpre2 : 0 ≤ p.toInt) (hpre3 : p.toInt ≤ 300000) (K : ∀ v S₉, S₉ = S → (0 ≤ v.toInt ∧ v.toInt ≤ 300000) → (v.toInt = aE ab p.toInt) → Q (.inl (some (.inl v))) S₉) : ma_wp X d w 106 0 [(0, .inr (.inr (some 84))), (1, .inl p)] [] S Q := by
  refine g_106_84_s_0 p (by omega) (by omega) (zG_T hI) ?_
  have b1 := i_bd p
  exact lp_106_84_s_2 (by omega) (by omega) K _ (p) rfl hI (by omega) (by omega) (show xB S (mR S 70) from by first | (exact xB_x (xC_o (W := 75) hpre0).2)) (show aT 84 S = ab from by first | (exact hpre1)) (show aE ab (p).toInt = aE ab p.toInt from by first | (exact rfl))

/-! from 95.k21 -/
/-! the collectors that sweep, the class (written by wip/tools/gen20.py) -/
/-! a ROOT, a REFERENCE: nobody is told -/
def aR0 (a : Nat → Nat → Int32) (i y : Int32) : Nat → Nat → Int32 := ma_u a 72 i.toNatClampNeg (aNm a y)
def aL0 (a : Nat → Nat → Int32) (n : Nat) (i y : Int32) : Nat → Nat → Int32 := aCi a n i (aNm a y)
theorem g_145_64_79_s_0 {X : Nat × (Nat → Int32)} {d w : Nat} {S : ma_S} {Q : Option ma_V ⊕ Nat → ma_S → Prop} (i : Int32) (x : Option Nat) (hd : 5 ≤ d) (hw : 110 ≤ w) (hS : zT S) (h : ma_wp X (d - 1) (w - 23) 92 0 [(0, .inr (.inr (some 69))), (1, .inl i), (2, .inr (.inr x))] [] S (zo (fun v2 S1 => zT S1 ∧ (Q (.inl (some (.inr (.inr v2)))) S1)) (fun x S9 => Q (.inr x) S9))) : ma_wp X d w 145 0 [(0, .inr (.inr (some 64))), (1, .inr (.inr (some 79))), (2, .inl i), (3, .inr (.inr x))] [] S Q := by
  refine zw_push hm_145 dX11_changeRoot_0 (v := .inr (.inr (some 64))) rfl ?_
  refine zw_gf hm_145 dX11_changeRoot_1 (v := .inr (.inr (some 69))) (zT_is hS s_64) (zT_t hS s_64) rfl f_11_26_11 (zT_f hS r_64_8) ?_
  refine zw_push hm_145 dX11_changeRoot_4 (v := .inl i) rfl ?_
  refine zw_push hm_145 dX11_changeRoot_5 (v := .inr (.inr x)) rfl ?_
  refine zw_cv hm_145 dX11_changeRoot_6 v_11_379_7 hm_92 [.inr (.inr x), .inl i] [] rfl (zT_rt hS s_69 rfl) ⟨by omega, by omega⟩ rfl (zw_mono h (zo_go ?_ ?_))
  · intro v2 S1 hv
    obtain ⟨hS1, h⟩ := hv
    refine zw_sto hm_145 dX11_changeRoot_9 [(4, .inr (.inr v2)), (0, .inr (.inr (some 64))), (1, .inr (.inr (some 79))), (2, .inl i), (3, .inr (.inr x))] rfl rfl rfl ?_
    refine zw_push hm_145 dX11_changeRoot_11 (v := .inr (.inr (some 79))) rfl ?_
    refine zw_push hm_145 dX11_changeRoot_12 (v := .inr (.inr v2)) rfl ?_
    refine zw_push hm_145 dX11_changeRoot_14 (v := .inr (.inr x)) rfl ?_
    refine zw_cv hm_145 dX11_changeRoot_15 v_11_153_8 hm_265 [.inr (.inr x), .inr (.inr v2)] [] rfl (zT_rt hS1 s_79 rfl) ⟨by omega, by omega⟩ rfl ?_
    show ma_wp X (d - 1) (w - 22) 265 0 [(0, .inr (.inr (some 79))), (1, .inr (.inr v2)), (2, .inr (.inr x))] [] S1 _
    refine zw_vret hm_265 dX1_noteChange_0 ?_
    show ma_wp X d w 145 18 [(4, .inr (.inr v2)), (0, .inr (.inr (some 64))), (1, .inr (.inr (some 79))), (2, .inl i), (3, .inr (.inr x))] [] S1 _
    refine zw_push hm_145 dX11_changeRoot_18 (v := .inr (.inr (some 79))) rfl ?_
    refine zw_push hm_145 dX11_changeRoot_19 (v := .inr (.inr v2)) rfl ?_
    refine zw_cv hm_145 dX11_changeRoot_21 v_11_157_8 hm_266 [.inr (.inr v2)] [] rfl (zT_rt hS1 s_79 rfl) ⟨by omega, by omega⟩ rfl ?_
    show ma_wp X (d - 1) (w - 21) 266 0 [(0, .inr (.inr (some 79))), (1, .inr (.inr v2))] [] S1 _
    refine zw_vret hm_266 dX1_noteFewer_0 ?_
    show ma_wp X d w 145 24 [(4, .inr (.inr v2)), (0, .inr (.inr (some 64))), (1, .inr (.inr (some 79))), (2, .inl i), (3, .inr (.inr x))] [] S1 _
    refine zw_push hm_145 dX11_changeRoot_24 (v := .inr (.inr v2)) rfl ?_
    exact zw_aret hm_145 dX11_changeRoot_26 h
  · intro x S9 hx
    exact ⟨by decide, hx⟩
theorem sp_145_64_79_s {X : Nat × (Nat → Int32)} {d w : Nat} {f : Nat → Nat → Int32} {r : Nat → Nat → Option Nat} {C Z N : Nat} {Q : Option ma_V ⊕ Nat → ma_S → Prop} {ab : Nat→Nat→Int32} {R : zRT} {y : Int32} {fq : Nat→Int32} {S : ma_S} (i : Int32) (x : Option Nat) (hd : 5 ≤ d) (hw : 110 ≤ w) (hI : zJ79 f r C Z N S) (hq_x : ∀ c, x = some c → 126 ≤ c ∧ c < N) (hpre0 : xB S R) (hpre1 : aS 88 S = ab) (hpre2 : x = zTa R y) (hpre3 : 0 ≤ i.toInt) (hpre4 : i.toInt ≤ 15) (hpre5 : zfP 79 (mI S) = fq) (K : ∀ v S₉, zJ79 f r C Z N S₉ → (∀ c, v = some c → 126 ≤ c ∧ c < N) → (xB S₉ R) → (aS 88 S₉ = aR0 ab i y) → (v = zTa R (ab 72 i.toNatClampNeg)) → (zfP 79 (mI S₉) = fq) → Q (.inl (some (.inr (.inr v)))) S₉) : ma_wp X d w 145 0 [(0, .inr (.inr (some 64))), (1, .inr (.inr (some 79))), (2, .inl i), (3, .inr (.inr x))] [] S Q := by
  refine g_145_64_79_s_0 i x (by omega) (by omega) (zG_T hI) ?_
  have b1 := i_bd i
  refine sp_92_69_s (ab := (aS 88 S)) (R := R) (W := 88) (y := (y)) (i) (x) (by omega) (by omega) (zJ79_dn hI) hq_x (show xB S R from by first | (exact (xC_o (W := 75) hpre0).2)) (show aS 88 S = (aS 88 S) from by first | (exact rfl)) (show xW 88 from by first | (exact xW88) | (exact xW75)) (show x = zTa R (y) from by first | (exact hpre2)) (by omega) (by omega) (fun v2 S1 hL_S1 hq_v2 rp0_S1 rp1_S1 rp2_S1 => zo_n ⟨zG_T hL_S1, ?_⟩)
  have hI_S1 := zJ79_up hI hL_S1
  have rp0_S1 : xB S1 R := by
    have z := rp0_S1
    (try rw [show mI S 65 = f 65 from funext (fun k => zG_z hI rfl)] at z)
    (try rw [show mI S 64 1 = f 64 1 from zG_z hI rfl] at z)
    exact z
  have rp1_S1 : aS 88 S1 = ma_u (aS 88 S) 72 i.toNatClampNeg (aNm (aS 88 S) (y)) := by
    have z := rp1_S1
    (try rw [show mI S 65 = f 65 from funext (fun k => zG_z hI rfl)] at z)
    (try rw [show mI S 64 1 = f 64 1 from zG_z hI rfl] at z)
    exact z
  have rp2_S1 : v2 = zTa R ((aS 88 S) 72 i.toNatClampNeg) := by
    have z := rp2_S1
    (try rw [show mI S 65 = f 65 from funext (fun k => zG_z hI rfl)] at z)
    (try rw [show mI S 64 1 = f 64 1 from zG_z hI rfl] at z)
    exact z
  exact K (v2) _ hI_S1 hq_v2 (show xB S1 R from by first | (exact (xC_o (W := 75) rp0_S1).2)) (show aS 88 S1 = aR0 ab i y from by first | (rw [rp1_S1, hpre1]; rfl)) (show v2 = zTa R (ab 72 i.toNatClampNeg) from by first | (rw [← hpre1]; exact rp2_S1)) (show zfP 79 (mI S1) = fq from by first | (exact ((zf_fr (P := 79) (S₉ := S1) (S := S) (fun _ => zG_z hL_S1 rfl)).trans hpre5)))

/-! from 95.k22 -/
/-! the collectors that sweep, the class (written by wip/tools/gen20.py) -/
theorem g_148_64_s_p79_0 {X : Nat × (Nat → Int32)} {d w : Nat} {S : ma_S} {Q : Option ma_V ⊕ Nat → ma_S → Prop} (o : Int32) (i : Int32) (x : Int32) (hd : 7 ≤ d) (hw : 111 ≤ w) (hS : zT S) (h : mR S 64 11 = some 79 ∧ (mR S 64 11 = some 79 ∧ (ma_wp X (d - 1) (w - 22) 149 0 [(0, .inr (.inr (some 64))), (1, .inl o)] [] S (zo (fun v2 S1 => zT S1 ∧ ((∃ c3, v2 = some c3 ∧ ((126 ≤ c3 ∧ c3 < mN S1) ∧ (if i < 0 then (Q (.inr 1) (ma_bump S1)) else ((126 ≤ c3 ∧ c3 < mN S1) ∧ (if ((mI S1 c3 2) - (1 : Int32)) ≤ i then (Q (.inr 1) (ma_bump S1)) else ((126 ≤ c3 ∧ c3 < mN S1) ∧ ((126 ≤ c3 ∧ c3 < mN S1) ∧ (if i < 0 then (ma_wp X (d - 1) (w - 25) 95 0 [(0, .inr (.inr (some 69))), (1, .inr (.inr (some c3))), (2, .inl i), (3, .inl x)] [] S1 (zi (fun v5 S4 => zT S4 ∧ (Q (.inl (some (.inl v5))) S4)) (fun x S9 => Q (.inr x) S9))) else ((126 ≤ c3 ∧ c3 < mN S1) ∧ (if ((mI S1 c3 2) - (1 : Int32)) ≤ i then (ma_wp X (d - 1) (w - 25) 95 0 [(0, .inr (.inr (some 69))), (1, .inr (.inr (some c3))), (2, .inl i), (3, .inl x)] [] S1 (zi (fun v7 S6 => zT S6 ∧ (Q (.inl (some (.inl v7))) S6)) (fun x S9 => Q (.inr x) S9))) else ((126 ≤ c3 ∧ c3 < mN S1) ∧ (if (lg_cmp ((((mL S1 c3 3).toUInt64 >>> (i.toInt64.toUInt64 &&& Int64.toUInt64 63)).toInt64) &&& (1 : Int64)) (0 : Int64)) = 0 then (ma_wp X (d - 1) (w - 25) 95 0 [(0, .inr (.inr (some 69))), (1, .inr (.inr (some c3))), (2, .inl i), (3, .inl x)] [] S1 (zi (fun v9 S8 => zT S8 ∧ (Q (.inl (some (.inl v9))) S8)) (fun x S9 => Q (.inr x) S9))) else (Q (.inr 5) (ma_bump S1)))))))))))))))) (fun x S9 => Q (.inr x) S9))))) : ma_wp X d w 148 0 [(0, .inr (.inr (some 64))), (1, .inl o), (2, .inl i), (3, .inl x)] [] S Q := by
  refine zw_push hm_148 dX11_put_0 (v := .inr (.inr (some 64))) rfl ?_
  refine zw_cv hm_148 dX11_put_1 v_11_119_11 hm_144 [] [] rfl (zT_rt hS s_64 rfl) ⟨by omega, by omega⟩ rfl ?_
  show ma_wp X (d - 1) (w - 20) 144 0 [(0, .inr (.inr (some 64)))] [] S _
  refine zw_push hm_144 dX11_needCollector_0 (v := .inr (.inr (some 64))) rfl ?_
  obtain ⟨hg, h⟩ := h
  refine zw_gf hm_144 dX11_needCollector_1 (v := .inr (.inr (some 79))) (zT_is hS s_64) (zT_t hS s_64) rfl f_11_98_11 (congrArg (fun z => Sum.inr (Sum.inr z)) hg) ?_
  refine zw_ifnonnull hm_144 dX11_needCollector_4 (t := 15) rfl (fun z => by cases z) (fun _ _ => ?_)
  refine zw_push hm_144 dX11_needCollector_15 (v := .inr (.inr (some 64))) rfl ?_
  obtain ⟨hg, h⟩ := h
  refine zw_gf hm_144 dX11_needCollector_16 (v := .inr (.inr (some 79))) (zT_is hS s_64) (zT_t hS s_64) rfl f_11_98_11 (congrArg (fun z => Sum.inr (Sum.inr z)) hg) ?_
  refine zw_aret hm_144 dX11_needCollector_19 ?_
  show ma_wp X d w 148 4 [(0, .inr (.inr (some 64))), (1, .inl o), (2, .inl i), (3, .inl x)] [.inr (.inr (some 79))] S _
  refine zw_stk hm_148 dX11_put_4 (st₉ := []) rfl rfl ?_
  refine zw_push hm_148 dX11_put_5 (v := .inr (.inr (some 64))) rfl ?_
  refine zw_push hm_148 dX11_put_6 (v := .inl o) rfl ?_
  refine zw_cv hm_148 dX11_put_7 v_11_123_11 hm_149 [.inl o] [] rfl (zT_rt hS s_64 rfl) ⟨by omega, by omega⟩ rfl (zw_mono h (zo_go ?_ ?_))
  · intro v2 S1 hv
    obtain ⟨hS1, h⟩ := hv
    obtain ⟨c3, hc, h⟩ := h
    subst hc
    show ma_wp X d w 148 10 [(0, .inr (.inr (some 64))), (1, .inl o), (2, .inl i), (3, .inl x)] [.inr (.inr (some c3))] S1 _
    refine zw_sto hm_148 dX11_put_10 [(4, .inr (.inr (some c3))), (0, .inr (.inr (some 64))), (1, .inl o), (2, .inl i), (3, .inl x)] rfl rfl rfl ?_
    refine zw_push hm_148 dX11_put_12 (v := .inr (.inr (some c3))) rfl ?_
    refine zw_push hm_148 dX11_put_14 (v := .inl i) rfl ?_
    obtain ⟨hg, h⟩ := h
    refine zw_cv hm_148 dX11_put_15 v_11_127_9 hm_114 [.inl i] [] rfl (zT_trt hS1 hg) ⟨by omega, by omega⟩ rfl ?_
    show ma_wp X (d - 1) (w - 21) 114 0 [(0, .inr (.inr (some c3))), (1, .inl i)] [] S1 _
    refine zw_push hm_114 dX9_hasWord_0 (v := .inl i) rfl ?_
    refine zw_if0 hm_114 dX9_hasWord_1 (t := 18) rfl zc0_lt ?_ ?_
    · intro hc
      rw [if_pos hc] at h
      refine zw_push hm_114 dX9_hasWord_18 (v := .inl (0 : Int32)) rfl ?_
      refine zw_bret hm_114 dX9_hasWord_19 (by decide) ?_
      show ma_wp X d w 148 18 [(4, .inr (.inr (some c3))), (0, .inr (.inr (some 64))), (1, .inl o), (2, .inl i), (3, .inl x)] [.inl (0 : Int32)] S1 _
      refine zw_if0 hm_148 dX11_put_18 (t := 29) rfl zc0_ne (fun hc => absurd hc (by decide)) (fun _ => ?_)
      exact zw_thr hm_148 dX11_put_21 dX11_put_24 dX11_put_25 dX11_put_28 x_11_72_74 n_11_72 (by omega) (by show 0 + 81 ≤ w; omega) h
    · intro hc
      rw [if_neg hc] at h
      refine zw_push hm_114 dX9_hasWord_4 (v := .inl i) rfl ?_
      refine zw_push hm_114 dX9_hasWord_5 (v := .inr (.inr (some c3))) rfl ?_
      obtain ⟨hg, h⟩ := h
      refine zw_gf hm_114 dX9_hasWord_6 (v := .inl (mI S1 c3 2)) (zT_tis hS1 hg) (zT_tt hS1 hg) rfl f_9_16_9 rfl ?_
      refine zw_push hm_114 dX9_hasWord_9 (v := .inl (1 : Int32)) rfl ?_
      refine zw_stk hm_114 dX9_hasWord_10 (st₉ := [.inl ((mI S1 c3 2) - (1 : Int32)), .inl i]) rfl rfl ?_
      refine zw_if2 hm_114 dX9_hasWord_11 (t := 18) rfl zc2_ge ?_ ?_
      · intro hc
        rw [if_pos hc] at h
        refine zw_push hm_114 dX9_hasWord_18 (v := .inl (0 : Int32)) rfl ?_
        refine zw_bret hm_114 dX9_hasWord_19 (by decide) ?_
        show ma_wp X d w 148 18 [(4, .inr (.inr (some c3))), (0, .inr (.inr (some 64))), (1, .inl o), (2, .inl i), (3, .inl x)] [.inl (0 : Int32)] S1 _
        refine zw_if0 hm_148 dX11_put_18 (t := 29) rfl zc0_ne (fun hc => absurd hc (by decide)) (fun _ => ?_)
        exact zw_thr hm_148 dX11_put_21 dX11_put_24 dX11_put_25 dX11_put_28 x_11_72_74 n_11_72 (by omega) (by show 0 + 81 ≤ w; omega) h
      · intro hc
        rw [if_neg hc] at h
        refine zw_push hm_114 dX9_hasWord_14 (v := .inl (1 : Int32)) rfl ?_
        refine zw_goto hm_114 dX9_hasWord_15 (t := 19) rfl ?_
        refine zw_bret hm_114 dX9_hasWord_19 (by decide) ?_
        show ma_wp X d w 148 18 [(4, .inr (.inr (some c3))), (0, .inr (.inr (some 64))), (1, .inl o), (2, .inl i), (3, .inl x)] [.inl (1 : Int32)] S1 _
        refine zw_if0 hm_148 dX11_put_18 (t := 29) rfl zc0_ne (fun _ => ?_) (fun hc => absurd (by decide) hc)
        refine zw_push hm_148 dX11_put_29 (v := .inr (.inr (some c3))) rfl ?_
        refine zw_push hm_148 dX11_put_31 (v := .inl i) rfl ?_
        obtain ⟨hg, h⟩ := h
        refine zw_cv hm_148 dX11_put_32 v_11_132_9 hm_113 [.inl i] [] rfl (zT_trt hS1 hg) ⟨by omega, by omega⟩ rfl ?_
        show ma_wp X (d - 1) (w - 21) 113 0 [(0, .inr (.inr (some c3))), (1, .inl i)] [] S1 _
        refine zw_push hm_113 dX9_isReference_0 (v := .inr (.inr (some c3))) rfl ?_
        refine zw_push hm_113 dX9_isReference_1 (v := .inl i) rfl ?_
        obtain ⟨hg, h⟩ := h
        refine zw_cv hm_113 dX9_isReference_2 v_9_26_9 hm_114 [.inl i] [] rfl (zT_trt hS1 hg) ⟨by omega, by omega⟩ rfl ?_
        show ma_wp X ((d - 1) - 1) ((w - 21) - 21) 114 0 [(0, .inr (.inr (some c3))), (1, .inl i)] [] S1 _
        refine zw_push hm_114 dX9_hasWord_0 (v := .inl i) rfl ?_
        refine zw_if0 hm_114 dX9_hasWord_1 (t := 18) rfl zc0_lt ?_ ?_
        · intro hc
          rw [if_pos hc] at h
          refine zw_push hm_114 dX9_hasWord_18 (v := .inl (0 : Int32)) rfl ?_
          refine zw_bret hm_114 dX9_hasWord_19 (by decide) ?_
          show ma_wp X (d - 1) (w - 21) 113 5 [(0, .inr (.inr (some c3))), (1, .inl i)] [.inl (0 : Int32)] S1 _
          refine zw_if0 hm_113 dX9_isReference_5 (t := 25) rfl zc0_eq (fun _ => ?_) (fun hc => absurd (by decide) hc)
          refine zw_push hm_113 dX9_isReference_25 (v := .inl (0 : Int32)) rfl ?_
          refine zw_bret hm_113 dX9_isReference_26 (by decide) ?_
          show ma_wp X d w 148 35 [(4, .inr (.inr (some c3))), (0, .inr (.inr (some 64))), (1, .inl o), (2, .inl i), (3, .inl x)] [.inl (0 : Int32)] S1 _
          refine zw_if0 hm_148 dX11_put_35 (t := 46) rfl zc0_eq (fun _ => ?_) (fun hc => absurd (by decide) hc)
          refine zw_push hm_148 dX11_put_46 (v := .inr (.inr (some 64))) rfl ?_
          refine zw_gf hm_148 dX11_put_47 (v := .inr (.inr (some 69))) (zT_is hS1 s_64) (zT_t hS1 s_64) rfl f_11_26_11 (zT_f hS1 r_64_8) ?_
          refine zw_push hm_148 dX11_put_50 (v := .inr (.inr (some c3))) rfl ?_
          refine zw_push hm_148 dX11_put_52 (v := .inl i) rfl ?_
          refine zw_push hm_148 dX11_put_53 (v := .inl x) rfl ?_
          refine zw_cv hm_148 dX11_put_54 v_11_138_7 hm_95 [.inl x, .inl i, .inr (.inr (some c3))] [] rfl (zT_rt hS1 s_69 rfl) ⟨by omega, by omega⟩ rfl (zw_mono h (zi_go ?_ ?_))
          · intro v5 S4 hv
            obtain ⟨hS4, h⟩ := hv
            exact zw_iret hm_148 dX11_put_57 h
          · intro x S9 hx
            exact ⟨by decide, hx⟩
        · intro hc
          rw [if_neg hc] at h
          refine zw_push hm_114 dX9_hasWord_4 (v := .inl i) rfl ?_
          refine zw_push hm_114 dX9_hasWord_5 (v := .inr (.inr (some c3))) rfl ?_
          obtain ⟨hg, h⟩ := h
          refine zw_gf hm_114 dX9_hasWord_6 (v := .inl (mI S1 c3 2)) (zT_tis hS1 hg) (zT_tt hS1 hg) rfl f_9_16_9 rfl ?_
          refine zw_push hm_114 dX9_hasWord_9 (v := .inl (1 : Int32)) rfl ?_
          refine zw_stk hm_114 dX9_hasWord_10 (st₉ := [.inl ((mI S1 c3 2) - (1 : Int32)), .inl i]) rfl rfl ?_
          refine zw_if2 hm_114 dX9_hasWord_11 (t := 18) rfl zc2_ge ?_ ?_
          · intro hc
            rw [if_pos hc] at h
            refine zw_push hm_114 dX9_hasWord_18 (v := .inl (0 : Int32)) rfl ?_
            refine zw_bret hm_114 dX9_hasWord_19 (by decide) ?_
            show ma_wp X (d - 1) (w - 21) 113 5 [(0, .inr (.inr (some c3))), (1, .inl i)] [.inl (0 : Int32)] S1 _
            refine zw_if0 hm_113 dX9_isReference_5 (t := 25) rfl zc0_eq (fun _ => ?_) (fun hc => absurd (by decide) hc)
            refine zw_push hm_113 dX9_isReference_25 (v := .inl (0 : Int32)) rfl ?_
            refine zw_bret hm_113 dX9_isReference_26 (by decide) ?_
            show ma_wp X d w 148 35 [(4, .inr (.inr (some c3))), (0, .inr (.inr (some 64))), (1, .inl o), (2, .inl i), (3, .inl x)] [.inl (0 : Int32)] S1 _
            refine zw_if0 hm_148 dX11_put_35 (t := 46) rfl zc0_eq (fun _ => ?_) (fun hc => absurd (by decide) hc)
            refine zw_push hm_148 dX11_put_46 (v := .inr (.inr (some 64))) rfl ?_
            refine zw_gf hm_148 dX11_put_47 (v := .inr (.inr (some 69))) (zT_is hS1 s_64) (zT_t hS1 s_64) rfl f_11_26_11 (zT_f hS1 r_64_8) ?_
            refine zw_push hm_148 dX11_put_50 (v := .inr (.inr (some c3))) rfl ?_
            refine zw_push hm_148 dX11_put_52 (v := .inl i) rfl ?_
            refine zw_push hm_148 dX11_put_53 (v := .inl x) rfl ?_
            refine zw_cv hm_148 dX11_put_54 v_11_138_7 hm_95 [.inl x, .inl i, .inr (.inr (some c3))] [] rfl (zT_rt hS1 s_69 rfl) ⟨by omega, by omega⟩ rfl (zw_mono h (zi_go ?_ ?_))
            · intro v7 S6 hv
              obtain ⟨hS6, h⟩ := hv
              exact zw_iret hm_148 dX11_put_57 h
            · intro x S9 hx
              exact ⟨by decide, hx⟩
          · intro hc
            rw [if_neg hc] at h
            refine zw_push hm_114 dX9_hasWord_14 (v := .inl (1 : Int32)) rfl ?_
            refine zw_goto hm_114 dX9_hasWord_15 (t := 19) rfl ?_
            refine zw_bret hm_114 dX9_hasWord_19 (by decide) ?_
            show ma_wp X (d - 1) (w - 21) 113 5 [(0, .inr (.inr (some c3))), (1, .inl i)] [.inl (1 : Int32)] S1 _
            refine zw_if0 hm_113 dX9_isReference_5 (t := 25) rfl zc0_eq (fun hc => absurd hc (by decide)) (fun _ => ?_)
            refine zw_push hm_113 dX9_isReference_8 (v := .inr (.inr (some c3))) rfl ?_
            obtain ⟨hg, h⟩ := h
            refine zw_gf hm_113 dX9_isReference_9 (v := .inr (.inl (mL S1 c3 3))) (zT_tis hS1 hg) (zT_tt hS1 hg) rfl f_9_19_9 rfl ?_
            refine zw_push hm_113 dX9_isReference_12 (v := .inl i) rfl ?_
            refine zw_stk hm_113 dX9_isReference_13 (st₉ := [.inr (.inl (((mL S1 c3 3).toUInt64 >>> (i.toInt64.toUInt64 &&& Int64.toUInt64 63)).toInt64))]) rfl rfl ?_
            refine zw_push hm_113 dX9_isReference_14 (v := .inr (.inl (1 : Int64))) rfl ?_
            refine zw_stk hm_113 dX9_isReference_15 (st₉ := [.inr (.inl ((((mL S1 c3 3).toUInt64 >>> (i.toInt64.toUInt64 &&& Int64.toUInt64 63)).toInt64) &&& (1 : Int64)))]) rfl rfl ?_
            refine zw_push hm_113 dX9_isReference_16 (v := .inr (.inl (0 : Int64))) rfl ?_
            refine zw_stk hm_113 dX9_isReference_17 (st₉ := [.inl (lg_cmp ((((mL S1 c3 3).toUInt64 >>> (i.toInt64.toUInt64 &&& Int64.toUInt64 63)).toInt64) &&& (1 : Int64)) (0 : Int64))]) rfl rfl ?_
            refine zw_if0 hm_113 dX9_isReference_18 (t := 25) rfl zc0_eq ?_ ?_
            · intro hc
              rw [if_pos hc] at h
              refine zw_push hm_113 dX9_isReference_25 (v := .inl (0 : Int32)) rfl ?_
              refine zw_bret hm_113 dX9_isReference_26 (by decide) ?_
              show ma_wp X d w 148 35 [(4, .inr (.inr (some c3))), (0, .inr (.inr (some 64))), (1, .inl o), (2, .inl i), (3, .inl x)] [.inl (0 : Int32)] S1 _
              refine zw_if0 hm_148 dX11_put_35 (t := 46) rfl zc0_eq (fun _ => ?_) (fun hc => absurd (by decide) hc)
              refine zw_push hm_148 dX11_put_46 (v := .inr (.inr (some 64))) rfl ?_
              refine zw_gf hm_148 dX11_put_47 (v := .inr (.inr (some 69))) (zT_is hS1 s_64) (zT_t hS1 s_64) rfl f_11_26_11 (zT_f hS1 r_64_8) ?_
              refine zw_push hm_148 dX11_put_50 (v := .inr (.inr (some c3))) rfl ?_
              refine zw_push hm_148 dX11_put_52 (v := .inl i) rfl ?_
              refine zw_push hm_148 dX11_put_53 (v := .inl x) rfl ?_
              refine zw_cv hm_148 dX11_put_54 v_11_138_7 hm_95 [.inl x, .inl i, .inr (.inr (some c3))] [] rfl (zT_rt hS1 s_69 rfl) ⟨by omega, by omega⟩ rfl (zw_mono h (zi_go ?_ ?_))
              · intro v9 S8 hv
                obtain ⟨hS8, h⟩ := hv
                exact zw_iret hm_148 dX11_put_57 h
              · intro x S9 hx
                exact ⟨by decide, hx⟩
            · intro hc
              rw [if_neg hc] at h
              refine zw_push hm_113 dX9_isReference_21 (v := .inl (1 : Int32)) rfl ?_
              refine zw_goto hm_113 dX9_isReference_22 (t := 26) rfl ?_
              refine zw_bret hm_113 dX9_isReference_26 (by decide) ?_
              show ma_wp X d w 148 35 [(4, .inr (.inr (some c3))), (0, .inr (.inr (some 64))), (1, .inl o), (2, .inl i), (3, .inl x)] [.inl (1 : Int32)] S1 _
              refine zw_if0 hm_148 dX11_put_35 (t := 46) rfl zc0_eq (fun hc => absurd hc (by decide)) (fun _ => ?_)
              exact zw_thr hm_148 dX11_put_38 dX11_put_41 dX11_put_42 dX11_put_45 x_11_135_137 n_11_135 (by omega) (by show 0 + 81 ≤ w; omega) h
  · intro x S9 hx
    exact ⟨by decide, hx⟩
theorem sp_148_64_s_p79 {X : Nat × (Nat → Int32)} {d w : Nat} {f : Nat → Nat → Int32} {r : Nat → Nat → Option Nat} {C Z N : Nat} {Q : Option ma_V ⊕ Nat → ma_S → Prop} {ab : Nat→Nat→Int32} {fq : Nat→Int32} {S : ma_S} (o : Int32) (i : Int32) (x : Int32) (hd : 7 ≤ d) (hw : 111 ≤ w) (hI : zB f r C Z N S) (hr : r 64 11 = some 79) (hpre0 : xB S (mR S 70)) (hpre1 : aS 88 S = ab) (hpre2 : zfP 79 (mI S) = fq) (K : ∀ v S₉, zB f r C Z N S₉ → (True) → (xB S₉ (mR S₉ 70)) → (zRq ab o ∧ zHw ab o i ∧ ¬ zIr ab o i ∧ aS 88 S₉ = aCi ab o.toNatClampNeg i x ∧ v = aWo ab o.toNatClampNeg i) → (zfP 79 (mI S₉) = fq) → Q (.inl (some (.inl v))) S₉) (KX : ∀ x S₉, (x = 1 ∨ x = 4 ∨ x = 5) → zB f r C Z N S₉ → (xB S₉ (mR S₉ 70)) → (aS 88 S₉ = ab) → ((x = 4 ∧ ¬ zRq ab o) ∨ (x = 1 ∧ zRq ab o ∧ ¬ zHw ab o i) ∨ (x = 5 ∧ zRq ab o ∧ zHw ab o i ∧ zIr ab o i)) → (zfP 79 (mI S₉) = fq) → Q (.inr x) (ma_bump S₉)) : ma_wp X d w 148 0 [(0, .inr (.inr (some 64))), (1, .inl o), (2, .inl i), (3, .inl x)] [] S Q := by
  refine g_148_64_s_p79_0 o i x (by omega) (by omega) (zG_T hI) ?_
  refine ⟨((zG_r hI (by decide)).trans hr), ?_⟩
  refine ⟨((zG_r hI (by decide)).trans hr), ?_⟩
  have b1 := i_bd o
  refine sp_149_64_s (R := (mR S 70)) (a7 := (aS 75 S)) (a8 := (aS 88 S)) (o) (by omega) (by omega) (zB_dn_zI hI) (show xB S (mR S 70) from by first | (exact (xC_o (W := 75) hpre0).2)) (show aS 75 S = (aS 75 S) from by first | (exact rfl)) (show aS 88 S = (aS 88 S) from by first | (exact rfl)) (fun v2 S1 hL_S1 hq_v2 rp0_S1 rp1_S1 rp2_S1 rp3_S1 => zo_n ⟨zG_T hL_S1, ?_⟩) (fun x S9 hx h9 rx0 rx1 rx2 => by have h9u := (zB_up_zI hI h9); exact zo_x (KX x S9 (by omega) h9u (show xB S9 (mR S9 70) from by first | (exact xB_x (xC_o (W := 75) rx0).2)) (show aS 88 S9 = ab from by first | (exact rx1.trans hpre1)) (show (x = 4 ∧ ¬ zRq ab o) ∨ (x = 1 ∧ zRq ab o ∧ ¬ zHw ab o i) ∨ (x = 5 ∧ zRq ab o ∧ zHw ab o i ∧ zIr ab o i) from by first | (exact Or.inl ⟨rx2.1, rq_no rx2.2 hpre1⟩)) (show zfP 79 (mI S9) = fq from by first | (exact ((zf_fr (P := 79) (fun _ => zG_z h9 rfl)).trans hpre2)))))
  have hI_S1 := zB_up_zI hI hL_S1
  have rp0_S1 : xB S1 (mR S 70) := by
    have z := rp0_S1
    (try rw [show mI S 65 = f 65 from funext (fun k => zG_z hI rfl)] at z)
    (try rw [show mI S 64 1 = f 64 1 from zG_z hI rfl] at z)
    exact z
  have rp1_S1 : aS 88 S1 = (aS 88 S) := by
    have z := rp1_S1
    (try rw [show mI S 65 = f 65 from funext (fun k => zG_z hI rfl)] at z)
    (try rw [show mI S 64 1 = f 64 1 from zG_z hI rfl] at z)
    exact z
  have rp2_S1 : v2 = zTa (mR S 70) o := by
    have z := rp2_S1
    (try rw [show mI S 65 = f 65 from funext (fun k => zG_z hI rfl)] at z)
    (try rw [show mI S 64 1 = f 64 1 from zG_z hI rfl] at z)
    exact z
  have rp3_S1 : zRq (aS 75 S) o := by
    have z := rp3_S1
    (try rw [show mI S 65 = f 65 from funext (fun k => zG_z hI rfl)] at z)
    (try rw [show mI S 64 1 = f 64 1 from zG_z hI rfl] at z)
    exact z
  obtain ⟨c3, hc, th_c3⟩ := hq_v2
  have rg_c3 : zTa (mR S 70) o = some c3 := rp2_S1.symm.trans hc
  refine ⟨c3, hc, ?_⟩
  refine ⟨zG_n hI_S1 th_c3, ?_⟩
  have b2 := i_bd i
  have li3 : (0 : Int32).toInt = 0 := rfl
  refine zd (fun h4 => ?_) (fun h4 => ?_)
  · skip
    have g5 := i_lt h4
    exact KX 1 _ (by decide) hI_S1 (show xB S1 (mR S1 70) from by first | (exact xB_x (xC_o (W := 75) rp0_S1).2)) (show aS 88 S1 = ab from by first | (exact (xC_o (W := 88) rp0_S1).1.trans (rp1_S1.trans hpre1))) (show (1 = 4 ∧ ¬ zRq ab o) ∨ (1 = 1 ∧ zRq ab o ∧ ¬ zHw ab o i) ∨ (1 = 5 ∧ zRq ab o ∧ zHw ab o i ∧ zIr ab o i) from by first | (have ty := xB_th (W := 88) rp0_S1 rg_c3; have z2 := congrArg Int32.toInt ty.2.2.2.2.1; rw [(rp1_S1.trans hpre1)] at z2; exact Or.inr (Or.inl ⟨rfl, (rq_up rp3_S1 hpre1), fun w => by have w1 := w.1; have w2 := w.2; omega⟩))) (show zfP 79 (mI S1) = fq from by first | (exact ((zf_fr (P := 79) (S₉ := S1) (S := S) (fun _ => zG_z hL_S1 rfl)).trans hpre2)))
  · skip
    have g6 := i_nlt h4
    refine ⟨zG_n hI_S1 th_c3, ?_⟩
    have f7 := zG_th hI_S1 th_c3
    first | have e8 : ((mI S1 c3 2) - (1 : Int32)).toInt = (mI S1 c3 2).toInt - (1) := i_subk rfl (by omega) (by omega) | have b9 := i_bd ((mI S1 c3 2) - (1 : Int32))
    refine zd (fun h10 => ?_) (fun h10 => ?_)
    · skip
      have g11 := i_le h10
      exact KX 1 _ (by decide) hI_S1 (show xB S1 (mR S1 70) from by first | (exact xB_x (xC_o (W := 75) rp0_S1).2)) (show aS 88 S1 = ab from by first | (exact (xC_o (W := 88) rp0_S1).1.trans (rp1_S1.trans hpre1))) (show (1 = 4 ∧ ¬ zRq ab o) ∨ (1 = 1 ∧ zRq ab o ∧ ¬ zHw ab o i) ∨ (1 = 5 ∧ zRq ab o ∧ zHw ab o i ∧ zIr ab o i) from by first | (have ty := xB_th (W := 88) rp0_S1 rg_c3; have z2 := congrArg Int32.toInt ty.2.2.2.2.1; rw [(rp1_S1.trans hpre1)] at z2; exact Or.inr (Or.inl ⟨rfl, (rq_up rp3_S1 hpre1), fun w => by have w1 := w.1; have w2 := w.2; omega⟩))) (show zfP 79 (mI S1) = fq from by first | (exact ((zf_fr (P := 79) (S₉ := S1) (S := S) (fun _ => zG_z hL_S1 rfl)).trans hpre2)))
    · skip
      have g12 := i_nle h10
      refine ⟨zG_n hI_S1 th_c3, ?_⟩
      refine ⟨zG_n hI_S1 th_c3, ?_⟩
      refine zd (fun h13 => ?_) (fun h13 => ?_)
      · skip
        have g14 := i_lt h13
        have b15 := i_bd x
        refine sp_95_69_s (ab := (aS 88 S1)) (R := (mR S 70)) (W := 88) (y := (o)) c3 (i) (x) (by omega) (by omega) (zB_dn_zI hI_S1) th_c3 (show xB S1 (mR S 70) from by first | (exact (xC_o (W := 75) rp0_S1).2)) (show aS 88 S1 = (aS 88 S1) from by first | (exact rfl)) (show xW 88 from by first | (exact xW88) | (exact xW75)) (show zTa (mR S 70) (o) = some c3 from by first | (exact rg_c3)) (fun v5 S4 hL_S4 hp_v5 rp0_S4 rp1_S4 => zi_n ⟨zG_T hL_S4, ?_⟩)
        have hI_S4 := zB_up_zI hI_S1 hL_S4
        have rp0_S4 : xB S4 (mR S 70) := by
          have z := rp0_S4
          (try rw [show mI S1 65 = f 65 from funext (fun k => zG_z hI_S1 rfl)] at z)
          (try rw [show mI S1 64 1 = f 64 1 from zG_z hI_S1 rfl] at z)
          exact z
        have rp1_S4 : aS 88 S4 = aCi (aS 88 S1) (o).toNatClampNeg i x ∧ v5 = aWo (aS 88 S1) (o).toNatClampNeg i := by
          have z := rp1_S4
          (try rw [show mI S1 65 = f 65 from funext (fun k => zG_z hI_S1 rfl)] at z)
          (try rw [show mI S1 64 1 = f 64 1 from zG_z hI_S1 rfl] at z)
          exact z
        have b16 := i_bd v5
        exact K (v5) _ hI_S4 trivial (show xB S4 (mR S4 70) from by first | (exact xB_x (xC_o (W := 75) rp0_S4).2)) (show zRq ab o ∧ zHw ab o i ∧ ¬ zIr ab o i ∧ aS 88 S4 = aCi ab o.toNatClampNeg i x ∧ v5 = aWo ab o.toNatClampNeg i from by first | (exfalso; omega) | (have ty := xB_th (W := 88) rp0_S1 rg_c3; have z2 := congrArg Int32.toInt ty.2.2.2.2.1; rw [(rp1_S1.trans hpre1)] at z2; have ci := rp1_S4; rw [(rp1_S1.trans hpre1)] at ci; exact ⟨(rq_up rp3_S1 hpre1), ⟨by omega, by omega⟩, ir_n rp0_S1 rg_c3 (rp1_S1.trans hpre1) (by omega) (by assumption), ci.1, ci.2⟩)) (show zfP 79 (mI S4) = fq from by first | (exact ((zf_fr (P := 79) (S₉ := S4) (S := S1) (fun _ => zG_z hL_S4 rfl)).trans ((zf_fr (P := 79) (S₉ := S1) (S := S) (fun _ => zG_z hL_S1 rfl)).trans hpre2))))
      · skip
        have g17 := i_nlt h13
        refine ⟨zG_n hI_S1 th_c3, ?_⟩
        refine zd (fun h18 => ?_) (fun h18 => ?_)
        · skip
          have g19 := i_le h18
          have b20 := i_bd x
          refine sp_95_69_s (ab := (aS 88 S1)) (R := (mR S 70)) (W := 88) (y := (o)) c3 (i) (x) (by omega) (by omega) (zB_dn_zI hI_S1) th_c3 (show xB S1 (mR S 70) from by first | (exact (xC_o (W := 75) rp0_S1).2)) (show aS 88 S1 = (aS 88 S1) from by first | (exact rfl)) (show xW 88 from by first | (exact xW88) | (exact xW75)) (show zTa (mR S 70) (o) = some c3 from by first | (exact rg_c3)) (fun v7 S6 hL_S6 hp_v7 rp0_S6 rp1_S6 => zi_n ⟨zG_T hL_S6, ?_⟩)
          have hI_S6 := zB_up_zI hI_S1 hL_S6
          have rp0_S6 : xB S6 (mR S 70) := by
            have z := rp0_S6
            (try rw [show mI S1 65 = f 65 from funext (fun k => zG_z hI_S1 rfl)] at z)
            (try rw [show mI S1 64 1 = f 64 1 from zG_z hI_S1 rfl] at z)
            exact z
          have rp1_S6 : aS 88 S6 = aCi (aS 88 S1) (o).toNatClampNeg i x ∧ v7 = aWo (aS 88 S1) (o).toNatClampNeg i := by
            have z := rp1_S6
            (try rw [show mI S1 65 = f 65 from funext (fun k => zG_z hI_S1 rfl)] at z)
            (try rw [show mI S1 64 1 = f 64 1 from zG_z hI_S1 rfl] at z)
            exact z
          have b21 := i_bd v7
          exact K (v7) _ hI_S6 trivial (show xB S6 (mR S6 70) from by first | (exact xB_x (xC_o (W := 75) rp0_S6).2)) (show zRq ab o ∧ zHw ab o i ∧ ¬ zIr ab o i ∧ aS 88 S6 = aCi ab o.toNatClampNeg i x ∧ v7 = aWo ab o.toNatClampNeg i from by first | (exfalso; omega) | (have ty := xB_th (W := 88) rp0_S1 rg_c3; have z2 := congrArg Int32.toInt ty.2.2.2.2.1; rw [(rp1_S1.trans hpre1)] at z2; have ci := rp1_S6; rw [(rp1_S1.trans hpre1)] at ci; exact ⟨(rq_up rp3_S1 hpre1), ⟨by omega, by omega⟩, ir_n rp0_S1 rg_c3 (rp1_S1.trans hpre1) (by omega) (by assumption), ci.1, ci.2⟩)) (show zfP 79 (mI S6) = fq from by first | (exact ((zf_fr (P := 79) (S₉ := S6) (S := S1) (fun _ => zG_z hL_S6 rfl)).trans ((zf_fr (P := 79) (S₉ := S1) (S := S) (fun _ => zG_z hL_S1 rfl)).trans hpre2))))
        · skip
          have g22 := i_nle h18
          refine ⟨zG_n hI_S1 th_c3, ?_⟩
          have b23 := i_bd (lg_cmp ((((mL S1 c3 3).toUInt64 >>> (i.toInt64.toUInt64 &&& Int64.toUInt64 63)).toInt64) &&& (1 : Int64)) (0 : Int64))
          refine zd (fun h24 => ?_) (fun h24 => ?_)
          · skip
            have g25 := i_eq h24
            have b26 := i_bd x
            refine sp_95_69_s (ab := (aS 88 S1)) (R := (mR S 70)) (W := 88) (y := (o)) c3 (i) (x) (by omega) (by omega) (zB_dn_zI hI_S1) th_c3 (show xB S1 (mR S 70) from by first | (exact (xC_o (W := 75) rp0_S1).2)) (show aS 88 S1 = (aS 88 S1) from by first | (exact rfl)) (show xW 88 from by first | (exact xW88) | (exact xW75)) (show zTa (mR S 70) (o) = some c3 from by first | (exact rg_c3)) (fun v9 S8 hL_S8 hp_v9 rp0_S8 rp1_S8 => zi_n ⟨zG_T hL_S8, ?_⟩)
            have hI_S8 := zB_up_zI hI_S1 hL_S8
            have rp0_S8 : xB S8 (mR S 70) := by
              have z := rp0_S8
              (try rw [show mI S1 65 = f 65 from funext (fun k => zG_z hI_S1 rfl)] at z)
              (try rw [show mI S1 64 1 = f 64 1 from zG_z hI_S1 rfl] at z)
              exact z
            have rp1_S8 : aS 88 S8 = aCi (aS 88 S1) (o).toNatClampNeg i x ∧ v9 = aWo (aS 88 S1) (o).toNatClampNeg i := by
              have z := rp1_S8
              (try rw [show mI S1 65 = f 65 from funext (fun k => zG_z hI_S1 rfl)] at z)
              (try rw [show mI S1 64 1 = f 64 1 from zG_z hI_S1 rfl] at z)
              exact z
            have b27 := i_bd v9
            exact K (v9) _ hI_S8 trivial (show xB S8 (mR S8 70) from by first | (exact xB_x (xC_o (W := 75) rp0_S8).2)) (show zRq ab o ∧ zHw ab o i ∧ ¬ zIr ab o i ∧ aS 88 S8 = aCi ab o.toNatClampNeg i x ∧ v9 = aWo ab o.toNatClampNeg i from by first | (exfalso; omega) | (have ty := xB_th (W := 88) rp0_S1 rg_c3; have z2 := congrArg Int32.toInt ty.2.2.2.2.1; rw [(rp1_S1.trans hpre1)] at z2; have ci := rp1_S8; rw [(rp1_S1.trans hpre1)] at ci; exact ⟨(rq_up rp3_S1 hpre1), ⟨by omega, by omega⟩, ir_n rp0_S1 rg_c3 (rp1_S1.trans hpre1) (by omega) (by assumption), ci.1, ci.2⟩)) (show zfP 79 (mI S8) = fq from by first | (exact ((zf_fr (P := 79) (S₉ := S8) (S := S1) (fun _ => zG_z hL_S8 rfl)).trans ((zf_fr (P := 79) (S₉ := S1) (S := S) (fun _ => zG_z hL_S1 rfl)).trans hpre2))))
          · skip
            have g28 := i_ne h24
            exact KX 5 _ (by decide) hI_S1 (show xB S1 (mR S1 70) from by first | (exact xB_x (xC_o (W := 75) rp0_S1).2)) (show aS 88 S1 = ab from by first | (exact (xC_o (W := 88) rp0_S1).1.trans (rp1_S1.trans hpre1))) (show (5 = 4 ∧ ¬ zRq ab o) ∨ (5 = 1 ∧ zRq ab o ∧ ¬ zHw ab o i) ∨ (5 = 5 ∧ zRq ab o ∧ zHw ab o i ∧ zIr ab o i) from by first | (have ty := xB_th (W := 88) rp0_S1 rg_c3; have z2 := congrArg Int32.toInt ty.2.2.2.2.1; rw [(rp1_S1.trans hpre1)] at z2; exact Or.inr (Or.inr ⟨rfl, (rq_up rp3_S1 hpre1), ⟨by omega, by omega⟩, ir_y rp0_S1 rg_c3 (rp1_S1.trans hpre1) (by omega) (by assumption)⟩))) (show zfP 79 (mI S1) = fq from by first | (exact ((zf_fr (P := 79) (S₉ := S1) (S := S) (fun _ => zG_z hL_S1 rfl)).trans hpre2)))

/-! from 95.k23 -/
/-! the collectors that sweep, the class (written by wip/tools/gen20.py) -/
theorem g_152_64_s_p79_0 {X : Nat × (Nat → Int32)} {d w : Nat} {S : ma_S} {Q : Option ma_V ⊕ Nat → ma_S → Prop} (o : Int32) (i : Int32) (hd : 7 ≤ d) (hw : 111 ≤ w) (hS : zT S) (h : mR S 64 11 = some 79 ∧ (mR S 64 11 = some 79 ∧ (ma_wp X (d - 1) (w - 22) 149 0 [(0, .inr (.inr (some 64))), (1, .inl o)] [] S (zo (fun v2 S1 => zT S1 ∧ ((∃ c3, v2 = some c3 ∧ ((126 ≤ c3 ∧ c3 < mN S1) ∧ (if i < 0 then (Q (.inr 1) (ma_bump S1)) else ((126 ≤ c3 ∧ c3 < mN S1) ∧ (if ((mI S1 c3 2) - (1 : Int32)) ≤ i then (Q (.inr 1) (ma_bump S1)) else (ma_wp X (d - 1) (w - 23) 96 0 [(0, .inr (.inr (some 69))), (1, .inr (.inr (some c3))), (2, .inl i)] [] S1 (zi (fun v5 S4 => zT S4 ∧ (Q (.inl (some (.inl v5))) S4)) (fun x S9 => Q (.inr x) S9)))))))))) (fun x S9 => Q (.inr x) S9))))) : ma_wp X d w 152 0 [(0, .inr (.inr (some 64))), (1, .inl o), (2, .inl i)] [] S Q := by
  refine zw_push hm_152 dX11_get_0 (v := .inr (.inr (some 64))) rfl ?_
  refine zw_cv hm_152 dX11_get_1 v_11_119_11 hm_144 [] [] rfl (zT_rt hS s_64 rfl) ⟨by omega, by omega⟩ rfl ?_
  show ma_wp X (d - 1) (w - 20) 144 0 [(0, .inr (.inr (some 64)))] [] S _
  refine zw_push hm_144 dX11_needCollector_0 (v := .inr (.inr (some 64))) rfl ?_
  obtain ⟨hg, h⟩ := h
  refine zw_gf hm_144 dX11_needCollector_1 (v := .inr (.inr (some 79))) (zT_is hS s_64) (zT_t hS s_64) rfl f_11_98_11 (congrArg (fun z => Sum.inr (Sum.inr z)) hg) ?_
  refine zw_ifnonnull hm_144 dX11_needCollector_4 (t := 15) rfl (fun z => by cases z) (fun _ _ => ?_)
  refine zw_push hm_144 dX11_needCollector_15 (v := .inr (.inr (some 64))) rfl ?_
  obtain ⟨hg, h⟩ := h
  refine zw_gf hm_144 dX11_needCollector_16 (v := .inr (.inr (some 79))) (zT_is hS s_64) (zT_t hS s_64) rfl f_11_98_11 (congrArg (fun z => Sum.inr (Sum.inr z)) hg) ?_
  refine zw_aret hm_144 dX11_needCollector_19 ?_
  show ma_wp X d w 152 4 [(0, .inr (.inr (some 64))), (1, .inl o), (2, .inl i)] [.inr (.inr (some 79))] S _
  refine zw_stk hm_152 dX11_get_4 (st₉ := []) rfl rfl ?_
  refine zw_push hm_152 dX11_get_5 (v := .inr (.inr (some 64))) rfl ?_
  refine zw_push hm_152 dX11_get_6 (v := .inl o) rfl ?_
  refine zw_cv hm_152 dX11_get_7 v_11_123_11 hm_149 [.inl o] [] rfl (zT_rt hS s_64 rfl) ⟨by omega, by omega⟩ rfl (zw_mono h (zo_go ?_ ?_))
  · intro v2 S1 hv
    obtain ⟨hS1, h⟩ := hv
    obtain ⟨c3, hc, h⟩ := h
    subst hc
    show ma_wp X d w 152 10 [(0, .inr (.inr (some 64))), (1, .inl o), (2, .inl i)] [.inr (.inr (some c3))] S1 _
    refine zw_sto hm_152 dX11_get_10 [(3, .inr (.inr (some c3))), (0, .inr (.inr (some 64))), (1, .inl o), (2, .inl i)] rfl rfl rfl ?_
    refine zw_push hm_152 dX11_get_11 (v := .inr (.inr (some c3))) rfl ?_
    refine zw_push hm_152 dX11_get_12 (v := .inl i) rfl ?_
    obtain ⟨hg, h⟩ := h
    refine zw_cv hm_152 dX11_get_13 v_11_127_9 hm_114 [.inl i] [] rfl (zT_trt hS1 hg) ⟨by omega, by omega⟩ rfl ?_
    show ma_wp X (d - 1) (w - 21) 114 0 [(0, .inr (.inr (some c3))), (1, .inl i)] [] S1 _
    refine zw_push hm_114 dX9_hasWord_0 (v := .inl i) rfl ?_
    refine zw_if0 hm_114 dX9_hasWord_1 (t := 18) rfl zc0_lt ?_ ?_
    · intro hc
      rw [if_pos hc] at h
      refine zw_push hm_114 dX9_hasWord_18 (v := .inl (0 : Int32)) rfl ?_
      refine zw_bret hm_114 dX9_hasWord_19 (by decide) ?_
      show ma_wp X d w 152 16 [(3, .inr (.inr (some c3))), (0, .inr (.inr (some 64))), (1, .inl o), (2, .inl i)] [.inl (0 : Int32)] S1 _
      refine zw_if0 hm_152 dX11_get_16 (t := 27) rfl zc0_ne (fun hc => absurd hc (by decide)) (fun _ => ?_)
      exact zw_thr hm_152 dX11_get_19 dX11_get_22 dX11_get_23 dX11_get_26 x_11_72_74 n_11_72 (by omega) (by show 0 + 81 ≤ w; omega) h
    · intro hc
      rw [if_neg hc] at h
      refine zw_push hm_114 dX9_hasWord_4 (v := .inl i) rfl ?_
      refine zw_push hm_114 dX9_hasWord_5 (v := .inr (.inr (some c3))) rfl ?_
      obtain ⟨hg, h⟩ := h
      refine zw_gf hm_114 dX9_hasWord_6 (v := .inl (mI S1 c3 2)) (zT_tis hS1 hg) (zT_tt hS1 hg) rfl f_9_16_9 rfl ?_
      refine zw_push hm_114 dX9_hasWord_9 (v := .inl (1 : Int32)) rfl ?_
      refine zw_stk hm_114 dX9_hasWord_10 (st₉ := [.inl ((mI S1 c3 2) - (1 : Int32)), .inl i]) rfl rfl ?_
      refine zw_if2 hm_114 dX9_hasWord_11 (t := 18) rfl zc2_ge ?_ ?_
      · intro hc
        rw [if_pos hc] at h
        refine zw_push hm_114 dX9_hasWord_18 (v := .inl (0 : Int32)) rfl ?_
        refine zw_bret hm_114 dX9_hasWord_19 (by decide) ?_
        show ma_wp X d w 152 16 [(3, .inr (.inr (some c3))), (0, .inr (.inr (some 64))), (1, .inl o), (2, .inl i)] [.inl (0 : Int32)] S1 _
        refine zw_if0 hm_152 dX11_get_16 (t := 27) rfl zc0_ne (fun hc => absurd hc (by decide)) (fun _ => ?_)
        exact zw_thr hm_152 dX11_get_19 dX11_get_22 dX11_get_23 dX11_get_26 x_11_72_74 n_11_72 (by omega) (by show 0 + 81 ≤ w; omega) h
      · intro hc
        rw [if_neg hc] at h
        refine zw_push hm_114 dX9_hasWord_14 (v := .inl (1 : Int32)) rfl ?_
        refine zw_goto hm_114 dX9_hasWord_15 (t := 19) rfl ?_
        refine zw_bret hm_114 dX9_hasWord_19 (by decide) ?_
        show ma_wp X d w 152 16 [(3, .inr (.inr (some c3))), (0, .inr (.inr (some 64))), (1, .inl o), (2, .inl i)] [.inl (1 : Int32)] S1 _
        refine zw_if0 hm_152 dX11_get_16 (t := 27) rfl zc0_ne (fun _ => ?_) (fun hc => absurd (by decide) hc)
        refine zw_push hm_152 dX11_get_27 (v := .inr (.inr (some 64))) rfl ?_
        refine zw_gf hm_152 dX11_get_28 (v := .inr (.inr (some 69))) (zT_is hS1 s_64) (zT_t hS1 s_64) rfl f_11_26_11 (zT_f hS1 r_64_8) ?_
        refine zw_push hm_152 dX11_get_31 (v := .inr (.inr (some c3))) rfl ?_
        refine zw_push hm_152 dX11_get_32 (v := .inl i) rfl ?_
        refine zw_cv hm_152 dX11_get_33 v_11_165_7 hm_96 [.inl i, .inr (.inr (some c3))] [] rfl (zT_rt hS1 s_69 rfl) ⟨by omega, by omega⟩ rfl (zw_mono h (zi_go ?_ ?_))
        · intro v5 S4 hv
          obtain ⟨hS4, h⟩ := hv
          exact zw_iret hm_152 dX11_get_36 h
        · intro x S9 hx
          exact ⟨by decide, hx⟩
  · intro x S9 hx
    exact ⟨by decide, hx⟩
theorem sp_152_64_s_p79 {X : Nat × (Nat → Int32)} {d w : Nat} {f : Nat → Nat → Int32} {r : Nat → Nat → Option Nat} {C Z N : Nat} {Q : Option ma_V ⊕ Nat → ma_S → Prop} {ab : Nat→Nat→Int32} {fq : Nat→Int32} {S : ma_S} (o : Int32) (i : Int32) (hd : 7 ≤ d) (hw : 111 ≤ w) (hI : zB f r C Z N S) (hr : r 64 11 = some 79) (hpre0 : xB S (mR S 70)) (hpre1 : aS 88 S = ab) (hpre2 : zfP 79 (mI S) = fq) (K : ∀ v S₉, zB f r C Z N S₉ → (True) → (xB S₉ (mR S₉ 70)) → (zRq ab o ∧ zHw ab o i ∧ aS 88 S₉ = ab ∧ v = aWo ab o.toNatClampNeg i) → (zfP 79 (mI S₉) = fq) → Q (.inl (some (.inl v))) S₉) (KX : ∀ x S₉, (x = 1 ∨ x = 4) → zB f r C Z N S₉ → (xB S₉ (mR S₉ 70)) → (aS 88 S₉ = ab) → ((x = 4 ∧ ¬ zRq ab o) ∨ (x = 1 ∧ zRq ab o ∧ ¬ zHw ab o i)) → (zfP 79 (mI S₉) = fq) → Q (.inr x) (ma_bump S₉)) : ma_wp X d w 152 0 [(0, .inr (.inr (some 64))), (1, .inl o), (2, .inl i)] [] S Q := by
  refine g_152_64_s_p79_0 o i (by omega) (by omega) (zG_T hI) ?_
  refine ⟨((zG_r hI (by decide)).trans hr), ?_⟩
  refine ⟨((zG_r hI (by decide)).trans hr), ?_⟩
  have b1 := i_bd o
  refine sp_149_64_s (R := (mR S 70)) (a7 := (aS 75 S)) (a8 := (aS 88 S)) (o) (by omega) (by omega) (zB_dn_zI hI) (show xB S (mR S 70) from by first | (exact (xC_o (W := 75) hpre0).2)) (show aS 75 S = (aS 75 S) from by first | (exact rfl)) (show aS 88 S = (aS 88 S) from by first | (exact rfl)) (fun v2 S1 hL_S1 hq_v2 rp0_S1 rp1_S1 rp2_S1 rp3_S1 => zo_n ⟨zG_T hL_S1, ?_⟩) (fun x S9 hx h9 rx0 rx1 rx2 => by have h9u := (zB_up_zI hI h9); exact zo_x (KX x S9 (by omega) h9u (show xB S9 (mR S9 70) from by first | (exact xB_x (xC_o (W := 75) rx0).2)) (show aS 88 S9 = ab from by first | (exact rx1.trans hpre1)) (show (x = 4 ∧ ¬ zRq ab o) ∨ (x = 1 ∧ zRq ab o ∧ ¬ zHw ab o i) from by first | (exact Or.inl ⟨rx2.1, rq_no rx2.2 hpre1⟩)) (show zfP 79 (mI S9) = fq from by first | (exact ((zf_fr (P := 79) (fun _ => zG_z h9 rfl)).trans hpre2)))))
  have hI_S1 := zB_up_zI hI hL_S1
  have rp0_S1 : xB S1 (mR S 70) := by
    have z := rp0_S1
    (try rw [show mI S 65 = f 65 from funext (fun k => zG_z hI rfl)] at z)
    (try rw [show mI S 64 1 = f 64 1 from zG_z hI rfl] at z)
    exact z
  have rp1_S1 : aS 88 S1 = (aS 88 S) := by
    have z := rp1_S1
    (try rw [show mI S 65 = f 65 from funext (fun k => zG_z hI rfl)] at z)
    (try rw [show mI S 64 1 = f 64 1 from zG_z hI rfl] at z)
    exact z
  have rp2_S1 : v2 = zTa (mR S 70) o := by
    have z := rp2_S1
    (try rw [show mI S 65 = f 65 from funext (fun k => zG_z hI rfl)] at z)
    (try rw [show mI S 64 1 = f 64 1 from zG_z hI rfl] at z)
    exact z
  have rp3_S1 : zRq (aS 75 S) o := by
    have z := rp3_S1
    (try rw [show mI S 65 = f 65 from funext (fun k => zG_z hI rfl)] at z)
    (try rw [show mI S 64 1 = f 64 1 from zG_z hI rfl] at z)
    exact z
  obtain ⟨c3, hc, th_c3⟩ := hq_v2
  have rg_c3 : zTa (mR S 70) o = some c3 := rp2_S1.symm.trans hc
  refine ⟨c3, hc, ?_⟩
  refine ⟨zG_n hI_S1 th_c3, ?_⟩
  have b2 := i_bd i
  have li3 : (0 : Int32).toInt = 0 := rfl
  refine zd (fun h4 => ?_) (fun h4 => ?_)
  · skip
    have g5 := i_lt h4
    exact KX 1 _ (by decide) hI_S1 (show xB S1 (mR S1 70) from by first | (exact xB_x (xC_o (W := 75) rp0_S1).2)) (show aS 88 S1 = ab from by first | (exact (xC_o (W := 88) rp0_S1).1.trans (rp1_S1.trans hpre1))) (show (1 = 4 ∧ ¬ zRq ab o) ∨ (1 = 1 ∧ zRq ab o ∧ ¬ zHw ab o i) from by first | (have ty := xB_th (W := 88) rp0_S1 rg_c3; have z2 := congrArg Int32.toInt ty.2.2.2.2.1; rw [(rp1_S1.trans hpre1)] at z2; exact Or.inr ⟨rfl, (rq_up rp3_S1 hpre1), fun w => by have w1 := w.1; have w2 := w.2; omega⟩)) (show zfP 79 (mI S1) = fq from by first | (exact ((zf_fr (P := 79) (S₉ := S1) (S := S) (fun _ => zG_z hL_S1 rfl)).trans hpre2)))
  · skip
    have g6 := i_nlt h4
    refine ⟨zG_n hI_S1 th_c3, ?_⟩
    have f7 := zG_th hI_S1 th_c3
    first | have e8 : ((mI S1 c3 2) - (1 : Int32)).toInt = (mI S1 c3 2).toInt - (1) := i_subk rfl (by omega) (by omega) | have b9 := i_bd ((mI S1 c3 2) - (1 : Int32))
    refine zd (fun h10 => ?_) (fun h10 => ?_)
    · skip
      have g11 := i_le h10
      exact KX 1 _ (by decide) hI_S1 (show xB S1 (mR S1 70) from by first | (exact xB_x (xC_o (W := 75) rp0_S1).2)) (show aS 88 S1 = ab from by first | (exact (xC_o (W := 88) rp0_S1).1.trans (rp1_S1.trans hpre1))) (show (1 = 4 ∧ ¬ zRq ab o) ∨ (1 = 1 ∧ zRq ab o ∧ ¬ zHw ab o i) from by first | (have ty := xB_th (W := 88) rp0_S1 rg_c3; have z2 := congrArg Int32.toInt ty.2.2.2.2.1; rw [(rp1_S1.trans hpre1)] at z2; exact Or.inr ⟨rfl, (rq_up rp3_S1 hpre1), fun w => by have w1 := w.1; have w2 := w.2; omega⟩)) (show zfP 79 (mI S1) = fq from by first | (exact ((zf_fr (P := 79) (S₉ := S1) (S := S) (fun _ => zG_z hL_S1 rfl)).trans hpre2)))
    · skip
      have g12 := i_nle h10
      refine sp_96_69_s (ab := (aS 88 S1)) (R := (mR S 70)) (W := 88) (y := (o)) c3 (i) (by omega) (by omega) (zB_dn_zI hI_S1) th_c3 (show xB S1 (mR S 70) from by first | (exact (xC_o (W := 75) rp0_S1).2)) (show aS 88 S1 = (aS 88 S1) from by first | (exact rfl)) (show xW 88 from by first | (exact xW88) | (exact xW75)) (show zTa (mR S 70) (o) = some c3 from by first | (exact rg_c3)) (fun v5 S4 hL_S4 hp_v5 rp0_S4 rp1_S4 rp2_S4 => zi_n ⟨zG_T hL_S4, ?_⟩)
      have hI_S4 := zB_up_zI hI_S1 hL_S4
      have rp0_S4 : xB S4 (mR S 70) := by
        have z := rp0_S4
        (try rw [show mI S1 65 = f 65 from funext (fun k => zG_z hI_S1 rfl)] at z)
        (try rw [show mI S1 64 1 = f 64 1 from zG_z hI_S1 rfl] at z)
        exact z
      have rp1_S4 : aS 88 S4 = (aS 88 S1) := by
        have z := rp1_S4
        (try rw [show mI S1 65 = f 65 from funext (fun k => zG_z hI_S1 rfl)] at z)
        (try rw [show mI S1 64 1 = f 64 1 from zG_z hI_S1 rfl] at z)
        exact z
      have rp2_S4 : v5 = aWo (aS 88 S1) (o).toNatClampNeg i := by
        have z := rp2_S4
        (try rw [show mI S1 65 = f 65 from funext (fun k => zG_z hI_S1 rfl)] at z)
        (try rw [show mI S1 64 1 = f 64 1 from zG_z hI_S1 rfl] at z)
        exact z
      have b13 := i_bd v5
      exact K (v5) _ hI_S4 trivial (show xB S4 (mR S4 70) from by first | (exact xB_x (xC_o (W := 75) rp0_S4).2)) (show zRq ab o ∧ zHw ab o i ∧ aS 88 S4 = ab ∧ v5 = aWo ab o.toNatClampNeg i from by first | (exfalso; omega) | (have ty := xB_th (W := 88) rp0_S1 rg_c3; have z2 := congrArg Int32.toInt ty.2.2.2.2.1; rw [(rp1_S1.trans hpre1)] at z2; have wo := rp2_S4; rw [(rp1_S1.trans hpre1)] at wo; exact ⟨(rq_up rp3_S1 hpre1), ⟨by omega, by omega⟩, rp1_S4.trans (rp1_S1.trans hpre1), wo⟩)) (show zfP 79 (mI S4) = fq from by first | (exact ((zf_fr (P := 79) (S₉ := S4) (S := S1) (fun _ => zG_z hL_S4 rfl)).trans ((zf_fr (P := 79) (S₉ := S1) (S := S) (fun _ => zG_z hL_S1 rfl)).trans hpre2))))
theorem g_154_64_s_p79_0 {X : Nat × (Nat → Int32)} {d w : Nat} {S : ma_S} {Q : Option ma_V ⊕ Nat → ma_S → Prop} (i : Int32) (o : Int32) (hd : 8 ≤ d) (hw : 132 ≤ w) (hS : zT S) (h : if i < 0 then (Q (.inr 2) (ma_bump S)) else (if (16 : Int32) ≤ i then (Q (.inr 2) (ma_bump S)) else (mR S 64 11 = some 79 ∧ (mR S 64 11 = some 79 ∧ (ma_wp X (d - 1) (w - 21) 151 0 [(0, .inr (.inr (some 64))), (1, .inl o)] [] S (zo (fun v2 S1 => zT S1 ∧ ((0 ≤ i ∧ i.toNatClampNeg < 16) ∧ ((v2 = none → (0 ≤ i ∧ i.toNatClampNeg < 16) ∧ (Q (.inl (some (.inl (mI S1 73 i.toNatClampNeg)))) (ma_put S1 73 i.toNatClampNeg (.inl (-1 : Int32))))) ∧ (∀ c3, v2 = some c3 → (126 ≤ c3 ∧ c3 < mN S1) ∧ ((0 ≤ i ∧ i.toNatClampNeg < 16) ∧ (Q (.inl (some (.inl (mI S1 73 i.toNatClampNeg)))) (ma_put S1 73 i.toNatClampNeg (.inl (mI S1 c3 0))))))))) (fun x S9 => Q (.inr x) S9))))))) : ma_wp X d w 154 0 [(0, .inr (.inr (some 64))), (1, .inl i), (2, .inl o)] [] S Q := by
  refine zw_push hm_154 dX11_weak_0 (v := .inl i) rfl ?_
  refine zw_cs hm_154 dX11_weak_1 pn_11_109 sl_11_109 hm_142 [.inl i] [] rfl ⟨by omega, by omega⟩ rfl ?_
  show ma_wp X (d - 1) (w - 20) 142 0 [(0, .inl i)] [] S _
  refine zw_push hm_142 dX11_isSlot_0 (v := .inl i) rfl ?_
  refine zw_if0 hm_142 dX11_isSlot_1 (t := 14) rfl zc0_lt ?_ ?_
  · intro hc
    rw [if_pos hc] at h
    refine zw_push hm_142 dX11_isSlot_14 (v := .inl (0 : Int32)) rfl ?_
    refine zw_bret hm_142 dX11_isSlot_15 (by decide) ?_
    show ma_wp X d w 154 4 [(0, .inr (.inr (some 64))), (1, .inl i), (2, .inl o)] [.inl (0 : Int32)] S _
    refine zw_if0 hm_154 dX11_weak_4 (t := 15) rfl zc0_ne (fun hc => absurd hc (by decide)) (fun _ => ?_)
    exact zw_thr hm_154 dX11_weak_7 dX11_weak_10 dX11_weak_11 dX11_weak_14 x_11_79_81 n_11_79 (by omega) (by show 0 + 81 ≤ w; omega) h
  · intro hc
    rw [if_neg hc] at h
    refine zw_push hm_142 dX11_isSlot_4 (v := .inl i) rfl ?_
    refine zw_push hm_142 dX11_isSlot_5 (v := .inl (16 : Int32)) rfl ?_
    refine zw_if2 hm_142 dX11_isSlot_7 (t := 14) rfl zc2_ge ?_ ?_
    · intro hc
      rw [if_pos hc] at h
      refine zw_push hm_142 dX11_isSlot_14 (v := .inl (0 : Int32)) rfl ?_
      refine zw_bret hm_142 dX11_isSlot_15 (by decide) ?_
      show ma_wp X d w 154 4 [(0, .inr (.inr (some 64))), (1, .inl i), (2, .inl o)] [.inl (0 : Int32)] S _
      refine zw_if0 hm_154 dX11_weak_4 (t := 15) rfl zc0_ne (fun hc => absurd hc (by decide)) (fun _ => ?_)
      exact zw_thr hm_154 dX11_weak_7 dX11_weak_10 dX11_weak_11 dX11_weak_14 x_11_79_81 n_11_79 (by omega) (by show 0 + 81 ≤ w; omega) h
    · intro hc
      rw [if_neg hc] at h
      refine zw_push hm_142 dX11_isSlot_10 (v := .inl (1 : Int32)) rfl ?_
      refine zw_goto hm_142 dX11_isSlot_11 (t := 15) rfl ?_
      refine zw_bret hm_142 dX11_isSlot_15 (by decide) ?_
      show ma_wp X d w 154 4 [(0, .inr (.inr (some 64))), (1, .inl i), (2, .inl o)] [.inl (1 : Int32)] S _
      refine zw_if0 hm_154 dX11_weak_4 (t := 15) rfl zc0_ne (fun _ => ?_) (fun hc => absurd (by decide) hc)
      refine zw_push hm_154 dX11_weak_15 (v := .inr (.inr (some 64))) rfl ?_
      refine zw_cv hm_154 dX11_weak_16 v_11_119_11 hm_144 [] [] rfl (zT_rt hS s_64 rfl) ⟨by omega, by omega⟩ rfl ?_
      show ma_wp X (d - 1) (w - 20) 144 0 [(0, .inr (.inr (some 64)))] [] S _
      refine zw_push hm_144 dX11_needCollector_0 (v := .inr (.inr (some 64))) rfl ?_
      obtain ⟨hg, h⟩ := h
      refine zw_gf hm_144 dX11_needCollector_1 (v := .inr (.inr (some 79))) (zT_is hS s_64) (zT_t hS s_64) rfl f_11_98_11 (congrArg (fun z => Sum.inr (Sum.inr z)) hg) ?_
      refine zw_ifnonnull hm_144 dX11_needCollector_4 (t := 15) rfl (fun z => by cases z) (fun _ _ => ?_)
      refine zw_push hm_144 dX11_needCollector_15 (v := .inr (.inr (some 64))) rfl ?_
      obtain ⟨hg, h⟩ := h
      refine zw_gf hm_144 dX11_needCollector_16 (v := .inr (.inr (some 79))) (zT_is hS s_64) (zT_t hS s_64) rfl f_11_98_11 (congrArg (fun z => Sum.inr (Sum.inr z)) hg) ?_
      refine zw_aret hm_144 dX11_needCollector_19 ?_
      show ma_wp X d w 154 19 [(0, .inr (.inr (some 64))), (1, .inl i), (2, .inl o)] [.inr (.inr (some 79))] S _
      refine zw_stk hm_154 dX11_weak_19 (st₉ := []) rfl rfl ?_
      refine zw_push hm_154 dX11_weak_20 (v := .inr (.inr (some 64))) rfl ?_
      refine zw_push hm_154 dX11_weak_21 (v := .inl o) rfl ?_
      refine zw_cv hm_154 dX11_weak_22 v_11_142_11 hm_151 [.inl o] [] rfl (zT_rt hS s_64 rfl) ⟨by omega, by omega⟩ rfl (zw_mono h (zo_go ?_ ?_))
      · intro v2 S1 hv
        obtain ⟨hS1, h⟩ := hv
        refine zw_sto hm_154 dX11_weak_25 [(3, .inr (.inr v2)), (0, .inr (.inr (some 64))), (1, .inl i), (2, .inl o)] rfl rfl rfl ?_
        refine zw_push hm_154 dX11_weak_26 (v := .inr (.inr (some 64))) rfl ?_
        refine zw_gf hm_154 dX11_weak_27 (v := .inr (.inr (some 69))) (zT_is hS1 s_64) (zT_t hS1 s_64) rfl f_11_26_11 (zT_f hS1 r_64_8) ?_
        refine zw_gf hm_154 dX11_weak_30 (v := .inr (.inr (some 73))) (zT_is hS1 s_69) (zT_t hS1 s_69) rfl f_11_173_7 (zT_f hS1 r_69_3) ?_
        refine zw_push hm_154 dX11_weak_33 (v := .inl i) rfl ?_
        obtain ⟨hg, h⟩ := h
        refine zw_ia hm_154 dX11_weak_34 (zT_is hS1 s_73) (zT_h hS1 s_73) rfl hg ?_
        show ma_wp X d w 154 35 [(3, .inr (.inr v2)), (0, .inr (.inr (some 64))), (1, .inl i), (2, .inl o)] [.inl (mI S1 73 i.toNatClampNeg)] S1 _
        refine zw_sto hm_154 dX11_weak_35 [(4, .inl (mI S1 73 i.toNatClampNeg)), (3, .inr (.inr v2)), (0, .inr (.inr (some 64))), (1, .inl i), (2, .inl o)] rfl rfl rfl ?_
        refine zw_push hm_154 dX11_weak_37 (v := .inr (.inr (some 64))) rfl ?_
        refine zw_gf hm_154 dX11_weak_38 (v := .inr (.inr (some 69))) (zT_is hS1 s_64) (zT_t hS1 s_64) rfl f_11_26_11 (zT_f hS1 r_64_8) ?_
        refine zw_gf hm_154 dX11_weak_41 (v := .inr (.inr (some 73))) (zT_is hS1 s_69) (zT_t hS1 s_69) rfl f_11_173_7 (zT_f hS1 r_69_3) ?_
        refine zw_push hm_154 dX11_weak_44 (v := .inl i) rfl ?_
        refine zw_push hm_154 dX11_weak_45 (v := .inr (.inr v2)) rfl ?_
        refine zw_cs hm_154 dX11_weak_46 pn_11_161 sl_11_161 hm_146 [.inr (.inr v2)] [.inl i, .inr (.inr (some 73))] rfl ⟨by omega, by omega⟩ rfl ?_
        show ma_wp X (d - 1) (w - 20) 146 0 [(0, .inr (.inr v2))] [] S1 _
        refine zw_push hm_146 dX11_numberOf_0 (v := .inr (.inr v2)) rfl ?_
        refine zw_ifnonnull hm_146 dX11_numberOf_1 (t := 8) rfl ?_ ?_
        · intro hc
          have h := h.1 hc
          (try rw [hc])
          show ma_wp X (d - 1) (w - 20) 146 4 [(0, .inr (.inr none))] [] S1 _
          refine zw_push hm_146 dX11_numberOf_4 (v := .inl (-1 : Int32)) rfl ?_
          refine zw_goto hm_146 dX11_numberOf_5 (t := 12) rfl ?_
          refine zw_iret hm_146 dX11_numberOf_12 ?_
          show ma_wp X d w 154 49 [(4, .inl (mI S1 73 i.toNatClampNeg)), (3, .inr (.inr none)), (0, .inr (.inr (some 64))), (1, .inl i), (2, .inl o)] [.inl (-1 : Int32), .inl i, .inr (.inr (some 73))] S1 _
          obtain ⟨hg, h⟩ := h
          refine zw_ias hm_154 dX11_weak_49 (zT_is hS1 s_73) (zT_h hS1 s_73) rfl hg ?_
          refine zw_push hm_154 dX11_weak_50 (v := .inl (mI S1 73 i.toNatClampNeg)) rfl ?_
          exact zw_iret hm_154 dX11_weak_52 h
        · intro c3 hc
          have h := h.2 c3 hc
          (try rw [hc])
          show ma_wp X (d - 1) (w - 20) 146 8 [(0, .inr (.inr (some c3)))] [] S1 _
          refine zw_push hm_146 dX11_numberOf_8 (v := .inr (.inr (some c3))) rfl ?_
          obtain ⟨hg, h⟩ := h
          refine zw_gf hm_146 dX11_numberOf_9 (v := .inl (mI S1 c3 0)) (zT_tis hS1 hg) (zT_tt hS1 hg) rfl f_11_182_9 rfl ?_
          refine zw_iret hm_146 dX11_numberOf_12 ?_
          show ma_wp X d w 154 49 [(4, .inl (mI S1 73 i.toNatClampNeg)), (3, .inr (.inr (some c3))), (0, .inr (.inr (some 64))), (1, .inl i), (2, .inl o)] [.inl (mI S1 c3 0), .inl i, .inr (.inr (some 73))] S1 _
          obtain ⟨hg, h⟩ := h
          refine zw_ias hm_154 dX11_weak_49 (zT_is hS1 s_73) (zT_h hS1 s_73) rfl hg ?_
          refine zw_push hm_154 dX11_weak_50 (v := .inl (mI S1 73 i.toNatClampNeg)) rfl ?_
          exact zw_iret hm_154 dX11_weak_52 h
      · intro x S9 hx
        exact ⟨by decide, hx⟩
theorem sp_154_64_s_p79 {X : Nat × (Nat → Int32)} {d w : Nat} {f : Nat → Nat → Int32} {r : Nat → Nat → Option Nat} {C Z N : Nat} {Q : Option ma_V ⊕ Nat → ma_S → Prop} {ab : Nat→Nat→Int32} {fq : Nat→Int32} {S : ma_S} (i : Int32) (o : Int32) (hd : 8 ≤ d) (hw : 132 ≤ w) (hI : zB f r C Z N S) (hr : r 64 11 = some 79) (hpre0 : xB S (mR S 70)) (hpre1 : aS 88 S = ab) (hpre2 : zfP 79 (mI S) = fq) (K : ∀ v S₉, zB f r C Z N S₉ → (True) → (xB S₉ (mR S₉ 70)) → ((0 ≤ i.toInt ∧ i.toInt ≤ 15) ∧ (o = -1 ∨ zRq ab o) ∧ aS 88 S₉ = ma_u ab 73 i.toNatClampNeg (aNm ab o) ∧ v = ab 73 i.toNatClampNeg) → (zfP 79 (mI S₉) = fq) → Q (.inl (some (.inl v))) S₉) (KX : ∀ x S₉, (x = 2 ∨ x = 4) → zB f r C Z N S₉ → (xB S₉ (mR S₉ 70)) → (aS 88 S₉ = ab) → ((x = 2 ∧ ¬ (0 ≤ i.toInt ∧ i.toInt ≤ 15)) ∨ ((0 ≤ i.toInt ∧ i.toInt ≤ 15) ∧ x = 4 ∧ o ≠ -1 ∧ ¬ zRq ab o)) → (zfP 79 (mI S₉) = fq) → Q (.inr x) (ma_bump S₉)) : ma_wp X d w 154 0 [(0, .inr (.inr (some 64))), (1, .inl i), (2, .inl o)] [] S Q := by
  refine g_154_64_s_p79_0 i o (by omega) (by omega) (zG_T hI) ?_
  have b1 := i_bd i
  have li2 : (0 : Int32).toInt = 0 := rfl
  refine zd (fun h3 => ?_) (fun h3 => ?_)
  · skip
    have g4 := i_lt h3
    exact KX 2 _ (by decide) hI (show xB S (mR S 70) from by first | (exact xB_x (xC_o (W := 75) hpre0).2)) (show aS 88 S = ab from by first | (exact (xC_o (W := 88) hpre0).1.trans hpre1)) (show (2 = 2 ∧ ¬ (0 ≤ i.toInt ∧ i.toInt ≤ 15)) ∨ ((0 ≤ i.toInt ∧ i.toInt ≤ 15) ∧ 2 = 4 ∧ o ≠ -1 ∧ ¬ zRq ab o) from by first | (exact Or.inl ⟨rfl, by omega⟩)) (show zfP 79 (mI S) = fq from by first | (exact hpre2))
  · skip
    have g5 := i_nlt h3
    have li6 : (16 : Int32).toInt = 16 := rfl
    refine zd (fun h7 => ?_) (fun h7 => ?_)
    · skip
      have g8 := i_le h7
      exact KX 2 _ (by decide) hI (show xB S (mR S 70) from by first | (exact xB_x (xC_o (W := 75) hpre0).2)) (show aS 88 S = ab from by first | (exact (xC_o (W := 88) hpre0).1.trans hpre1)) (show (2 = 2 ∧ ¬ (0 ≤ i.toInt ∧ i.toInt ≤ 15)) ∨ ((0 ≤ i.toInt ∧ i.toInt ≤ 15) ∧ 2 = 4 ∧ o ≠ -1 ∧ ¬ zRq ab o) from by first | (exact Or.inl ⟨rfl, by omega⟩)) (show zfP 79 (mI S) = fq from by first | (exact hpre2))
    · skip
      have g9 := i_nle h7
      refine ⟨((zG_r hI (by decide)).trans hr), ?_⟩
      refine ⟨((zG_r hI (by decide)).trans hr), ?_⟩
      have b10 := i_bd o
      refine sp_151_64_s (R := (mR S 70)) (a7 := (aS 75 S)) (a8 := (aS 88 S)) (o) (by omega) (by omega) (zB_dn_zI hI) (show xB S (mR S 70) from by first | (exact (xC_o (W := 75) hpre0).2)) (show aS 75 S = (aS 75 S) from by first | (exact rfl)) (show aS 88 S = (aS 88 S) from by first | (exact rfl)) (fun v2 S1 hL_S1 hq_v2 rp0_S1 rp1_S1 rp2_S1 rp3_S1 => zo_n ⟨zG_T hL_S1, ?_⟩) (fun x S9 hx h9 rx0 rx1 rx2 => by have h9u := (zB_up_zI hI h9); exact zo_x (KX x S9 (by omega) h9u (show xB S9 (mR S9 70) from by first | (exact xB_x (xC_o (W := 75) rx0).2)) (show aS 88 S9 = ab from by first | (exact rx1.trans hpre1)) (show (x = 2 ∧ ¬ (0 ≤ i.toInt ∧ i.toInt ≤ 15)) ∨ ((0 ≤ i.toInt ∧ i.toInt ≤ 15) ∧ x = 4 ∧ o ≠ -1 ∧ ¬ zRq ab o) from by first | (exact Or.inr ⟨⟨by omega, by omega⟩, ⟨rx2.1, rx2.2.1, rq_no rx2.2.2 hpre1⟩⟩)) (show zfP 79 (mI S9) = fq from by first | (exact ((zf_fr (P := 79) (fun _ => zG_z h9 rfl)).trans hpre2)))))
      have hI_S1 := zB_up_zI hI hL_S1
      have rp0_S1 : xB S1 (mR S 70) := by
        have z := rp0_S1
        (try rw [show mI S 65 = f 65 from funext (fun k => zG_z hI rfl)] at z)
        (try rw [show mI S 64 1 = f 64 1 from zG_z hI rfl] at z)
        exact z
      have rp1_S1 : aS 88 S1 = (aS 88 S) := by
        have z := rp1_S1
        (try rw [show mI S 65 = f 65 from funext (fun k => zG_z hI rfl)] at z)
        (try rw [show mI S 64 1 = f 64 1 from zG_z hI rfl] at z)
        exact z
      have rp2_S1 : v2 = zTa (mR S 70) o := by
        have z := rp2_S1
        (try rw [show mI S 65 = f 65 from funext (fun k => zG_z hI rfl)] at z)
        (try rw [show mI S 64 1 = f 64 1 from zG_z hI rfl] at z)
        exact z
      have rp3_S1 : o = -1 ∨ zRq (aS 75 S) o := by
        have z := rp3_S1
        (try rw [show mI S 65 = f 65 from funext (fun k => zG_z hI rfl)] at z)
        (try rw [show mI S 64 1 = f 64 1 from zG_z hI rfl] at z)
        exact z
      refine ⟨i_ix (by omega) (by omega), ?_⟩
      refine ⟨fun hc => ?_, fun c3 hc => ?_⟩
      · skip
        have rn_c3 : zTa (mR S 70) o = none := rp2_S1.symm.trans hc
        refine ⟨i_ix (by omega) (by omega), ?_⟩
        have hI11 : zB f r C Z N (ma_put S1 73 i.toNatClampNeg (.inl (-1 : Int32))) := zG_fa hI_S1 rfl (by decide) (by decide) (by decide) (show zB_x (mI S1) from zG_x hI_S1)
        have b12 := i_bd (mI S1 73 i.toNatClampNeg)
        exact K ((mI S1 73 i.toNatClampNeg)) _ hI11 trivial (show xB (ma_put S1 73 i.toNatClampNeg (.inl (-1 : Int32))) (mR (ma_put S1 73 i.toNatClampNeg (.inl (-1 : Int32))) 70) from by first | (exact xB_x (xC_p (c := 73) (k := i.toNatClampNeg) (x := (-1 : Int32)) (xC_o (W := 75) rp0_S1) 73 xW75 rfl rfl).2)) (show (0 ≤ i.toInt ∧ i.toInt ≤ 15) ∧ (o = -1 ∨ zRq ab o) ∧ aS 88 (ma_put S1 73 i.toNatClampNeg (.inl (-1 : Int32))) = ma_u ab 73 i.toNatClampNeg (aNm ab o) ∧ (mI S1 73 i.toNatClampNeg) = ab 73 i.toNatClampNeg from by first | (exfalso; omega) | (skip; have nn := (nm_n (W := 88) rp0_S1 rn_c3); rw [(rp1_S1.trans hpre1)] at nn; refine ⟨⟨by omega, by omega⟩, (rp3_S1.imp id (fun w => rq_up w hpre1)), (xC_p (c := 73) (k := i.toNatClampNeg) (x := (-1 : Int32)) (xC_o (W := 88) rp0_S1) 73 xW88 rfl rfl).1.trans ?_, ?_⟩; (rw [(rp1_S1.trans hpre1), nn]); (rw [← (rp1_S1.trans hpre1), (aS_I (W := 88) (S := S1) (c := 73) (c₉ := 73) (k := i.toNatClampNeg) rfl rfl)]))) (show zfP 79 (mI (ma_put S1 73 i.toNatClampNeg (.inl (-1 : Int32)))) = fq from by first | (exact ((zf_n (P := 79) (c := 73) (by decide)).trans ((zf_fr (P := 79) (S₉ := S1) (S := S) (fun _ => zG_z hL_S1 rfl)).trans hpre2))))
      · skip
        have th_c3 := hq_v2 c3 hc
        have rg_c3 : zTa (mR S 70) o = some c3 := rp2_S1.symm.trans hc
        subst hc
        refine ⟨zG_n hI_S1 th_c3, ?_⟩
        refine ⟨i_ix (by omega) (by omega), ?_⟩
        have hI13 : zB f r C Z N (ma_put S1 73 i.toNatClampNeg (.inl (mI S1 c3 0))) := zG_fa hI_S1 rfl (by decide) (by decide) (by decide) (show zB_x (mI S1) from zG_x hI_S1)
        have b14 := i_bd (mI S1 73 i.toNatClampNeg)
        exact K ((mI S1 73 i.toNatClampNeg)) _ hI13 trivial (show xB (ma_put S1 73 i.toNatClampNeg (.inl (mI S1 c3 0))) (mR (ma_put S1 73 i.toNatClampNeg (.inl (mI S1 c3 0))) 70) from by first | (exact xB_x (xC_p (c := 73) (k := i.toNatClampNeg) (x := (mI S1 c3 0)) (xC_o (W := 75) rp0_S1) 73 xW75 rfl rfl).2)) (show (0 ≤ i.toInt ∧ i.toInt ≤ 15) ∧ (o = -1 ∨ zRq ab o) ∧ aS 88 (ma_put S1 73 i.toNatClampNeg (.inl (mI S1 c3 0))) = ma_u ab 73 i.toNatClampNeg (aNm ab o) ∧ (mI S1 73 i.toNatClampNeg) = ab 73 i.toNatClampNeg from by first | (exfalso; omega) | (have tn := (xB_th (W := 88) rp0_S1 rg_c3).2.2.1; have nn := (nm_y (W := 88) rp0_S1 rg_c3); rw [(rp1_S1.trans hpre1)] at nn; refine ⟨⟨by omega, by omega⟩, (rp3_S1.imp id (fun w => rq_up w hpre1)), (xC_p (c := 73) (k := i.toNatClampNeg) (x := (mI S1 c3 0)) (xC_o (W := 88) rp0_S1) 73 xW88 rfl rfl).1.trans ?_, ?_⟩; (rw [(rp1_S1.trans hpre1), nn]; rw [tn]); (rw [← (rp1_S1.trans hpre1), (aS_I (W := 88) (S := S1) (c := 73) (c₉ := 73) (k := i.toNatClampNeg) rfl rfl)]))) (show zfP 79 (mI (ma_put S1 73 i.toNatClampNeg (.inl (mI S1 c3 0)))) = fq from by first | (exact ((zf_n (P := 79) (c := 73) (by decide)).trans ((zf_fr (P := 79) (S₉ := S1) (S := S) (fun _ => zG_z hL_S1 rfl)).trans hpre2))))

/-! from 95.k24 -/
/-! the collectors that sweep, the class (written by wip/tools/gen20.py) -/
theorem g_157_64_s_p79_0 {X : Nat × (Nat → Int32)} {d w : Nat} {S : ma_S} {Q : Option ma_V ⊕ Nat → ma_S → Prop} (o : Int32) (hd : 7 ≤ d) (hw : 111 ≤ w) (hS : zT S) (h : mR S 64 11 = some 79 ∧ (mR S 64 11 = some 79 ∧ (ma_wp X (d - 1) (w - 22) 149 0 [(0, .inr (.inr (some 64))), (1, .inl o)] [] S (zo (fun v2 S1 => zT S1 ∧ ((∃ c3, v2 = some c3 ∧ ((126 ≤ c3 ∧ c3 < mN S1) ∧ (if (mI S1 c3 8) = 0 then ((126 ≤ c3 ∧ c3 < mN S1) ∧ (Q (.inl (some (.inl (1 : Int32)))) (ma_put S1 c3 8 (.inl (1 : Int32))))) else ((126 ≤ c3 ∧ c3 < mN S1) ∧ (Q (.inl (some (.inl (0 : Int32)))) (ma_put S1 c3 8 (.inl (1 : Int32)))))))))) (fun x S9 => Q (.inr x) S9))))) : ma_wp X d w 157 0 [(0, .inr (.inr (some 64))), (1, .inl o)] [] S Q := by
  refine zw_push hm_157 dX11_wish_0 (v := .inr (.inr (some 64))) rfl ?_
  refine zw_cv hm_157 dX11_wish_1 v_11_119_11 hm_144 [] [] rfl (zT_rt hS s_64 rfl) ⟨by omega, by omega⟩ rfl ?_
  show ma_wp X (d - 1) (w - 20) 144 0 [(0, .inr (.inr (some 64)))] [] S _
  refine zw_push hm_144 dX11_needCollector_0 (v := .inr (.inr (some 64))) rfl ?_
  obtain ⟨hg, h⟩ := h
  refine zw_gf hm_144 dX11_needCollector_1 (v := .inr (.inr (some 79))) (zT_is hS s_64) (zT_t hS s_64) rfl f_11_98_11 (congrArg (fun z => Sum.inr (Sum.inr z)) hg) ?_
  refine zw_ifnonnull hm_144 dX11_needCollector_4 (t := 15) rfl (fun z => by cases z) (fun _ _ => ?_)
  refine zw_push hm_144 dX11_needCollector_15 (v := .inr (.inr (some 64))) rfl ?_
  obtain ⟨hg, h⟩ := h
  refine zw_gf hm_144 dX11_needCollector_16 (v := .inr (.inr (some 79))) (zT_is hS s_64) (zT_t hS s_64) rfl f_11_98_11 (congrArg (fun z => Sum.inr (Sum.inr z)) hg) ?_
  refine zw_aret hm_144 dX11_needCollector_19 ?_
  show ma_wp X d w 157 4 [(0, .inr (.inr (some 64))), (1, .inl o)] [.inr (.inr (some 79))] S _
  refine zw_stk hm_157 dX11_wish_4 (st₉ := []) rfl rfl ?_
  refine zw_push hm_157 dX11_wish_5 (v := .inr (.inr (some 64))) rfl ?_
  refine zw_push hm_157 dX11_wish_6 (v := .inl o) rfl ?_
  refine zw_cv hm_157 dX11_wish_7 v_11_123_11 hm_149 [.inl o] [] rfl (zT_rt hS s_64 rfl) ⟨by omega, by omega⟩ rfl (zw_mono h (zo_go ?_ ?_))
  · intro v2 S1 hv
    obtain ⟨hS1, h⟩ := hv
    obtain ⟨c3, hc, h⟩ := h
    subst hc
    show ma_wp X d w 157 10 [(0, .inr (.inr (some 64))), (1, .inl o)] [.inr (.inr (some c3))] S1 _
    refine zw_sto hm_157 dX11_wish_10 [(2, .inr (.inr (some c3))), (0, .inr (.inr (some 64))), (1, .inl o)] rfl rfl rfl ?_
    refine zw_push hm_157 dX11_wish_11 (v := .inr (.inr (some c3))) rfl ?_
    obtain ⟨hg, h⟩ := h
    refine zw_gf hm_157 dX11_wish_12 (v := .inl (mI S1 c3 8)) (zT_tis hS1 hg) (zT_tt hS1 hg) rfl f_11_199_9 rfl ?_
    refine zw_if0 hm_157 dX11_wish_15 (t := 22) rfl zc0_eq ?_ ?_
    · intro hc
      rw [if_pos hc] at h
      refine zw_push hm_157 dX11_wish_22 (v := .inl (1 : Int32)) rfl ?_
      refine zw_sto hm_157 dX11_wish_23 [(3, .inl (1 : Int32)), (2, .inr (.inr (some c3))), (0, .inr (.inr (some 64))), (1, .inl o)] rfl rfl rfl ?_
      refine zw_push hm_157 dX11_wish_24 (v := .inr (.inr (some c3))) rfl ?_
      refine zw_push hm_157 dX11_wish_25 (v := .inl (1 : Int32)) rfl ?_
      obtain ⟨hg, h⟩ := h
      refine zw_pf hm_157 dX11_wish_26 (zT_tis hS1 hg) (zT_tt hS1 hg) p_11_199_9 (zk_bool (by decide)) ?_
      refine zw_push hm_157 dX11_wish_29 (v := .inl (1 : Int32)) rfl ?_
      exact zw_iret hm_157 dX11_wish_30 h
    · intro hc
      rw [if_neg hc] at h
      refine zw_push hm_157 dX11_wish_18 (v := .inl (0 : Int32)) rfl ?_
      refine zw_goto hm_157 dX11_wish_19 (t := 23) rfl ?_
      refine zw_sto hm_157 dX11_wish_23 [(3, .inl (0 : Int32)), (2, .inr (.inr (some c3))), (0, .inr (.inr (some 64))), (1, .inl o)] rfl rfl rfl ?_
      refine zw_push hm_157 dX11_wish_24 (v := .inr (.inr (some c3))) rfl ?_
      refine zw_push hm_157 dX11_wish_25 (v := .inl (1 : Int32)) rfl ?_
      obtain ⟨hg, h⟩ := h
      refine zw_pf hm_157 dX11_wish_26 (zT_tis hS1 hg) (zT_tt hS1 hg) p_11_199_9 (zk_bool (by decide)) ?_
      refine zw_push hm_157 dX11_wish_29 (v := .inl (0 : Int32)) rfl ?_
      exact zw_iret hm_157 dX11_wish_30 h
  · intro x S9 hx
    exact ⟨by decide, hx⟩
theorem sp_157_64_s_p79 {X : Nat × (Nat → Int32)} {d w : Nat} {f : Nat → Nat → Int32} {r : Nat → Nat → Option Nat} {C Z N : Nat} {Q : Option ma_V ⊕ Nat → ma_S → Prop} {ab : Nat→Nat→Int32} {fq : Nat→Int32} {S : ma_S} (o : Int32) (hd : 7 ≤ d) (hw : 111 ≤ w) (hI : zB f r C Z N S) (hr : r 64 11 = some 79) (hpre0 : xB S (mR S 70)) (hpre1 : aS 88 S = ab) (hpre2 : zfP 79 (mI S) = fq) (K : ∀ v S₉, zB f r C Z N S₉ → (True) → (xB S₉ (mR S₉ 70)) → (zRq ab o ∧ aS 88 S₉ = ma_u ab 134 o.toNatClampNeg 1 ∧ v = (if ab 134 o.toNatClampNeg = 0 then 1 else 0)) → (zfP 79 (mI S₉) = fq) → Q (.inl (some (.inl v))) S₉) (KX : ∀ x S₉, (x = 4) → zB f r C Z N S₉ → (xB S₉ (mR S₉ 70)) → (aS 88 S₉ = ab) → (x = 4 ∧ ¬ zRq ab o) → (zfP 79 (mI S₉) = fq) → Q (.inr x) (ma_bump S₉)) : ma_wp X d w 157 0 [(0, .inr (.inr (some 64))), (1, .inl o)] [] S Q := by
  refine g_157_64_s_p79_0 o (by omega) (by omega) (zG_T hI) ?_
  refine ⟨((zG_r hI (by decide)).trans hr), ?_⟩
  refine ⟨((zG_r hI (by decide)).trans hr), ?_⟩
  have b1 := i_bd o
  refine sp_149_64_s (R := (mR S 70)) (a7 := (aS 75 S)) (a8 := (aS 88 S)) (o) (by omega) (by omega) (zB_dn_zI hI) (show xB S (mR S 70) from by first | (exact (xC_o (W := 75) hpre0).2)) (show aS 75 S = (aS 75 S) from by first | (exact rfl)) (show aS 88 S = (aS 88 S) from by first | (exact rfl)) (fun v2 S1 hL_S1 hq_v2 rp0_S1 rp1_S1 rp2_S1 rp3_S1 => zo_n ⟨zG_T hL_S1, ?_⟩) (fun x S9 hx h9 rx0 rx1 rx2 => by have h9u := (zB_up_zI hI h9); exact zo_x (KX x S9 (by omega) h9u (show xB S9 (mR S9 70) from by first | (exact xB_x (xC_o (W := 75) rx0).2)) (show aS 88 S9 = ab from by first | (exact rx1.trans hpre1)) (show x = 4 ∧ ¬ zRq ab o from by first | (exact ⟨rx2.1, rq_no rx2.2 hpre1⟩)) (show zfP 79 (mI S9) = fq from by first | (exact ((zf_fr (P := 79) (fun _ => zG_z h9 rfl)).trans hpre2)))))
  have hI_S1 := zB_up_zI hI hL_S1
  have rp0_S1 : xB S1 (mR S 70) := by
    have z := rp0_S1
    (try rw [show mI S 65 = f 65 from funext (fun k => zG_z hI rfl)] at z)
    (try rw [show mI S 64 1 = f 64 1 from zG_z hI rfl] at z)
    exact z
  have rp1_S1 : aS 88 S1 = (aS 88 S) := by
    have z := rp1_S1
    (try rw [show mI S 65 = f 65 from funext (fun k => zG_z hI rfl)] at z)
    (try rw [show mI S 64 1 = f 64 1 from zG_z hI rfl] at z)
    exact z
  have rp2_S1 : v2 = zTa (mR S 70) o := by
    have z := rp2_S1
    (try rw [show mI S 65 = f 65 from funext (fun k => zG_z hI rfl)] at z)
    (try rw [show mI S 64 1 = f 64 1 from zG_z hI rfl] at z)
    exact z
  have rp3_S1 : zRq (aS 75 S) o := by
    have z := rp3_S1
    (try rw [show mI S 65 = f 65 from funext (fun k => zG_z hI rfl)] at z)
    (try rw [show mI S 64 1 = f 64 1 from zG_z hI rfl] at z)
    exact z
  obtain ⟨c3, hc, th_c3⟩ := hq_v2
  have rg_c3 : zTa (mR S 70) o = some c3 := rp2_S1.symm.trans hc
  refine ⟨c3, hc, ?_⟩
  refine ⟨zG_n hI_S1 th_c3, ?_⟩
  have b2 := i_bd (mI S1 c3 8)
  have li3 : (0 : Int32).toInt = 0 := rfl
  refine zd (fun h4 => ?_) (fun h4 => ?_)
  · skip
    have g5 := i_eq h4
    refine ⟨zG_n hI_S1 th_c3, ?_⟩
    have hI6 : zB f r C Z N (ma_put S1 c3 8 (.inl (1 : Int32))) := zG_tf hI_S1 th_c3.1 zB_t (by decide) (by decide) (zB_xt (S := S1) th_c3.1 (zG_x hI_S1)) (by decide) (by decide) (by decide)
    have li7 : (1 : Int32).toInt = 1 := rfl
    exact K ((1 : Int32)) _ hI6 trivial (show xB (ma_put S1 c3 8 (.inl (1 : Int32))) (mR (ma_put S1 c3 8 (.inl (1 : Int32))) 70) from by first | (exact xB_x (xC_t (k := 8) (x := (1 : Int32)) (xC_o (W := 75) rp0_S1) xW75 rg_c3 rfl).2)) (show zRq ab o ∧ aS 88 (ma_put S1 c3 8 (.inl (1 : Int32))) = ma_u ab 134 o.toNatClampNeg 1 ∧ (1 : Int32) = (if ab 134 o.toNatClampNeg = 0 then 1 else 0) from by first | (have ty := xB_th (W := 88) rp0_S1 rg_c3; have e8 := ty.2.2.2.2.2.2.2.1; rw [(rp1_S1.trans hpre1)] at e8; refine ⟨(rq_up rp3_S1 hpre1), (xC_t (k := 8) (x := (1 : Int32)) (xC_o (W := 88) rp0_S1) xW88 rg_c3 rfl).1.trans ?_, ?_⟩; (rw [(rp1_S1.trans hpre1)]); (rw [← e8]; exact (if_pos (by assumption)).symm))) (show zfP 79 (mI (ma_put S1 c3 8 (.inl (1 : Int32)))) = fq from by first | (exact ((zf_t (P := 79) th_c3.1 (by decide)).trans ((zf_fr (P := 79) (S₉ := S1) (S := S) (fun _ => zG_z hL_S1 rfl)).trans hpre2))))
  · skip
    have g8 := i_ne h4
    refine ⟨zG_n hI_S1 th_c3, ?_⟩
    have hI9 : zB f r C Z N (ma_put S1 c3 8 (.inl (1 : Int32))) := zG_tf hI_S1 th_c3.1 zB_t (by decide) (by decide) (zB_xt (S := S1) th_c3.1 (zG_x hI_S1)) (by decide) (by decide) (by decide)
    exact K ((0 : Int32)) _ hI9 trivial (show xB (ma_put S1 c3 8 (.inl (1 : Int32))) (mR (ma_put S1 c3 8 (.inl (1 : Int32))) 70) from by first | (exact xB_x (xC_t (k := 8) (x := (1 : Int32)) (xC_o (W := 75) rp0_S1) xW75 rg_c3 rfl).2)) (show zRq ab o ∧ aS 88 (ma_put S1 c3 8 (.inl (1 : Int32))) = ma_u ab 134 o.toNatClampNeg 1 ∧ (0 : Int32) = (if ab 134 o.toNatClampNeg = 0 then 1 else 0) from by first | (have ty := xB_th (W := 88) rp0_S1 rg_c3; have e8 := ty.2.2.2.2.2.2.2.1; rw [(rp1_S1.trans hpre1)] at e8; refine ⟨(rq_up rp3_S1 hpre1), (xC_t (k := 8) (x := (1 : Int32)) (xC_o (W := 88) rp0_S1) xW88 rg_c3 rfl).1.trans ?_, ?_⟩; (rw [(rp1_S1.trans hpre1)]); (rw [← e8]; exact (if_neg (by assumption)).symm))) (show zfP 79 (mI (ma_put S1 c3 8 (.inl (1 : Int32)))) = fq from by first | (exact ((zf_t (P := 79) th_c3.1 (by decide)).trans ((zf_fr (P := 79) (S₉ := S1) (S := S) (fun _ => zG_z hL_S1 rfl)).trans hpre2))))

/-! from 95.k25 -/
/-! the collectors that sweep, the class (written by wip/tools/gen20.py) -/
theorem g_156_64_s_p79_0 {X : Nat × (Nat → Int32)} {d w : Nat} {S : ma_S} {Q : Option ma_V ⊕ Nat → ma_S → Prop} (o : Int32) (b : Int32) (hd : 7 ≤ d) (hw : 111 ≤ w) (hS : zT S) (h : mR S 64 11 = some 79 ∧ (mR S 64 11 = some 79 ∧ (ma_wp X (d - 1) (w - 22) 149 0 [(0, .inr (.inr (some 64))), (1, .inl o)] [] S (zo (fun v2 S1 => zT S1 ∧ ((∃ c3, v2 = some c3 ∧ (if b = 0 then ((126 ≤ c3 ∧ c3 < mN S1) ∧ (if (mI S1 c3 7) = 0 then (Q (.inr 6) (ma_bump S1)) else (if b = 0 then (ma_wp X (d - 1) (w - 22) 97 0 [(0, .inr (.inr (some 69))), (1, .inr (.inr (some c3))), (2, .inl (-1 : Int32))] [] S1 (zv (fun S8 => zT S8 ∧ ((126 ≤ c3 ∧ c3 < mN S8) ∧ (Q (.inl (some (.inl (mI S8 c3 7)))) S8))) (fun x S9 => Q (.inr x) S9))) else (ma_wp X (d - 1) (w - 22) 97 0 [(0, .inr (.inr (some 69))), (1, .inr (.inr (some c3))), (2, .inl (1 : Int32))] [] S1 (zv (fun S10 => zT S10 ∧ ((126 ≤ c3 ∧ c3 < mN S10) ∧ (Q (.inl (some (.inl (mI S10 c3 7)))) S10))) (fun x S9 => Q (.inr x) S9)))))) else (if b = 0 then (ma_wp X (d - 1) (w - 22) 97 0 [(0, .inr (.inr (some 69))), (1, .inr (.inr (some c3))), (2, .inl (-1 : Int32))] [] S1 (zv (fun S4 => zT S4 ∧ ((126 ≤ c3 ∧ c3 < mN S4) ∧ (Q (.inl (some (.inl (mI S4 c3 7)))) S4))) (fun x S9 => Q (.inr x) S9))) else (ma_wp X (d - 1) (w - 22) 97 0 [(0, .inr (.inr (some 69))), (1, .inr (.inr (some c3))), (2, .inl (1 : Int32))] [] S1 (zv (fun S6 => zT S6 ∧ ((126 ≤ c3 ∧ c3 < mN S6) ∧ (Q (.inl (some (.inl (mI S6 c3 7)))) S6))) (fun x S9 => Q (.inr x) S9)))))))) (fun x S9 => Q (.inr x) S9))))) : ma_wp X d w 156 0 [(0, .inr (.inr (some 64))), (1, .inl o), (2, .inl b)] [] S Q := by
  refine zw_push hm_156 dX11_hold_0 (v := .inr (.inr (some 64))) rfl ?_
  refine zw_cv hm_156 dX11_hold_1 v_11_119_11 hm_144 [] [] rfl (zT_rt hS s_64 rfl) ⟨by omega, by omega⟩ rfl ?_
  show ma_wp X (d - 1) (w - 20) 144 0 [(0, .inr (.inr (some 64)))] [] S _
  refine zw_push hm_144 dX11_needCollector_0 (v := .inr (.inr (some 64))) rfl ?_
  obtain ⟨hg, h⟩ := h
  refine zw_gf hm_144 dX11_needCollector_1 (v := .inr (.inr (some 79))) (zT_is hS s_64) (zT_t hS s_64) rfl f_11_98_11 (congrArg (fun z => Sum.inr (Sum.inr z)) hg) ?_
  refine zw_ifnonnull hm_144 dX11_needCollector_4 (t := 15) rfl (fun z => by cases z) (fun _ _ => ?_)
  refine zw_push hm_144 dX11_needCollector_15 (v := .inr (.inr (some 64))) rfl ?_
  obtain ⟨hg, h⟩ := h
  refine zw_gf hm_144 dX11_needCollector_16 (v := .inr (.inr (some 79))) (zT_is hS s_64) (zT_t hS s_64) rfl f_11_98_11 (congrArg (fun z => Sum.inr (Sum.inr z)) hg) ?_
  refine zw_aret hm_144 dX11_needCollector_19 ?_
  show ma_wp X d w 156 4 [(0, .inr (.inr (some 64))), (1, .inl o), (2, .inl b)] [.inr (.inr (some 79))] S _
  refine zw_sto hm_156 dX11_hold_4 [(3, .inr (.inr (some 79))), (0, .inr (.inr (some 64))), (1, .inl o), (2, .inl b)] rfl rfl rfl ?_
  refine zw_push hm_156 dX11_hold_5 (v := .inr (.inr (some 64))) rfl ?_
  refine zw_push hm_156 dX11_hold_6 (v := .inl o) rfl ?_
  refine zw_cv hm_156 dX11_hold_7 v_11_123_11 hm_149 [.inl o] [] rfl (zT_rt hS s_64 rfl) ⟨by omega, by omega⟩ rfl (zw_mono h (zo_go ?_ ?_))
  · intro v2 S1 hv
    obtain ⟨hS1, h⟩ := hv
    obtain ⟨c3, hc, h⟩ := h
    subst hc
    show ma_wp X d w 156 10 [(3, .inr (.inr (some 79))), (0, .inr (.inr (some 64))), (1, .inl o), (2, .inl b)] [.inr (.inr (some c3))] S1 _
    refine zw_sto hm_156 dX11_hold_10 [(4, .inr (.inr (some c3))), (3, .inr (.inr (some 79))), (0, .inr (.inr (some 64))), (1, .inl o), (2, .inl b)] rfl rfl rfl ?_
    refine zw_push hm_156 dX11_hold_12 (v := .inr (.inr (some 79))) rfl ?_
    refine zw_push hm_156 dX11_hold_13 (v := .inr (.inr (some c3))) rfl ?_
    refine zw_cv hm_156 dX11_hold_15 v_11_185_8 hm_269 [.inr (.inr (some c3))] [] rfl (zT_rt hS1 s_79 rfl) ⟨by omega, by omega⟩ rfl ?_
    show ma_wp X (d - 1) (w - 21) 269 0 [(0, .inr (.inr (some 79))), (1, .inr (.inr (some c3)))] [] S1 _
    refine zw_push hm_269 dX1_canHold_0 (v := .inl (1 : Int32)) rfl ?_
    refine zw_bret hm_269 dX1_canHold_1 (by decide) ?_
    show ma_wp X d w 156 18 [(4, .inr (.inr (some c3))), (3, .inr (.inr (some 79))), (0, .inr (.inr (some 64))), (1, .inl o), (2, .inl b)] [.inl (1 : Int32)] S1 _
    refine zw_if0 hm_156 dX11_hold_18 (t := 33) rfl zc0_eq (fun hc => absurd hc (by decide)) (fun _ => ?_)
    refine zw_push hm_156 dX11_hold_21 (v := .inl b) rfl ?_
    refine zw_if0 hm_156 dX11_hold_22 (t := 41) rfl zc0_ne ?_ ?_
    · intro hc
      rw [if_neg hc] at h
      refine zw_push hm_156 dX11_hold_41 (v := .inr (.inr (some 64))) rfl ?_
      refine zw_gf hm_156 dX11_hold_42 (v := .inr (.inr (some 69))) (zT_is hS1 s_64) (zT_t hS1 s_64) rfl f_11_26_11 (zT_f hS1 r_64_8) ?_
      refine zw_push hm_156 dX11_hold_45 (v := .inr (.inr (some c3))) rfl ?_
      refine zw_push hm_156 dX11_hold_47 (v := .inl b) rfl ?_
      refine zw_if0 hm_156 dX11_hold_48 (t := 55) rfl zc0_eq ?_ ?_
      · intro hc
        rw [if_pos hc] at h
        refine zw_push hm_156 dX11_hold_55 (v := .inl (-1 : Int32)) rfl ?_
        refine zw_cv hm_156 dX11_hold_56 v_11_195_7 hm_97 [.inl (-1 : Int32), .inr (.inr (some c3))] [] rfl (zT_rt hS1 s_69 rfl) ⟨by omega, by omega⟩ rfl (zw_mono h (zv_go ?_ ?_))
        · intro S4 hv
          obtain ⟨hS4, h⟩ := hv
          refine zw_push hm_156 dX11_hold_59 (v := .inr (.inr (some 79))) rfl ?_
          refine zw_push hm_156 dX11_hold_60 (v := .inr (.inr (some c3))) rfl ?_
          refine zw_cv hm_156 dX11_hold_62 v_11_157_8 hm_266 [.inr (.inr (some c3))] [] rfl (zT_rt hS4 s_79 rfl) ⟨by omega, by omega⟩ rfl ?_
          show ma_wp X (d - 1) (w - 21) 266 0 [(0, .inr (.inr (some 79))), (1, .inr (.inr (some c3)))] [] S4 _
          refine zw_vret hm_266 dX1_noteFewer_0 ?_
          show ma_wp X d w 156 65 [(4, .inr (.inr (some c3))), (3, .inr (.inr (some 79))), (0, .inr (.inr (some 64))), (1, .inl o), (2, .inl b)] [] S4 _
          refine zw_push hm_156 dX11_hold_65 (v := .inr (.inr (some c3))) rfl ?_
          obtain ⟨hg, h⟩ := h
          refine zw_gf hm_156 dX11_hold_67 (v := .inl (mI S4 c3 7)) (zT_tis hS4 hg) (zT_tt hS4 hg) rfl f_11_189_9 rfl ?_
          exact zw_iret hm_156 dX11_hold_70 h
        · intro x S9 hx
          exact ⟨by decide, hx⟩
      · intro hc
        rw [if_neg hc] at h
        refine zw_push hm_156 dX11_hold_51 (v := .inl (1 : Int32)) rfl ?_
        refine zw_goto hm_156 dX11_hold_52 (t := 56) rfl ?_
        refine zw_cv hm_156 dX11_hold_56 v_11_195_7 hm_97 [.inl (1 : Int32), .inr (.inr (some c3))] [] rfl (zT_rt hS1 s_69 rfl) ⟨by omega, by omega⟩ rfl (zw_mono h (zv_go ?_ ?_))
        · intro S6 hv
          obtain ⟨hS6, h⟩ := hv
          refine zw_push hm_156 dX11_hold_59 (v := .inr (.inr (some 79))) rfl ?_
          refine zw_push hm_156 dX11_hold_60 (v := .inr (.inr (some c3))) rfl ?_
          refine zw_cv hm_156 dX11_hold_62 v_11_157_8 hm_266 [.inr (.inr (some c3))] [] rfl (zT_rt hS6 s_79 rfl) ⟨by omega, by omega⟩ rfl ?_
          show ma_wp X (d - 1) (w - 21) 266 0 [(0, .inr (.inr (some 79))), (1, .inr (.inr (some c3)))] [] S6 _
          refine zw_vret hm_266 dX1_noteFewer_0 ?_
          show ma_wp X d w 156 65 [(4, .inr (.inr (some c3))), (3, .inr (.inr (some 79))), (0, .inr (.inr (some 64))), (1, .inl o), (2, .inl b)] [] S6 _
          refine zw_push hm_156 dX11_hold_65 (v := .inr (.inr (some c3))) rfl ?_
          obtain ⟨hg, h⟩ := h
          refine zw_gf hm_156 dX11_hold_67 (v := .inl (mI S6 c3 7)) (zT_tis hS6 hg) (zT_tt hS6 hg) rfl f_11_189_9 rfl ?_
          exact zw_iret hm_156 dX11_hold_70 h
        · intro x S9 hx
          exact ⟨by decide, hx⟩
    · intro hc
      rw [if_pos (Classical.not_not.mp hc)] at h
      refine zw_push hm_156 dX11_hold_25 (v := .inr (.inr (some c3))) rfl ?_
      obtain ⟨hg, h⟩ := h
      refine zw_gf hm_156 dX11_hold_27 (v := .inl (mI S1 c3 7)) (zT_tis hS1 hg) (zT_tt hS1 hg) rfl f_11_189_9 rfl ?_
      refine zw_if0 hm_156 dX11_hold_30 (t := 41) rfl zc0_ne ?_ ?_
      · intro hc
        rw [if_neg hc] at h
        refine zw_push hm_156 dX11_hold_41 (v := .inr (.inr (some 64))) rfl ?_
        refine zw_gf hm_156 dX11_hold_42 (v := .inr (.inr (some 69))) (zT_is hS1 s_64) (zT_t hS1 s_64) rfl f_11_26_11 (zT_f hS1 r_64_8) ?_
        refine zw_push hm_156 dX11_hold_45 (v := .inr (.inr (some c3))) rfl ?_
        refine zw_push hm_156 dX11_hold_47 (v := .inl b) rfl ?_
        refine zw_if0 hm_156 dX11_hold_48 (t := 55) rfl zc0_eq ?_ ?_
        · intro hc
          rw [if_pos hc] at h
          refine zw_push hm_156 dX11_hold_55 (v := .inl (-1 : Int32)) rfl ?_
          refine zw_cv hm_156 dX11_hold_56 v_11_195_7 hm_97 [.inl (-1 : Int32), .inr (.inr (some c3))] [] rfl (zT_rt hS1 s_69 rfl) ⟨by omega, by omega⟩ rfl (zw_mono h (zv_go ?_ ?_))
          · intro S8 hv
            obtain ⟨hS8, h⟩ := hv
            refine zw_push hm_156 dX11_hold_59 (v := .inr (.inr (some 79))) rfl ?_
            refine zw_push hm_156 dX11_hold_60 (v := .inr (.inr (some c3))) rfl ?_
            refine zw_cv hm_156 dX11_hold_62 v_11_157_8 hm_266 [.inr (.inr (some c3))] [] rfl (zT_rt hS8 s_79 rfl) ⟨by omega, by omega⟩ rfl ?_
            show ma_wp X (d - 1) (w - 21) 266 0 [(0, .inr (.inr (some 79))), (1, .inr (.inr (some c3)))] [] S8 _
            refine zw_vret hm_266 dX1_noteFewer_0 ?_
            show ma_wp X d w 156 65 [(4, .inr (.inr (some c3))), (3, .inr (.inr (some 79))), (0, .inr (.inr (some 64))), (1, .inl o), (2, .inl b)] [] S8 _
            refine zw_push hm_156 dX11_hold_65 (v := .inr (.inr (some c3))) rfl ?_
            obtain ⟨hg, h⟩ := h
            refine zw_gf hm_156 dX11_hold_67 (v := .inl (mI S8 c3 7)) (zT_tis hS8 hg) (zT_tt hS8 hg) rfl f_11_189_9 rfl ?_
            exact zw_iret hm_156 dX11_hold_70 h
          · intro x S9 hx
            exact ⟨by decide, hx⟩
        · intro hc
          rw [if_neg hc] at h
          refine zw_push hm_156 dX11_hold_51 (v := .inl (1 : Int32)) rfl ?_
          refine zw_goto hm_156 dX11_hold_52 (t := 56) rfl ?_
          refine zw_cv hm_156 dX11_hold_56 v_11_195_7 hm_97 [.inl (1 : Int32), .inr (.inr (some c3))] [] rfl (zT_rt hS1 s_69 rfl) ⟨by omega, by omega⟩ rfl (zw_mono h (zv_go ?_ ?_))
          · intro S10 hv
            obtain ⟨hS10, h⟩ := hv
            refine zw_push hm_156 dX11_hold_59 (v := .inr (.inr (some 79))) rfl ?_
            refine zw_push hm_156 dX11_hold_60 (v := .inr (.inr (some c3))) rfl ?_
            refine zw_cv hm_156 dX11_hold_62 v_11_157_8 hm_266 [.inr (.inr (some c3))] [] rfl (zT_rt hS10 s_79 rfl) ⟨by omega, by omega⟩ rfl ?_
            show ma_wp X (d - 1) (w - 21) 266 0 [(0, .inr (.inr (some 79))), (1, .inr (.inr (some c3)))] [] S10 _
            refine zw_vret hm_266 dX1_noteFewer_0 ?_
            show ma_wp X d w 156 65 [(4, .inr (.inr (some c3))), (3, .inr (.inr (some 79))), (0, .inr (.inr (some 64))), (1, .inl o), (2, .inl b)] [] S10 _
            refine zw_push hm_156 dX11_hold_65 (v := .inr (.inr (some c3))) rfl ?_
            obtain ⟨hg, h⟩ := h
            refine zw_gf hm_156 dX11_hold_67 (v := .inl (mI S10 c3 7)) (zT_tis hS10 hg) (zT_tt hS10 hg) rfl f_11_189_9 rfl ?_
            exact zw_iret hm_156 dX11_hold_70 h
          · intro x S9 hx
            exact ⟨by decide, hx⟩
      · intro hc
        rw [if_pos (Classical.not_not.mp hc)] at h
        exact zw_thr hm_156 dX11_hold_33 dX11_hold_36 dX11_hold_37 dX11_hold_40 x_11_192_194 n_11_192 (by omega) (by show 0 + 81 ≤ w; omega) h
  · intro x S9 hx
    exact ⟨by decide, hx⟩
theorem sp_156_64_s_p79 {X : Nat × (Nat → Int32)} {d w : Nat} {f : Nat → Nat → Int32} {r : Nat → Nat → Option Nat} {C Z N : Nat} {Q : Option ma_V ⊕ Nat → ma_S → Prop} {ab : Nat→Nat→Int32} {fq : Nat→Int32} {S : ma_S} (o : Int32) (b : Int32) (hd : 7 ≤ d) (hw : 111 ≤ w) (hI : zB f r C Z N S) (hr : r 64 11 = some 79) (hpre0 : xB S (mR S 70)) (hpre1 : aS 88 S = ab) (hpre2 : 0 ≤ b.toInt) (hpre3 : b.toInt ≤ 1) (hpre4 : zfP 79 (mI S) = fq) (K : ∀ v S₉, zB f r C Z N S₉ → (True) → (xB S₉ (mR S₉ 70)) → (zRq ab o ∧ (¬ b = 0 ∨ ¬ ab 133 o.toNatClampNeg = 0) ∧ aS 88 S₉ = ma_u ab 133 o.toNatClampNeg (ab 133 o.toNatClampNeg + (if b = 0 then -1 else 1)) ∧ v = ab 133 o.toNatClampNeg + (if b = 0 then -1 else 1)) → (zfP 79 (mI S₉) = fq) → Q (.inl (some (.inl v))) S₉) (KX : ∀ x S₉, (x = 4 ∨ x = 6) → zB f r C Z N S₉ → (xB S₉ (mR S₉ 70)) → (aS 88 S₉ = ab) → ((x = 4 ∧ ¬ zRq ab o) ∨ (x = 6 ∧ zRq ab o ∧ b = 0 ∧ ab 133 o.toNatClampNeg = 0)) → (zfP 79 (mI S₉) = fq) → Q (.inr x) (ma_bump S₉)) : ma_wp X d w 156 0 [(0, .inr (.inr (some 64))), (1, .inl o), (2, .inl b)] [] S Q := by
  refine g_156_64_s_p79_0 o b (by omega) (by omega) (zG_T hI) ?_
  refine ⟨((zG_r hI (by decide)).trans hr), ?_⟩
  refine ⟨((zG_r hI (by decide)).trans hr), ?_⟩
  have b1 := i_bd o
  refine sp_149_64_s (R := (mR S 70)) (a7 := (aS 75 S)) (a8 := (aS 88 S)) (o) (by omega) (by omega) (zB_dn_zI hI) (show xB S (mR S 70) from by first | (exact (xC_o (W := 75) hpre0).2)) (show aS 75 S = (aS 75 S) from by first | (exact rfl)) (show aS 88 S = (aS 88 S) from by first | (exact rfl)) (fun v2 S1 hL_S1 hq_v2 rp0_S1 rp1_S1 rp2_S1 rp3_S1 => zo_n ⟨zG_T hL_S1, ?_⟩) (fun x S9 hx h9 rx0 rx1 rx2 => by have h9u := (zB_up_zI hI h9); exact zo_x (KX x S9 (by omega) h9u (show xB S9 (mR S9 70) from by first | (exact xB_x (xC_o (W := 75) rx0).2)) (show aS 88 S9 = ab from by first | (exact rx1.trans hpre1)) (show (x = 4 ∧ ¬ zRq ab o) ∨ (x = 6 ∧ zRq ab o ∧ b = 0 ∧ ab 133 o.toNatClampNeg = 0) from by first | (exact Or.inl ⟨rx2.1, rq_no rx2.2 hpre1⟩)) (show zfP 79 (mI S9) = fq from by first | (exact ((zf_fr (P := 79) (fun _ => zG_z h9 rfl)).trans hpre4)))))
  have hI_S1 := zB_up_zI hI hL_S1
  have rp0_S1 : xB S1 (mR S 70) := by
    have z := rp0_S1
    (try rw [show mI S 65 = f 65 from funext (fun k => zG_z hI rfl)] at z)
    (try rw [show mI S 64 1 = f 64 1 from zG_z hI rfl] at z)
    exact z
  have rp1_S1 : aS 88 S1 = (aS 88 S) := by
    have z := rp1_S1
    (try rw [show mI S 65 = f 65 from funext (fun k => zG_z hI rfl)] at z)
    (try rw [show mI S 64 1 = f 64 1 from zG_z hI rfl] at z)
    exact z
  have rp2_S1 : v2 = zTa (mR S 70) o := by
    have z := rp2_S1
    (try rw [show mI S 65 = f 65 from funext (fun k => zG_z hI rfl)] at z)
    (try rw [show mI S 64 1 = f 64 1 from zG_z hI rfl] at z)
    exact z
  have rp3_S1 : zRq (aS 75 S) o := by
    have z := rp3_S1
    (try rw [show mI S 65 = f 65 from funext (fun k => zG_z hI rfl)] at z)
    (try rw [show mI S 64 1 = f 64 1 from zG_z hI rfl] at z)
    exact z
  obtain ⟨c3, hc, th_c3⟩ := hq_v2
  have rg_c3 : zTa (mR S 70) o = some c3 := rp2_S1.symm.trans hc
  refine ⟨c3, hc, ?_⟩
  have b2 := i_bd b
  have li3 : (0 : Int32).toInt = 0 := rfl
  refine zd (fun h4 => ?_) (fun h4 => ?_)
  · skip
    have g5 := i_eq h4
    refine ⟨zG_n hI_S1 th_c3, ?_⟩
    have b6 := i_bd (mI S1 c3 7)
    refine zd (fun h7 => ?_) (fun h7 => ?_)
    · skip
      have g8 := i_eq h7
      exact KX 6 _ (by decide) hI_S1 (show xB S1 (mR S1 70) from by first | (exact xB_x (xC_o (W := 75) rp0_S1).2)) (show aS 88 S1 = ab from by first | (exact (xC_o (W := 88) rp0_S1).1.trans (rp1_S1.trans hpre1))) (show (6 = 4 ∧ ¬ zRq ab o) ∨ (6 = 6 ∧ zRq ab o ∧ b = 0 ∧ ab 133 o.toNatClampNeg = 0) from by first | (have ty := xB_th (W := 88) rp0_S1 rg_c3; have e7 := ty.2.2.2.2.2.2.1; rw [(rp1_S1.trans hpre1)] at e7; exact Or.inr ⟨rfl, (rq_up rp3_S1 hpre1), by assumption, by rw [← e7]; assumption⟩)) (show zfP 79 (mI S1) = fq from by first | (exact ((zf_fr (P := 79) (S₉ := S1) (S := S) (fun _ => zG_z hL_S1 rfl)).trans hpre4)))
    · skip
      have g9 := i_ne h7
      refine zd (fun h10 => ?_) (fun h10 => ?_)
      · skip
        have g11 := i_eq h10
        have li12 : (-1 : Int32).toInt = -1 := rfl
        refine sp_97_69_s (ab := (aS 88 S1)) (R := (mR S 70)) (W := 88) (y := (o)) c3 ((-1 : Int32)) (by omega) (by omega) (zB_dn_zI hI_S1) th_c3 (show xB S1 (mR S 70) from by first | (exact (xC_o (W := 75) rp0_S1).2)) (show aS 88 S1 = (aS 88 S1) from by first | (exact rfl)) (show xW 88 from by first | (exact xW88) | (exact xW75)) (show zTa (mR S 70) (o) = some c3 from by first | (exact rg_c3)) (fun S8 hL_S8 rp0_S8 rp1_S8 => zv_n ⟨zG_T hL_S8, ?_⟩)
        have hI_S8 := zB_up_zI hI_S1 hL_S8
        have rp0_S8 : xB S8 (mR S 70) := by
          have z := rp0_S8
          (try rw [show mI S1 65 = f 65 from funext (fun k => zG_z hI_S1 rfl)] at z)
          (try rw [show mI S1 64 1 = f 64 1 from zG_z hI_S1 rfl] at z)
          exact z
        have rp1_S8 : aS 88 S8 = ma_u (aS 88 S1) 133 (o).toNatClampNeg ((aS 88 S1) 133 (o).toNatClampNeg + (-1 : Int32)) := by
          have z := rp1_S8
          (try rw [show mI S1 65 = f 65 from funext (fun k => zG_z hI_S1 rfl)] at z)
          (try rw [show mI S1 64 1 = f 64 1 from zG_z hI_S1 rfl] at z)
          exact z
        refine ⟨zG_n hI_S8 th_c3, ?_⟩
        have b13 := i_bd (mI S8 c3 7)
        exact K ((mI S8 c3 7)) _ hI_S8 trivial (show xB S8 (mR S8 70) from by first | (exact xB_x (xC_o (W := 75) rp0_S8).2)) (show zRq ab o ∧ (¬ b = 0 ∨ ¬ ab 133 o.toNatClampNeg = 0) ∧ aS 88 S8 = ma_u ab 133 o.toNatClampNeg (ab 133 o.toNatClampNeg + (if b = 0 then -1 else 1)) ∧ (mI S8 c3 7) = ab 133 o.toNatClampNeg + (if b = 0 then -1 else 1) from by first | (exfalso; omega) | (have ty := xB_th (W := 88) rp0_S1 rg_c3; have e7 := ty.2.2.2.2.2.2.1; rw [(rp1_S1.trans hpre1)] at e7; have t2 := xB_th (W := 88) rp0_S8 rg_c3; have f7 := t2.2.2.2.2.2.2.1; have hl := rp1_S8; rw [(rp1_S1.trans hpre1)] at hl; rw [hl, xu_s] at f7; refine ⟨(rq_up rp3_S1 hpre1), Or.inl (by assumption), ?_, ?_⟩; (rw [hl, if_neg (by assumption)]); (rw [if_neg (by assumption)]; exact f7)) | (have ty := xB_th (W := 88) rp0_S1 rg_c3; have e7 := ty.2.2.2.2.2.2.1; rw [(rp1_S1.trans hpre1)] at e7; have t2 := xB_th (W := 88) rp0_S8 rg_c3; have f7 := t2.2.2.2.2.2.2.1; have hl := rp1_S8; rw [(rp1_S1.trans hpre1)] at hl; rw [hl, xu_s] at f7; refine ⟨(rq_up rp3_S1 hpre1), Or.inr (by rw [← e7]; assumption), ?_, ?_⟩; (rw [hl, if_pos (by assumption)]); (rw [if_pos (by assumption)]; exact f7))) (show zfP 79 (mI S8) = fq from by first | (exact ((zf_fr (P := 79) (S₉ := S8) (S := S1) (fun _ => zG_z hL_S8 rfl)).trans ((zf_fr (P := 79) (S₉ := S1) (S := S) (fun _ => zG_z hL_S1 rfl)).trans hpre4))))
      · skip
        have g14 := i_ne h10
        have li15 : (1 : Int32).toInt = 1 := rfl
        refine sp_97_69_s (ab := (aS 88 S1)) (R := (mR S 70)) (W := 88) (y := (o)) c3 ((1 : Int32)) (by omega) (by omega) (zB_dn_zI hI_S1) th_c3 (show xB S1 (mR S 70) from by first | (exact (xC_o (W := 75) rp0_S1).2)) (show aS 88 S1 = (aS 88 S1) from by first | (exact rfl)) (show xW 88 from by first | (exact xW88) | (exact xW75)) (show zTa (mR S 70) (o) = some c3 from by first | (exact rg_c3)) (fun S10 hL_S10 rp0_S10 rp1_S10 => zv_n ⟨zG_T hL_S10, ?_⟩)
        have hI_S10 := zB_up_zI hI_S1 hL_S10
        have rp0_S10 : xB S10 (mR S 70) := by
          have z := rp0_S10
          (try rw [show mI S1 65 = f 65 from funext (fun k => zG_z hI_S1 rfl)] at z)
          (try rw [show mI S1 64 1 = f 64 1 from zG_z hI_S1 rfl] at z)
          exact z
        have rp1_S10 : aS 88 S10 = ma_u (aS 88 S1) 133 (o).toNatClampNeg ((aS 88 S1) 133 (o).toNatClampNeg + (1 : Int32)) := by
          have z := rp1_S10
          (try rw [show mI S1 65 = f 65 from funext (fun k => zG_z hI_S1 rfl)] at z)
          (try rw [show mI S1 64 1 = f 64 1 from zG_z hI_S1 rfl] at z)
          exact z
        refine ⟨zG_n hI_S10 th_c3, ?_⟩
        have b16 := i_bd (mI S10 c3 7)
        exact K ((mI S10 c3 7)) _ hI_S10 trivial (show xB S10 (mR S10 70) from by first | (exact xB_x (xC_o (W := 75) rp0_S10).2)) (show zRq ab o ∧ (¬ b = 0 ∨ ¬ ab 133 o.toNatClampNeg = 0) ∧ aS 88 S10 = ma_u ab 133 o.toNatClampNeg (ab 133 o.toNatClampNeg + (if b = 0 then -1 else 1)) ∧ (mI S10 c3 7) = ab 133 o.toNatClampNeg + (if b = 0 then -1 else 1) from by first | (exfalso; omega) | (have ty := xB_th (W := 88) rp0_S1 rg_c3; have e7 := ty.2.2.2.2.2.2.1; rw [(rp1_S1.trans hpre1)] at e7; have t2 := xB_th (W := 88) rp0_S10 rg_c3; have f7 := t2.2.2.2.2.2.2.1; have hl := rp1_S10; rw [(rp1_S1.trans hpre1)] at hl; rw [hl, xu_s] at f7; refine ⟨(rq_up rp3_S1 hpre1), Or.inl (by assumption), ?_, ?_⟩; (rw [hl, if_neg (by assumption)]); (rw [if_neg (by assumption)]; exact f7)) | (have ty := xB_th (W := 88) rp0_S1 rg_c3; have e7 := ty.2.2.2.2.2.2.1; rw [(rp1_S1.trans hpre1)] at e7; have t2 := xB_th (W := 88) rp0_S10 rg_c3; have f7 := t2.2.2.2.2.2.2.1; have hl := rp1_S10; rw [(rp1_S1.trans hpre1)] at hl; rw [hl, xu_s] at f7; refine ⟨(rq_up rp3_S1 hpre1), Or.inr (by rw [← e7]; assumption), ?_, ?_⟩; (rw [hl, if_pos (by assumption)]); (rw [if_pos (by assumption)]; exact f7))) (show zfP 79 (mI S10) = fq from by first | (exact ((zf_fr (P := 79) (S₉ := S10) (S := S1) (fun _ => zG_z hL_S10 rfl)).trans ((zf_fr (P := 79) (S₉ := S1) (S := S) (fun _ => zG_z hL_S1 rfl)).trans hpre4))))
  · skip
    have g17 := i_ne h4
    refine zd (fun h18 => ?_) (fun h18 => ?_)
    · skip
      have g19 := i_eq h18
      have li20 : (-1 : Int32).toInt = -1 := rfl
      refine sp_97_69_s (ab := (aS 88 S1)) (R := (mR S 70)) (W := 88) (y := (o)) c3 ((-1 : Int32)) (by omega) (by omega) (zB_dn_zI hI_S1) th_c3 (show xB S1 (mR S 70) from by first | (exact (xC_o (W := 75) rp0_S1).2)) (show aS 88 S1 = (aS 88 S1) from by first | (exact rfl)) (show xW 88 from by first | (exact xW88) | (exact xW75)) (show zTa (mR S 70) (o) = some c3 from by first | (exact rg_c3)) (fun S4 hL_S4 rp0_S4 rp1_S4 => zv_n ⟨zG_T hL_S4, ?_⟩)
      have hI_S4 := zB_up_zI hI_S1 hL_S4
      have rp0_S4 : xB S4 (mR S 70) := by
        have z := rp0_S4
        (try rw [show mI S1 65 = f 65 from funext (fun k => zG_z hI_S1 rfl)] at z)
        (try rw [show mI S1 64 1 = f 64 1 from zG_z hI_S1 rfl] at z)
        exact z
      have rp1_S4 : aS 88 S4 = ma_u (aS 88 S1) 133 (o).toNatClampNeg ((aS 88 S1) 133 (o).toNatClampNeg + (-1 : Int32)) := by
        have z := rp1_S4
        (try rw [show mI S1 65 = f 65 from funext (fun k => zG_z hI_S1 rfl)] at z)
        (try rw [show mI S1 64 1 = f 64 1 from zG_z hI_S1 rfl] at z)
        exact z
      refine ⟨zG_n hI_S4 th_c3, ?_⟩
      have b21 := i_bd (mI S4 c3 7)
      exact K ((mI S4 c3 7)) _ hI_S4 trivial (show xB S4 (mR S4 70) from by first | (exact xB_x (xC_o (W := 75) rp0_S4).2)) (show zRq ab o ∧ (¬ b = 0 ∨ ¬ ab 133 o.toNatClampNeg = 0) ∧ aS 88 S4 = ma_u ab 133 o.toNatClampNeg (ab 133 o.toNatClampNeg + (if b = 0 then -1 else 1)) ∧ (mI S4 c3 7) = ab 133 o.toNatClampNeg + (if b = 0 then -1 else 1) from by first | (exfalso; omega) | (have ty := xB_th (W := 88) rp0_S1 rg_c3; have e7 := ty.2.2.2.2.2.2.1; rw [(rp1_S1.trans hpre1)] at e7; have t2 := xB_th (W := 88) rp0_S4 rg_c3; have f7 := t2.2.2.2.2.2.2.1; have hl := rp1_S4; rw [(rp1_S1.trans hpre1)] at hl; rw [hl, xu_s] at f7; refine ⟨(rq_up rp3_S1 hpre1), Or.inl (by assumption), ?_, ?_⟩; (rw [hl, if_neg (by assumption)]); (rw [if_neg (by assumption)]; exact f7)) | (have ty := xB_th (W := 88) rp0_S1 rg_c3; have e7 := ty.2.2.2.2.2.2.1; rw [(rp1_S1.trans hpre1)] at e7; have t2 := xB_th (W := 88) rp0_S4 rg_c3; have f7 := t2.2.2.2.2.2.2.1; have hl := rp1_S4; rw [(rp1_S1.trans hpre1)] at hl; rw [hl, xu_s] at f7; refine ⟨(rq_up rp3_S1 hpre1), Or.inr (by rw [← e7]; assumption), ?_, ?_⟩; (rw [hl, if_pos (by assumption)]); (rw [if_pos (by assumption)]; exact f7))) (show zfP 79 (mI S4) = fq from by first | (exact ((zf_fr (P := 79) (S₉ := S4) (S := S1) (fun _ => zG_z hL_S4 rfl)).trans ((zf_fr (P := 79) (S₉ := S1) (S := S) (fun _ => zG_z hL_S1 rfl)).trans hpre4))))
    · skip
      have g22 := i_ne h18
      have li23 : (1 : Int32).toInt = 1 := rfl
      refine sp_97_69_s (ab := (aS 88 S1)) (R := (mR S 70)) (W := 88) (y := (o)) c3 ((1 : Int32)) (by omega) (by omega) (zB_dn_zI hI_S1) th_c3 (show xB S1 (mR S 70) from by first | (exact (xC_o (W := 75) rp0_S1).2)) (show aS 88 S1 = (aS 88 S1) from by first | (exact rfl)) (show xW 88 from by first | (exact xW88) | (exact xW75)) (show zTa (mR S 70) (o) = some c3 from by first | (exact rg_c3)) (fun S6 hL_S6 rp0_S6 rp1_S6 => zv_n ⟨zG_T hL_S6, ?_⟩)
      have hI_S6 := zB_up_zI hI_S1 hL_S6
      have rp0_S6 : xB S6 (mR S 70) := by
        have z := rp0_S6
        (try rw [show mI S1 65 = f 65 from funext (fun k => zG_z hI_S1 rfl)] at z)
        (try rw [show mI S1 64 1 = f 64 1 from zG_z hI_S1 rfl] at z)
        exact z
      have rp1_S6 : aS 88 S6 = ma_u (aS 88 S1) 133 (o).toNatClampNeg ((aS 88 S1) 133 (o).toNatClampNeg + (1 : Int32)) := by
        have z := rp1_S6
        (try rw [show mI S1 65 = f 65 from funext (fun k => zG_z hI_S1 rfl)] at z)
        (try rw [show mI S1 64 1 = f 64 1 from zG_z hI_S1 rfl] at z)
        exact z
      refine ⟨zG_n hI_S6 th_c3, ?_⟩
      have b24 := i_bd (mI S6 c3 7)
      exact K ((mI S6 c3 7)) _ hI_S6 trivial (show xB S6 (mR S6 70) from by first | (exact xB_x (xC_o (W := 75) rp0_S6).2)) (show zRq ab o ∧ (¬ b = 0 ∨ ¬ ab 133 o.toNatClampNeg = 0) ∧ aS 88 S6 = ma_u ab 133 o.toNatClampNeg (ab 133 o.toNatClampNeg + (if b = 0 then -1 else 1)) ∧ (mI S6 c3 7) = ab 133 o.toNatClampNeg + (if b = 0 then -1 else 1) from by first | (exfalso; omega) | (have ty := xB_th (W := 88) rp0_S1 rg_c3; have e7 := ty.2.2.2.2.2.2.1; rw [(rp1_S1.trans hpre1)] at e7; have t2 := xB_th (W := 88) rp0_S6 rg_c3; have f7 := t2.2.2.2.2.2.2.1; have hl := rp1_S6; rw [(rp1_S1.trans hpre1)] at hl; rw [hl, xu_s] at f7; refine ⟨(rq_up rp3_S1 hpre1), Or.inl (by assumption), ?_, ?_⟩; (rw [hl, if_neg (by assumption)]); (rw [if_neg (by assumption)]; exact f7)) | (have ty := xB_th (W := 88) rp0_S1 rg_c3; have e7 := ty.2.2.2.2.2.2.1; rw [(rp1_S1.trans hpre1)] at e7; have t2 := xB_th (W := 88) rp0_S6 rg_c3; have f7 := t2.2.2.2.2.2.2.1; have hl := rp1_S6; rw [(rp1_S1.trans hpre1)] at hl; rw [hl, xu_s] at f7; refine ⟨(rq_up rp3_S1 hpre1), Or.inr (by rw [← e7]; assumption), ?_, ?_⟩; (rw [hl, if_pos (by assumption)]); (rw [if_pos (by assumption)]; exact f7))) (show zfP 79 (mI S6) = fq from by first | (exact ((zf_fr (P := 79) (S₉ := S6) (S := S1) (fun _ => zG_z hL_S6 rfl)).trans ((zf_fr (P := 79) (S₉ := S1) (S := S) (fun _ => zG_z hL_S1 rfl)).trans hpre4))))

/-! from 95.k26 -/
/-! the collectors that sweep, the class (written by wip/tools/gen20.py) -/
theorem g_153_64_s_p79_0 {X : Nat × (Nat → Int32)} {d w : Nat} {S : ma_S} {Q : Option ma_V ⊕ Nat → ma_S → Prop} (i : Int32) (o : Int32) (hd : 8 ≤ d) (hw : 134 ≤ w) (hS : zT S) (h : if i < 0 then (Q (.inr 2) (ma_bump S)) else (if (16 : Int32) ≤ i then (Q (.inr 2) (ma_bump S)) else (mR S 64 11 = some 79 ∧ (mR S 64 11 = some 79 ∧ (ma_wp X (d - 1) (w - 21) 151 0 [(0, .inr (.inr (some 64))), (1, .inl o)] [] S (zo (fun v2 S1 => zT S1 ∧ (ma_wp X (d - 1) (w - 24) 145 0 [(0, .inr (.inr (some 64))), (1, .inr (.inr (some 79))), (2, .inl i), (3, .inr (.inr v2))] [] S1 (zo (fun v4 S3 => zT S3 ∧ ((v4 = none → Q (.inl (some (.inl (-1 : Int32)))) S3) ∧ (∀ c5, v4 = some c5 → (126 ≤ c5 ∧ c5 < mN S3) ∧ (Q (.inl (some (.inl (mI S3 c5 0)))) S3)))) (fun x S9 => Q (.inr x) S9)))) (fun x S9 => Q (.inr x) S9))))))) : ma_wp X d w 153 0 [(0, .inr (.inr (some 64))), (1, .inl i), (2, .inl o)] [] S Q := by
  refine zw_push hm_153 dX11_root_0 (v := .inl i) rfl ?_
  refine zw_cs hm_153 dX11_root_1 pn_11_109 sl_11_109 hm_142 [.inl i] [] rfl ⟨by omega, by omega⟩ rfl ?_
  show ma_wp X (d - 1) (w - 20) 142 0 [(0, .inl i)] [] S _
  refine zw_push hm_142 dX11_isSlot_0 (v := .inl i) rfl ?_
  refine zw_if0 hm_142 dX11_isSlot_1 (t := 14) rfl zc0_lt ?_ ?_
  · intro hc
    rw [if_pos hc] at h
    refine zw_push hm_142 dX11_isSlot_14 (v := .inl (0 : Int32)) rfl ?_
    refine zw_bret hm_142 dX11_isSlot_15 (by decide) ?_
    show ma_wp X d w 153 4 [(0, .inr (.inr (some 64))), (1, .inl i), (2, .inl o)] [.inl (0 : Int32)] S _
    refine zw_if0 hm_153 dX11_root_4 (t := 15) rfl zc0_ne (fun hc => absurd hc (by decide)) (fun _ => ?_)
    exact zw_thr hm_153 dX11_root_7 dX11_root_10 dX11_root_11 dX11_root_14 x_11_79_81 n_11_79 (by omega) (by show 0 + 81 ≤ w; omega) h
  · intro hc
    rw [if_neg hc] at h
    refine zw_push hm_142 dX11_isSlot_4 (v := .inl i) rfl ?_
    refine zw_push hm_142 dX11_isSlot_5 (v := .inl (16 : Int32)) rfl ?_
    refine zw_if2 hm_142 dX11_isSlot_7 (t := 14) rfl zc2_ge ?_ ?_
    · intro hc
      rw [if_pos hc] at h
      refine zw_push hm_142 dX11_isSlot_14 (v := .inl (0 : Int32)) rfl ?_
      refine zw_bret hm_142 dX11_isSlot_15 (by decide) ?_
      show ma_wp X d w 153 4 [(0, .inr (.inr (some 64))), (1, .inl i), (2, .inl o)] [.inl (0 : Int32)] S _
      refine zw_if0 hm_153 dX11_root_4 (t := 15) rfl zc0_ne (fun hc => absurd hc (by decide)) (fun _ => ?_)
      exact zw_thr hm_153 dX11_root_7 dX11_root_10 dX11_root_11 dX11_root_14 x_11_79_81 n_11_79 (by omega) (by show 0 + 81 ≤ w; omega) h
    · intro hc
      rw [if_neg hc] at h
      refine zw_push hm_142 dX11_isSlot_10 (v := .inl (1 : Int32)) rfl ?_
      refine zw_goto hm_142 dX11_isSlot_11 (t := 15) rfl ?_
      refine zw_bret hm_142 dX11_isSlot_15 (by decide) ?_
      show ma_wp X d w 153 4 [(0, .inr (.inr (some 64))), (1, .inl i), (2, .inl o)] [.inl (1 : Int32)] S _
      refine zw_if0 hm_153 dX11_root_4 (t := 15) rfl zc0_ne (fun _ => ?_) (fun hc => absurd (by decide) hc)
      refine zw_push hm_153 dX11_root_15 (v := .inr (.inr (some 64))) rfl ?_
      refine zw_cv hm_153 dX11_root_16 v_11_119_11 hm_144 [] [] rfl (zT_rt hS s_64 rfl) ⟨by omega, by omega⟩ rfl ?_
      show ma_wp X (d - 1) (w - 20) 144 0 [(0, .inr (.inr (some 64)))] [] S _
      refine zw_push hm_144 dX11_needCollector_0 (v := .inr (.inr (some 64))) rfl ?_
      obtain ⟨hg, h⟩ := h
      refine zw_gf hm_144 dX11_needCollector_1 (v := .inr (.inr (some 79))) (zT_is hS s_64) (zT_t hS s_64) rfl f_11_98_11 (congrArg (fun z => Sum.inr (Sum.inr z)) hg) ?_
      refine zw_ifnonnull hm_144 dX11_needCollector_4 (t := 15) rfl (fun z => by cases z) (fun _ _ => ?_)
      refine zw_push hm_144 dX11_needCollector_15 (v := .inr (.inr (some 64))) rfl ?_
      obtain ⟨hg, h⟩ := h
      refine zw_gf hm_144 dX11_needCollector_16 (v := .inr (.inr (some 79))) (zT_is hS s_64) (zT_t hS s_64) rfl f_11_98_11 (congrArg (fun z => Sum.inr (Sum.inr z)) hg) ?_
      refine zw_aret hm_144 dX11_needCollector_19 ?_
      show ma_wp X d w 153 19 [(0, .inr (.inr (some 64))), (1, .inl i), (2, .inl o)] [.inr (.inr (some 79))] S _
      refine zw_sto hm_153 dX11_root_19 [(3, .inr (.inr (some 79))), (0, .inr (.inr (some 64))), (1, .inl i), (2, .inl o)] rfl rfl rfl ?_
      refine zw_push hm_153 dX11_root_20 (v := .inr (.inr (some 64))) rfl ?_
      refine zw_push hm_153 dX11_root_21 (v := .inl o) rfl ?_
      refine zw_cv hm_153 dX11_root_22 v_11_142_11 hm_151 [.inl o] [] rfl (zT_rt hS s_64 rfl) ⟨by omega, by omega⟩ rfl (zw_mono h (zo_go ?_ ?_))
      · intro v2 S1 hv
        obtain ⟨hS1, h⟩ := hv
        refine zw_sto hm_153 dX11_root_25 [(4, .inr (.inr v2)), (3, .inr (.inr (some 79))), (0, .inr (.inr (some 64))), (1, .inl i), (2, .inl o)] rfl rfl rfl ?_
        refine zw_push hm_153 dX11_root_27 (v := .inr (.inr (some 64))) rfl ?_
        refine zw_push hm_153 dX11_root_28 (v := .inr (.inr (some 79))) rfl ?_
        refine zw_push hm_153 dX11_root_29 (v := .inl i) rfl ?_
        refine zw_push hm_153 dX11_root_30 (v := .inr (.inr v2)) rfl ?_
        refine zw_cv hm_153 dX11_root_32 v_11_169_11 hm_145 [.inr (.inr v2), .inl i, .inr (.inr (some 79))] [] rfl (zT_rt hS1 s_64 rfl) ⟨by omega, by omega⟩ rfl (zw_mono h (zo_go ?_ ?_))
        · intro v4 S3 hv
          obtain ⟨hS3, h⟩ := hv
          refine zw_cs hm_153 dX11_root_35 pn_11_161 sl_11_161 hm_146 [.inr (.inr v4)] [] rfl ⟨by omega, by omega⟩ rfl ?_
          show ma_wp X (d - 1) (w - 20) 146 0 [(0, .inr (.inr v4))] [] S3 _
          refine zw_push hm_146 dX11_numberOf_0 (v := .inr (.inr v4)) rfl ?_
          refine zw_ifnonnull hm_146 dX11_numberOf_1 (t := 8) rfl ?_ ?_
          · intro hc
            have h := h.1 hc
            (try rw [hc])
            show ma_wp X (d - 1) (w - 20) 146 4 [(0, .inr (.inr none))] [] S3 _
            refine zw_push hm_146 dX11_numberOf_4 (v := .inl (-1 : Int32)) rfl ?_
            refine zw_goto hm_146 dX11_numberOf_5 (t := 12) rfl ?_
            refine zw_iret hm_146 dX11_numberOf_12 ?_
            show ma_wp X d w 153 38 [(4, .inr (.inr v2)), (3, .inr (.inr (some 79))), (0, .inr (.inr (some 64))), (1, .inl i), (2, .inl o)] [.inl (-1 : Int32)] S3 _
            exact zw_iret hm_153 dX11_root_38 h
          · intro c5 hc
            have h := h.2 c5 hc
            (try rw [hc])
            show ma_wp X (d - 1) (w - 20) 146 8 [(0, .inr (.inr (some c5)))] [] S3 _
            refine zw_push hm_146 dX11_numberOf_8 (v := .inr (.inr (some c5))) rfl ?_
            obtain ⟨hg, h⟩ := h
            refine zw_gf hm_146 dX11_numberOf_9 (v := .inl (mI S3 c5 0)) (zT_tis hS3 hg) (zT_tt hS3 hg) rfl f_11_182_9 rfl ?_
            refine zw_iret hm_146 dX11_numberOf_12 ?_
            show ma_wp X d w 153 38 [(4, .inr (.inr v2)), (3, .inr (.inr (some 79))), (0, .inr (.inr (some 64))), (1, .inl i), (2, .inl o)] [.inl (mI S3 c5 0)] S3 _
            exact zw_iret hm_153 dX11_root_38 h
        · intro x S9 hx
          exact ⟨by decide, hx⟩
      · intro x S9 hx
        exact ⟨by decide, hx⟩
theorem sp_153_64_s_p79 {X : Nat × (Nat → Int32)} {d w : Nat} {f : Nat → Nat → Int32} {r : Nat → Nat → Option Nat} {C Z N : Nat} {Q : Option ma_V ⊕ Nat → ma_S → Prop} {ab : Nat→Nat→Int32} {fq : Nat→Int32} {S : ma_S} (i : Int32) (o : Int32) (hd : 8 ≤ d) (hw : 134 ≤ w) (hI : zB f r C Z N S) (hr : r 64 11 = some 79) (hpre0 : xB S (mR S 70)) (hpre1 : aS 88 S = ab) (hpre2 : zfP 79 (mI S) = fq) (K : ∀ v S₉, zB f r C Z N S₉ → (True) → (xB S₉ (mR S₉ 70)) → ((0 ≤ i.toInt ∧ i.toInt ≤ 15) ∧ (o = -1 ∨ zRq ab o) ∧ aS 88 S₉ = aR0 ab i o ∧ v = aNm ab (ab 72 i.toNatClampNeg)) → (zfP 79 (mI S₉) = fq) → Q (.inl (some (.inl v))) S₉) (KX : ∀ x S₉, (x = 2 ∨ x = 4) → zB f r C Z N S₉ → (xB S₉ (mR S₉ 70)) → (aS 88 S₉ = ab) → ((x = 2 ∧ ¬ (0 ≤ i.toInt ∧ i.toInt ≤ 15)) ∨ ((0 ≤ i.toInt ∧ i.toInt ≤ 15) ∧ x = 4 ∧ o ≠ -1 ∧ ¬ zRq ab o)) → (zfP 79 (mI S₉) = fq) → Q (.inr x) (ma_bump S₉)) : ma_wp X d w 153 0 [(0, .inr (.inr (some 64))), (1, .inl i), (2, .inl o)] [] S Q := by
  refine g_153_64_s_p79_0 i o (by omega) (by omega) (zG_T hI) ?_
  have b1 := i_bd i
  have li2 : (0 : Int32).toInt = 0 := rfl
  refine zd (fun h3 => ?_) (fun h3 => ?_)
  · skip
    have g4 := i_lt h3
    exact KX 2 _ (by decide) hI (show xB S (mR S 70) from by first | (exact xB_x (xC_o (W := 75) hpre0).2)) (show aS 88 S = ab from by first | (exact (xC_o (W := 88) hpre0).1.trans hpre1)) (show (2 = 2 ∧ ¬ (0 ≤ i.toInt ∧ i.toInt ≤ 15)) ∨ ((0 ≤ i.toInt ∧ i.toInt ≤ 15) ∧ 2 = 4 ∧ o ≠ -1 ∧ ¬ zRq ab o) from by first | (exact Or.inl ⟨rfl, by omega⟩)) (show zfP 79 (mI S) = fq from by first | (exact hpre2))
  · skip
    have g5 := i_nlt h3
    have li6 : (16 : Int32).toInt = 16 := rfl
    refine zd (fun h7 => ?_) (fun h7 => ?_)
    · skip
      have g8 := i_le h7
      exact KX 2 _ (by decide) hI (show xB S (mR S 70) from by first | (exact xB_x (xC_o (W := 75) hpre0).2)) (show aS 88 S = ab from by first | (exact (xC_o (W := 88) hpre0).1.trans hpre1)) (show (2 = 2 ∧ ¬ (0 ≤ i.toInt ∧ i.toInt ≤ 15)) ∨ ((0 ≤ i.toInt ∧ i.toInt ≤ 15) ∧ 2 = 4 ∧ o ≠ -1 ∧ ¬ zRq ab o) from by first | (exact Or.inl ⟨rfl, by omega⟩)) (show zfP 79 (mI S) = fq from by first | (exact hpre2))
    · skip
      have g9 := i_nle h7
      refine ⟨((zG_r hI (by decide)).trans hr), ?_⟩
      refine ⟨((zG_r hI (by decide)).trans hr), ?_⟩
      have b10 := i_bd o
      refine sp_151_64_s (R := (mR S 70)) (a7 := (aS 75 S)) (a8 := (aS 88 S)) (o) (by omega) (by omega) (zB_dn_zI hI) (show xB S (mR S 70) from by first | (exact (xC_o (W := 75) hpre0).2)) (show aS 75 S = (aS 75 S) from by first | (exact rfl)) (show aS 88 S = (aS 88 S) from by first | (exact rfl)) (fun v2 S1 hL_S1 hq_v2 rp0_S1 rp1_S1 rp2_S1 rp3_S1 => zo_n ⟨zG_T hL_S1, ?_⟩) (fun x S9 hx h9 rx0 rx1 rx2 => by have h9u := (zB_up_zI hI h9); exact zo_x (KX x S9 (by omega) h9u (show xB S9 (mR S9 70) from by first | (exact xB_x (xC_o (W := 75) rx0).2)) (show aS 88 S9 = ab from by first | (exact rx1.trans hpre1)) (show (x = 2 ∧ ¬ (0 ≤ i.toInt ∧ i.toInt ≤ 15)) ∨ ((0 ≤ i.toInt ∧ i.toInt ≤ 15) ∧ x = 4 ∧ o ≠ -1 ∧ ¬ zRq ab o) from by first | (exact Or.inr ⟨⟨by omega, by omega⟩, ⟨rx2.1, rx2.2.1, rq_no rx2.2.2 hpre1⟩⟩)) (show zfP 79 (mI S9) = fq from by first | (exact ((zf_fr (P := 79) (fun _ => zG_z h9 rfl)).trans hpre2)))))
      have hI_S1 := zB_up_zI hI hL_S1
      have rp0_S1 : xB S1 (mR S 70) := by
        have z := rp0_S1
        (try rw [show mI S 65 = f 65 from funext (fun k => zG_z hI rfl)] at z)
        (try rw [show mI S 64 1 = f 64 1 from zG_z hI rfl] at z)
        exact z
      have rp1_S1 : aS 88 S1 = (aS 88 S) := by
        have z := rp1_S1
        (try rw [show mI S 65 = f 65 from funext (fun k => zG_z hI rfl)] at z)
        (try rw [show mI S 64 1 = f 64 1 from zG_z hI rfl] at z)
        exact z
      have rp2_S1 : v2 = zTa (mR S 70) o := by
        have z := rp2_S1
        (try rw [show mI S 65 = f 65 from funext (fun k => zG_z hI rfl)] at z)
        (try rw [show mI S 64 1 = f 64 1 from zG_z hI rfl] at z)
        exact z
      have rp3_S1 : o = -1 ∨ zRq (aS 75 S) o := by
        have z := rp3_S1
        (try rw [show mI S 65 = f 65 from funext (fun k => zG_z hI rfl)] at z)
        (try rw [show mI S 64 1 = f 64 1 from zG_z hI rfl] at z)
        exact z
      refine sp_145_64_79_s (ab := (aS 88 S1)) (R := (mR S 70)) (y := (o)) (fq := (zfP 79 (mI S1))) (i) (v2) (by omega) (by omega) (zB_dn_zJ79 hI_S1) hq_v2 (show xB S1 (mR S 70) from by first | (exact (xC_o (W := 75) rp0_S1).2)) (show aS 88 S1 = (aS 88 S1) from by first | (exact rfl)) (show v2 = zTa (mR S 70) (o) from by first | (exact rp2_S1)) (by omega) (by omega) (show zfP 79 (mI S1) = (zfP 79 (mI S1)) from by first | (exact rfl)) (fun v4 S3 hL_S3 hq_v4 rp0_S3 rp1_S3 rp2_S3 rp3_S3 => zo_n ⟨zG_T hL_S3, ?_⟩)
      have hI_S3 := zB_up_zJ79 hI_S1 hL_S3
      have rp0_S3 : xB S3 (mR S 70) := by
        have z := rp0_S3
        (try rw [show mI S1 65 = f 65 from funext (fun k => zG_z hI_S1 rfl)] at z)
        (try rw [show mI S1 64 1 = f 64 1 from zG_z hI_S1 rfl] at z)
        exact z
      have rp1_S3 : aS 88 S3 = aR0 (aS 88 S1) i (o) := by
        have z := rp1_S3
        (try rw [show mI S1 65 = f 65 from funext (fun k => zG_z hI_S1 rfl)] at z)
        (try rw [show mI S1 64 1 = f 64 1 from zG_z hI_S1 rfl] at z)
        exact z
      have rp2_S3 : v4 = zTa (mR S 70) ((aS 88 S1) 72 i.toNatClampNeg) := by
        have z := rp2_S3
        (try rw [show mI S1 65 = f 65 from funext (fun k => zG_z hI_S1 rfl)] at z)
        (try rw [show mI S1 64 1 = f 64 1 from zG_z hI_S1 rfl] at z)
        exact z
      have rp3_S3 : zfP 79 (mI S3) = (zfP 79 (mI S1)) := by
        have z := rp3_S3
        (try rw [show mI S1 65 = f 65 from funext (fun k => zG_z hI_S1 rfl)] at z)
        (try rw [show mI S1 64 1 = f 64 1 from zG_z hI_S1 rfl] at z)
        exact z
      refine ⟨fun hc => ?_, fun c5 hc => ?_⟩
      · skip
        have rn_c5 : zTa (mR S 70) ((aS 88 S1) 72 i.toNatClampNeg) = none := rp2_S3.symm.trans hc
        have li11 : (-1 : Int32).toInt = -1 := rfl
        exact K ((-1 : Int32)) _ hI_S3 trivial (show xB S3 (mR S3 70) from by first | (exact xB_x (xC_o (W := 75) rp0_S3).2)) (show (0 ≤ i.toInt ∧ i.toInt ≤ 15) ∧ (o = -1 ∨ zRq ab o) ∧ aS 88 S3 = aR0 ab i o ∧ (-1 : Int32) = aNm ab (ab 72 i.toNatClampNeg) from by first | (exfalso; omega) | (have rt := rp1_S3; rw [(rp1_S1.trans hpre1)] at rt; have nn := nm_n (W := 88) hpre0 rn_c5; rw [hpre1] at nn; rw [(rp1_S1.trans hpre1)] at nn; refine ⟨⟨by omega, by omega⟩, (rp3_S1.imp id (fun w => rq_up w hpre1)), rt, ?_⟩; exact nn.symm) | (have rt := rp1_S3; rw [(rp1_S1.trans hpre1)] at rt; have nn := nm_n (W := 88) hpre0 rn_c5; rw [hpre1, (rp1_S1.trans hpre1)] at nn; refine ⟨⟨by omega, by omega⟩, (rp3_S1.imp id (fun w => rq_up w hpre1)), rt, ?_⟩; (try rw [(rp1_S1.trans hpre1)]); exact nn.symm)) (show zfP 79 (mI S3) = fq from by first | (exact (rp3_S3.trans ((zf_fr (P := 79) (S₉ := S1) (S := S) (fun _ => zG_z hL_S1 rfl)).trans hpre2))))
      · skip
        have th_c5 := hq_v4 c5 hc
        have rg_c5 : zTa (mR S 70) ((aS 88 S1) 72 i.toNatClampNeg) = some c5 := rp2_S3.symm.trans hc
        subst hc
        refine ⟨zG_n hI_S3 th_c5, ?_⟩
        have f12 := zG_th hI_S3 th_c5
        exact K ((mI S3 c5 0)) _ hI_S3 trivial (show xB S3 (mR S3 70) from by first | (exact xB_x (xC_o (W := 75) rp0_S3).2)) (show (0 ≤ i.toInt ∧ i.toInt ≤ 15) ∧ (o = -1 ∨ zRq ab o) ∧ aS 88 S3 = aR0 ab i o ∧ (mI S3 c5 0) = aNm ab (ab 72 i.toNatClampNeg) from by first | (exfalso; omega) | (have rt := rp1_S3; rw [(rp1_S1.trans hpre1)] at rt; have nn := nm_y (W := 88) hpre0 rg_c5; have tn := (xB_th (W := 88) rp0_S3 rg_c5).2.2.1; rw [hpre1] at nn; rw [(rp1_S1.trans hpre1)] at nn; refine ⟨⟨by omega, by omega⟩, (rp3_S1.imp id (fun w => rq_up w hpre1)), rt, ?_⟩; rw [tn]; exact nn.symm) | (have rt := rp1_S3; rw [(rp1_S1.trans hpre1)] at rt; have nn := nm_y (W := 88) hpre0 rg_c5; have tn := (xB_th (W := 88) rp0_S3 rg_c5).2.2.1; rw [hpre1, (rp1_S1.trans hpre1)] at nn; refine ⟨⟨by omega, by omega⟩, (rp3_S1.imp id (fun w => rq_up w hpre1)), rt, ?_⟩; (try rw [(rp1_S1.trans hpre1)]); (rw [tn]; (try rw [(rp1_S1.trans hpre1)])); exact nn.symm)) (show zfP 79 (mI S3) = fq from by first | (exact (rp3_S3.trans ((zf_fr (P := 79) (S₉ := S1) (S := S) (fun _ => zG_z hL_S1 rfl)).trans hpre2))))
theorem g_158_64_s_p79_0 {X : Nat × (Nat → Int32)} {d w : Nat} {S : ma_S} {Q : Option ma_V ⊕ Nat → ma_S → Prop} (rt : Int32) (hd : 7 ≤ d) (hw : 134 ≤ w) (hS : zT S) (h : if rt < 0 then (Q (.inr 2) (ma_bump S)) else (if (16 : Int32) ≤ rt then (Q (.inr 2) (ma_bump S)) else (mR S 64 11 = some 79 ∧ (mR S 64 11 = some 79 ∧ (ma_wp X (d - 1) (w - 22) 98 0 [(0, .inr (.inr (some 69)))] [] S (zo (fun v2 S1 => zT S1 ∧ ((v2 = none → Q (.inl (some (.inl (-1 : Int32)))) S1) ∧ (∀ c3, v2 = some c3 → ma_wp X (d - 1) (w - 24) 145 0 [(0, .inr (.inr (some 64))), (1, .inr (.inr (some 79))), (2, .inl rt), (3, .inr (.inr (some c3)))] [] S1 (zo (fun v5 S4 => zT S4 ∧ ((126 ≤ c3 ∧ c3 < mN S4) ∧ (Q (.inl (some (.inl (mI S4 c3 0)))) S4))) (fun x S9 => Q (.inr x) S9))))) (fun x S9 => Q (.inr x) S9))))))) : ma_wp X d w 158 0 [(0, .inr (.inr (some 64))), (1, .inl rt)] [] S Q := by
  refine zw_push hm_158 dX11_granted_0 (v := .inl rt) rfl ?_
  refine zw_cs hm_158 dX11_granted_1 pn_11_109 sl_11_109 hm_142 [.inl rt] [] rfl ⟨by omega, by omega⟩ rfl ?_
  show ma_wp X (d - 1) (w - 20) 142 0 [(0, .inl rt)] [] S _
  refine zw_push hm_142 dX11_isSlot_0 (v := .inl rt) rfl ?_
  refine zw_if0 hm_142 dX11_isSlot_1 (t := 14) rfl zc0_lt ?_ ?_
  · intro hc
    rw [if_pos hc] at h
    refine zw_push hm_142 dX11_isSlot_14 (v := .inl (0 : Int32)) rfl ?_
    refine zw_bret hm_142 dX11_isSlot_15 (by decide) ?_
    show ma_wp X d w 158 4 [(0, .inr (.inr (some 64))), (1, .inl rt)] [.inl (0 : Int32)] S _
    refine zw_if0 hm_158 dX11_granted_4 (t := 15) rfl zc0_ne (fun hc => absurd hc (by decide)) (fun _ => ?_)
    exact zw_thr hm_158 dX11_granted_7 dX11_granted_10 dX11_granted_11 dX11_granted_14 x_11_79_81 n_11_79 (by omega) (by show 0 + 81 ≤ w; omega) h
  · intro hc
    rw [if_neg hc] at h
    refine zw_push hm_142 dX11_isSlot_4 (v := .inl rt) rfl ?_
    refine zw_push hm_142 dX11_isSlot_5 (v := .inl (16 : Int32)) rfl ?_
    refine zw_if2 hm_142 dX11_isSlot_7 (t := 14) rfl zc2_ge ?_ ?_
    · intro hc
      rw [if_pos hc] at h
      refine zw_push hm_142 dX11_isSlot_14 (v := .inl (0 : Int32)) rfl ?_
      refine zw_bret hm_142 dX11_isSlot_15 (by decide) ?_
      show ma_wp X d w 158 4 [(0, .inr (.inr (some 64))), (1, .inl rt)] [.inl (0 : Int32)] S _
      refine zw_if0 hm_158 dX11_granted_4 (t := 15) rfl zc0_ne (fun hc => absurd hc (by decide)) (fun _ => ?_)
      exact zw_thr hm_158 dX11_granted_7 dX11_granted_10 dX11_granted_11 dX11_granted_14 x_11_79_81 n_11_79 (by omega) (by show 0 + 81 ≤ w; omega) h
    · intro hc
      rw [if_neg hc] at h
      refine zw_push hm_142 dX11_isSlot_10 (v := .inl (1 : Int32)) rfl ?_
      refine zw_goto hm_142 dX11_isSlot_11 (t := 15) rfl ?_
      refine zw_bret hm_142 dX11_isSlot_15 (by decide) ?_
      show ma_wp X d w 158 4 [(0, .inr (.inr (some 64))), (1, .inl rt)] [.inl (1 : Int32)] S _
      refine zw_if0 hm_158 dX11_granted_4 (t := 15) rfl zc0_ne (fun _ => ?_) (fun hc => absurd (by decide) hc)
      refine zw_push hm_158 dX11_granted_15 (v := .inr (.inr (some 64))) rfl ?_
      refine zw_cv hm_158 dX11_granted_16 v_11_119_11 hm_144 [] [] rfl (zT_rt hS s_64 rfl) ⟨by omega, by omega⟩ rfl ?_
      show ma_wp X (d - 1) (w - 20) 144 0 [(0, .inr (.inr (some 64)))] [] S _
      refine zw_push hm_144 dX11_needCollector_0 (v := .inr (.inr (some 64))) rfl ?_
      obtain ⟨hg, h⟩ := h
      refine zw_gf hm_144 dX11_needCollector_1 (v := .inr (.inr (some 79))) (zT_is hS s_64) (zT_t hS s_64) rfl f_11_98_11 (congrArg (fun z => Sum.inr (Sum.inr z)) hg) ?_
      refine zw_ifnonnull hm_144 dX11_needCollector_4 (t := 15) rfl (fun z => by cases z) (fun _ _ => ?_)
      refine zw_push hm_144 dX11_needCollector_15 (v := .inr (.inr (some 64))) rfl ?_
      obtain ⟨hg, h⟩ := h
      refine zw_gf hm_144 dX11_needCollector_16 (v := .inr (.inr (some 79))) (zT_is hS s_64) (zT_t hS s_64) rfl f_11_98_11 (congrArg (fun z => Sum.inr (Sum.inr z)) hg) ?_
      refine zw_aret hm_144 dX11_needCollector_19 ?_
      show ma_wp X d w 158 19 [(0, .inr (.inr (some 64))), (1, .inl rt)] [.inr (.inr (some 79))] S _
      refine zw_sto hm_158 dX11_granted_19 [(2, .inr (.inr (some 79))), (0, .inr (.inr (some 64))), (1, .inl rt)] rfl rfl rfl ?_
      refine zw_push hm_158 dX11_granted_20 (v := .inr (.inr (some 64))) rfl ?_
      refine zw_gf hm_158 dX11_granted_21 (v := .inr (.inr (some 69))) (zT_is hS s_64) (zT_t hS s_64) rfl f_11_26_11 (zT_f hS r_64_8) ?_
      refine zw_cv hm_158 dX11_granted_24 v_11_203_7 hm_98 [] [] rfl (zT_rt hS s_69 rfl) ⟨by omega, by omega⟩ rfl (zw_mono h (zo_go ?_ ?_))
      · intro v2 S1 hv
        obtain ⟨hS1, h⟩ := hv
        refine zw_sto hm_158 dX11_granted_27 [(3, .inr (.inr v2)), (2, .inr (.inr (some 79))), (0, .inr (.inr (some 64))), (1, .inl rt)] rfl rfl rfl ?_
        refine zw_push hm_158 dX11_granted_28 (v := .inr (.inr v2)) rfl ?_
        refine zw_ifnonnull hm_158 dX11_granted_29 (t := 34) rfl ?_ ?_
        · intro hc
          have h := h.1 hc
          (try rw [hc])
          show ma_wp X d w 158 32 [(3, .inr (.inr none)), (2, .inr (.inr (some 79))), (0, .inr (.inr (some 64))), (1, .inl rt)] [] S1 _
          refine zw_push hm_158 dX11_granted_32 (v := .inl (-1 : Int32)) rfl ?_
          exact zw_iret hm_158 dX11_granted_33 h
        · intro c3 hc
          have h := h.2 c3 hc
          (try rw [hc])
          show ma_wp X d w 158 34 [(3, .inr (.inr (some c3))), (2, .inr (.inr (some 79))), (0, .inr (.inr (some 64))), (1, .inl rt)] [] S1 _
          refine zw_push hm_158 dX11_granted_34 (v := .inr (.inr (some 64))) rfl ?_
          refine zw_push hm_158 dX11_granted_35 (v := .inr (.inr (some 79))) rfl ?_
          refine zw_push hm_158 dX11_granted_36 (v := .inl rt) rfl ?_
          refine zw_push hm_158 dX11_granted_37 (v := .inr (.inr (some c3))) rfl ?_
          refine zw_cv hm_158 dX11_granted_38 v_11_169_11 hm_145 [.inr (.inr (some c3)), .inl rt, .inr (.inr (some 79))] [] rfl (zT_rt hS1 s_64 rfl) ⟨by omega, by omega⟩ rfl (zw_mono h (zo_go ?_ ?_))
          · intro v5 S4 hv
            obtain ⟨hS4, h⟩ := hv
            refine zw_stk hm_158 dX11_granted_41 (st₉ := []) rfl rfl ?_
            refine zw_push hm_158 dX11_granted_42 (v := .inr (.inr (some c3))) rfl ?_
            obtain ⟨hg, h⟩ := h
            refine zw_gf hm_158 dX11_granted_43 (v := .inl (mI S4 c3 0)) (zT_tis hS4 hg) (zT_tt hS4 hg) rfl f_11_182_9 rfl ?_
            exact zw_iret hm_158 dX11_granted_46 h
          · intro x S9 hx
            exact ⟨by decide, hx⟩
      · intro x S9 hx
        exact ⟨by decide, hx⟩
theorem sp_158_64_s_p79 {X : Nat × (Nat → Int32)} {d w : Nat} {f : Nat → Nat → Int32} {r : Nat → Nat → Option Nat} {C Z N : Nat} {Q : Option ma_V ⊕ Nat → ma_S → Prop} {ab : Nat→Nat→Int32} {fq : Nat→Int32} {S : ma_S} (rt : Int32) (hd : 7 ≤ d) (hw : 134 ≤ w) (hI : zB f r C Z N S) (hr : r 64 11 = some 79) (hpre0 : xB S (mR S 70)) (hpre1 : aS 88 S = ab) (hpre2 : zfP 79 (mI S) = fq) (K : ∀ v S₉, zB f r C Z N S₉ → (True) → (xB S₉ (mR S₉ 70)) → ((0 ≤ rt.toInt ∧ rt.toInt ≤ 15) ∧ ((aNm ab (aTy ab) = -1 ∧ aS 88 S₉ = aTw ab ∧ v = -1) ∨ (aNm ab (aTy ab) = aTy ab ∧ 0 ≤ (aTy ab).toInt ∧ aS 88 S₉ = aR0 (aTw ab) rt (aTy ab) ∧ v = aTy ab))) → (zfP 79 (mI S₉) = fq) → Q (.inl (some (.inl v))) S₉) (KX : ∀ x S₉, (x = 2) → zB f r C Z N S₉ → (xB S₉ (mR S₉ 70)) → (aS 88 S₉ = ab) → (x = 2 ∧ ¬ (0 ≤ rt.toInt ∧ rt.toInt ≤ 15)) → (zfP 79 (mI S₉) = fq) → Q (.inr x) (ma_bump S₉)) : ma_wp X d w 158 0 [(0, .inr (.inr (some 64))), (1, .inl rt)] [] S Q := by
  refine g_158_64_s_p79_0 rt (by omega) (by omega) (zG_T hI) ?_
  have b1 := i_bd rt
  have li2 : (0 : Int32).toInt = 0 := rfl
  refine zd (fun h3 => ?_) (fun h3 => ?_)
  · skip
    have g4 := i_lt h3
    exact KX 2 _ (by decide) hI (show xB S (mR S 70) from by first | (exact xB_x (xC_o (W := 75) hpre0).2)) (show aS 88 S = ab from by first | (exact (xC_o (W := 88) hpre0).1.trans hpre1)) (show 2 = 2 ∧ ¬ (0 ≤ rt.toInt ∧ rt.toInt ≤ 15) from by first | (exact ⟨rfl, by omega⟩)) (show zfP 79 (mI S) = fq from by first | (exact hpre2))
  · skip
    have g5 := i_nlt h3
    have li6 : (16 : Int32).toInt = 16 := rfl
    refine zd (fun h7 => ?_) (fun h7 => ?_)
    · skip
      have g8 := i_le h7
      exact KX 2 _ (by decide) hI (show xB S (mR S 70) from by first | (exact xB_x (xC_o (W := 75) hpre0).2)) (show aS 88 S = ab from by first | (exact (xC_o (W := 88) hpre0).1.trans hpre1)) (show 2 = 2 ∧ ¬ (0 ≤ rt.toInt ∧ rt.toInt ≤ 15) from by first | (exact ⟨rfl, by omega⟩)) (show zfP 79 (mI S) = fq from by first | (exact hpre2))
    · skip
      have g9 := i_nle h7
      refine ⟨((zG_r hI (by decide)).trans hr), ?_⟩
      refine ⟨((zG_r hI (by decide)).trans hr), ?_⟩
      refine sp_98_69_s (ab := (aS 88 S)) (R := (mR S 70)) (W := 88) (by omega) (by omega) (zB_dn_zI hI) (show xB S (mR S 70) from by first | (exact (xC_o (W := 75) hpre0).2)) (show aS 88 S = (aS 88 S) from by first | (exact rfl)) (show xW 88 from by first | (exact xW88) | (exact xW75)) (fun v2 S1 hL_S1 hq_v2 rp0_S1 rp1_S1 => zo_n ⟨zG_T hL_S1, ?_⟩)
      have hI_S1 := zB_up_zI hI hL_S1
      have rp0_S1 : xB S1 (mR S 70) := by
        have z := rp0_S1
        (try rw [show mI S 65 = f 65 from funext (fun k => zG_z hI rfl)] at z)
        (try rw [show mI S 64 1 = f 64 1 from zG_z hI rfl] at z)
        exact z
      have rp1_S1 : v2 = zTa (mR S 70) (aTy (aS 88 S)) ∧ aS 88 S1 = aTw (aS 88 S) := by
        have z := rp1_S1
        (try rw [show mI S 65 = f 65 from funext (fun k => zG_z hI rfl)] at z)
        (try rw [show mI S 64 1 = f 64 1 from zG_z hI rfl] at z)
        exact z
      refine ⟨fun hc => ?_, fun c3 hc => ?_⟩
      · skip
        have rn_c3 : zTa (mR S 70) (aTy (aS 88 S)) = none := rp1_S1.1.symm.trans hc
        have li10 : (-1 : Int32).toInt = -1 := rfl
        exact K ((-1 : Int32)) _ hI_S1 trivial (show xB S1 (mR S1 70) from by first | (exact xB_x (xC_o (W := 75) rp0_S1).2)) (show (0 ≤ rt.toInt ∧ rt.toInt ≤ 15) ∧ ((aNm ab (aTy ab) = -1 ∧ aS 88 S1 = aTw ab ∧ (-1 : Int32) = -1) ∨ (aNm ab (aTy ab) = aTy ab ∧ 0 ≤ (aTy ab).toInt ∧ aS 88 S1 = aR0 (aTw ab) rt (aTy ab) ∧ (-1 : Int32) = aTy ab)) from by first | (have tw := rp1_S1; rw [hpre1] at tw; have nn := nm_n (W := 88) hpre0 rn_c3; rw [hpre1] at nn; refine ⟨⟨by omega, by omega⟩, Or.inl ⟨nn, tw.2, rfl⟩⟩)) (show zfP 79 (mI S1) = fq from by first | (exact ((zf_fr (P := 79) (S₉ := S1) (S := S) (fun _ => zG_z hL_S1 rfl)).trans hpre2)))
      · skip
        have th_c3 := hq_v2 c3 hc
        have rg_c3 : zTa (mR S 70) (aTy (aS 88 S)) = some c3 := rp1_S1.1.symm.trans hc
        subst hc
        refine sp_145_64_79_s (ab := (aS 88 S1)) (R := (mR S 70)) (y := ((aTy (aS 88 S)))) (fq := (zfP 79 (mI S1))) (rt) ((some c3)) (by omega) (by omega) (zB_dn_zJ79 hI_S1) (fun _ z => by cases z; exact th_c3) (show xB S1 (mR S 70) from by first | (exact (xC_o (W := 75) rp0_S1).2)) (show aS 88 S1 = (aS 88 S1) from by first | (exact rfl)) (show (some c3) = zTa (mR S 70) ((aTy (aS 88 S))) from by first | (exact rg_c3.symm)) (by omega) (by omega) (show zfP 79 (mI S1) = (zfP 79 (mI S1)) from by first | (exact rfl)) (fun v5 S4 hL_S4 hq_v5 rp0_S4 rp1_S4 rp2_S4 rp3_S4 => zo_n ⟨zG_T hL_S4, ?_⟩)
        have hI_S4 := zB_up_zJ79 hI_S1 hL_S4
        have rp0_S4 : xB S4 (mR S 70) := by
          have z := rp0_S4
          (try rw [show mI S1 65 = f 65 from funext (fun k => zG_z hI_S1 rfl)] at z)
          (try rw [show mI S1 64 1 = f 64 1 from zG_z hI_S1 rfl] at z)
          exact z
        have rp1_S4 : aS 88 S4 = aR0 (aS 88 S1) rt ((aTy (aS 88 S))) := by
          have z := rp1_S4
          (try rw [show mI S1 65 = f 65 from funext (fun k => zG_z hI_S1 rfl)] at z)
          (try rw [show mI S1 64 1 = f 64 1 from zG_z hI_S1 rfl] at z)
          exact z
        have rp2_S4 : v5 = zTa (mR S 70) ((aS 88 S1) 72 rt.toNatClampNeg) := by
          have z := rp2_S4
          (try rw [show mI S1 65 = f 65 from funext (fun k => zG_z hI_S1 rfl)] at z)
          (try rw [show mI S1 64 1 = f 64 1 from zG_z hI_S1 rfl] at z)
          exact z
        have rp3_S4 : zfP 79 (mI S4) = (zfP 79 (mI S1)) := by
          have z := rp3_S4
          (try rw [show mI S1 65 = f 65 from funext (fun k => zG_z hI_S1 rfl)] at z)
          (try rw [show mI S1 64 1 = f 64 1 from zG_z hI_S1 rfl] at z)
          exact z
        refine ⟨zG_n hI_S4 th_c3, ?_⟩
        have f11 := zG_th hI_S4 th_c3
        exact K ((mI S4 c3 0)) _ hI_S4 trivial (show xB S4 (mR S4 70) from by first | (exact xB_x (xC_o (W := 75) rp0_S4).2)) (show (0 ≤ rt.toInt ∧ rt.toInt ≤ 15) ∧ ((aNm ab (aTy ab) = -1 ∧ aS 88 S4 = aTw ab ∧ (mI S4 c3 0) = -1) ∨ (aNm ab (aTy ab) = aTy ab ∧ 0 ≤ (aTy ab).toInt ∧ aS 88 S4 = aR0 (aTw ab) rt (aTy ab) ∧ (mI S4 c3 0) = aTy ab)) from by first | (have tw := rp1_S1; rw [hpre1] at tw; have nn := nm_y (W := 88) hpre0 rg_c3; rw [hpre1] at nn; have w0 := (zTa_p rg_c3).1; rw [hpre1] at w0; have st := rp1_S4; rw [tw.2, hpre1] at st; have tn := (xB_th (W := 88) rp0_S4 rg_c3).2.2.1; rw [hpre1] at tn; refine ⟨⟨by omega, by omega⟩, Or.inr ⟨nn, w0, st, tn⟩⟩)) (show zfP 79 (mI S4) = fq from by first | (exact (rp3_S4.trans ((zf_fr (P := 79) (S₉ := S1) (S := S) (fun _ => zG_z hL_S1 rfl)).trans hpre2))))

/-! from 95.k33 -/
/-! the collectors that sweep, the class (written by wip/tools/gen20.py) -/
theorem g_150_64_s_p79_0 {X : Nat × (Nat → Int32)} {d w : Nat} {S : ma_S} {Q : Option ma_V ⊕ Nat → ma_S → Prop} (o : Int32) (i : Int32) (t : Int32) (hd : 8 ≤ d) (hw : 132 ≤ w) (hS : zT S) (h : mR S 64 11 = some 79 ∧ (mR S 64 11 = some 79 ∧ (ma_wp X (d - 1) (w - 22) 149 0 [(0, .inr (.inr (some 64))), (1, .inl o)] [] S (zo (fun v2 S1 => zT S1 ∧ ((∃ c3, v2 = some c3 ∧ (ma_wp X (d - 1) (w - 21) 151 0 [(0, .inr (.inr (some 64))), (1, .inl t)] [] S1 (zo (fun v5 S4 => zT S4 ∧ ((126 ≤ c3 ∧ c3 < mN S4) ∧ (if i < 0 then (Q (.inr 1) (ma_bump S4)) else ((126 ≤ c3 ∧ c3 < mN S4) ∧ (if ((mI S4 c3 2) - (1 : Int32)) ≤ i then (Q (.inr 1) (ma_bump S4)) else ((126 ≤ c3 ∧ c3 < mN S4) ∧ ((126 ≤ c3 ∧ c3 < mN S4) ∧ (if i < 0 then (Q (.inr 5) (ma_bump S4)) else ((126 ≤ c3 ∧ c3 < mN S4) ∧ (if ((mI S4 c3 2) - (1 : Int32)) ≤ i then (Q (.inr 5) (ma_bump S4)) else ((126 ≤ c3 ∧ c3 < mN S4) ∧ (if (lg_cmp ((((mL S4 c3 3).toUInt64 >>> (i.toInt64.toUInt64 &&& Int64.toUInt64 63)).toInt64) &&& (1 : Int64)) (0 : Int64)) = 0 then (Q (.inr 5) (ma_bump S4)) else (ma_wp X (d - 1) (w - 24) 94 0 [(0, .inr (.inr (some 69))), (1, .inr (.inr (some c3))), (2, .inl i), (3, .inr (.inr v5))] [] S4 (zo (fun v7 S6 => zT S6 ∧ ((v7 = none → Q (.inl (some (.inl (-1 : Int32)))) S6) ∧ (∀ c8, v7 = some c8 → (126 ≤ c8 ∧ c8 < mN S6) ∧ (Q (.inl (some (.inl (mI S6 c8 0)))) S6)))) (fun x S9 => Q (.inr x) S9))))))))))))))) (fun x S9 => Q (.inr x) S9)))))) (fun x S9 => Q (.inr x) S9))))) : ma_wp X d w 150 0 [(0, .inr (.inr (some 64))), (1, .inl o), (2, .inl i), (3, .inl t)] [] S Q := by
  refine zw_push hm_150 dX11_link_0 (v := .inr (.inr (some 64))) rfl ?_
  refine zw_cv hm_150 dX11_link_1 v_11_119_11 hm_144 [] [] rfl (zT_rt hS s_64 rfl) ⟨by omega, by omega⟩ rfl ?_
  show ma_wp X (d - 1) (w - 20) 144 0 [(0, .inr (.inr (some 64)))] [] S _
  refine zw_push hm_144 dX11_needCollector_0 (v := .inr (.inr (some 64))) rfl ?_
  obtain ⟨hg, h⟩ := h
  refine zw_gf hm_144 dX11_needCollector_1 (v := .inr (.inr (some 79))) (zT_is hS s_64) (zT_t hS s_64) rfl f_11_98_11 (congrArg (fun z => Sum.inr (Sum.inr z)) hg) ?_
  refine zw_ifnonnull hm_144 dX11_needCollector_4 (t := 15) rfl (fun z => by cases z) (fun _ _ => ?_)
  refine zw_push hm_144 dX11_needCollector_15 (v := .inr (.inr (some 64))) rfl ?_
  obtain ⟨hg, h⟩ := h
  refine zw_gf hm_144 dX11_needCollector_16 (v := .inr (.inr (some 79))) (zT_is hS s_64) (zT_t hS s_64) rfl f_11_98_11 (congrArg (fun z => Sum.inr (Sum.inr z)) hg) ?_
  refine zw_aret hm_144 dX11_needCollector_19 ?_
  show ma_wp X d w 150 4 [(0, .inr (.inr (some 64))), (1, .inl o), (2, .inl i), (3, .inl t)] [.inr (.inr (some 79))] S _
  refine zw_sto hm_150 dX11_link_4 [(4, .inr (.inr (some 79))), (0, .inr (.inr (some 64))), (1, .inl o), (2, .inl i), (3, .inl t)] rfl rfl rfl ?_
  refine zw_push hm_150 dX11_link_6 (v := .inr (.inr (some 64))) rfl ?_
  refine zw_push hm_150 dX11_link_7 (v := .inl o) rfl ?_
  refine zw_cv hm_150 dX11_link_8 v_11_123_11 hm_149 [.inl o] [] rfl (zT_rt hS s_64 rfl) ⟨by omega, by omega⟩ rfl (zw_mono h (zo_go ?_ ?_))
  · intro v2 S1 hv
    obtain ⟨hS1, h⟩ := hv
    obtain ⟨c3, hc, h⟩ := h
    subst hc
    show ma_wp X d w 150 11 [(4, .inr (.inr (some 79))), (0, .inr (.inr (some 64))), (1, .inl o), (2, .inl i), (3, .inl t)] [.inr (.inr (some c3))] S1 _
    refine zw_sto hm_150 dX11_link_11 [(5, .inr (.inr (some c3))), (4, .inr (.inr (some 79))), (0, .inr (.inr (some 64))), (1, .inl o), (2, .inl i), (3, .inl t)] rfl rfl rfl ?_
    refine zw_push hm_150 dX11_link_13 (v := .inr (.inr (some 64))) rfl ?_
    refine zw_push hm_150 dX11_link_14 (v := .inl t) rfl ?_
    refine zw_cv hm_150 dX11_link_15 v_11_142_11 hm_151 [.inl t] [] rfl (zT_rt hS1 s_64 rfl) ⟨by omega, by omega⟩ rfl (zw_mono h (zo_go ?_ ?_))
    · intro v5 S4 hv
      obtain ⟨hS4, h⟩ := hv
      refine zw_sto hm_150 dX11_link_18 [(6, .inr (.inr v5)), (5, .inr (.inr (some c3))), (4, .inr (.inr (some 79))), (0, .inr (.inr (some 64))), (1, .inl o), (2, .inl i), (3, .inl t)] rfl rfl rfl ?_
      refine zw_push hm_150 dX11_link_20 (v := .inr (.inr (some c3))) rfl ?_
      refine zw_push hm_150 dX11_link_22 (v := .inl i) rfl ?_
      obtain ⟨hg, h⟩ := h
      refine zw_cv hm_150 dX11_link_23 v_11_127_9 hm_114 [.inl i] [] rfl (zT_trt hS4 hg) ⟨by omega, by omega⟩ rfl ?_
      show ma_wp X (d - 1) (w - 21) 114 0 [(0, .inr (.inr (some c3))), (1, .inl i)] [] S4 _
      refine zw_push hm_114 dX9_hasWord_0 (v := .inl i) rfl ?_
      refine zw_if0 hm_114 dX9_hasWord_1 (t := 18) rfl zc0_lt ?_ ?_
      · intro hc
        rw [if_pos hc] at h
        refine zw_push hm_114 dX9_hasWord_18 (v := .inl (0 : Int32)) rfl ?_
        refine zw_bret hm_114 dX9_hasWord_19 (by decide) ?_
        show ma_wp X d w 150 26 [(6, .inr (.inr v5)), (5, .inr (.inr (some c3))), (4, .inr (.inr (some 79))), (0, .inr (.inr (some 64))), (1, .inl o), (2, .inl i), (3, .inl t)] [.inl (0 : Int32)] S4 _
        refine zw_if0 hm_150 dX11_link_26 (t := 37) rfl zc0_ne (fun hc => absurd hc (by decide)) (fun _ => ?_)
        exact zw_thr hm_150 dX11_link_29 dX11_link_32 dX11_link_33 dX11_link_36 x_11_72_74 n_11_72 (by omega) (by show 0 + 81 ≤ w; omega) h
      · intro hc
        rw [if_neg hc] at h
        refine zw_push hm_114 dX9_hasWord_4 (v := .inl i) rfl ?_
        refine zw_push hm_114 dX9_hasWord_5 (v := .inr (.inr (some c3))) rfl ?_
        obtain ⟨hg, h⟩ := h
        refine zw_gf hm_114 dX9_hasWord_6 (v := .inl (mI S4 c3 2)) (zT_tis hS4 hg) (zT_tt hS4 hg) rfl f_9_16_9 rfl ?_
        refine zw_push hm_114 dX9_hasWord_9 (v := .inl (1 : Int32)) rfl ?_
        refine zw_stk hm_114 dX9_hasWord_10 (st₉ := [.inl ((mI S4 c3 2) - (1 : Int32)), .inl i]) rfl rfl ?_
        refine zw_if2 hm_114 dX9_hasWord_11 (t := 18) rfl zc2_ge ?_ ?_
        · intro hc
          rw [if_pos hc] at h
          refine zw_push hm_114 dX9_hasWord_18 (v := .inl (0 : Int32)) rfl ?_
          refine zw_bret hm_114 dX9_hasWord_19 (by decide) ?_
          show ma_wp X d w 150 26 [(6, .inr (.inr v5)), (5, .inr (.inr (some c3))), (4, .inr (.inr (some 79))), (0, .inr (.inr (some 64))), (1, .inl o), (2, .inl i), (3, .inl t)] [.inl (0 : Int32)] S4 _
          refine zw_if0 hm_150 dX11_link_26 (t := 37) rfl zc0_ne (fun hc => absurd hc (by decide)) (fun _ => ?_)
          exact zw_thr hm_150 dX11_link_29 dX11_link_32 dX11_link_33 dX11_link_36 x_11_72_74 n_11_72 (by omega) (by show 0 + 81 ≤ w; omega) h
        · intro hc
          rw [if_neg hc] at h
          refine zw_push hm_114 dX9_hasWord_14 (v := .inl (1 : Int32)) rfl ?_
          refine zw_goto hm_114 dX9_hasWord_15 (t := 19) rfl ?_
          refine zw_bret hm_114 dX9_hasWord_19 (by decide) ?_
          show ma_wp X d w 150 26 [(6, .inr (.inr v5)), (5, .inr (.inr (some c3))), (4, .inr (.inr (some 79))), (0, .inr (.inr (some 64))), (1, .inl o), (2, .inl i), (3, .inl t)] [.inl (1 : Int32)] S4 _
          refine zw_if0 hm_150 dX11_link_26 (t := 37) rfl zc0_ne (fun _ => ?_) (fun hc => absurd (by decide) hc)
          refine zw_push hm_150 dX11_link_37 (v := .inr (.inr (some c3))) rfl ?_
          refine zw_push hm_150 dX11_link_39 (v := .inl i) rfl ?_
          obtain ⟨hg, h⟩ := h
          refine zw_cv hm_150 dX11_link_40 v_11_132_9 hm_113 [.inl i] [] rfl (zT_trt hS4 hg) ⟨by omega, by omega⟩ rfl ?_
          show ma_wp X (d - 1) (w - 21) 113 0 [(0, .inr (.inr (some c3))), (1, .inl i)] [] S4 _
          refine zw_push hm_113 dX9_isReference_0 (v := .inr (.inr (some c3))) rfl ?_
          refine zw_push hm_113 dX9_isReference_1 (v := .inl i) rfl ?_
          obtain ⟨hg, h⟩ := h
          refine zw_cv hm_113 dX9_isReference_2 v_9_26_9 hm_114 [.inl i] [] rfl (zT_trt hS4 hg) ⟨by omega, by omega⟩ rfl ?_
          show ma_wp X ((d - 1) - 1) ((w - 21) - 21) 114 0 [(0, .inr (.inr (some c3))), (1, .inl i)] [] S4 _
          refine zw_push hm_114 dX9_hasWord_0 (v := .inl i) rfl ?_
          refine zw_if0 hm_114 dX9_hasWord_1 (t := 18) rfl zc0_lt ?_ ?_
          · intro hc
            rw [if_pos hc] at h
            refine zw_push hm_114 dX9_hasWord_18 (v := .inl (0 : Int32)) rfl ?_
            refine zw_bret hm_114 dX9_hasWord_19 (by decide) ?_
            show ma_wp X (d - 1) (w - 21) 113 5 [(0, .inr (.inr (some c3))), (1, .inl i)] [.inl (0 : Int32)] S4 _
            refine zw_if0 hm_113 dX9_isReference_5 (t := 25) rfl zc0_eq (fun _ => ?_) (fun hc => absurd (by decide) hc)
            refine zw_push hm_113 dX9_isReference_25 (v := .inl (0 : Int32)) rfl ?_
            refine zw_bret hm_113 dX9_isReference_26 (by decide) ?_
            show ma_wp X d w 150 43 [(6, .inr (.inr v5)), (5, .inr (.inr (some c3))), (4, .inr (.inr (some 79))), (0, .inr (.inr (some 64))), (1, .inl o), (2, .inl i), (3, .inl t)] [.inl (0 : Int32)] S4 _
            refine zw_if0 hm_150 dX11_link_43 (t := 54) rfl zc0_ne (fun hc => absurd hc (by decide)) (fun _ => ?_)
            exact zw_thr hm_150 dX11_link_46 dX11_link_49 dX11_link_50 dX11_link_53 x_11_135_137 n_11_135 (by omega) (by show 0 + 81 ≤ w; omega) h
          · intro hc
            rw [if_neg hc] at h
            refine zw_push hm_114 dX9_hasWord_4 (v := .inl i) rfl ?_
            refine zw_push hm_114 dX9_hasWord_5 (v := .inr (.inr (some c3))) rfl ?_
            obtain ⟨hg, h⟩ := h
            refine zw_gf hm_114 dX9_hasWord_6 (v := .inl (mI S4 c3 2)) (zT_tis hS4 hg) (zT_tt hS4 hg) rfl f_9_16_9 rfl ?_
            refine zw_push hm_114 dX9_hasWord_9 (v := .inl (1 : Int32)) rfl ?_
            refine zw_stk hm_114 dX9_hasWord_10 (st₉ := [.inl ((mI S4 c3 2) - (1 : Int32)), .inl i]) rfl rfl ?_
            refine zw_if2 hm_114 dX9_hasWord_11 (t := 18) rfl zc2_ge ?_ ?_
            · intro hc
              rw [if_pos hc] at h
              refine zw_push hm_114 dX9_hasWord_18 (v := .inl (0 : Int32)) rfl ?_
              refine zw_bret hm_114 dX9_hasWord_19 (by decide) ?_
              show ma_wp X (d - 1) (w - 21) 113 5 [(0, .inr (.inr (some c3))), (1, .inl i)] [.inl (0 : Int32)] S4 _
              refine zw_if0 hm_113 dX9_isReference_5 (t := 25) rfl zc0_eq (fun _ => ?_) (fun hc => absurd (by decide) hc)
              refine zw_push hm_113 dX9_isReference_25 (v := .inl (0 : Int32)) rfl ?_
              refine zw_bret hm_113 dX9_isReference_26 (by decide) ?_
              show ma_wp X d w 150 43 [(6, .inr (.inr v5)), (5, .inr (.inr (some c3))), (4, .inr (.inr (some 79))), (0, .inr (.inr (some 64))), (1, .inl o), (2, .inl i), (3, .inl t)] [.inl (0 : Int32)] S4 _
              refine zw_if0 hm_150 dX11_link_43 (t := 54) rfl zc0_ne (fun hc => absurd hc (by decide)) (fun _ => ?_)
              exact zw_thr hm_150 dX11_link_46 dX11_link_49 dX11_link_50 dX11_link_53 x_11_135_137 n_11_135 (by omega) (by show 0 + 81 ≤ w; omega) h
            · intro hc
              rw [if_neg hc] at h
              refine zw_push hm_114 dX9_hasWord_14 (v := .inl (1 : Int32)) rfl ?_
              refine zw_goto hm_114 dX9_hasWord_15 (t := 19) rfl ?_
              refine zw_bret hm_114 dX9_hasWord_19 (by decide) ?_
              show ma_wp X (d - 1) (w - 21) 113 5 [(0, .inr (.inr (some c3))), (1, .inl i)] [.inl (1 : Int32)] S4 _
              refine zw_if0 hm_113 dX9_isReference_5 (t := 25) rfl zc0_eq (fun hc => absurd hc (by decide)) (fun _ => ?_)
              refine zw_push hm_113 dX9_isReference_8 (v := .inr (.inr (some c3))) rfl ?_
              obtain ⟨hg, h⟩ := h
              refine zw_gf hm_113 dX9_isReference_9 (v := .inr (.inl (mL S4 c3 3))) (zT_tis hS4 hg) (zT_tt hS4 hg) rfl f_9_19_9 rfl ?_
              refine zw_push hm_113 dX9_isReference_12 (v := .inl i) rfl ?_
              refine zw_stk hm_113 dX9_isReference_13 (st₉ := [.inr (.inl (((mL S4 c3 3).toUInt64 >>> (i.toInt64.toUInt64 &&& Int64.toUInt64 63)).toInt64))]) rfl rfl ?_
              refine zw_push hm_113 dX9_isReference_14 (v := .inr (.inl (1 : Int64))) rfl ?_
              refine zw_stk hm_113 dX9_isReference_15 (st₉ := [.inr (.inl ((((mL S4 c3 3).toUInt64 >>> (i.toInt64.toUInt64 &&& Int64.toUInt64 63)).toInt64) &&& (1 : Int64)))]) rfl rfl ?_
              refine zw_push hm_113 dX9_isReference_16 (v := .inr (.inl (0 : Int64))) rfl ?_
              refine zw_stk hm_113 dX9_isReference_17 (st₉ := [.inl (lg_cmp ((((mL S4 c3 3).toUInt64 >>> (i.toInt64.toUInt64 &&& Int64.toUInt64 63)).toInt64) &&& (1 : Int64)) (0 : Int64))]) rfl rfl ?_
              refine zw_if0 hm_113 dX9_isReference_18 (t := 25) rfl zc0_eq ?_ ?_
              · intro hc
                rw [if_pos hc] at h
                refine zw_push hm_113 dX9_isReference_25 (v := .inl (0 : Int32)) rfl ?_
                refine zw_bret hm_113 dX9_isReference_26 (by decide) ?_
                show ma_wp X d w 150 43 [(6, .inr (.inr v5)), (5, .inr (.inr (some c3))), (4, .inr (.inr (some 79))), (0, .inr (.inr (some 64))), (1, .inl o), (2, .inl i), (3, .inl t)] [.inl (0 : Int32)] S4 _
                refine zw_if0 hm_150 dX11_link_43 (t := 54) rfl zc0_ne (fun hc => absurd hc (by decide)) (fun _ => ?_)
                exact zw_thr hm_150 dX11_link_46 dX11_link_49 dX11_link_50 dX11_link_53 x_11_135_137 n_11_135 (by omega) (by show 0 + 81 ≤ w; omega) h
              · intro hc
                rw [if_neg hc] at h
                refine zw_push hm_113 dX9_isReference_21 (v := .inl (1 : Int32)) rfl ?_
                refine zw_goto hm_113 dX9_isReference_22 (t := 26) rfl ?_
                refine zw_bret hm_113 dX9_isReference_26 (by decide) ?_
                show ma_wp X d w 150 43 [(6, .inr (.inr v5)), (5, .inr (.inr (some c3))), (4, .inr (.inr (some 79))), (0, .inr (.inr (some 64))), (1, .inl o), (2, .inl i), (3, .inl t)] [.inl (1 : Int32)] S4 _
                refine zw_if0 hm_150 dX11_link_43 (t := 54) rfl zc0_ne (fun _ => ?_) (fun hc => absurd (by decide) hc)
                refine zw_push hm_150 dX11_link_54 (v := .inr (.inr (some 64))) rfl ?_
                refine zw_gf hm_150 dX11_link_55 (v := .inr (.inr (some 69))) (zT_is hS4 s_64) (zT_t hS4 s_64) rfl f_11_26_11 (zT_f hS4 r_64_8) ?_
                refine zw_push hm_150 dX11_link_58 (v := .inr (.inr (some c3))) rfl ?_
                refine zw_push hm_150 dX11_link_60 (v := .inl i) rfl ?_
                refine zw_push hm_150 dX11_link_61 (v := .inr (.inr v5)) rfl ?_
                refine zw_cv hm_150 dX11_link_63 v_11_145_7 hm_94 [.inr (.inr v5), .inl i, .inr (.inr (some c3))] [] rfl (zT_rt hS4 s_69 rfl) ⟨by omega, by omega⟩ rfl (zw_mono h (zo_go ?_ ?_))
                · intro v7 S6 hv
                  obtain ⟨hS6, h⟩ := hv
                  refine zw_sto hm_150 dX11_link_66 [(7, .inr (.inr v7)), (6, .inr (.inr v5)), (5, .inr (.inr (some c3))), (4, .inr (.inr (some 79))), (0, .inr (.inr (some 64))), (1, .inl o), (2, .inl i), (3, .inl t)] rfl rfl rfl ?_
                  refine zw_push hm_150 dX11_link_68 (v := .inr (.inr (some 79))) rfl ?_
                  refine zw_push hm_150 dX11_link_70 (v := .inr (.inr (some c3))) rfl ?_
                  refine zw_push hm_150 dX11_link_72 (v := .inl i) rfl ?_
                  refine zw_push hm_150 dX11_link_73 (v := .inr (.inr v5)) rfl ?_
                  refine zw_cv hm_150 dX11_link_75 v_11_149_8 hm_267 [.inr (.inr v5), .inl i, .inr (.inr (some c3))] [] rfl (zT_rt hS6 s_79 rfl) ⟨by omega, by omega⟩ rfl ?_
                  show ma_wp X (d - 1) (w - 23) 267 0 [(0, .inr (.inr (some 79))), (1, .inr (.inr (some c3))), (2, .inl i), (3, .inr (.inr v5))] [] S6 _
                  refine zw_vret hm_267 dX1_noteReference_0 ?_
                  show ma_wp X d w 150 78 [(7, .inr (.inr v7)), (6, .inr (.inr v5)), (5, .inr (.inr (some c3))), (4, .inr (.inr (some 79))), (0, .inr (.inr (some 64))), (1, .inl o), (2, .inl i), (3, .inl t)] [] S6 _
                  refine zw_push hm_150 dX11_link_78 (v := .inr (.inr (some 79))) rfl ?_
                  refine zw_push hm_150 dX11_link_80 (v := .inr (.inr v7)) rfl ?_
                  refine zw_push hm_150 dX11_link_82 (v := .inr (.inr v5)) rfl ?_
                  refine zw_cv hm_150 dX11_link_84 v_11_153_8 hm_265 [.inr (.inr v5), .inr (.inr v7)] [] rfl (zT_rt hS6 s_79 rfl) ⟨by omega, by omega⟩ rfl ?_
                  show ma_wp X (d - 1) (w - 22) 265 0 [(0, .inr (.inr (some 79))), (1, .inr (.inr v7)), (2, .inr (.inr v5))] [] S6 _
                  refine zw_vret hm_265 dX1_noteChange_0 ?_
                  show ma_wp X d w 150 87 [(7, .inr (.inr v7)), (6, .inr (.inr v5)), (5, .inr (.inr (some c3))), (4, .inr (.inr (some 79))), (0, .inr (.inr (some 64))), (1, .inl o), (2, .inl i), (3, .inl t)] [] S6 _
                  refine zw_push hm_150 dX11_link_87 (v := .inr (.inr (some 79))) rfl ?_
                  refine zw_push hm_150 dX11_link_89 (v := .inr (.inr v7)) rfl ?_
                  refine zw_cv hm_150 dX11_link_91 v_11_157_8 hm_266 [.inr (.inr v7)] [] rfl (zT_rt hS6 s_79 rfl) ⟨by omega, by omega⟩ rfl ?_
                  show ma_wp X (d - 1) (w - 21) 266 0 [(0, .inr (.inr (some 79))), (1, .inr (.inr v7))] [] S6 _
                  refine zw_vret hm_266 dX1_noteFewer_0 ?_
                  show ma_wp X d w 150 94 [(7, .inr (.inr v7)), (6, .inr (.inr v5)), (5, .inr (.inr (some c3))), (4, .inr (.inr (some 79))), (0, .inr (.inr (some 64))), (1, .inl o), (2, .inl i), (3, .inl t)] [] S6 _
                  refine zw_push hm_150 dX11_link_94 (v := .inr (.inr v7)) rfl ?_
                  refine zw_cs hm_150 dX11_link_96 pn_11_161 sl_11_161 hm_146 [.inr (.inr v7)] [] rfl ⟨by omega, by omega⟩ rfl ?_
                  show ma_wp X (d - 1) (w - 20) 146 0 [(0, .inr (.inr v7))] [] S6 _
                  refine zw_push hm_146 dX11_numberOf_0 (v := .inr (.inr v7)) rfl ?_
                  refine zw_ifnonnull hm_146 dX11_numberOf_1 (t := 8) rfl ?_ ?_
                  · intro hc
                    have h := h.1 hc
                    (try rw [hc])
                    show ma_wp X (d - 1) (w - 20) 146 4 [(0, .inr (.inr none))] [] S6 _
                    refine zw_push hm_146 dX11_numberOf_4 (v := .inl (-1 : Int32)) rfl ?_
                    refine zw_goto hm_146 dX11_numberOf_5 (t := 12) rfl ?_
                    refine zw_iret hm_146 dX11_numberOf_12 ?_
                    show ma_wp X d w 150 99 [(7, .inr (.inr none)), (6, .inr (.inr v5)), (5, .inr (.inr (some c3))), (4, .inr (.inr (some 79))), (0, .inr (.inr (some 64))), (1, .inl o), (2, .inl i), (3, .inl t)] [.inl (-1 : Int32)] S6 _
                    exact zw_iret hm_150 dX11_link_99 h
                  · intro c8 hc
                    have h := h.2 c8 hc
                    (try rw [hc])
                    show ma_wp X (d - 1) (w - 20) 146 8 [(0, .inr (.inr (some c8)))] [] S6 _
                    refine zw_push hm_146 dX11_numberOf_8 (v := .inr (.inr (some c8))) rfl ?_
                    obtain ⟨hg, h⟩ := h
                    refine zw_gf hm_146 dX11_numberOf_9 (v := .inl (mI S6 c8 0)) (zT_tis hS6 hg) (zT_tt hS6 hg) rfl f_11_182_9 rfl ?_
                    refine zw_iret hm_146 dX11_numberOf_12 ?_
                    show ma_wp X d w 150 99 [(7, .inr (.inr (some c8))), (6, .inr (.inr v5)), (5, .inr (.inr (some c3))), (4, .inr (.inr (some 79))), (0, .inr (.inr (some 64))), (1, .inl o), (2, .inl i), (3, .inl t)] [.inl (mI S6 c8 0)] S6 _
                    exact zw_iret hm_150 dX11_link_99 h
                · intro x S9 hx
                  exact ⟨by decide, hx⟩
    · intro x S9 hx
      exact ⟨by decide, hx⟩
  · intro x S9 hx
    exact ⟨by decide, hx⟩
theorem sp_150_64_s_p79 {X : Nat × (Nat → Int32)} {d w : Nat} {f : Nat → Nat → Int32} {r : Nat → Nat → Option Nat} {C Z N : Nat} {Q : Option ma_V ⊕ Nat → ma_S → Prop} {ab : Nat→Nat→Int32} {fq : Nat→Int32} {S : ma_S} (o : Int32) (i : Int32) (t : Int32) (hd : 8 ≤ d) (hw : 132 ≤ w) (hI : zB f r C Z N S) (hr : r 64 11 = some 79) (hpre0 : xB S (mR S 70)) (hpre1 : aS 88 S = ab) (hpre2 : zfP 79 (mI S) = fq) (K : ∀ v S₉, zB f r C Z N S₉ → (True) → (xB S₉ (mR S₉ 70)) → (zRq ab o ∧ (t = -1 ∨ zRq ab t) ∧ zHw ab o i ∧ zIr ab o i ∧ aS 88 S₉ = aL0 ab o.toNatClampNeg i t ∧ v = aNm ab (aRef ab o.toNatClampNeg i)) → (zfP 79 (mI S₉) = fq) → Q (.inl (some (.inl v))) S₉) (KX : ∀ x S₉, (x = 1 ∨ x = 4 ∨ x = 5) → zB f r C Z N S₉ → (xB S₉ (mR S₉ 70)) → (aS 88 S₉ = ab) → ((x = 4 ∧ (¬ zRq ab o ∨ (zRq ab o ∧ t ≠ -1 ∧ ¬ zRq ab t))) ∨ (x = 1 ∧ zRq ab o ∧ (t = -1 ∨ zRq ab t) ∧ ¬ zHw ab o i) ∨ (x = 5 ∧ zRq ab o ∧ (t = -1 ∨ zRq ab t) ∧ zHw ab o i ∧ ¬ zIr ab o i)) → (zfP 79 (mI S₉) = fq) → Q (.inr x) (ma_bump S₉)) : ma_wp X d w 150 0 [(0, .inr (.inr (some 64))), (1, .inl o), (2, .inl i), (3, .inl t)] [] S Q := by
  refine g_150_64_s_p79_0 o i t (by omega) (by omega) (zG_T hI) ?_
  refine ⟨((zG_r hI (by decide)).trans hr), ?_⟩
  refine ⟨((zG_r hI (by decide)).trans hr), ?_⟩
  have b1 := i_bd o
  refine sp_149_64_s (R := (mR S 70)) (a7 := (aS 75 S)) (a8 := (aS 88 S)) (o) (by omega) (by omega) (zB_dn_zI hI) (show xB S (mR S 70) from by first | (exact (xC_o (W := 75) hpre0).2)) (show aS 75 S = (aS 75 S) from by first | (exact rfl)) (show aS 88 S = (aS 88 S) from by first | (exact rfl)) (fun v2 S1 hL_S1 hq_v2 rp0_S1 rp1_S1 rp2_S1 rp3_S1 => zo_n ⟨zG_T hL_S1, ?_⟩) (fun x S9 hx h9 rx0 rx1 rx2 => by have h9u := (zB_up_zI hI h9); exact zo_x (KX x S9 (by omega) h9u (show xB S9 (mR S9 70) from by first | (exact xB_x (xC_o (W := 75) rx0).2)) (show aS 88 S9 = ab from by first | (exact rx1.trans hpre1)) (show (x = 4 ∧ (¬ zRq ab o ∨ (zRq ab o ∧ t ≠ -1 ∧ ¬ zRq ab t))) ∨ (x = 1 ∧ zRq ab o ∧ (t = -1 ∨ zRq ab t) ∧ ¬ zHw ab o i) ∨ (x = 5 ∧ zRq ab o ∧ (t = -1 ∨ zRq ab t) ∧ zHw ab o i ∧ ¬ zIr ab o i) from by first | (exact Or.inl ⟨rx2.1, Or.inl (rq_no rx2.2 hpre1)⟩)) (show zfP 79 (mI S9) = fq from by first | (exact ((zf_fr (P := 79) (fun _ => zG_z h9 rfl)).trans hpre2)))))
  have hI_S1 := zB_up_zI hI hL_S1
  have rp0_S1 : xB S1 (mR S 70) := by
    have z := rp0_S1
    (try rw [show mI S 65 = f 65 from funext (fun k => zG_z hI rfl)] at z)
    (try rw [show mI S 64 1 = f 64 1 from zG_z hI rfl] at z)
    exact z
  have rp1_S1 : aS 88 S1 = (aS 88 S) := by
    have z := rp1_S1
    (try rw [show mI S 65 = f 65 from funext (fun k => zG_z hI rfl)] at z)
    (try rw [show mI S 64 1 = f 64 1 from zG_z hI rfl] at z)
    exact z
  have rp2_S1 : v2 = zTa (mR S 70) o := by
    have z := rp2_S1
    (try rw [show mI S 65 = f 65 from funext (fun k => zG_z hI rfl)] at z)
    (try rw [show mI S 64 1 = f 64 1 from zG_z hI rfl] at z)
    exact z
  have rp3_S1 : zRq (aS 75 S) o := by
    have z := rp3_S1
    (try rw [show mI S 65 = f 65 from funext (fun k => zG_z hI rfl)] at z)
    (try rw [show mI S 64 1 = f 64 1 from zG_z hI rfl] at z)
    exact z
  obtain ⟨c3, hc, th_c3⟩ := hq_v2
  have rg_c3 : zTa (mR S 70) o = some c3 := rp2_S1.symm.trans hc
  refine ⟨c3, hc, ?_⟩
  have b2 := i_bd t
  refine sp_151_64_s (R := (mR S 70)) (a7 := (aS 75 S1)) (a8 := (aS 88 S1)) (t) (by omega) (by omega) (zB_dn_zI hI_S1) (show xB S1 (mR S 70) from by first | (exact (xC_o (W := 75) rp0_S1).2)) (show aS 75 S1 = (aS 75 S1) from by first | (exact rfl)) (show aS 88 S1 = (aS 88 S1) from by first | (exact rfl) | (exact (xC_o (W := 88) rp0_S1).1.trans rp1_S1)) (fun v5 S4 hL_S4 hq_v5 rp0_S4 rp1_S4 rp2_S4 rp3_S4 => zo_n ⟨zG_T hL_S4, ?_⟩) (fun x S9 hx h9 rx0 rx1 rx2 => by have h9u := (zB_up_zI hI_S1 h9); exact zo_x (KX x S9 (by omega) h9u (show xB S9 (mR S9 70) from by first | (exact xB_x (xC_o (W := 75) rx0).2)) (show aS 88 S9 = ab from by first | (exact rx1.trans (rp1_S1.trans hpre1))) (show (x = 4 ∧ (¬ zRq ab o ∨ (zRq ab o ∧ t ≠ -1 ∧ ¬ zRq ab t))) ∨ (x = 1 ∧ zRq ab o ∧ (t = -1 ∨ zRq ab t) ∧ ¬ zHw ab o i) ∨ (x = 5 ∧ zRq ab o ∧ (t = -1 ∨ zRq ab t) ∧ zHw ab o i ∧ ¬ zIr ab o i) from by first | (exact Or.inl ⟨rx2.1, Or.inr ⟨(rq_up rp3_S1 hpre1), rx2.2.1, rq_no rx2.2.2 (rp1_S1.trans hpre1)⟩⟩)) (show zfP 79 (mI S9) = fq from by first | (exact ((zf_fr (P := 79) (fun _ => zG_z h9 rfl)).trans ((zf_fr (P := 79) (S₉ := S1) (S := S) (fun _ => zG_z hL_S1 rfl)).trans hpre2))))))
  have hI_S4 := zB_up_zI hI_S1 hL_S4
  have rp0_S4 : xB S4 (mR S 70) := by
    have z := rp0_S4
    (try rw [show mI S1 65 = f 65 from funext (fun k => zG_z hI_S1 rfl)] at z)
    (try rw [show mI S1 64 1 = f 64 1 from zG_z hI_S1 rfl] at z)
    exact z
  have rp1_S4 : aS 88 S4 = (aS 88 S1) := by
    have z := rp1_S4
    (try rw [show mI S1 65 = f 65 from funext (fun k => zG_z hI_S1 rfl)] at z)
    (try rw [show mI S1 64 1 = f 64 1 from zG_z hI_S1 rfl] at z)
    exact z
  have rp2_S4 : v5 = zTa (mR S 70) t := by
    have z := rp2_S4
    (try rw [show mI S1 65 = f 65 from funext (fun k => zG_z hI_S1 rfl)] at z)
    (try rw [show mI S1 64 1 = f 64 1 from zG_z hI_S1 rfl] at z)
    exact z
  have rp3_S4 : t = -1 ∨ zRq (aS 75 S1) t := by
    have z := rp3_S4
    (try rw [show mI S1 65 = f 65 from funext (fun k => zG_z hI_S1 rfl)] at z)
    (try rw [show mI S1 64 1 = f 64 1 from zG_z hI_S1 rfl] at z)
    exact z
  refine ⟨zG_n hI_S4 th_c3, ?_⟩
  have b3 := i_bd i
  have li4 : (0 : Int32).toInt = 0 := rfl
  refine zd (fun h5 => ?_) (fun h5 => ?_)
  · skip
    have g6 := i_lt h5
    exact KX 1 _ (by decide) hI_S4 (show xB S4 (mR S4 70) from by first | (exact xB_x (xC_o (W := 75) rp0_S4).2)) (show aS 88 S4 = ab from by first | (exact (xC_o (W := 88) rp0_S4).1.trans (rp1_S4.trans (rp1_S1.trans hpre1)))) (show (1 = 4 ∧ (¬ zRq ab o ∨ (zRq ab o ∧ t ≠ -1 ∧ ¬ zRq ab t))) ∨ (1 = 1 ∧ zRq ab o ∧ (t = -1 ∨ zRq ab t) ∧ ¬ zHw ab o i) ∨ (1 = 5 ∧ zRq ab o ∧ (t = -1 ∨ zRq ab t) ∧ zHw ab o i ∧ ¬ zIr ab o i) from by first | (have ty := xB_th (W := 88) rp0_S4 rg_c3; have z2 := congrArg Int32.toInt ty.2.2.2.2.1; rw [(rp1_S4.trans (rp1_S1.trans hpre1))] at z2; exact Or.inr (Or.inl ⟨rfl, (rq_up rp3_S1 hpre1), (rp3_S4.imp id (fun w => rq_up w (rp1_S1.trans hpre1))), fun w => by have w1 := w.1; have w2 := w.2; omega⟩))) (show zfP 79 (mI S4) = fq from by first | (exact ((zf_fr (P := 79) (S₉ := S4) (S := S1) (fun _ => zG_z hL_S4 rfl)).trans ((zf_fr (P := 79) (S₉ := S1) (S := S) (fun _ => zG_z hL_S1 rfl)).trans hpre2))))
  · skip
    have g7 := i_nlt h5
    refine ⟨zG_n hI_S4 th_c3, ?_⟩
    have f8 := zG_th hI_S4 th_c3
    first | have e9 : ((mI S4 c3 2) - (1 : Int32)).toInt = (mI S4 c3 2).toInt - (1) := i_subk rfl (by omega) (by omega) | have b10 := i_bd ((mI S4 c3 2) - (1 : Int32))
    refine zd (fun h11 => ?_) (fun h11 => ?_)
    · skip
      have g12 := i_le h11
      exact KX 1 _ (by decide) hI_S4 (show xB S4 (mR S4 70) from by first | (exact xB_x (xC_o (W := 75) rp0_S4).2)) (show aS 88 S4 = ab from by first | (exact (xC_o (W := 88) rp0_S4).1.trans (rp1_S4.trans (rp1_S1.trans hpre1)))) (show (1 = 4 ∧ (¬ zRq ab o ∨ (zRq ab o ∧ t ≠ -1 ∧ ¬ zRq ab t))) ∨ (1 = 1 ∧ zRq ab o ∧ (t = -1 ∨ zRq ab t) ∧ ¬ zHw ab o i) ∨ (1 = 5 ∧ zRq ab o ∧ (t = -1 ∨ zRq ab t) ∧ zHw ab o i ∧ ¬ zIr ab o i) from by first | (have ty := xB_th (W := 88) rp0_S4 rg_c3; have z2 := congrArg Int32.toInt ty.2.2.2.2.1; rw [(rp1_S4.trans (rp1_S1.trans hpre1))] at z2; exact Or.inr (Or.inl ⟨rfl, (rq_up rp3_S1 hpre1), (rp3_S4.imp id (fun w => rq_up w (rp1_S1.trans hpre1))), fun w => by have w1 := w.1; have w2 := w.2; omega⟩))) (show zfP 79 (mI S4) = fq from by first | (exact ((zf_fr (P := 79) (S₉ := S4) (S := S1) (fun _ => zG_z hL_S4 rfl)).trans ((zf_fr (P := 79) (S₉ := S1) (S := S) (fun _ => zG_z hL_S1 rfl)).trans hpre2))))
    · skip
      have g13 := i_nle h11
      refine ⟨zG_n hI_S4 th_c3, ?_⟩
      refine ⟨zG_n hI_S4 th_c3, ?_⟩
      refine zd (fun h14 => ?_) (fun h14 => ?_)
      · skip
        have g15 := i_lt h14
        exact KX 5 _ (by decide) hI_S4 (show xB S4 (mR S4 70) from by first | (exact xB_x (xC_o (W := 75) rp0_S4).2)) (show aS 88 S4 = ab from by first | (exact (xC_o (W := 88) rp0_S4).1.trans (rp1_S4.trans (rp1_S1.trans hpre1)))) (show (5 = 4 ∧ (¬ zRq ab o ∨ (zRq ab o ∧ t ≠ -1 ∧ ¬ zRq ab t))) ∨ (5 = 1 ∧ zRq ab o ∧ (t = -1 ∨ zRq ab t) ∧ ¬ zHw ab o i) ∨ (5 = 5 ∧ zRq ab o ∧ (t = -1 ∨ zRq ab t) ∧ zHw ab o i ∧ ¬ zIr ab o i) from by first | (exfalso; omega) | (have ty := xB_th (W := 88) rp0_S4 rg_c3; have z2 := congrArg Int32.toInt ty.2.2.2.2.1; rw [(rp1_S4.trans (rp1_S1.trans hpre1))] at z2; exact Or.inr (Or.inr ⟨rfl, (rq_up rp3_S1 hpre1), (rp3_S4.imp id (fun w => rq_up w (rp1_S1.trans hpre1))), ⟨by omega, by omega⟩, ir_n rp0_S4 rg_c3 (rp1_S4.trans (rp1_S1.trans hpre1)) (by omega) (by assumption)⟩))) (show zfP 79 (mI S4) = fq from by first | (exact ((zf_fr (P := 79) (S₉ := S4) (S := S1) (fun _ => zG_z hL_S4 rfl)).trans ((zf_fr (P := 79) (S₉ := S1) (S := S) (fun _ => zG_z hL_S1 rfl)).trans hpre2))))
      · skip
        have g16 := i_nlt h14
        refine ⟨zG_n hI_S4 th_c3, ?_⟩
        refine zd (fun h17 => ?_) (fun h17 => ?_)
        · skip
          have g18 := i_le h17
          exact KX 5 _ (by decide) hI_S4 (show xB S4 (mR S4 70) from by first | (exact xB_x (xC_o (W := 75) rp0_S4).2)) (show aS 88 S4 = ab from by first | (exact (xC_o (W := 88) rp0_S4).1.trans (rp1_S4.trans (rp1_S1.trans hpre1)))) (show (5 = 4 ∧ (¬ zRq ab o ∨ (zRq ab o ∧ t ≠ -1 ∧ ¬ zRq ab t))) ∨ (5 = 1 ∧ zRq ab o ∧ (t = -1 ∨ zRq ab t) ∧ ¬ zHw ab o i) ∨ (5 = 5 ∧ zRq ab o ∧ (t = -1 ∨ zRq ab t) ∧ zHw ab o i ∧ ¬ zIr ab o i) from by first | (exfalso; omega) | (have ty := xB_th (W := 88) rp0_S4 rg_c3; have z2 := congrArg Int32.toInt ty.2.2.2.2.1; rw [(rp1_S4.trans (rp1_S1.trans hpre1))] at z2; exact Or.inr (Or.inr ⟨rfl, (rq_up rp3_S1 hpre1), (rp3_S4.imp id (fun w => rq_up w (rp1_S1.trans hpre1))), ⟨by omega, by omega⟩, ir_n rp0_S4 rg_c3 (rp1_S4.trans (rp1_S1.trans hpre1)) (by omega) (by assumption)⟩))) (show zfP 79 (mI S4) = fq from by first | (exact ((zf_fr (P := 79) (S₉ := S4) (S := S1) (fun _ => zG_z hL_S4 rfl)).trans ((zf_fr (P := 79) (S₉ := S1) (S := S) (fun _ => zG_z hL_S1 rfl)).trans hpre2))))
        · skip
          have g19 := i_nle h17
          refine ⟨zG_n hI_S4 th_c3, ?_⟩
          have b20 := i_bd (lg_cmp ((((mL S4 c3 3).toUInt64 >>> (i.toInt64.toUInt64 &&& Int64.toUInt64 63)).toInt64) &&& (1 : Int64)) (0 : Int64))
          refine zd (fun h21 => ?_) (fun h21 => ?_)
          · skip
            have g22 := i_eq h21
            exact KX 5 _ (by decide) hI_S4 (show xB S4 (mR S4 70) from by first | (exact xB_x (xC_o (W := 75) rp0_S4).2)) (show aS 88 S4 = ab from by first | (exact (xC_o (W := 88) rp0_S4).1.trans (rp1_S4.trans (rp1_S1.trans hpre1)))) (show (5 = 4 ∧ (¬ zRq ab o ∨ (zRq ab o ∧ t ≠ -1 ∧ ¬ zRq ab t))) ∨ (5 = 1 ∧ zRq ab o ∧ (t = -1 ∨ zRq ab t) ∧ ¬ zHw ab o i) ∨ (5 = 5 ∧ zRq ab o ∧ (t = -1 ∨ zRq ab t) ∧ zHw ab o i ∧ ¬ zIr ab o i) from by first | (exfalso; omega) | (have ty := xB_th (W := 88) rp0_S4 rg_c3; have z2 := congrArg Int32.toInt ty.2.2.2.2.1; rw [(rp1_S4.trans (rp1_S1.trans hpre1))] at z2; exact Or.inr (Or.inr ⟨rfl, (rq_up rp3_S1 hpre1), (rp3_S4.imp id (fun w => rq_up w (rp1_S1.trans hpre1))), ⟨by omega, by omega⟩, ir_n rp0_S4 rg_c3 (rp1_S4.trans (rp1_S1.trans hpre1)) (by omega) (by assumption)⟩))) (show zfP 79 (mI S4) = fq from by first | (exact ((zf_fr (P := 79) (S₉ := S4) (S := S1) (fun _ => zG_z hL_S4 rfl)).trans ((zf_fr (P := 79) (S₉ := S1) (S := S) (fun _ => zG_z hL_S1 rfl)).trans hpre2))))
          · skip
            have g23 := i_ne h21
            refine sp_94_69_s (ab := (aS 88 S4)) (R := (mR S 70)) (W := 88) (y := (t)) (yt := (o)) c3 (i) (v5) (by omega) (by omega) (zB_dn_zI hI_S4) th_c3 hq_v5 (show xB S4 (mR S 70) from by first | (exact (xC_o (W := 75) rp0_S4).2)) (show aS 88 S4 = (aS 88 S4) from by first | (exact rfl)) (show xW 88 from by first | (exact xW88) | (exact xW75)) (show zTa (mR S 70) (o) = some c3 from by first | (exact rg_c3)) (show v5 = zTa (mR S 70) (t) from by first | (exact rp2_S4)) (by omega) (fun v7 S6 hL_S6 hq_v7 rp0_S6 rp1_S6 rp2_S6 => zo_n ⟨zG_T hL_S6, ?_⟩)
            have hI_S6 := zB_up_zI hI_S4 hL_S6
            have rp0_S6 : xB S6 (mR S 70) := by
              have z := rp0_S6
              (try rw [show mI S4 65 = f 65 from funext (fun k => zG_z hI_S4 rfl)] at z)
              (try rw [show mI S4 64 1 = f 64 1 from zG_z hI_S4 rfl] at z)
              exact z
            have rp1_S6 : aS 88 S6 = aCi (aS 88 S4) (o).toNatClampNeg i (aNm (aS 88 S4) (t)) := by
              have z := rp1_S6
              (try rw [show mI S4 65 = f 65 from funext (fun k => zG_z hI_S4 rfl)] at z)
              (try rw [show mI S4 64 1 = f 64 1 from zG_z hI_S4 rfl] at z)
              exact z
            have rp2_S6 : v7 = zTa (mR S 70) (aRef (aS 88 S4) (o).toNatClampNeg i) := by
              have z := rp2_S6
              (try rw [show mI S4 65 = f 65 from funext (fun k => zG_z hI_S4 rfl)] at z)
              (try rw [show mI S4 64 1 = f 64 1 from zG_z hI_S4 rfl] at z)
              exact z
            refine ⟨fun hc => ?_, fun c8 hc => ?_⟩
            · skip
              have rn_c8 : zTa (mR S 70) (aRef (aS 88 S4) (o).toNatClampNeg i) = none := rp2_S6.symm.trans hc
              have li24 : (-1 : Int32).toInt = -1 := rfl
              exact K ((-1 : Int32)) _ hI_S6 trivial (show xB S6 (mR S6 70) from by first | (exact xB_x (xC_o (W := 75) rp0_S6).2)) (show zRq ab o ∧ (t = -1 ∨ zRq ab t) ∧ zHw ab o i ∧ zIr ab o i ∧ aS 88 S6 = aL0 ab o.toNatClampNeg i t ∧ (-1 : Int32) = aNm ab (aRef ab o.toNatClampNeg i) from by first | (exfalso; omega) | (have ty := xB_th (W := 88) rp0_S4 rg_c3; have z2 := congrArg Int32.toInt ty.2.2.2.2.1; rw [(rp1_S4.trans (rp1_S1.trans hpre1))] at z2; have ns := rp1_S6; rw [(rp1_S4.trans (rp1_S1.trans hpre1))] at ns; have nn := nm_n (W := 88) rp0_S4 rn_c8; rw [(rp1_S4.trans (rp1_S1.trans hpre1))] at nn; exact ⟨(rq_up rp3_S1 hpre1), (rp3_S4.imp id (fun w => rq_up w (rp1_S1.trans hpre1))), ⟨by omega, by omega⟩, ir_y rp0_S4 rg_c3 (rp1_S4.trans (rp1_S1.trans hpre1)) (by omega) (by assumption), ns, (by exact nn.symm)⟩)) (show zfP 79 (mI S6) = fq from by first | (exact ((zf_fr (P := 79) (S₉ := S6) (S := S4) (fun _ => zG_z hL_S6 rfl)).trans ((zf_fr (P := 79) (S₉ := S4) (S := S1) (fun _ => zG_z hL_S4 rfl)).trans ((zf_fr (P := 79) (S₉ := S1) (S := S) (fun _ => zG_z hL_S1 rfl)).trans hpre2)))))
            · skip
              have th_c8 := hq_v7 c8 hc
              have rg_c8 : zTa (mR S 70) (aRef (aS 88 S4) (o).toNatClampNeg i) = some c8 := rp2_S6.symm.trans hc
              subst hc
              refine ⟨zG_n hI_S6 th_c8, ?_⟩
              have f25 := zG_th hI_S6 th_c8
              exact K ((mI S6 c8 0)) _ hI_S6 trivial (show xB S6 (mR S6 70) from by first | (exact xB_x (xC_o (W := 75) rp0_S6).2)) (show zRq ab o ∧ (t = -1 ∨ zRq ab t) ∧ zHw ab o i ∧ zIr ab o i ∧ aS 88 S6 = aL0 ab o.toNatClampNeg i t ∧ (mI S6 c8 0) = aNm ab (aRef ab o.toNatClampNeg i) from by first | (exfalso; omega) | (have ty := xB_th (W := 88) rp0_S4 rg_c3; have z2 := congrArg Int32.toInt ty.2.2.2.2.1; rw [(rp1_S4.trans (rp1_S1.trans hpre1))] at z2; have ns := rp1_S6; rw [(rp1_S4.trans (rp1_S1.trans hpre1))] at ns; have nn := nm_y (W := 88) rp0_S4 rg_c8; have tn := (xB_th (W := 88) rp0_S6 rg_c8).2.2.1; rw [(rp1_S4.trans (rp1_S1.trans hpre1))] at nn; exact ⟨(rq_up rp3_S1 hpre1), (rp3_S4.imp id (fun w => rq_up w (rp1_S1.trans hpre1))), ⟨by omega, by omega⟩, ir_y rp0_S4 rg_c3 (rp1_S4.trans (rp1_S1.trans hpre1)) (by omega) (by assumption), ns, (by rw [tn]; (try rw [(rp1_S4.trans (rp1_S1.trans hpre1))]); exact nn.symm)⟩)) (show zfP 79 (mI S6) = fq from by first | (exact ((zf_fr (P := 79) (S₉ := S6) (S := S4) (fun _ => zG_z hL_S6 rfl)).trans ((zf_fr (P := 79) (S₉ := S4) (S := S1) (fun _ => zG_z hL_S4 rfl)).trans ((zf_fr (P := 79) (S₉ := S1) (S := S) (fun _ => zG_z hL_S1 rfl)).trans hpre2)))))

