/-! from 95.m26 -/
/-! COUNTS, the class (written by wip/tools/gen20k.py) -/
theorem ci_al {a : Nat → Nat → Int32} {n m : Nat} {i x : Int32} : xAl (aCi a m i x) n ↔ xAl a n := by
  unfold aCi xAl
  split
  · rw [xu_o (by omega)]
  · exact Iff.rfl
theorem g_94_69_sk_0 {X : Nat × (Nat → Int32)} {d w : Nat} {S : ma_S} {Q : Option ma_V ⊕ Nat → ma_S → Prop} (t : Nat) (i : Int32) (x : Option Nat) (hd : 1 ≤ d) (hw : 25 ≤ w) (hS : zT S) (h : ma_wp X (d - 1) (w - 25) 82 0 [(0, .inr (.inr (some 69))), (1, .inr (.inr (some t))), (2, .inl i)] [] S (zo (fun v2 S1 => zT S1 ∧ ((x = none → ma_wp X (d - 1) (w - 25) 95 0 [(0, .inr (.inr (some 69))), (1, .inr (.inr (some t))), (2, .inl i), (3, .inl (-1 : Int32))] [] S1 (zi (fun v5 S4 => zT S4 ∧ (ma_wp X (d - 1) (w - 21) 93 0 [(0, .inr (.inr v2)), (1, .inr (.inr none))] [] S4 (zv (fun S6 => zT S6 ∧ (Q (.inl (some (.inr (.inr v2)))) S6)) (fun _ _ => False)))) (fun x S9 => Q (.inr x) S9))) ∧ (∀ c3, x = some c3 → (126 ≤ c3 ∧ c3 < mN S1) ∧ (ma_wp X (d - 1) (w - 25) 95 0 [(0, .inr (.inr (some 69))), (1, .inr (.inr (some t))), (2, .inl i), (3, .inl (mI S1 c3 0))] [] S1 (zi (fun v9 S8 => zT S8 ∧ (ma_wp X (d - 1) (w - 21) 93 0 [(0, .inr (.inr v2)), (1, .inr (.inr (some c3)))] [] S8 (zv (fun S10 => zT S10 ∧ (Q (.inl (some (.inr (.inr v2)))) S10)) (fun _ _ => False)))) (fun x S9 => Q (.inr x) S9)))))) (fun x S9 => Q (.inr x) S9))) : ma_wp X d w 94 0 [(0, .inr (.inr (some 69))), (1, .inr (.inr (some t))), (2, .inl i), (3, .inr (.inr x))] [] S Q := by
  refine zw_push hm_94 dX7_changeReference_0 (v := .inr (.inr (some 69))) rfl ?_
  refine zw_push hm_94 dX7_changeReference_1 (v := .inr (.inr (some t))) rfl ?_
  refine zw_push hm_94 dX7_changeReference_2 (v := .inl i) rfl ?_
  refine zw_cv hm_94 dX7_changeReference_3 v_7_78_7 hm_82 [.inl i, .inr (.inr (some t))] [] rfl (zT_rt hS s_69 rfl) ⟨by omega, by omega⟩ rfl (zw_mono h (zo_go ?_ ?_))
  · intro v2 S1 hv
    obtain ⟨hS1, h⟩ := hv
    refine zw_sto hm_94 dX7_changeReference_6 [(4, .inr (.inr v2)), (0, .inr (.inr (some 69))), (1, .inr (.inr (some t))), (2, .inl i), (3, .inr (.inr x))] rfl rfl rfl ?_
    refine zw_push hm_94 dX7_changeReference_8 (v := .inr (.inr (some 69))) rfl ?_
    refine zw_push hm_94 dX7_changeReference_9 (v := .inr (.inr (some t))) rfl ?_
    refine zw_push hm_94 dX7_changeReference_10 (v := .inl i) rfl ?_
    refine zw_push hm_94 dX7_changeReference_11 (v := .inr (.inr x)) rfl ?_
    refine zw_cs hm_94 dX7_changeReference_12 pn_7_82 sl_7_82 hm_146 [.inr (.inr x)] [.inl i, .inr (.inr (some t)), .inr (.inr (some 69))] rfl ⟨by omega, by omega⟩ rfl ?_
    show ma_wp X (d - 1) (w - 20) 146 0 [(0, .inr (.inr x))] [] S1 _
    refine zw_push hm_146 dX11_numberOf_0 (v := .inr (.inr x)) rfl ?_
    refine zw_ifnonnull hm_146 dX11_numberOf_1 (t := 8) rfl ?_ ?_
    · intro hc
      have h := h.1 hc
      (try rw [hc])
      show ma_wp X (d - 1) (w - 20) 146 4 [(0, .inr (.inr none))] [] S1 _
      refine zw_push hm_146 dX11_numberOf_4 (v := .inl (-1 : Int32)) rfl ?_
      refine zw_goto hm_146 dX11_numberOf_5 (t := 12) rfl ?_
      refine zw_iret hm_146 dX11_numberOf_12 ?_
      show ma_wp X d w 94 15 [(4, .inr (.inr v2)), (0, .inr (.inr (some 69))), (1, .inr (.inr (some t))), (2, .inl i), (3, .inr (.inr none))] [.inl (-1 : Int32), .inl i, .inr (.inr (some t)), .inr (.inr (some 69))] S1 _
      refine zw_cv hm_94 dX7_changeReference_15 v_7_86_7 hm_95 [.inl (-1 : Int32), .inl i, .inr (.inr (some t))] [] rfl (zT_rt hS1 s_69 rfl) ⟨by omega, by omega⟩ rfl (zw_mono h (zi_go ?_ ?_))
      · intro v5 S4 hv
        obtain ⟨hS4, h⟩ := hv
        refine zw_stk hm_94 dX7_changeReference_18 (st₉ := []) rfl rfl ?_
        refine zw_push hm_94 dX7_changeReference_19 (v := .inr (.inr v2)) rfl ?_
        refine zw_push hm_94 dX7_changeReference_21 (v := .inr (.inr none)) rfl ?_
        refine zw_cs hm_94 dX7_changeReference_22 pn_7_90 sl_7_90 hm_93 [.inr (.inr none), .inr (.inr v2)] [] rfl ⟨by omega, by omega⟩ rfl (zw_mono h (zv_go ?_ ?_))
        · intro S6 hv
          obtain ⟨hS6, h⟩ := hv
          refine zw_push hm_94 dX7_changeReference_25 (v := .inr (.inr v2)) rfl ?_
          exact zw_aret hm_94 dX7_changeReference_27 h
        · intro x S9 hx
          exact hx.elim
      · intro x S9 hx
        exact ⟨by decide, hx⟩
    · intro c3 hc
      have h := h.2 c3 hc
      (try rw [hc])
      show ma_wp X (d - 1) (w - 20) 146 8 [(0, .inr (.inr (some c3)))] [] S1 _
      refine zw_push hm_146 dX11_numberOf_8 (v := .inr (.inr (some c3))) rfl ?_
      obtain ⟨hg, h⟩ := h
      refine zw_gf hm_146 dX11_numberOf_9 (v := .inl (mI S1 c3 0)) (zT_tis hS1 hg) (zT_tt hS1 hg) rfl f_11_182_9 rfl ?_
      refine zw_iret hm_146 dX11_numberOf_12 ?_
      show ma_wp X d w 94 15 [(4, .inr (.inr v2)), (0, .inr (.inr (some 69))), (1, .inr (.inr (some t))), (2, .inl i), (3, .inr (.inr (some c3)))] [.inl (mI S1 c3 0), .inl i, .inr (.inr (some t)), .inr (.inr (some 69))] S1 _
      refine zw_cv hm_94 dX7_changeReference_15 v_7_86_7 hm_95 [.inl (mI S1 c3 0), .inl i, .inr (.inr (some t))] [] rfl (zT_rt hS1 s_69 rfl) ⟨by omega, by omega⟩ rfl (zw_mono h (zi_go ?_ ?_))
      · intro v9 S8 hv
        obtain ⟨hS8, h⟩ := hv
        refine zw_stk hm_94 dX7_changeReference_18 (st₉ := []) rfl rfl ?_
        refine zw_push hm_94 dX7_changeReference_19 (v := .inr (.inr v2)) rfl ?_
        refine zw_push hm_94 dX7_changeReference_21 (v := .inr (.inr (some c3))) rfl ?_
        refine zw_cs hm_94 dX7_changeReference_22 pn_7_90 sl_7_90 hm_93 [.inr (.inr (some c3)), .inr (.inr v2)] [] rfl ⟨by omega, by omega⟩ rfl (zw_mono h (zv_go ?_ ?_))
        · intro S10 hv
          obtain ⟨hS10, h⟩ := hv
          refine zw_push hm_94 dX7_changeReference_25 (v := .inr (.inr v2)) rfl ?_
          exact zw_aret hm_94 dX7_changeReference_27 h
        · intro x S9 hx
          exact hx.elim
      · intro x S9 hx
        exact ⟨by decide, hx⟩
  · intro x S9 hx
    exact ⟨by decide, hx⟩
theorem sp_94_69_sk {X : Nat × (Nat → Int32)} {d w : Nat} {f : Nat → Nat → Int32} {r : Nat → Nat → Option Nat} {C Z N : Nat} {Q : Option ma_V ⊕ Nat → ma_S → Prop} {ab : Nat→Nat→Int32} {R : zRT} {W : Nat} {kk : Nat→Int32} {yt : Int32} {y : Int32} {n0 : Nat→Nat→Int32} {S : ma_S} (t : Nat) (i : Int32) (x : Option Nat) (hd : 1 ≤ d) (hw : 25 ≤ w) (hI : zI f r C Z N S) (th_t : 126 ≤ t ∧ t < N) (hq_x : ∀ c, x = some c → 126 ≤ c ∧ c < N) (hpre0 : xB S R) (hpre1 : aS W S = ab) (hpre2 : xW W) (hpre3 : zTa R yt = some t) (hpre4 : x = zTa R y) (hpre5 : 0 ≤ i.toInt) (hpre6 : kC S = kk) (hpre7 : zN0 S = n0) (K : ∀ v S₉, zI f r C Z N S₉ → (∀ c, v = some c → 126 ≤ c ∧ c < N) → (xB S₉ R) → (aS W S₉ = aCi ab yt.toNatClampNeg i (aNm ab y)) → (v = zTa R (aRef ab yt.toNatClampNeg i)) → (∀ n, xAl ab n → kC S₉ n = kk n + Int32.ofNat (cIs y n) - Int32.ofNat (cIs (aRef ab yt.toNatClampNeg i) n)) → (zN0 S₉ = n0) → Q (.inl (some (.inr (.inr v)))) S₉) : ma_wp X d w 94 0 [(0, .inr (.inr (some 69))), (1, .inr (.inr (some t))), (2, .inl i), (3, .inr (.inr x))] [] S Q := by
  refine g_94_69_sk_0 t i x (by omega) (by omega) (zG_T hI) ?_
  have b1 := i_bd i
  refine sp_82_69_s (R := R) (W := W) (y := yt) t (i) (by omega) (by omega) hI th_t (show xB S R from by first | (exact (xC_o (W := 75) hpre0).2)) (show zTa R yt = some t from by first | (exact hpre3)) (by omega) (fun v2 S1 eS_S1 hq_v2 rp0_S1 => zo_n ⟨(by rw [eS_S1]; exact zG_T hI), ?_⟩)
  replace eS_S1 := eS_S1.symm; subst eS_S1
  have rp0_S1 : v2 = zTa R (aRef (aS W S) yt.toNatClampNeg i) := rp0_S1
  refine ⟨fun hc => ?_, fun c3 hc => ?_⟩
  · skip
    have rn_c3 : zTa R y = none := hpre4.symm.trans hc
    have li2 : (-1 : Int32).toInt = -1 := rfl
    refine sp_95_69_sk (ab := (aS W S)) (R := R) (W := W) (y := (yt)) (kk := (kC S)) (n0 := n0) t (i) ((-1 : Int32)) (by omega) (by omega) hI th_t (show xB S R from by first | (exact (xC_o (W := 75) hpre0).2)) (show aS W S = (aS W S) from by first | (exact rfl)) (show xW W from by first | (exact hpre2) | (exact xW88) | (exact xW75)) (show zTa R (yt) = some t from by first | (exact hpre3)) (show kC S = (kC S) from by first | (exact rfl)) (show zN0 S = n0 from by first | (exact hpre7)) (fun v5 S4 hI_S4 hp_v5 rp0_S4 rp1_S4 rp2_S4 rp3_S4 => zi_n ⟨zG_T hI_S4, ?_⟩)
    have rp0_S4 : xB S4 R := rp0_S4
    have rp1_S4 : aS W S4 = aCi (aS W S) (yt).toNatClampNeg i (-1 : Int32) ∧ v5 = aWo (aS W S) (yt).toNatClampNeg i := rp1_S4
    have rp2_S4 : kC S4 = (kC S) := rp2_S4
    have rp3_S4 : zN0 S4 = n0 := rp3_S4
    refine sp_93_sk (ab := (aS W S4)) (R := R) (W := W) (y1 := ((aRef (aS W S) yt.toNatClampNeg i))) (y2 := ((-1 : Int32))) (kk := (kC S4)) (n0 := n0) (v2) (none) (by omega) (by omega) hI_S4 hq_v2 (fun _ z => by cases z) (show xB S4 R from by first | (exact (xC_o (W := 75) rp0_S4).2)) (show aS W S4 = (aS W S4) from by first | (exact rfl)) (show xW W from by first | (exact hpre2) | (exact xW88) | (exact xW75)) (show v2 = zTa R ((aRef (aS W S) yt.toNatClampNeg i)) from by first | (exact rp0_S1)) (show none = zTa R ((-1 : Int32)) from by first | (exact ta_m1) | (exact ta_no (by omega))) (show kC S4 = (kC S4) from by first | (exact rfl)) (show zN0 S4 = n0 from by first | (exact rp3_S4)) (fun S6 hI_S6 rp0_S6 rp1_S6 rp2_S6 rp3_S6 => zv_n ⟨zG_T hI_S6, ?_⟩)
    have rp0_S6 : xB S6 R := rp0_S6
    have rp1_S6 : aS W S6 = (aS W S4) := rp1_S6
    have rp2_S6 : ∀ n, xAl (aS W S4) n → kC S6 n = (kC S4) n + Int32.ofNat (cIs ((-1 : Int32)) n) - Int32.ofNat (cIs ((aRef (aS W S) yt.toNatClampNeg i)) n) := rp2_S6
    have rp3_S6 : zN0 S6 = n0 := rp3_S6
    exact K (v2) _ hI_S6 hq_v2 (show xB S6 R from by first | (exact (xC_o (W := 75) rp0_S6).2)) (show aS W S6 = aCi ab yt.toNatClampNeg i (aNm ab y) from by first | (have nn := (nm_n (W := W) hpre0 rn_c3); rw [hpre1] at nn; have ci := rp1_S4.1; skip; refine rp1_S6.trans (ci.trans ?_); rw [hpre1, nn])) (show v2 = zTa R (aRef ab yt.toNatClampNeg i) from by first | (rw [← hpre1]; exact rp0_S1)) (show ∀ n, xAl ab n → kC S6 n = kk n + Int32.ofNat (cIs y n) - Int32.ofNat (cIs (aRef ab yt.toNatClampNeg i) n) from by first | (intro n hn; have q := rp2_S6 n (by rw [rp1_S4.1, hpre1]; exact ci_al.mpr hn); rw [congrFun (rp2_S4.trans hpre6) n] at q; (try rw [hpre1] at q); rw [cIs_n (x := -1) (by decide) hn.1] at q; have h2 : cIs y n = 0 := is_no (W := W) hpre0 rn_c3 (by rw [hpre1]; exact hn); rw [h2]; exact q)) (show zN0 S6 = n0 from by first | (exact rp3_S6))
  · skip
    have th_c3 := hq_x c3 hc
    have rg_c3 : zTa R y = some c3 := hpre4.symm.trans hc
    subst hc
    refine ⟨zG_n hI th_c3, ?_⟩
    have f3 := zG_th hI th_c3
    refine sp_95_69_sk (ab := (aS W S)) (R := R) (W := W) (y := (yt)) (kk := (kC S)) (n0 := n0) t (i) ((mI S c3 0)) (by omega) (by omega) hI th_t (show xB S R from by first | (exact (xC_o (W := 75) hpre0).2)) (show aS W S = (aS W S) from by first | (exact rfl)) (show xW W from by first | (exact hpre2) | (exact xW88) | (exact xW75)) (show zTa R (yt) = some t from by first | (exact hpre3)) (show kC S = (kC S) from by first | (exact rfl)) (show zN0 S = n0 from by first | (exact hpre7)) (fun v9 S8 hI_S8 hp_v9 rp0_S8 rp1_S8 rp2_S8 rp3_S8 => zi_n ⟨zG_T hI_S8, ?_⟩)
    have rp0_S8 : xB S8 R := rp0_S8
    have rp1_S8 : aS W S8 = aCi (aS W S) (yt).toNatClampNeg i (mI S c3 0) ∧ v9 = aWo (aS W S) (yt).toNatClampNeg i := rp1_S8
    have rp2_S8 : kC S8 = (kC S) := rp2_S8
    have rp3_S8 : zN0 S8 = n0 := rp3_S8
    refine sp_93_sk (ab := (aS W S8)) (R := R) (W := W) (y1 := ((aRef (aS W S) yt.toNatClampNeg i))) (y2 := (y)) (kk := (kC S8)) (n0 := n0) (v2) ((some c3)) (by omega) (by omega) hI_S8 hq_v2 (fun _ z => by cases z; exact th_c3) (show xB S8 R from by first | (exact (xC_o (W := 75) rp0_S8).2)) (show aS W S8 = (aS W S8) from by first | (exact rfl)) (show xW W from by first | (exact hpre2) | (exact xW88) | (exact xW75)) (show v2 = zTa R ((aRef (aS W S) yt.toNatClampNeg i)) from by first | (exact rp0_S1)) (show (some c3) = zTa R (y) from by first | (exact rg_c3.symm)) (show kC S8 = (kC S8) from by first | (exact rfl)) (show zN0 S8 = n0 from by first | (exact rp3_S8)) (fun S10 hI_S10 rp0_S10 rp1_S10 rp2_S10 rp3_S10 => zv_n ⟨zG_T hI_S10, ?_⟩)
    have rp0_S10 : xB S10 R := rp0_S10
    have rp1_S10 : aS W S10 = (aS W S8) := rp1_S10
    have rp2_S10 : ∀ n, xAl (aS W S8) n → kC S10 n = (kC S8) n + Int32.ofNat (cIs (y) n) - Int32.ofNat (cIs ((aRef (aS W S) yt.toNatClampNeg i)) n) := rp2_S10
    have rp3_S10 : zN0 S10 = n0 := rp3_S10
    exact K (v2) _ hI_S10 hq_v2 (show xB S10 R from by first | (exact (xC_o (W := 75) rp0_S10).2)) (show aS W S10 = aCi ab yt.toNatClampNeg i (aNm ab y) from by first | (have nn := (nm_y (W := W) hpre0 rg_c3); rw [hpre1] at nn; have ci := rp1_S8.1; rw [(xB_th (W := W) hpre0 rg_c3).2.2.1] at ci; refine rp1_S10.trans (ci.trans ?_); rw [hpre1, nn])) (show v2 = zTa R (aRef ab yt.toNatClampNeg i) from by first | (rw [← hpre1]; exact rp0_S1)) (show ∀ n, xAl ab n → kC S10 n = kk n + Int32.ofNat (cIs y n) - Int32.ofNat (cIs (aRef ab yt.toNatClampNeg i) n) from by first | (intro n hn; have q := rp2_S10 n (by rw [rp1_S8.1, hpre1]; exact ci_al.mpr hn); rw [congrFun (rp2_S8.trans hpre6) n] at q; (try rw [hpre1] at q); exact q)) (show zN0 S10 = n0 from by first | (exact rp3_S10))
theorem g_25_84_sk_0 {X : Nat × (Nat → Int32)} {d w : Nat} {S : ma_S} {Q : Option ma_V ⊕ Nat → ma_S → Prop} (t : Option Nat) (hd : 2 ≤ d) (hw : 43 ≤ w) (hS : zT S) (h : (t = none → Q (.inl none) S) ∧ (∀ c1, t = some c1 → (126 ≤ c1 ∧ c1 < mN S) ∧ (if (mI S c1 6) ≤ 0 then ((126 ≤ c1 ∧ c1 < mN S) ∧ (if (mI S c1 8) = 0 then (if (512 : Int32) ≤ (mI S 84 7) then (Q (.inl none) S) else ((0 ≤ (mI S 84 7) ∧ (mI S 84 7).toNatClampNeg < 512) ∧ ((126 ≤ c1 ∧ c1 < mN S) ∧ ((0 ≤ (mI S 84 7) ∧ (mI S 84 7).toNatClampNeg < 512) ∧ (Q (.inl none) (ma_put (ma_put (ma_put S 85 (mI S 84 7).toNatClampNeg (.inr (.inr (some c1)))) 86 (mI S 84 7).toNatClampNeg (.inl (0 : Int32))) 84 7 (.inl ((mI S 84 7) + (1 : Int32))))))))) else (ma_wp X (d - 1) (w - 21) 84 0 [(0, .inr (.inr (some 69))), (1, .inr (.inr (some c1)))] [] S (zv (fun S2 => zT S2 ∧ (Q (.inl none) S2)) (fun x S9 => Q (.inr x) S9))))) else (Q (.inl none) S)))) : ma_wp X d w 25 0 [(0, .inr (.inr (some 84))), (1, .inr (.inr t))] [] S Q := by
  refine zw_push hm_25 dX2_fallIfUncounted_0 (v := .inr (.inr t)) rfl ?_
  refine zw_ifnull hm_25 dX2_fallIfUncounted_1 (t := 11) rfl ?_ ?_
  · intro hc
    have h := h.1 hc
    (try rw [hc])
    show ma_wp X d w 25 11 [(0, .inr (.inr (some 84))), (1, .inr (.inr none))] [] S _
    exact zw_vret hm_25 dX2_fallIfUncounted_11 h
  · intro c1 hc
    have h := h.2 c1 hc
    (try rw [hc])
    show ma_wp X d w 25 4 [(0, .inr (.inr (some 84))), (1, .inr (.inr (some c1)))] [] S _
    refine zw_push hm_25 dX2_fallIfUncounted_4 (v := .inr (.inr (some c1))) rfl ?_
    obtain ⟨hg, h⟩ := h
    refine zw_gf hm_25 dX2_fallIfUncounted_5 (v := .inl (mI S c1 6)) (zT_tis hS hg) (zT_tt hS hg) rfl f_2_21_9 rfl ?_
    refine zw_if0 hm_25 dX2_fallIfUncounted_8 (t := 12) rfl zc0_le ?_ ?_
    · intro hc
      rw [if_pos hc] at h
      refine zw_push hm_25 dX2_fallIfUncounted_12 (v := .inr (.inr (some c1))) rfl ?_
      obtain ⟨hg, h⟩ := h
      refine zw_gf hm_25 dX2_fallIfUncounted_13 (v := .inl (mI S c1 8)) (zT_tis hS hg) (zT_tt hS hg) rfl f_2_57_9 rfl ?_
      refine zw_if0 hm_25 dX2_fallIfUncounted_16 (t := 30) rfl zc0_eq ?_ ?_
      · intro hc
        rw [if_pos hc] at h
        refine zw_push hm_25 dX2_fallIfUncounted_30 (v := .inr (.inr (some 84))) rfl ?_
        refine zw_gf hm_25 dX2_fallIfUncounted_31 (v := .inl (mI S 84 7)) (zT_is hS s_84) (zT_t hS s_84) rfl f_2_25_2 rfl ?_
        refine zw_push hm_25 dX2_fallIfUncounted_34 (v := .inl (512 : Int32)) rfl ?_
        refine zw_if2 hm_25 dX2_fallIfUncounted_37 (t := 70) rfl zc2_ge ?_ ?_
        · intro hc
          rw [if_pos hc] at h
          exact zw_vret hm_25 dX2_fallIfUncounted_70 h
        · intro hc
          rw [if_neg hc] at h
          refine zw_push hm_25 dX2_fallIfUncounted_40 (v := .inr (.inr (some 84))) rfl ?_
          refine zw_gf hm_25 dX2_fallIfUncounted_41 (v := .inr (.inr (some 85))) (zT_is hS s_84) (zT_t hS s_84) rfl f_2_11_2 (zT_f hS r_84_5) ?_
          refine zw_push hm_25 dX2_fallIfUncounted_44 (v := .inr (.inr (some 84))) rfl ?_
          refine zw_gf hm_25 dX2_fallIfUncounted_45 (v := .inl (mI S 84 7)) (zT_is hS s_84) (zT_t hS s_84) rfl f_2_25_2 rfl ?_
          refine zw_push hm_25 dX2_fallIfUncounted_48 (v := .inr (.inr (some c1))) rfl ?_
          obtain ⟨hg, h⟩ := h
          obtain ⟨hg2, h⟩ := h
          refine zw_aas hm_25 dX2_fallIfUncounted_49 (zT_is hS s_85) (zT_h hS s_85) rfl hg (fun b z => by cases z; exact ⟨zT_tis hS hg2, zT_tt hS hg2⟩) ?_
          refine zw_push hm_25 dX2_fallIfUncounted_50 (v := .inr (.inr (some 84))) rfl ?_
          refine zw_gf hm_25 dX2_fallIfUncounted_51 (v := .inr (.inr (some 86))) (zT_is (zT_pr hS (zfi_row (by decide +kernel))) s_84) (zT_t (zT_pr hS (zfi_row (by decide +kernel))) s_84) rfl f_2_17_2 (zT_f (zT_pr hS (zfi_row (by decide +kernel))) r_84_6) ?_
          refine zw_push hm_25 dX2_fallIfUncounted_54 (v := .inr (.inr (some 84))) rfl ?_
          refine zw_gf hm_25 dX2_fallIfUncounted_55 (v := .inl (mI S 84 7)) (zT_is (zT_pr hS (zfi_row (by decide +kernel))) s_84) (zT_t (zT_pr hS (zfi_row (by decide +kernel))) s_84) rfl f_2_25_2 rfl ?_
          refine zw_push hm_25 dX2_fallIfUncounted_58 (v := .inl (0 : Int32)) rfl ?_
          obtain ⟨hg, h⟩ := h
          refine zw_ias hm_25 dX2_fallIfUncounted_59 (zT_is (zT_pr hS (zfi_row (by decide +kernel))) s_86) (zT_h (zT_pr hS (zfi_row (by decide +kernel))) s_86) rfl hg ?_
          refine zw_push hm_25 dX2_fallIfUncounted_60 (v := .inr (.inr (some 84))) rfl ?_
          refine zw_stk hm_25 dX2_fallIfUncounted_61 (st₉ := [.inr (.inr (some 84)), .inr (.inr (some 84))]) rfl rfl ?_
          refine zw_gf hm_25 dX2_fallIfUncounted_62 (v := .inl (mI S 84 7)) (zT_is (zT_pi (zT_pr hS (zfi_row (by decide +kernel)))) s_84) (zT_t (zT_pi (zT_pr hS (zfi_row (by decide +kernel)))) s_84) rfl f_2_25_2 rfl ?_
          refine zw_push hm_25 dX2_fallIfUncounted_65 (v := .inl (1 : Int32)) rfl ?_
          refine zw_stk hm_25 dX2_fallIfUncounted_66 (st₉ := [.inl ((mI S 84 7) + (1 : Int32)), .inr (.inr (some 84))]) rfl rfl ?_
          refine zw_pf hm_25 dX2_fallIfUncounted_67 (zT_is (zT_pi (zT_pr hS (zfi_row (by decide +kernel)))) s_84) (zT_t (zT_pi (zT_pr hS (zfi_row (by decide +kernel)))) s_84) p_2_25_2 zk_int ?_
          exact zw_vret hm_25 dX2_fallIfUncounted_70 h
      · intro hc
        rw [if_neg hc] at h
        refine zw_push hm_25 dX2_fallIfUncounted_19 (v := .inr (.inr (some 84))) rfl ?_
        refine zw_gf hm_25 dX2_fallIfUncounted_20 (v := .inr (.inr (some 69))) (zT_is hS s_84) (zT_t hS s_84) rfl f_2_41_2 (zT_f hS r_84_3) ?_
        refine zw_push hm_25 dX2_fallIfUncounted_23 (v := .inr (.inr (some c1))) rfl ?_
        refine zw_cv hm_25 dX2_fallIfUncounted_24 v_2_61_7 hm_84 [.inr (.inr (some c1))] [] rfl (zT_rt hS s_69 rfl) ⟨by omega, by omega⟩ rfl (zw_mono h (zv_go ?_ ?_))
        · intro S2 hv
          obtain ⟨hS2, h⟩ := hv
          refine zw_goto hm_25 dX2_fallIfUncounted_27 (t := 70) rfl ?_
          exact zw_vret hm_25 dX2_fallIfUncounted_70 h
        · intro x S9 hx
          exact ⟨by decide, hx⟩
    · intro hc
      rw [if_neg hc] at h
      exact zw_vret hm_25 dX2_fallIfUncounted_11 h
theorem sp_25_84_sk {X : Nat × (Nat → Int32)} {d w : Nat} {f : Nat → Nat → Int32} {r : Nat → Nat → Option Nat} {C Z N : Nat} {Q : Option ma_V ⊕ Nat → ma_S → Prop} {ab : Nat→Nat→Int32} {R : zRT} {W : Nat} {kk : Nat→Int32} {y : Int32} {l : zLS} {B : Int} {fq : Nat→Int32} {n0 : Nat→Nat→Int32} {S : ma_S} (t : Option Nat) (hd : 2 ≤ d) (hw : 43 ≤ w) (hI : zJ84 f r C Z N S) (hq_t : ∀ c, t = some c → 126 ≤ c ∧ c < N) (hpre0 : xB S R) (hpre1 : aS W S = ab) (hpre2 : xW W) (hpre3 : t = zTa R y) (hpre4 : kC S = kk) (hpre5 : zSt S R l) (hpre6 : cC ab l kk B) (hpre7 : cOk (cRa ab l) y) (hpre8 : B ≤ 1000000) (hpre9 : zfP 84 (mI S) = fq) (hpre10 : zN0 S = n0) (K : ∀ S₉, zJ84 f r C Z N S₉ → (xB S₉ R) → (zFo W S₉ R B (cF1 (cPr ab l) y)) → (zfP 84 (mI S₉) = fq) → (zN0 S₉ = n0) → Q (.inl none) S₉) : ma_wp X d w 25 0 [(0, .inr (.inr (some 84))), (1, .inr (.inr t))] [] S Q := by
  refine g_25_84_sk_0 t (by omega) (by omega) (zG_T hI) ?_
  refine ⟨fun hc => ?_, fun c1 hc => ?_⟩
  · skip
    have rn_c1 : zTa R y = none := hpre3.symm.trans hc
    exact K _ hI (show xB S R from by first | (exact (xC_o (W := W) hpre0).2)) (show zFo W S R B (cF1 (cPr ab l) y) from by first | (exact FO_n hpre5 hpre1 hpre4 hpre6 (fo_y hpre6 hpre7 hpre0 hpre1 rn_c1))) (show zfP 84 (mI S) = fq from by first | (exact hpre9)) (show zN0 S = n0 from by first | (exact hpre10))
  · skip
    have th_c1 := hq_t c1 hc
    have rg_c1 : zTa R y = some c1 := hpre3.symm.trans hc
    subst hc
    refine ⟨zG_n hI th_c1, ?_⟩
    have b1 := i_bd (mI S c1 6)
    have li2 : (0 : Int32).toInt = 0 := rfl
    refine zd (fun h3 => ?_) (fun h3 => ?_)
    · skip
      have g4 := i_le h3
      refine ⟨zG_n hI th_c1, ?_⟩
      have b5 := i_bd (mI S c1 8)
      refine zd (fun h6 => ?_) (fun h6 => ?_)
      · skip
        have g7 := i_eq h6
        have li8 : (512 : Int32).toInt = 512 := rfl
        have f9 := zG_s hI (0) (512) (c := 84) (k := 7) (by decide)
        refine zd (fun h10 => ?_) (fun h10 => ?_)
        · skip
          have g11 := i_le h10
          exact K _ hI (show xB S R from by first | (exact (xC_o (W := W) hpre0).2)) (show zFo W S R B (cF1 (cPr ab l) y) from by first | (have ty := xB_th (W := W) hpre0 rg_c1; have k6 := congrArg Int32.toInt ((kC_y hpre0 rg_c1).trans (congrFun hpre4 _)); have w8 := ty.2.2.2.2.2.2.2.1; rw [hpre1] at w8; have w8i := congrArg Int32.toInt w8; exact FO_p hpre5 hpre1 hpre4 hpre6 hpre8 hpre7 ty.1 (by rw [← k6]; omega)) | (exfalso; have ty := xB_th (W := W) hpre0 rg_c1; have l5 := C_rm5 hpre6 (fo_al hpre7 ty.1); have l6 := hpre5.2; omega)) (show zfP 84 (mI S) = fq from by first | (exact hpre9)) (show zN0 S = n0 from by first | (exact hpre10))
        · skip
          have g12 := i_nle h10
          refine ⟨i_ix (by omega) (by omega), ?_⟩
          refine ⟨zG_n hI th_c1, ?_⟩
          refine ⟨i_ix (by omega) (by omega), ?_⟩
          have hI13 : zJ84 f r C Z N (ma_put S 85 (mI S 84 7).toNatClampNeg (.inr (.inr (some c1)))) := zG_rf hI (by decide) (by decide +kernel) (fun _ z => by cases z; exact th_c1)
          have hI14 : zJ84 f r C Z N (ma_put (ma_put S 85 (mI S 84 7).toNatClampNeg (.inr (.inr (some c1)))) 86 (mI S 84 7).toNatClampNeg (.inl (0 : Int32))) := zG_fa hI13 rfl (by decide) (by decide) (by decide) trivial
          first | have e16 : ((mI S 84 7) + (1 : Int32)).toInt = (mI S 84 7).toInt + (1) := i_addk rfl (by omega) (by omega) | have b17 := i_bd ((mI S 84 7) + (1 : Int32))
          have hI15 : zJ84 f r C Z N (ma_put (ma_put (ma_put S 85 (mI S 84 7).toNatClampNeg (.inr (.inr (some c1)))) 86 (mI S 84 7).toNatClampNeg (.inl (0 : Int32))) 84 7 (.inl ((mI S 84 7) + (1 : Int32)))) := zG_sp hI14 (0) (512) rfl (by decide) (by decide) (by decide) trivial (by omega) (by omega)
          exact K _ hI15 (show xB (ma_put (ma_put (ma_put S 85 (mI S 84 7).toNatClampNeg (.inr (.inr (some c1)))) 86 (mI S 84 7).toNatClampNeg (.inl (0 : Int32))) 84 7 (.inl ((mI S 84 7) + (1 : Int32)))) R from by first | (exact (xC_n (c := 84) (k := 7) (x := ((mI S 84 7) + (1 : Int32))) (xC_n (c := 86) (k := (mI S 84 7).toNatClampNeg) (x := (0 : Int32)) (xC_85 (n := (mI S 84 7).toNatClampNeg) (xC_o (W := W) hpre0)) (zir_W hpre2 rfl (by decide))) (zir_W hpre2 rfl (by decide))).2)) (show zFo W (ma_put (ma_put (ma_put S 85 (mI S 84 7).toNatClampNeg (.inr (.inr (some c1)))) 86 (mI S 84 7).toNatClampNeg (.inl (0 : Int32))) 84 7 (.inl ((mI S 84 7) + (1 : Int32)))) R B (cF1 (cPr ab l) y) from by first | (have ty := xB_th (W := W) hpre0 rg_c1; have k6 := congrArg Int32.toInt ((kC_y hpre0 rg_c1).trans (congrFun hpre4 _)); have w8 := ty.2.2.2.2.2.2.2.1; rw [hpre1] at w8; have w8i := congrArg Int32.toInt w8; have l5 := C_rm5 hpre6 (fo_al hpre7 ty.1); exact FO_r (St_ps hpre5 rg_c1 l5 rfl rfl) (by rw [(xC_n (c := 84) (k := 7) (x := ((mI S 84 7) + (1 : Int32))) (xC_n (c := 86) (k := (mI S 84 7).toNatClampNeg) (x := (0 : Int32)) (xC_85 (n := (mI S 84 7).toNatClampNeg) (xC_o (W := W) hpre0)) (zir_W hpre2 rfl (by decide))) (zir_W hpre2 rfl (by decide))).1]; exact hpre1) (by rw [(xK_n (c := 84) (k := 7) (x := ((mI S 84 7) + (1 : Int32))) (xK_n (c := 86) (k := (mI S 84 7).toNatClampNeg) (x := (0 : Int32)) (xK_85 (n := (mI S 84 7).toNatClampNeg) (xK_o (W := W) hpre0 rfl)) (zir_W hpre2 rfl (by decide))) (zir_W hpre2 rfl (by decide))).2]; exact hpre4) hpre6 hpre8 hpre7 ty.1 (by rw [← k6]; omega) (Int32.toInt_inj.mp (by rw [← w8i]; show _ = (0 : Int); omega)))) (show zfP 84 (mI (ma_put (ma_put (ma_put S 85 (mI S 84 7).toNatClampNeg (.inr (.inr (some c1)))) 86 (mI S 84 7).toNatClampNeg (.inl (0 : Int32))) 84 7 (.inl ((mI S 84 7) + (1 : Int32))))) = fq from by first | (exact (zf_7.trans ((zf_n (P := 84) (c := 86) (by decide)).trans ((zf_r (P := 84)).trans hpre9))))) (show zN0 (ma_put (ma_put (ma_put S 85 (mI S 84 7).toNatClampNeg (.inr (.inr (some c1)))) 86 (mI S 84 7).toNatClampNeg (.inl (0 : Int32))) 84 7 (.inl ((mI S 84 7) + (1 : Int32)))) = n0 from by first | (exact ((n0_p (c := 84) (by decide)).trans ((n0_p (c := 86) (by decide)).trans (n0_r.trans hpre10)))))
      · skip
        have g18 := i_ne h6
        refine sp_84_69_sk (ab := (aS W S)) (R := R) (W := W) (y := y) (kk := (kC S)) (n0 := n0) c1 (by omega) (by omega) (zJ84_dn hI) th_c1 (show xB S R from by first | (exact (xC_o (W := 75) hpre0).2)) (show aS W S = (aS W S) from by first | (exact rfl)) (show xW W from by first | (exact hpre2) | (exact xW88) | (exact xW75)) (show zTa R y = some c1 from by first | (exact rg_c1)) (show kC S = (kC S) from by first | (exact rfl)) (show zN0 S = n0 from by first | (exact hpre10)) (fun S2 hL_S2 rp0_S2 rp1_S2 rp2_S2 rp3_S2 => zv_n ⟨zG_T hL_S2, ?_⟩)
        have hI_S2 := zJ84_up hI hL_S2
        have rp0_S2 : xB S2 R := by
          have z := rp0_S2
          (try rw [show mI S 65 = f 65 from funext (fun k => zG_z hI rfl)] at z)
          (try rw [show mI S 64 1 = f 64 1 from zG_z hI rfl] at z)
          exact z
        have rp1_S2 : aS W S2 = aGr (aS W S) y := by
          have z := rp1_S2
          (try rw [show mI S 65 = f 65 from funext (fun k => zG_z hI rfl)] at z)
          (try rw [show mI S 64 1 = f 64 1 from zG_z hI rfl] at z)
          exact z
        have rp2_S2 : ∀ n, xAl (aS W S) n → kC S2 n = (kC S) n + (if ((aS W S) 69 5).toInt < 512 then Int32.ofNat (cIs y n) else 0) := by
          have z := rp2_S2
          (try rw [show mI S 65 = f 65 from funext (fun k => zG_z hI rfl)] at z)
          (try rw [show mI S 64 1 = f 64 1 from zG_z hI rfl] at z)
          exact z
        have rp3_S2 : zN0 S2 = n0 := by
          have z := rp3_S2
          (try rw [show mI S 65 = f 65 from funext (fun k => zG_z hI rfl)] at z)
          (try rw [show mI S 64 1 = f 64 1 from zG_z hI rfl] at z)
          exact z
        exact K _ hI_S2 (show xB S2 R from by first | (exact (xC_o (W := W) rp0_S2).2)) (show zFo W S2 R B (cF1 (cPr ab l) y) from by first | (have ty := xB_th (W := W) hpre0 rg_c1; have k6 := congrArg Int32.toInt ((kC_y hpre0 rg_c1).trans (congrFun hpre4 _)); have w8 := ty.2.2.2.2.2.2.2.1; rw [hpre1] at w8; have w8i := congrArg Int32.toInt w8; exact FO_g (St_fr hpre5 (funext (fun k => zG_r hL_S2 (by decide))) (funext (fun k => zG_z hL_S2 rfl)) (zG_z hL_S2 rfl)) (by have q := rp1_S2; rw [hpre1] at q; exact q) hpre6 hpre8 hpre7 ty.1 (by rw [← k6]; omega) (fun z => by rw [z] at w8i; have z0 : (0 : Int32).toInt = 0 := rfl; omega) (fun n hn => by have q := rp2_S2 n (by rw [hpre1]; exact hn); rw [hpre4, hpre1] at q; exact q))) (show zfP 84 (mI S2) = fq from by first | (exact ((zf_fr (P := 84) (S₉ := S2) (S := S) (fun _ => zG_z hL_S2 rfl)).trans hpre9))) (show zN0 S2 = n0 from by first | (exact rp3_S2))
    · skip
      have g19 := i_nle h3
      exact K _ hI (show xB S R from by first | (exact (xC_o (W := W) hpre0).2)) (show zFo W S R B (cF1 (cPr ab l) y) from by first | (have ty := xB_th (W := W) hpre0 rg_c1; have k6 := congrArg Int32.toInt ((kC_y hpre0 rg_c1).trans (congrFun hpre4 _)); have w8 := ty.2.2.2.2.2.2.2.1; rw [hpre1] at w8; have w8i := congrArg Int32.toInt w8; exact FO_p hpre5 hpre1 hpre4 hpre6 hpre8 hpre7 ty.1 (by rw [← k6]; omega)) | (exfalso; have ty := xB_th (W := W) hpre0 rg_c1; have l5 := C_rm5 hpre6 (fo_al hpre7 ty.1); have l6 := hpre5.2; omega)) (show zfP 84 (mI S) = fq from by first | (exact hpre9)) (show zN0 S = n0 from by first | (exact hpre10))

/-! from 95.m27 -/
/-! COUNTS, the class (written by wip/tools/gen20k.py) -/
theorem g_26_84_sk_0 {X : Nat × (Nat → Int32)} {d w : Nat} {S : ma_S} {Q : Option ma_V ⊕ Nat → ma_S → Prop} (t : Nat) (i : Int32) (hd : 3 ≤ d) (hw : 64 ≤ w) (hS : zT S) (h : (126 ≤ t ∧ t < mN S) ∧ ((126 ≤ t ∧ t < mN S) ∧ (if i < 0 then (Q (.inl none) S) else ((126 ≤ t ∧ t < mN S) ∧ (if ((mI S t 2) - (1 : Int32)) ≤ i then (Q (.inl none) S) else ((126 ≤ t ∧ t < mN S) ∧ (if (lg_cmp ((((mL S t 3).toUInt64 >>> (i.toInt64.toUInt64 &&& Int64.toUInt64 63)).toInt64) &&& (1 : Int64)) (0 : Int64)) = 0 then (Q (.inl none) S) else (ma_wp X (d - 1) (w - 24) 94 0 [(0, .inr (.inr (some 69))), (1, .inr (.inr (some t))), (2, .inl i), (3, .inr (.inr none))] [] S (zo (fun v2 S1 => zT S1 ∧ (ma_wp X (d - 1) (w - 21) 25 0 [(0, .inr (.inr (some 84))), (1, .inr (.inr v2))] [] S1 (zv (fun S3 => zT S3 ∧ (Q (.inl none) S3)) (fun x S9 => Q (.inr x) S9)))) (fun x S9 => Q (.inr x) S9)))))))))) : ma_wp X d w 26 0 [(0, .inr (.inr (some 84))), (1, .inr (.inr (some t))), (2, .inl i)] [] S Q := by
  refine zw_push hm_26 dX2_dropWord_0 (v := .inr (.inr (some t))) rfl ?_
  refine zw_push hm_26 dX2_dropWord_1 (v := .inl i) rfl ?_
  obtain ⟨hg, h⟩ := h
  refine zw_cv hm_26 dX2_dropWord_2 v_2_50_9 hm_113 [.inl i] [] rfl (zT_trt hS hg) ⟨by omega, by omega⟩ rfl ?_
  show ma_wp X (d - 1) (w - 21) 113 0 [(0, .inr (.inr (some t))), (1, .inl i)] [] S _
  refine zw_push hm_113 dX9_isReference_0 (v := .inr (.inr (some t))) rfl ?_
  refine zw_push hm_113 dX9_isReference_1 (v := .inl i) rfl ?_
  obtain ⟨hg, h⟩ := h
  refine zw_cv hm_113 dX9_isReference_2 v_9_26_9 hm_114 [.inl i] [] rfl (zT_trt hS hg) ⟨by omega, by omega⟩ rfl ?_
  show ma_wp X ((d - 1) - 1) ((w - 21) - 21) 114 0 [(0, .inr (.inr (some t))), (1, .inl i)] [] S _
  refine zw_push hm_114 dX9_hasWord_0 (v := .inl i) rfl ?_
  refine zw_if0 hm_114 dX9_hasWord_1 (t := 18) rfl zc0_lt ?_ ?_
  · intro hc
    rw [if_pos hc] at h
    refine zw_push hm_114 dX9_hasWord_18 (v := .inl (0 : Int32)) rfl ?_
    refine zw_bret hm_114 dX9_hasWord_19 (by decide) ?_
    show ma_wp X (d - 1) (w - 21) 113 5 [(0, .inr (.inr (some t))), (1, .inl i)] [.inl (0 : Int32)] S _
    refine zw_if0 hm_113 dX9_isReference_5 (t := 25) rfl zc0_eq (fun _ => ?_) (fun hc => absurd (by decide) hc)
    refine zw_push hm_113 dX9_isReference_25 (v := .inl (0 : Int32)) rfl ?_
    refine zw_bret hm_113 dX9_isReference_26 (by decide) ?_
    show ma_wp X d w 26 5 [(0, .inr (.inr (some 84))), (1, .inr (.inr (some t))), (2, .inl i)] [.inl (0 : Int32)] S _
    refine zw_if0 hm_26 dX2_dropWord_5 (t := 22) rfl zc0_eq (fun _ => ?_) (fun hc => absurd (by decide) hc)
    exact zw_vret hm_26 dX2_dropWord_22 h
  · intro hc
    rw [if_neg hc] at h
    refine zw_push hm_114 dX9_hasWord_4 (v := .inl i) rfl ?_
    refine zw_push hm_114 dX9_hasWord_5 (v := .inr (.inr (some t))) rfl ?_
    obtain ⟨hg, h⟩ := h
    refine zw_gf hm_114 dX9_hasWord_6 (v := .inl (mI S t 2)) (zT_tis hS hg) (zT_tt hS hg) rfl f_9_16_9 rfl ?_
    refine zw_push hm_114 dX9_hasWord_9 (v := .inl (1 : Int32)) rfl ?_
    refine zw_stk hm_114 dX9_hasWord_10 (st₉ := [.inl ((mI S t 2) - (1 : Int32)), .inl i]) rfl rfl ?_
    refine zw_if2 hm_114 dX9_hasWord_11 (t := 18) rfl zc2_ge ?_ ?_
    · intro hc
      rw [if_pos hc] at h
      refine zw_push hm_114 dX9_hasWord_18 (v := .inl (0 : Int32)) rfl ?_
      refine zw_bret hm_114 dX9_hasWord_19 (by decide) ?_
      show ma_wp X (d - 1) (w - 21) 113 5 [(0, .inr (.inr (some t))), (1, .inl i)] [.inl (0 : Int32)] S _
      refine zw_if0 hm_113 dX9_isReference_5 (t := 25) rfl zc0_eq (fun _ => ?_) (fun hc => absurd (by decide) hc)
      refine zw_push hm_113 dX9_isReference_25 (v := .inl (0 : Int32)) rfl ?_
      refine zw_bret hm_113 dX9_isReference_26 (by decide) ?_
      show ma_wp X d w 26 5 [(0, .inr (.inr (some 84))), (1, .inr (.inr (some t))), (2, .inl i)] [.inl (0 : Int32)] S _
      refine zw_if0 hm_26 dX2_dropWord_5 (t := 22) rfl zc0_eq (fun _ => ?_) (fun hc => absurd (by decide) hc)
      exact zw_vret hm_26 dX2_dropWord_22 h
    · intro hc
      rw [if_neg hc] at h
      refine zw_push hm_114 dX9_hasWord_14 (v := .inl (1 : Int32)) rfl ?_
      refine zw_goto hm_114 dX9_hasWord_15 (t := 19) rfl ?_
      refine zw_bret hm_114 dX9_hasWord_19 (by decide) ?_
      show ma_wp X (d - 1) (w - 21) 113 5 [(0, .inr (.inr (some t))), (1, .inl i)] [.inl (1 : Int32)] S _
      refine zw_if0 hm_113 dX9_isReference_5 (t := 25) rfl zc0_eq (fun hc => absurd hc (by decide)) (fun _ => ?_)
      refine zw_push hm_113 dX9_isReference_8 (v := .inr (.inr (some t))) rfl ?_
      obtain ⟨hg, h⟩ := h
      refine zw_gf hm_113 dX9_isReference_9 (v := .inr (.inl (mL S t 3))) (zT_tis hS hg) (zT_tt hS hg) rfl f_9_19_9 rfl ?_
      refine zw_push hm_113 dX9_isReference_12 (v := .inl i) rfl ?_
      refine zw_stk hm_113 dX9_isReference_13 (st₉ := [.inr (.inl (((mL S t 3).toUInt64 >>> (i.toInt64.toUInt64 &&& Int64.toUInt64 63)).toInt64))]) rfl rfl ?_
      refine zw_push hm_113 dX9_isReference_14 (v := .inr (.inl (1 : Int64))) rfl ?_
      refine zw_stk hm_113 dX9_isReference_15 (st₉ := [.inr (.inl ((((mL S t 3).toUInt64 >>> (i.toInt64.toUInt64 &&& Int64.toUInt64 63)).toInt64) &&& (1 : Int64)))]) rfl rfl ?_
      refine zw_push hm_113 dX9_isReference_16 (v := .inr (.inl (0 : Int64))) rfl ?_
      refine zw_stk hm_113 dX9_isReference_17 (st₉ := [.inl (lg_cmp ((((mL S t 3).toUInt64 >>> (i.toInt64.toUInt64 &&& Int64.toUInt64 63)).toInt64) &&& (1 : Int64)) (0 : Int64))]) rfl rfl ?_
      refine zw_if0 hm_113 dX9_isReference_18 (t := 25) rfl zc0_eq ?_ ?_
      · intro hc
        rw [if_pos hc] at h
        refine zw_push hm_113 dX9_isReference_25 (v := .inl (0 : Int32)) rfl ?_
        refine zw_bret hm_113 dX9_isReference_26 (by decide) ?_
        show ma_wp X d w 26 5 [(0, .inr (.inr (some 84))), (1, .inr (.inr (some t))), (2, .inl i)] [.inl (0 : Int32)] S _
        refine zw_if0 hm_26 dX2_dropWord_5 (t := 22) rfl zc0_eq (fun _ => ?_) (fun hc => absurd (by decide) hc)
        exact zw_vret hm_26 dX2_dropWord_22 h
      · intro hc
        rw [if_neg hc] at h
        refine zw_push hm_113 dX9_isReference_21 (v := .inl (1 : Int32)) rfl ?_
        refine zw_goto hm_113 dX9_isReference_22 (t := 26) rfl ?_
        refine zw_bret hm_113 dX9_isReference_26 (by decide) ?_
        show ma_wp X d w 26 5 [(0, .inr (.inr (some 84))), (1, .inr (.inr (some t))), (2, .inl i)] [.inl (1 : Int32)] S _
        refine zw_if0 hm_26 dX2_dropWord_5 (t := 22) rfl zc0_eq (fun hc => absurd hc (by decide)) (fun _ => ?_)
        refine zw_push hm_26 dX2_dropWord_8 (v := .inr (.inr (some 84))) rfl ?_
        refine zw_push hm_26 dX2_dropWord_9 (v := .inr (.inr (some 84))) rfl ?_
        refine zw_gf hm_26 dX2_dropWord_10 (v := .inr (.inr (some 69))) (zT_is hS s_84) (zT_t hS s_84) rfl f_2_41_2 (zT_f hS r_84_3) ?_
        refine zw_push hm_26 dX2_dropWord_13 (v := .inr (.inr (some t))) rfl ?_
        refine zw_push hm_26 dX2_dropWord_14 (v := .inl i) rfl ?_
        refine zw_push hm_26 dX2_dropWord_15 (v := .inr (.inr none)) rfl ?_
        refine zw_cv hm_26 dX2_dropWord_16 v_2_53_7 hm_94 [.inr (.inr none), .inl i, .inr (.inr (some t))] [.inr (.inr (some 84))] rfl (zT_rt hS s_69 rfl) ⟨by omega, by omega⟩ rfl (zw_mono h (zo_go ?_ ?_))
        · intro v2 S1 hv
          obtain ⟨hS1, h⟩ := hv
          refine zw_cv hm_26 dX2_dropWord_19 v_2_28_2 hm_25 [.inr (.inr v2)] [] rfl (zT_rt hS1 s_84 rfl) ⟨by omega, by omega⟩ rfl (zw_mono h (zv_go ?_ ?_))
          · intro S3 hv
            obtain ⟨hS3, h⟩ := hv
            exact zw_vret hm_26 dX2_dropWord_22 h
          · intro x S9 hx
            exact ⟨by decide, hx⟩
        · intro x S9 hx
          exact ⟨by decide, hx⟩
theorem sp_26_84_sk {X : Nat × (Nat → Int32)} {d w : Nat} {f : Nat → Nat → Int32} {r : Nat → Nat → Option Nat} {C Z N : Nat} {Q : Option ma_V ⊕ Nat → ma_S → Prop} {ab : Nat→Nat→Int32} {R : zRT} {W : Nat} {kk : Nat→Int32} {y : Int32} {l : zLS} {B : Int} {fq : Nat→Int32} {n0 : Nat→Nat→Int32} {S : ma_S} (t : Nat) (i : Int32) (hd : 3 ≤ d) (hw : 64 ≤ w) (hI : zJ84 f r C Z N S) (th_t : 126 ≤ t ∧ t < N) (hpre0 : xB S R) (hpre1 : aS W S = ab) (hpre2 : xW W) (hpre3 : zTa R y = some t) (hpre4 : kC S = kk) (hpre5 : zSt S R ((y, i + 1) :: l)) (hpre6 : cC ab ((y, i) :: l) kk B) (hpre7 : B ≤ 1000000) (hpre8 : 0 ≤ i.toInt) (hpre9 : i.toInt < (ab 128 y.toNatClampNeg).toInt - 1) (hpre10 : zfP 84 (mI S) = fq) (hpre11 : zN0 S = n0) (K : ∀ S₉, zJ84 f r C Z N S₉ → (xB S₉ R) → (zFo W S₉ R B (cSt (cPr ab ((y, i) :: l)))) → (zfP 84 (mI S₉) = fq) → (zN0 S₉ = n0) → Q (.inl none) S₉) : ma_wp X d w 26 0 [(0, .inr (.inr (some 84))), (1, .inr (.inr (some t))), (2, .inl i)] [] S Q := by
  refine g_26_84_sk_0 t i (by omega) (by omega) (zG_T hI) ?_
  refine ⟨zG_n hI th_t, ?_⟩
  refine ⟨zG_n hI th_t, ?_⟩
  have b1 := i_bd i
  have li2 : (0 : Int32).toInt = 0 := rfl
  refine zd (fun h3 => ?_) (fun h3 => ?_)
  · skip
    have g4 := i_lt h3
    exact K _ hI (show xB S R from by first | (exact (xC_o (W := W) hpre0).2)) (show zFo W S R B (cSt (cPr ab ((y, i) :: l))) from by first | (have ty := xB_th (W := W) hpre0 hpre3; have z2 := congrArg Int32.toInt ty.2.2.2.2.1; rw [hpre1] at z2; have il := hpre9; exact FD_0 hpre5 hpre1 hpre4 hpre6 hpre9 (irw_n hpre0 hpre3 hpre1 (by omega) (by assumption))) | (exfalso; have ty := xB_th (W := W) hpre0 hpre3; have z2 := congrArg Int32.toInt ty.2.2.2.2.1; rw [hpre1] at z2; have il := hpre9; omega)) (show zfP 84 (mI S) = fq from by first | (exact hpre10)) (show zN0 S = n0 from by first | (exact hpre11))
  · skip
    have g5 := i_nlt h3
    refine ⟨zG_n hI th_t, ?_⟩
    have f6 := zG_th hI th_t
    first | have e7 : ((mI S t 2) - (1 : Int32)).toInt = (mI S t 2).toInt - (1) := i_subk rfl (by omega) (by omega) | have b8 := i_bd ((mI S t 2) - (1 : Int32))
    refine zd (fun h9 => ?_) (fun h9 => ?_)
    · skip
      have g10 := i_le h9
      exact K _ hI (show xB S R from by first | (exact (xC_o (W := W) hpre0).2)) (show zFo W S R B (cSt (cPr ab ((y, i) :: l))) from by first | (have ty := xB_th (W := W) hpre0 hpre3; have z2 := congrArg Int32.toInt ty.2.2.2.2.1; rw [hpre1] at z2; have il := hpre9; exact FD_0 hpre5 hpre1 hpre4 hpre6 hpre9 (irw_n hpre0 hpre3 hpre1 (by omega) (by assumption))) | (exfalso; have ty := xB_th (W := W) hpre0 hpre3; have z2 := congrArg Int32.toInt ty.2.2.2.2.1; rw [hpre1] at z2; have il := hpre9; omega)) (show zfP 84 (mI S) = fq from by first | (exact hpre10)) (show zN0 S = n0 from by first | (exact hpre11))
    · skip
      have g11 := i_nle h9
      refine ⟨zG_n hI th_t, ?_⟩
      have b12 := i_bd (lg_cmp ((((mL S t 3).toUInt64 >>> (i.toInt64.toUInt64 &&& Int64.toUInt64 63)).toInt64) &&& (1 : Int64)) (0 : Int64))
      refine zd (fun h13 => ?_) (fun h13 => ?_)
      · skip
        have g14 := i_eq h13
        exact K _ hI (show xB S R from by first | (exact (xC_o (W := W) hpre0).2)) (show zFo W S R B (cSt (cPr ab ((y, i) :: l))) from by first | (have ty := xB_th (W := W) hpre0 hpre3; have z2 := congrArg Int32.toInt ty.2.2.2.2.1; rw [hpre1] at z2; have il := hpre9; exact FD_0 hpre5 hpre1 hpre4 hpre6 hpre9 (irw_n hpre0 hpre3 hpre1 (by omega) (by assumption))) | (exfalso; have ty := xB_th (W := W) hpre0 hpre3; have z2 := congrArg Int32.toInt ty.2.2.2.2.1; rw [hpre1] at z2; have il := hpre9; omega)) (show zfP 84 (mI S) = fq from by first | (exact hpre10)) (show zN0 S = n0 from by first | (exact hpre11))
      · skip
        have g15 := i_ne h13
        refine sp_94_69_sk (ab := (aS W S)) (R := R) (W := W) (y := ((-1 : Int32))) (yt := (y)) (kk := (kC S)) (n0 := n0) t (i) (none) (by omega) (by omega) (zJ84_dn hI) th_t (fun _ z => by cases z) (show xB S R from by first | (exact (xC_o (W := 75) hpre0).2)) (show aS W S = (aS W S) from by first | (exact rfl)) (show xW W from by first | (exact hpre2) | (exact xW88) | (exact xW75)) (show zTa R (y) = some t from by first | (exact hpre3)) (show none = zTa R ((-1 : Int32)) from by first | (exact ta_m1) | (exact ta_no (by omega))) (by omega) (show kC S = (kC S) from by first | (exact rfl)) (show zN0 S = n0 from by first | (exact hpre11)) (fun v2 S1 hL_S1 hq_v2 rp0_S1 rp1_S1 rp2_S1 rp3_S1 rp4_S1 => zo_n ⟨zG_T hL_S1, ?_⟩)
        have hI_S1 := zJ84_up hI hL_S1
        have rp0_S1 : xB S1 R := by
          have z := rp0_S1
          (try rw [show mI S 65 = f 65 from funext (fun k => zG_z hI rfl)] at z)
          (try rw [show mI S 64 1 = f 64 1 from zG_z hI rfl] at z)
          exact z
        have rp1_S1 : aS W S1 = aCi (aS W S) (y).toNatClampNeg i (aNm (aS W S) ((-1 : Int32))) := by
          have z := rp1_S1
          (try rw [show mI S 65 = f 65 from funext (fun k => zG_z hI rfl)] at z)
          (try rw [show mI S 64 1 = f 64 1 from zG_z hI rfl] at z)
          exact z
        have rp2_S1 : v2 = zTa R (aRef (aS W S) (y).toNatClampNeg i) := by
          have z := rp2_S1
          (try rw [show mI S 65 = f 65 from funext (fun k => zG_z hI rfl)] at z)
          (try rw [show mI S 64 1 = f 64 1 from zG_z hI rfl] at z)
          exact z
        have rp3_S1 : ∀ n, xAl (aS W S) n → kC S1 n = (kC S) n + Int32.ofNat (cIs ((-1 : Int32)) n) - Int32.ofNat (cIs (aRef (aS W S) (y).toNatClampNeg i) n) := by
          have z := rp3_S1
          (try rw [show mI S 65 = f 65 from funext (fun k => zG_z hI rfl)] at z)
          (try rw [show mI S 64 1 = f 64 1 from zG_z hI rfl] at z)
          exact z
        have rp4_S1 : zN0 S1 = n0 := by
          have z := rp4_S1
          (try rw [show mI S 65 = f 65 from funext (fun k => zG_z hI rfl)] at z)
          (try rw [show mI S 64 1 = f 64 1 from zG_z hI rfl] at z)
          exact z
        refine sp_25_84_sk (ab := (aS W S1)) (R := R) (W := W) (kk := (kC S1)) (y := ((aRef (aS W S) (y).toNatClampNeg i))) (l := ((y, i + 1) :: l)) (B := B) (fq := (zfP 84 (mI S1))) (n0 := n0) (v2) (by omega) (by omega) hI_S1 hq_v2 (show xB S1 R from by first | (exact (xC_o (W := W) rp0_S1).2)) (show aS W S1 = (aS W S1) from by first | (exact rfl)) (show xW W from by first | (exact hpre2) | (exact xW88) | (exact xW75)) (show v2 = zTa R ((aRef (aS W S) (y).toNatClampNeg i)) from by first | (exact rp2_S1)) (show kC S1 = (kC S1) from by first | (exact rfl)) (show zSt S1 R ((y, i + 1) :: l) from by first | (exact St_fr hpre5 (funext (fun k => zG_r hL_S1 (by decide))) (funext (fun k => zG_z hL_S1 rfl)) (zG_z hL_S1 rfl))) (show cC (aS W S1) ((y, i + 1) :: l) (kC S1) B from by first | (have dr := DR (b := aS W S1) (K₉ := kC S1) hpre6 hpre9 (irw_y hpre0 hpre3 hpre1 (by omega) (by assumption)) (fun n hn => by have q := rp3_S1 n (by rw [hpre1]; exact hn); rw [hpre4, hpre1] at q; exact q) (by have q := rp1_S1; rw [hpre1] at q; exact q); exact dr.1)) (show cOk (cRa (aS W S1) ((y, i + 1) :: l)) ((aRef (aS W S) (y).toNatClampNeg i)) from by first | (have dr := DR (b := aS W S1) (K₉ := kC S1) hpre6 hpre9 (irw_y hpre0 hpre3 hpre1 (by omega) (by assumption)) (fun n hn => by have q := rp3_S1 n (by rw [hpre1]; exact hn); rw [hpre4, hpre1] at q; exact q) (by have q := rp1_S1; rw [hpre1] at q; exact q); (try rw [hpre1]); exact dr.2.1)) (show B ≤ 1000000 from by first | (exact hpre7)) (show zfP 84 (mI S1) = (zfP 84 (mI S1)) from by first | (exact rfl)) (show zN0 S1 = n0 from by first | (exact rp4_S1)) (fun S3 hI_S3 rp0_S3 rp1_S3 rp2_S3 rp3_S3 => zv_n ⟨zG_T hI_S3, ?_⟩)
        have rp0_S3 : xB S3 R := rp0_S3
        have rp1_S3 : zFo W S3 R B (cF1 (cPr (aS W S1) ((y, i + 1) :: l)) ((aRef (aS W S) (y).toNatClampNeg i))) := rp1_S3
        have rp2_S3 : zfP 84 (mI S3) = (zfP 84 (mI S1)) := rp2_S3
        have rp3_S3 : zN0 S3 = n0 := rp3_S3
        exact K _ hI_S3 (show xB S3 R from by first | (exact (xC_o (W := W) rp0_S3).2)) (show zFo W S3 R B (cSt (cPr ab ((y, i) :: l))) from by first | (have dr := DR (b := aS W S1) (K₉ := kC S1) hpre6 hpre9 (irw_y hpre0 hpre3 hpre1 (by omega) (by assumption)) (fun n hn => by have q := rp3_S1 n (by rw [hpre1]; exact hn); rw [hpre4, hpre1] at q; exact q) (by have q := rp1_S1; rw [hpre1] at q; exact q); have q := rp1_S3; (try rw [hpre1] at q); rw [dr.2.2] at q; exact q)) (show zfP 84 (mI S3) = fq from by first | (exact (rp2_S3.trans ((zf_fr (P := 84) (S₉ := S1) (S := S) (fun _ => zG_z hL_S1 rfl)).trans hpre10)))) (show zN0 S3 = n0 from by first | (exact rp3_S3))

/-! from 95.m28 -/
/-! COUNTS, the class (written by wip/tools/gen20k.py) -/
theorem g_24_84_sk_0 {X : Nat × (Nat → Int32)} {d w : Nat} {S : ma_S} {Q : Option ma_V ⊕ Nat → ma_S → Prop} (t : Option Nat) (hd : 4 ≤ d) (hw : 86 ≤ w) (hS : zT S) (h : ma_wp X (d - 1) (w - 21) 25 0 [(0, .inr (.inr (some 84))), (1, .inr (.inr t))] [] (ma_put S 84 7 (.inl (0 : Int32))) (zv (fun S1 => zT S1 ∧ (ma_wp X d w 24 12 [(0, .inr (.inr (some 84))), (2, .inl (0 : Int32))] [] S1 Q)) (fun x S9 => Q (.inr x) S9))) : ma_wp X d w 24 0 [(0, .inr (.inr (some 84))), (1, .inr (.inr t))] [] S Q := by
  refine zw_push hm_24 dX2_noteFewer_0 (v := .inr (.inr (some 84))) rfl ?_
  refine zw_push hm_24 dX2_noteFewer_1 (v := .inl (0 : Int32)) rfl ?_
  refine zw_pf hm_24 dX2_noteFewer_2 (zT_is hS s_84) (zT_t hS s_84) p_2_25_2 zk_int ?_
  refine zw_push hm_24 dX2_noteFewer_5 (v := .inr (.inr (some 84))) rfl ?_
  refine zw_push hm_24 dX2_noteFewer_6 (v := .inr (.inr t)) rfl ?_
  refine zw_cv hm_24 dX2_noteFewer_7 v_2_28_2 hm_25 [.inr (.inr t)] [] rfl (zT_rt (zT_pi hS) s_84 rfl) ⟨by omega, by omega⟩ rfl (zw_mono h (zv_go ?_ ?_))
  · intro S1 hv
    obtain ⟨hS1, h⟩ := hv
    refine zw_push hm_24 dX2_noteFewer_10 (v := .inl (0 : Int32)) rfl ?_
    refine zw_sto hm_24 dX2_noteFewer_11 [(2, .inl (0 : Int32)), (0, .inr (.inr (some 84))), (1, .inr (.inr t))] rfl rfl rfl ?_
    exact zw_sub (ma_nd_of (ks := [0, 2]) rfl (by decide)) (ma_nd_of (ks := [2, 0, 1]) rfl (by decide)) (ma_le_cons rfl (ma_le_cons rfl (ma_le_nil _))) h
  · intro x S9 hx
    exact ⟨by decide, hx⟩
theorem g_24_84_sk_12 {X : Nat × (Nat → Int32)} {d w : Nat} {S : ma_S} {Q : Option ma_V ⊕ Nat → ma_S → Prop} (l2 : Int32) (hd : 4 ≤ d) (hw : 86 ≤ w) (hS : zT S) (h : if (mI S 84 7) ≤ 0 then (Q (.inl none) S) else (if (1000000 : Int32) ≤ l2 then (Q (.inl none) S) else ((0 ≤ ((mI S 84 7) - (1 : Int32)) ∧ ((mI S 84 7) - (1 : Int32)).toNatClampNeg < 512) ∧ ((0 ≤ ((mI S 84 7) - (1 : Int32)) ∧ ((mI S 84 7) - (1 : Int32)).toNatClampNeg < 512) ∧ (((mR S 85 ((mI S 84 7) - (1 : Int32)).toNatClampNeg) = none → ma_wp X d w 24 12 [(0, .inr (.inr (some 84))), (2, .inl (l2 + (1 : Int32)))] [] (ma_put S 84 7 (.inl ((mI S 84 7) - (1 : Int32)))) Q) ∧ (∀ c1, (mR S 85 ((mI S 84 7) - (1 : Int32)).toNatClampNeg) = some c1 → (126 ≤ c1 ∧ c1 < mN S) ∧ (if (mI S 86 ((mI S 84 7) - (1 : Int32)).toNatClampNeg) < 0 then (ma_wp X (d - 1) (w - 23) 87 0 [(0, .inr (.inr (some 69))), (1, .inr (.inr (some c1)))] [] (ma_put S 84 7 (.inl ((mI S 84 7) - (1 : Int32)))) (zv (fun S2 => zT S2 ∧ (ma_wp X d w 24 12 [(0, .inr (.inr (some 84))), (2, .inl (l2 + (1 : Int32)))] [] S2 Q)) (fun x S9 => Q (.inr x) S9))) else ((126 ≤ c1 ∧ c1 < mN S) ∧ (if ((mI S c1 2) - (1 : Int32)) ≤ (mI S 86 ((mI S 84 7) - (1 : Int32)).toNatClampNeg) then (ma_wp X (d - 1) (w - 23) 87 0 [(0, .inr (.inr (some 69))), (1, .inr (.inr (some c1)))] [] (ma_put S 84 7 (.inl ((mI S 84 7) - (1 : Int32)))) (zv (fun S4 => zT S4 ∧ (ma_wp X d w 24 12 [(0, .inr (.inr (some 84))), (2, .inl (l2 + (1 : Int32)))] [] S4 Q)) (fun x S9 => Q (.inr x) S9))) else ((0 ≤ ((mI S 84 7) - (1 : Int32)) ∧ ((mI S 84 7) - (1 : Int32)).toNatClampNeg < 512) ∧ (ma_wp X (d - 1) (w - 22) 26 0 [(0, .inr (.inr (some 84))), (1, .inr (.inr (some c1))), (2, .inl (mI S 86 ((mI S 84 7) - (1 : Int32)).toNatClampNeg))] [] (ma_put S 86 ((mI S 84 7) - (1 : Int32)).toNatClampNeg (.inl ((mI S 86 ((mI S 84 7) - (1 : Int32)).toNatClampNeg) + (1 : Int32)))) (zv (fun S6 => zT S6 ∧ (ma_wp X d w 24 12 [(0, .inr (.inr (some 84))), (2, .inl (l2 + (1 : Int32)))] [] S6 Q)) (fun x S9 => Q (.inr x) S9))))))))))))) : ma_wp X d w 24 12 [(0, .inr (.inr (some 84))), (2, .inl l2)] [] S Q := by
  refine zw_push hm_24 dX2_noteFewer_12 (v := .inr (.inr (some 84))) rfl ?_
  refine zw_gf hm_24 dX2_noteFewer_13 (v := .inl (mI S 84 7)) (zT_is hS s_84) (zT_t hS s_84) rfl f_2_25_2 rfl ?_
  refine zw_if0 hm_24 dX2_noteFewer_16 (t := 125) rfl zc0_le ?_ ?_
  · intro hc
    rw [if_pos hc] at h
    exact zw_vret hm_24 dX2_noteFewer_125 h
  · intro hc
    rw [if_neg hc] at h
    refine zw_push hm_24 dX2_noteFewer_19 (v := .inl l2) rfl ?_
    refine zw_lc hm_24 dX2_noteFewer_20 lc_2_32 ?_
    refine zw_if2 hm_24 dX2_noteFewer_22 (t := 125) rfl zc2_ge ?_ ?_
    · intro hc
      rw [if_pos hc] at h
      exact zw_vret hm_24 dX2_noteFewer_125 h
    · intro hc
      rw [if_neg hc] at h
      refine zw_push hm_24 dX2_noteFewer_25 (v := .inr (.inr (some 84))) rfl ?_
      refine zw_gf hm_24 dX2_noteFewer_26 (v := .inr (.inr (some 85))) (zT_is hS s_84) (zT_t hS s_84) rfl f_2_11_2 (zT_f hS r_84_5) ?_
      refine zw_push hm_24 dX2_noteFewer_29 (v := .inr (.inr (some 84))) rfl ?_
      refine zw_gf hm_24 dX2_noteFewer_30 (v := .inl (mI S 84 7)) (zT_is hS s_84) (zT_t hS s_84) rfl f_2_25_2 rfl ?_
      refine zw_push hm_24 dX2_noteFewer_33 (v := .inl (1 : Int32)) rfl ?_
      refine zw_stk hm_24 dX2_noteFewer_34 (st₉ := [.inl ((mI S 84 7) - (1 : Int32)), .inr (.inr (some 85))]) rfl rfl ?_
      obtain ⟨hg, h⟩ := h
      refine zw_aa hm_24 dX2_noteFewer_35 (zT_is hS s_85) (zT_h hS s_85) rfl rfl hg rfl ?_
      show ma_wp X d w 24 36 [(0, .inr (.inr (some 84))), (2, .inl l2)] [.inr (.inr (mR S 85 ((mI S 84 7) - (1 : Int32)).toNatClampNeg))] S _
      refine zw_sto hm_24 dX2_noteFewer_36 [(3, .inr (.inr (mR S 85 ((mI S 84 7) - (1 : Int32)).toNatClampNeg))), (0, .inr (.inr (some 84))), (2, .inl l2)] rfl rfl rfl ?_
      refine zw_push hm_24 dX2_noteFewer_37 (v := .inr (.inr (some 84))) rfl ?_
      refine zw_gf hm_24 dX2_noteFewer_38 (v := .inr (.inr (some 86))) (zT_is hS s_84) (zT_t hS s_84) rfl f_2_17_2 (zT_f hS r_84_6) ?_
      refine zw_push hm_24 dX2_noteFewer_41 (v := .inr (.inr (some 84))) rfl ?_
      refine zw_gf hm_24 dX2_noteFewer_42 (v := .inl (mI S 84 7)) (zT_is hS s_84) (zT_t hS s_84) rfl f_2_25_2 rfl ?_
      refine zw_push hm_24 dX2_noteFewer_45 (v := .inl (1 : Int32)) rfl ?_
      refine zw_stk hm_24 dX2_noteFewer_46 (st₉ := [.inl ((mI S 84 7) - (1 : Int32)), .inr (.inr (some 86))]) rfl rfl ?_
      obtain ⟨hg, h⟩ := h
      refine zw_ia hm_24 dX2_noteFewer_47 (zT_is hS s_86) (zT_h hS s_86) rfl hg ?_
      show ma_wp X d w 24 48 [(3, .inr (.inr (mR S 85 ((mI S 84 7) - (1 : Int32)).toNatClampNeg))), (0, .inr (.inr (some 84))), (2, .inl l2)] [.inl (mI S 86 ((mI S 84 7) - (1 : Int32)).toNatClampNeg)] S _
      refine zw_sto hm_24 dX2_noteFewer_48 [(4, .inl (mI S 86 ((mI S 84 7) - (1 : Int32)).toNatClampNeg)), (3, .inr (.inr (mR S 85 ((mI S 84 7) - (1 : Int32)).toNatClampNeg))), (0, .inr (.inr (some 84))), (2, .inl l2)] rfl rfl rfl ?_
      refine zw_push hm_24 dX2_noteFewer_50 (v := .inr (.inr (mR S 85 ((mI S 84 7) - (1 : Int32)).toNatClampNeg))) rfl ?_
      refine zw_ifnonnull hm_24 dX2_noteFewer_51 (t := 67) rfl ?_ ?_
      · intro hc
        have h := h.1 hc
        (try rw [hc])
        show ma_wp X d w 24 54 [(4, .inl (mI S 86 ((mI S 84 7) - (1 : Int32)).toNatClampNeg)), (3, .inr (.inr none)), (0, .inr (.inr (some 84))), (2, .inl l2)] [] S _
        refine zw_push hm_24 dX2_noteFewer_54 (v := .inr (.inr (some 84))) rfl ?_
        refine zw_stk hm_24 dX2_noteFewer_55 (st₉ := [.inr (.inr (some 84)), .inr (.inr (some 84))]) rfl rfl ?_
        refine zw_gf hm_24 dX2_noteFewer_56 (v := .inl (mI S 84 7)) (zT_is hS s_84) (zT_t hS s_84) rfl f_2_25_2 rfl ?_
        refine zw_push hm_24 dX2_noteFewer_59 (v := .inl (1 : Int32)) rfl ?_
        refine zw_stk hm_24 dX2_noteFewer_60 (st₉ := [.inl ((mI S 84 7) - (1 : Int32)), .inr (.inr (some 84))]) rfl rfl ?_
        refine zw_pf hm_24 dX2_noteFewer_61 (zT_is hS s_84) (zT_t hS s_84) p_2_25_2 zk_int ?_
        refine zw_goto hm_24 dX2_noteFewer_64 (t := 119) rfl ?_
        refine zw_sto hm_24 dX2_noteFewer_119 [(2, .inl (l2 + (1 : Int32))), (4, .inl (mI S 86 ((mI S 84 7) - (1 : Int32)).toNatClampNeg)), (3, .inr (.inr none)), (0, .inr (.inr (some 84)))] rfl rfl rfl ?_
        refine zw_goto hm_24 dX2_noteFewer_122 (t := 12) rfl ?_
        exact zw_sub (ma_nd_of (ks := [0, 2]) rfl (by decide)) (ma_nd_of (ks := [2, 4, 3, 0]) rfl (by decide)) (ma_le_cons rfl (ma_le_cons rfl (ma_le_nil _))) h
      · intro c1 hc
        have h := h.2 c1 hc
        (try rw [hc])
        show ma_wp X d w 24 67 [(4, .inl (mI S 86 ((mI S 84 7) - (1 : Int32)).toNatClampNeg)), (3, .inr (.inr (some c1))), (0, .inr (.inr (some 84))), (2, .inl l2)] [] S _
        refine zw_push hm_24 dX2_noteFewer_67 (v := .inr (.inr (some c1))) rfl ?_
        refine zw_push hm_24 dX2_noteFewer_68 (v := .inl (mI S 86 ((mI S 84 7) - (1 : Int32)).toNatClampNeg)) rfl ?_
        obtain ⟨hg, h⟩ := h
        refine zw_cv hm_24 dX2_noteFewer_70 v_2_33_9 hm_114 [.inl (mI S 86 ((mI S 84 7) - (1 : Int32)).toNatClampNeg)] [] rfl (zT_trt hS hg) ⟨by omega, by omega⟩ rfl ?_
        show ma_wp X (d - 1) (w - 21) 114 0 [(0, .inr (.inr (some c1))), (1, .inl (mI S 86 ((mI S 84 7) - (1 : Int32)).toNatClampNeg))] [] S _
        refine zw_push hm_114 dX9_hasWord_0 (v := .inl (mI S 86 ((mI S 84 7) - (1 : Int32)).toNatClampNeg)) rfl ?_
        refine zw_if0 hm_114 dX9_hasWord_1 (t := 18) rfl zc0_lt ?_ ?_
        · intro hc
          rw [if_pos hc] at h
          refine zw_push hm_114 dX9_hasWord_18 (v := .inl (0 : Int32)) rfl ?_
          refine zw_bret hm_114 dX9_hasWord_19 (by decide) ?_
          show ma_wp X d w 24 73 [(4, .inl (mI S 86 ((mI S 84 7) - (1 : Int32)).toNatClampNeg)), (3, .inr (.inr (some c1))), (0, .inr (.inr (some 84))), (2, .inl l2)] [.inl (0 : Int32)] S _
          refine zw_if0 hm_24 dX2_noteFewer_73 (t := 101) rfl zc0_eq (fun _ => ?_) (fun hc => absurd (by decide) hc)
          refine zw_push hm_24 dX2_noteFewer_101 (v := .inr (.inr (some 84))) rfl ?_
          refine zw_stk hm_24 dX2_noteFewer_102 (st₉ := [.inr (.inr (some 84)), .inr (.inr (some 84))]) rfl rfl ?_
          refine zw_gf hm_24 dX2_noteFewer_103 (v := .inl (mI S 84 7)) (zT_is hS s_84) (zT_t hS s_84) rfl f_2_25_2 rfl ?_
          refine zw_push hm_24 dX2_noteFewer_106 (v := .inl (1 : Int32)) rfl ?_
          refine zw_stk hm_24 dX2_noteFewer_107 (st₉ := [.inl ((mI S 84 7) - (1 : Int32)), .inr (.inr (some 84))]) rfl rfl ?_
          refine zw_pf hm_24 dX2_noteFewer_108 (zT_is hS s_84) (zT_t hS s_84) p_2_25_2 zk_int ?_
          refine zw_push hm_24 dX2_noteFewer_111 (v := .inr (.inr (some 84))) rfl ?_
          refine zw_gf hm_24 dX2_noteFewer_112 (v := .inr (.inr (some 69))) (zT_is (zT_pi hS) s_84) (zT_t (zT_pi hS) s_84) rfl f_2_41_2 (zT_f (zT_pi hS) r_84_3) ?_
          refine zw_push hm_24 dX2_noteFewer_115 (v := .inr (.inr (some c1))) rfl ?_
          refine zw_cv hm_24 dX2_noteFewer_116 v_2_45_7 hm_87 [.inr (.inr (some c1))] [] rfl (zT_rt (zT_pi hS) s_69 rfl) ⟨by omega, by omega⟩ rfl (zw_mono h (zv_go ?_ ?_))
          · intro S2 hv
            obtain ⟨hS2, h⟩ := hv
            refine zw_sto hm_24 dX2_noteFewer_119 [(2, .inl (l2 + (1 : Int32))), (4, .inl (mI S 86 ((mI S 84 7) - (1 : Int32)).toNatClampNeg)), (3, .inr (.inr (some c1))), (0, .inr (.inr (some 84)))] rfl rfl rfl ?_
            refine zw_goto hm_24 dX2_noteFewer_122 (t := 12) rfl ?_
            exact zw_sub (ma_nd_of (ks := [0, 2]) rfl (by decide)) (ma_nd_of (ks := [2, 4, 3, 0]) rfl (by decide)) (ma_le_cons rfl (ma_le_cons rfl (ma_le_nil _))) h
          · intro x S9 hx
            exact ⟨by decide, hx⟩
        · intro hc
          rw [if_neg hc] at h
          refine zw_push hm_114 dX9_hasWord_4 (v := .inl (mI S 86 ((mI S 84 7) - (1 : Int32)).toNatClampNeg)) rfl ?_
          refine zw_push hm_114 dX9_hasWord_5 (v := .inr (.inr (some c1))) rfl ?_
          obtain ⟨hg, h⟩ := h
          refine zw_gf hm_114 dX9_hasWord_6 (v := .inl (mI S c1 2)) (zT_tis hS hg) (zT_tt hS hg) rfl f_9_16_9 rfl ?_
          refine zw_push hm_114 dX9_hasWord_9 (v := .inl (1 : Int32)) rfl ?_
          refine zw_stk hm_114 dX9_hasWord_10 (st₉ := [.inl ((mI S c1 2) - (1 : Int32)), .inl (mI S 86 ((mI S 84 7) - (1 : Int32)).toNatClampNeg)]) rfl rfl ?_
          refine zw_if2 hm_114 dX9_hasWord_11 (t := 18) rfl zc2_ge ?_ ?_
          · intro hc
            rw [if_pos hc] at h
            refine zw_push hm_114 dX9_hasWord_18 (v := .inl (0 : Int32)) rfl ?_
            refine zw_bret hm_114 dX9_hasWord_19 (by decide) ?_
            show ma_wp X d w 24 73 [(4, .inl (mI S 86 ((mI S 84 7) - (1 : Int32)).toNatClampNeg)), (3, .inr (.inr (some c1))), (0, .inr (.inr (some 84))), (2, .inl l2)] [.inl (0 : Int32)] S _
            refine zw_if0 hm_24 dX2_noteFewer_73 (t := 101) rfl zc0_eq (fun _ => ?_) (fun hc => absurd (by decide) hc)
            refine zw_push hm_24 dX2_noteFewer_101 (v := .inr (.inr (some 84))) rfl ?_
            refine zw_stk hm_24 dX2_noteFewer_102 (st₉ := [.inr (.inr (some 84)), .inr (.inr (some 84))]) rfl rfl ?_
            refine zw_gf hm_24 dX2_noteFewer_103 (v := .inl (mI S 84 7)) (zT_is hS s_84) (zT_t hS s_84) rfl f_2_25_2 rfl ?_
            refine zw_push hm_24 dX2_noteFewer_106 (v := .inl (1 : Int32)) rfl ?_
            refine zw_stk hm_24 dX2_noteFewer_107 (st₉ := [.inl ((mI S 84 7) - (1 : Int32)), .inr (.inr (some 84))]) rfl rfl ?_
            refine zw_pf hm_24 dX2_noteFewer_108 (zT_is hS s_84) (zT_t hS s_84) p_2_25_2 zk_int ?_
            refine zw_push hm_24 dX2_noteFewer_111 (v := .inr (.inr (some 84))) rfl ?_
            refine zw_gf hm_24 dX2_noteFewer_112 (v := .inr (.inr (some 69))) (zT_is (zT_pi hS) s_84) (zT_t (zT_pi hS) s_84) rfl f_2_41_2 (zT_f (zT_pi hS) r_84_3) ?_
            refine zw_push hm_24 dX2_noteFewer_115 (v := .inr (.inr (some c1))) rfl ?_
            refine zw_cv hm_24 dX2_noteFewer_116 v_2_45_7 hm_87 [.inr (.inr (some c1))] [] rfl (zT_rt (zT_pi hS) s_69 rfl) ⟨by omega, by omega⟩ rfl (zw_mono h (zv_go ?_ ?_))
            · intro S4 hv
              obtain ⟨hS4, h⟩ := hv
              refine zw_sto hm_24 dX2_noteFewer_119 [(2, .inl (l2 + (1 : Int32))), (4, .inl (mI S 86 ((mI S 84 7) - (1 : Int32)).toNatClampNeg)), (3, .inr (.inr (some c1))), (0, .inr (.inr (some 84)))] rfl rfl rfl ?_
              refine zw_goto hm_24 dX2_noteFewer_122 (t := 12) rfl ?_
              exact zw_sub (ma_nd_of (ks := [0, 2]) rfl (by decide)) (ma_nd_of (ks := [2, 4, 3, 0]) rfl (by decide)) (ma_le_cons rfl (ma_le_cons rfl (ma_le_nil _))) h
            · intro x S9 hx
              exact ⟨by decide, hx⟩
          · intro hc
            rw [if_neg hc] at h
            refine zw_push hm_114 dX9_hasWord_14 (v := .inl (1 : Int32)) rfl ?_
            refine zw_goto hm_114 dX9_hasWord_15 (t := 19) rfl ?_
            refine zw_bret hm_114 dX9_hasWord_19 (by decide) ?_
            show ma_wp X d w 24 73 [(4, .inl (mI S 86 ((mI S 84 7) - (1 : Int32)).toNatClampNeg)), (3, .inr (.inr (some c1))), (0, .inr (.inr (some 84))), (2, .inl l2)] [.inl (1 : Int32)] S _
            refine zw_if0 hm_24 dX2_noteFewer_73 (t := 101) rfl zc0_eq (fun hc => absurd hc (by decide)) (fun _ => ?_)
            refine zw_push hm_24 dX2_noteFewer_76 (v := .inr (.inr (some 84))) rfl ?_
            refine zw_gf hm_24 dX2_noteFewer_77 (v := .inr (.inr (some 86))) (zT_is hS s_84) (zT_t hS s_84) rfl f_2_17_2 (zT_f hS r_84_6) ?_
            refine zw_push hm_24 dX2_noteFewer_80 (v := .inr (.inr (some 84))) rfl ?_
            refine zw_gf hm_24 dX2_noteFewer_81 (v := .inl (mI S 84 7)) (zT_is hS s_84) (zT_t hS s_84) rfl f_2_25_2 rfl ?_
            refine zw_push hm_24 dX2_noteFewer_84 (v := .inl (1 : Int32)) rfl ?_
            refine zw_stk hm_24 dX2_noteFewer_85 (st₉ := [.inl ((mI S 84 7) - (1 : Int32)), .inr (.inr (some 86))]) rfl rfl ?_
            refine zw_push hm_24 dX2_noteFewer_86 (v := .inl (mI S 86 ((mI S 84 7) - (1 : Int32)).toNatClampNeg)) rfl ?_
            refine zw_push hm_24 dX2_noteFewer_88 (v := .inl (1 : Int32)) rfl ?_
            refine zw_stk hm_24 dX2_noteFewer_89 (st₉ := [.inl ((mI S 86 ((mI S 84 7) - (1 : Int32)).toNatClampNeg) + (1 : Int32)), .inl ((mI S 84 7) - (1 : Int32)), .inr (.inr (some 86))]) rfl rfl ?_
            obtain ⟨hg, h⟩ := h
            refine zw_ias hm_24 dX2_noteFewer_90 (zT_is hS s_86) (zT_h hS s_86) rfl hg ?_
            refine zw_push hm_24 dX2_noteFewer_91 (v := .inr (.inr (some 84))) rfl ?_
            refine zw_push hm_24 dX2_noteFewer_92 (v := .inr (.inr (some c1))) rfl ?_
            refine zw_push hm_24 dX2_noteFewer_93 (v := .inl (mI S 86 ((mI S 84 7) - (1 : Int32)).toNatClampNeg)) rfl ?_
            refine zw_cv hm_24 dX2_noteFewer_95 v_2_37_2 hm_26 [.inl (mI S 86 ((mI S 84 7) - (1 : Int32)).toNatClampNeg), .inr (.inr (some c1))] [] rfl (zT_rt (zT_pi hS) s_84 rfl) ⟨by omega, by omega⟩ rfl (zw_mono h (zv_go ?_ ?_))
            · intro S6 hv
              obtain ⟨hS6, h⟩ := hv
              refine zw_goto hm_24 dX2_noteFewer_98 (t := 119) rfl ?_
              refine zw_sto hm_24 dX2_noteFewer_119 [(2, .inl (l2 + (1 : Int32))), (4, .inl (mI S 86 ((mI S 84 7) - (1 : Int32)).toNatClampNeg)), (3, .inr (.inr (some c1))), (0, .inr (.inr (some 84)))] rfl rfl rfl ?_
              refine zw_goto hm_24 dX2_noteFewer_122 (t := 12) rfl ?_
              exact zw_sub (ma_nd_of (ks := [0, 2]) rfl (by decide)) (ma_nd_of (ks := [2, 4, 3, 0]) rfl (by decide)) (ma_le_cons rfl (ma_le_cons rfl (ma_le_nil _))) h
            · intro x S9 hx
              exact ⟨by decide, hx⟩
theorem lp_24_84_sk_12 {X : Nat × (Nat → Int32)} {d w : Nat} {f : Nat → Nat → Int32} {r : Nat → Nat → Option Nat} {C Z N : Nat} {Q : Option ma_V ⊕ Nat → ma_S → Prop} {ab : Nat→Nat→Int32} {W : Nat} {kk : Nat→Int32} {y : Int32} {B : Int} {fq : Nat→Int32} {n0 : Nat→Nat→Int32} (hd : 4 ≤ d) (hw : 86 ≤ w) (K : ∀ S₉, zJ84 f r C Z N S₉ → (xB S₉ (mR S₉ 70)) → (aS W S₉ = cLe ab y ∧ cC (aS W S₉) [] (kC S₉) B) → (zfP 84 (mI S₉) = fq) → (zN0 S₉ = n0) → Q (.inl none) S₉) : ∀ (n : Nat) (S : ma_S) (l2 : Int32), (1000000 - l2.toInt).toNat = n → zJ84 f r C Z N S → (0 ≤ l2.toInt) → (xB S (mR S 70)) → (xW W) → (B ≤ 1000000) → (cOk ab y) → (kk = kk) → (zNF W S B (cF1 (cPr ab []) y) l2.toInt) → (zfP 84 (mI S) = fq) → (zN0 S = n0) → ma_wp X d w 24 12 [(0, .inr (.inr (some 84))), (2, .inl l2)] [] S Q := by
  intro n
  induction n using Nat.strongRecOn with
  | _ n IH =>
    intro S l2 hmu hI  hi0 hi1 hi2 hi3 hi4 hi5 hi6 hi7 hi8
    refine g_24_84_sk_12 l2 (by omega) (by omega) (zG_T hI) ?_
    have nf0 := hi6
    obtain ⟨l, nf1, nf2, nf3, nf4⟩ := nf0
    have f1 := zG_s hI (0) (512) (c := 84) (k := 7) (by decide)
    have li2 : (0 : Int32).toInt = 0 := rfl
    refine zd (fun h3 => ?_) (fun h3 => ?_)
    · skip
      have g4 := i_le h3
      exact K _ hI (show xB S (mR S 70) from by first | (exact xB_x (xC_o (W := W) hi1).2)) (show aS W S = cLe ab y ∧ cC (aS W S) [] (kC S) B from by first | (exact NF_e hi6 hi4 (by omega))) (show zfP 84 (mI S) = fq from by first | (exact hi7)) (show zN0 S = n0 from by first | (exact hi8))
    · skip
      have g5 := i_nle h3
      have li6 : (1000000 : Int32).toInt = 1000000 := rfl
      have b7 := i_bd l2
      refine zd (fun h8 => ?_) (fun h8 => ?_)
      · skip
        have g9 := i_le h8
        exact K _ hI (show xB S (mR S 70) from by first | (exact xB_x (xC_o (W := W) hi1).2)) (show aS W S = cLe ab y ∧ cC (aS W S) [] (kC S) B from by first | (exact NF_e hi6 hi4 (by omega))) (show zfP 84 (mI S) = fq from by first | (exact hi7)) (show zN0 S = n0 from by first | (exact hi8))
      · skip
        have g10 := i_nle h8
        first | have e11 : ((mI S 84 7) - (1 : Int32)).toInt = (mI S 84 7).toInt - (1) := i_subk rfl (by omega) (by omega) | have b12 := i_bd ((mI S 84 7) - (1 : Int32))
        refine ⟨i_ix (by omega) (by omega), ?_⟩
        refine ⟨i_ix (by omega) (by omega), ?_⟩
        refine ⟨fun hc => ?_, fun c1 hc => ?_⟩
        · skip
          have rn_c1 : zTa (mR S 70) (l.headD (0, 0)).1 = none := (St_top nf1 (by omega)).2.1.symm.trans hc
          have hI13 : zJ84 f r C Z N (ma_put S 84 7 (.inl ((mI S 84 7) - (1 : Int32)))) := zG_sp hI (0) (512) rfl (by decide) (by decide) (by decide) trivial (by omega) (by omega)
          first | have e14 : (l2 + (1 : Int32)).toInt = l2.toInt + (1) := i_addk rfl (by omega) (by omega) | have b15 := i_bd (l2 + (1 : Int32))
          exact IH _ (by omega) _ ((l2 + (1 : Int32))) rfl hI13 (by omega) (show xB (ma_put S 84 7 (.inl ((mI S 84 7) - (1 : Int32)))) (mR (ma_put S 84 7 (.inl ((mI S 84 7) - (1 : Int32)))) 70) from by first | (exact xB_x (xC_n (c := 84) (k := 7) (x := ((mI S 84 7) - (1 : Int32))) (xC_o (W := W) hi1) (zir_W hi2 rfl (by decide))).2)) (show xW W from by first | (exact hi2) | (exact xW88) | (exact xW75)) (show B ≤ 1000000 from by first | (exact hi3)) (show cOk ab y from by first | (exact hi4)) (show kk = kk from by first | (exact rfl)) (show zNF W (ma_put S 84 7 (.inl ((mI S 84 7) - (1 : Int32)))) B (cF1 (cPr ab []) y) ((l2 + (1 : Int32))).toInt from by first | (exfalso; have tp := St_top nf1 (by omega); exact NF_n nf2 hi1 tp.1 rn_c1)) (show zfP 84 (mI (ma_put S 84 7 (.inl ((mI S 84 7) - (1 : Int32))))) = fq from by first | (exact (zf_7.trans hi7))) (show zN0 (ma_put S 84 7 (.inl ((mI S 84 7) - (1 : Int32)))) = n0 from by first | (exact ((n0_p (c := 84) (by decide)).trans hi8)))
        · skip
          have th_c1 := (fun _ z => zG_70 hI (c := 85) (by decide) z) c1 hc
          have rg_c1 : zTa (mR S 70) (l.headD (0, 0)).1 = some c1 := (St_top nf1 (by omega)).2.1.symm.trans hc
          refine ⟨zG_n hI th_c1, ?_⟩
          have b16 := i_bd (mI S 86 ((mI S 84 7) - (1 : Int32)).toNatClampNeg)
          refine zd (fun h17 => ?_) (fun h17 => ?_)
          · skip
            have g18 := i_lt h17
            have hI19 : zJ84 f r C Z N (ma_put S 84 7 (.inl ((mI S 84 7) - (1 : Int32)))) := zG_sp hI (0) (512) rfl (by decide) (by decide) (by decide) trivial (by omega) (by omega)
            refine sp_87_69_sk (ab := (aS W (ma_put S 84 7 (.inl ((mI S 84 7) - (1 : Int32)))))) (R := (mR (ma_put S 84 7 (.inl ((mI S 84 7) - (1 : Int32)))) 70)) (W := W) (y := (l.headD (0, 0)).1) (kk := (kC (ma_put S 84 7 (.inl ((mI S 84 7) - (1 : Int32)))))) (n0 := n0) c1 (by omega) (by omega) (zJ84_dn hI19) th_c1 (show xB (ma_put S 84 7 (.inl ((mI S 84 7) - (1 : Int32)))) (mR (ma_put S 84 7 (.inl ((mI S 84 7) - (1 : Int32)))) 70) from by first | (exact xB_x (xC_n (c := 84) (k := 7) (x := ((mI S 84 7) - (1 : Int32))) (xC_o (W := 75) hi1) ⟨by decide, Or.inl ⟨rfl, rfl⟩⟩).2)) (show aS W (ma_put S 84 7 (.inl ((mI S 84 7) - (1 : Int32)))) = (aS W (ma_put S 84 7 (.inl ((mI S 84 7) - (1 : Int32))))) from by first | (exact rfl)) (show xW W from by first | (exact hi2) | (exact xW88) | (exact xW75)) (show zTa (mR (ma_put S 84 7 (.inl ((mI S 84 7) - (1 : Int32)))) 70) (l.headD (0, 0)).1 = some c1 from by first | (exact rg_c1)) (show kC (ma_put S 84 7 (.inl ((mI S 84 7) - (1 : Int32)))) = (kC (ma_put S 84 7 (.inl ((mI S 84 7) - (1 : Int32))))) from by first | (exact rfl)) (show zN0 (ma_put S 84 7 (.inl ((mI S 84 7) - (1 : Int32)))) = n0 from by first | (exact ((n0_p (c := 84) (by decide)).trans hi8))) (fun S2 hL_S2 rp0_S2 rp1_S2 rp2_S2 rp3_S2 => zv_n ⟨zG_T hL_S2, ?_⟩)
            have hI_S2 := zJ84_up hI19 hL_S2
            have rp0_S2 : xB S2 (zRu (mR (ma_put S 84 7 (.inl ((mI S 84 7) - (1 : Int32)))) 70) (l.headD (0, 0)).1.toNatClampNeg none) := by
              have z := rp0_S2
              (try rw [show mI (ma_put S 84 7 (.inl ((mI S 84 7) - (1 : Int32)))) 65 = f 65 from funext (fun k => zG_z hI19 rfl)] at z)
              (try rw [show mI (ma_put S 84 7 (.inl ((mI S 84 7) - (1 : Int32)))) 64 1 = f 64 1 from zG_z hI19 rfl] at z)
              exact z
            have rp1_S2 : aS W S2 = aRm (aS W (ma_put S 84 7 (.inl ((mI S 84 7) - (1 : Int32))))) (l.headD (0, 0)).1 := by
              have z := rp1_S2
              (try rw [show mI (ma_put S 84 7 (.inl ((mI S 84 7) - (1 : Int32)))) 65 = f 65 from funext (fun k => zG_z hI19 rfl)] at z)
              (try rw [show mI (ma_put S 84 7 (.inl ((mI S 84 7) - (1 : Int32)))) 64 1 = f 64 1 from zG_z hI19 rfl] at z)
              exact z
            have rp2_S2 : ∀ n, xAl (aS W (ma_put S 84 7 (.inl ((mI S 84 7) - (1 : Int32))))) n → n ≠ (l.headD (0, 0)).1.toNatClampNeg → kC S2 n = (kC (ma_put S 84 7 (.inl ((mI S 84 7) - (1 : Int32))))) n - Int32.ofNat (cOb (aS W (ma_put S 84 7 (.inl ((mI S 84 7) - (1 : Int32))))) (l.headD (0, 0)).1.toNatClampNeg n) := by
              have z := rp2_S2
              (try rw [show mI (ma_put S 84 7 (.inl ((mI S 84 7) - (1 : Int32)))) 65 = f 65 from funext (fun k => zG_z hI19 rfl)] at z)
              (try rw [show mI (ma_put S 84 7 (.inl ((mI S 84 7) - (1 : Int32)))) 64 1 = f 64 1 from zG_z hI19 rfl] at z)
              exact z
            have rp3_S2 : zN0 S2 = n0 := by
              have z := rp3_S2
              (try rw [show mI (ma_put S 84 7 (.inl ((mI S 84 7) - (1 : Int32)))) 65 = f 65 from funext (fun k => zG_z hI19 rfl)] at z)
              (try rw [show mI (ma_put S 84 7 (.inl ((mI S 84 7) - (1 : Int32)))) 64 1 = f 64 1 from zG_z hI19 rfl] at z)
              exact z
            first | have e20 : (l2 + (1 : Int32)).toInt = l2.toInt + (1) := i_addk rfl (by omega) (by omega) | have b21 := i_bd (l2 + (1 : Int32))
            exact IH _ (by omega) _ ((l2 + (1 : Int32))) rfl hI_S2 (by omega) (show xB S2 (mR S2 70) from by first | (exact xB_x (xC_o (W := W) rp0_S2).2)) (show xW W from by first | (exact hi2) | (exact xW88) | (exact xW75)) (show B ≤ 1000000 from by first | (exact hi3)) (show cOk ab y from by first | (exact hi4)) (show kk = kk from by first | (exact rfl)) (show zNF W S2 B (cF1 (cPr ab []) y) ((l2 + (1 : Int32))).toInt from by first | (have tp := St_top nf1 (by omega); have ty := xB_th (W := W) hi1 rg_c1; have z2 := congrArg Int32.toInt ty.2.2.2.2.1; have i2 := congrArg Int32.toInt tp.2.2; have rm := rp1_S2; have kr := rp2_S2; rw [(xC_n (c := 84) (k := 7) (x := ((mI S 84 7) - (1 : Int32))) (xC_o (W := W) hi1) (zir_W hi2 rfl (by decide))).1] at rm kr; rw [(xK_n (c := 84) (k := 7) (x := ((mI S 84 7) - (1 : Int32))) (xK_o (W := W) hi1 rfl) (zir_W hi2 rfl (by decide))).2] at kr; have h1 := nf1; rw [tp.1] at h1; have h2 := nf2; rw [tp.1] at h2; have hq := (h2.2.1 _ List.mem_cons_self).2.2.1; exact NF_p nf2 nf3 nf4 tp.1 (show (l2 + (1 : Int32)).toInt = l2.toInt + 1 by omega) (by omega) rm kr (St_fr (St_off h1 rfl) (funext (fun k => zG_r hL_S2 (by decide))) (funext (fun k => zG_z hL_S2 rfl)) (zG_z hL_S2 rfl)) rp0_S2.1)) (show zfP 84 (mI S2) = fq from by first | (exact ((zf_fr (P := 84) (S₉ := S2) (S := (ma_put S 84 7 (.inl ((mI S 84 7) - (1 : Int32))))) (fun _ => zG_z hL_S2 rfl)).trans (zf_7.trans hi7)))) (show zN0 S2 = n0 from by first | (exact rp3_S2))
          · skip
            have g22 := i_nlt h17
            refine ⟨zG_n hI th_c1, ?_⟩
            have f23 := zG_th hI th_c1
            first | have e24 : ((mI S c1 2) - (1 : Int32)).toInt = (mI S c1 2).toInt - (1) := i_subk rfl (by omega) (by omega) | have b25 := i_bd ((mI S c1 2) - (1 : Int32))
            refine zd (fun h26 => ?_) (fun h26 => ?_)
            · skip
              have g27 := i_le h26
              have hI28 : zJ84 f r C Z N (ma_put S 84 7 (.inl ((mI S 84 7) - (1 : Int32)))) := zG_sp hI (0) (512) rfl (by decide) (by decide) (by decide) trivial (by omega) (by omega)
              refine sp_87_69_sk (ab := (aS W (ma_put S 84 7 (.inl ((mI S 84 7) - (1 : Int32)))))) (R := (mR (ma_put S 84 7 (.inl ((mI S 84 7) - (1 : Int32)))) 70)) (W := W) (y := (l.headD (0, 0)).1) (kk := (kC (ma_put S 84 7 (.inl ((mI S 84 7) - (1 : Int32)))))) (n0 := n0) c1 (by omega) (by omega) (zJ84_dn hI28) th_c1 (show xB (ma_put S 84 7 (.inl ((mI S 84 7) - (1 : Int32)))) (mR (ma_put S 84 7 (.inl ((mI S 84 7) - (1 : Int32)))) 70) from by first | (exact xB_x (xC_n (c := 84) (k := 7) (x := ((mI S 84 7) - (1 : Int32))) (xC_o (W := 75) hi1) ⟨by decide, Or.inl ⟨rfl, rfl⟩⟩).2)) (show aS W (ma_put S 84 7 (.inl ((mI S 84 7) - (1 : Int32)))) = (aS W (ma_put S 84 7 (.inl ((mI S 84 7) - (1 : Int32))))) from by first | (exact rfl)) (show xW W from by first | (exact hi2) | (exact xW88) | (exact xW75)) (show zTa (mR (ma_put S 84 7 (.inl ((mI S 84 7) - (1 : Int32)))) 70) (l.headD (0, 0)).1 = some c1 from by first | (exact rg_c1)) (show kC (ma_put S 84 7 (.inl ((mI S 84 7) - (1 : Int32)))) = (kC (ma_put S 84 7 (.inl ((mI S 84 7) - (1 : Int32))))) from by first | (exact rfl)) (show zN0 (ma_put S 84 7 (.inl ((mI S 84 7) - (1 : Int32)))) = n0 from by first | (exact ((n0_p (c := 84) (by decide)).trans hi8))) (fun S4 hL_S4 rp0_S4 rp1_S4 rp2_S4 rp3_S4 => zv_n ⟨zG_T hL_S4, ?_⟩)
              have hI_S4 := zJ84_up hI28 hL_S4
              have rp0_S4 : xB S4 (zRu (mR (ma_put S 84 7 (.inl ((mI S 84 7) - (1 : Int32)))) 70) (l.headD (0, 0)).1.toNatClampNeg none) := by
                have z := rp0_S4
                (try rw [show mI (ma_put S 84 7 (.inl ((mI S 84 7) - (1 : Int32)))) 65 = f 65 from funext (fun k => zG_z hI28 rfl)] at z)
                (try rw [show mI (ma_put S 84 7 (.inl ((mI S 84 7) - (1 : Int32)))) 64 1 = f 64 1 from zG_z hI28 rfl] at z)
                exact z
              have rp1_S4 : aS W S4 = aRm (aS W (ma_put S 84 7 (.inl ((mI S 84 7) - (1 : Int32))))) (l.headD (0, 0)).1 := by
                have z := rp1_S4
                (try rw [show mI (ma_put S 84 7 (.inl ((mI S 84 7) - (1 : Int32)))) 65 = f 65 from funext (fun k => zG_z hI28 rfl)] at z)
                (try rw [show mI (ma_put S 84 7 (.inl ((mI S 84 7) - (1 : Int32)))) 64 1 = f 64 1 from zG_z hI28 rfl] at z)
                exact z
              have rp2_S4 : ∀ n, xAl (aS W (ma_put S 84 7 (.inl ((mI S 84 7) - (1 : Int32))))) n → n ≠ (l.headD (0, 0)).1.toNatClampNeg → kC S4 n = (kC (ma_put S 84 7 (.inl ((mI S 84 7) - (1 : Int32))))) n - Int32.ofNat (cOb (aS W (ma_put S 84 7 (.inl ((mI S 84 7) - (1 : Int32))))) (l.headD (0, 0)).1.toNatClampNeg n) := by
                have z := rp2_S4
                (try rw [show mI (ma_put S 84 7 (.inl ((mI S 84 7) - (1 : Int32)))) 65 = f 65 from funext (fun k => zG_z hI28 rfl)] at z)
                (try rw [show mI (ma_put S 84 7 (.inl ((mI S 84 7) - (1 : Int32)))) 64 1 = f 64 1 from zG_z hI28 rfl] at z)
                exact z
              have rp3_S4 : zN0 S4 = n0 := by
                have z := rp3_S4
                (try rw [show mI (ma_put S 84 7 (.inl ((mI S 84 7) - (1 : Int32)))) 65 = f 65 from funext (fun k => zG_z hI28 rfl)] at z)
                (try rw [show mI (ma_put S 84 7 (.inl ((mI S 84 7) - (1 : Int32)))) 64 1 = f 64 1 from zG_z hI28 rfl] at z)
                exact z
              first | have e29 : (l2 + (1 : Int32)).toInt = l2.toInt + (1) := i_addk rfl (by omega) (by omega) | have b30 := i_bd (l2 + (1 : Int32))
              exact IH _ (by omega) _ ((l2 + (1 : Int32))) rfl hI_S4 (by omega) (show xB S4 (mR S4 70) from by first | (exact xB_x (xC_o (W := W) rp0_S4).2)) (show xW W from by first | (exact hi2) | (exact xW88) | (exact xW75)) (show B ≤ 1000000 from by first | (exact hi3)) (show cOk ab y from by first | (exact hi4)) (show kk = kk from by first | (exact rfl)) (show zNF W S4 B (cF1 (cPr ab []) y) ((l2 + (1 : Int32))).toInt from by first | (have tp := St_top nf1 (by omega); have ty := xB_th (W := W) hi1 rg_c1; have z2 := congrArg Int32.toInt ty.2.2.2.2.1; have i2 := congrArg Int32.toInt tp.2.2; have rm := rp1_S4; have kr := rp2_S4; rw [(xC_n (c := 84) (k := 7) (x := ((mI S 84 7) - (1 : Int32))) (xC_o (W := W) hi1) (zir_W hi2 rfl (by decide))).1] at rm kr; rw [(xK_n (c := 84) (k := 7) (x := ((mI S 84 7) - (1 : Int32))) (xK_o (W := W) hi1 rfl) (zir_W hi2 rfl (by decide))).2] at kr; have h1 := nf1; rw [tp.1] at h1; have h2 := nf2; rw [tp.1] at h2; have hq := (h2.2.1 _ List.mem_cons_self).2.2.1; exact NF_p nf2 nf3 nf4 tp.1 (show (l2 + (1 : Int32)).toInt = l2.toInt + 1 by omega) (by omega) rm kr (St_fr (St_off h1 rfl) (funext (fun k => zG_r hL_S4 (by decide))) (funext (fun k => zG_z hL_S4 rfl)) (zG_z hL_S4 rfl)) rp0_S4.1)) (show zfP 84 (mI S4) = fq from by first | (exact ((zf_fr (P := 84) (S₉ := S4) (S := (ma_put S 84 7 (.inl ((mI S 84 7) - (1 : Int32))))) (fun _ => zG_z hL_S4 rfl)).trans (zf_7.trans hi7)))) (show zN0 S4 = n0 from by first | (exact rp3_S4))
            · skip
              have g31 := i_nle h26
              refine ⟨i_ix (by omega) (by omega), ?_⟩
              have hI32 : zJ84 f r C Z N (ma_put S 86 ((mI S 84 7) - (1 : Int32)).toNatClampNeg (.inl ((mI S 86 ((mI S 84 7) - (1 : Int32)).toNatClampNeg) + (1 : Int32)))) := zG_fa hI rfl (by decide) (by decide) (by decide) trivial
              refine sp_26_84_sk (ab := (aS W (ma_put S 86 ((mI S 84 7) - (1 : Int32)).toNatClampNeg (.inl ((mI S 86 ((mI S 84 7) - (1 : Int32)).toNatClampNeg) + (1 : Int32)))))) (R := (mR (ma_put S 86 ((mI S 84 7) - (1 : Int32)).toNatClampNeg (.inl ((mI S 86 ((mI S 84 7) - (1 : Int32)).toNatClampNeg) + (1 : Int32)))) 70)) (W := W) (kk := (kC (ma_put S 86 ((mI S 84 7) - (1 : Int32)).toNatClampNeg (.inl ((mI S 86 ((mI S 84 7) - (1 : Int32)).toNatClampNeg) + (1 : Int32)))))) (y := ((l.headD (0, 0)).1)) (l := l.tail) (B := B) (fq := (zfP 84 (mI (ma_put S 86 ((mI S 84 7) - (1 : Int32)).toNatClampNeg (.inl ((mI S 86 ((mI S 84 7) - (1 : Int32)).toNatClampNeg) + (1 : Int32))))))) (n0 := n0) c1 ((mI S 86 ((mI S 84 7) - (1 : Int32)).toNatClampNeg)) (by omega) (by omega) hI32 th_c1 (show xB (ma_put S 86 ((mI S 84 7) - (1 : Int32)).toNatClampNeg (.inl ((mI S 86 ((mI S 84 7) - (1 : Int32)).toNatClampNeg) + (1 : Int32)))) (mR (ma_put S 86 ((mI S 84 7) - (1 : Int32)).toNatClampNeg (.inl ((mI S 86 ((mI S 84 7) - (1 : Int32)).toNatClampNeg) + (1 : Int32)))) 70) from by first | (exact xB_x (xC_n (c := 86) (k := ((mI S 84 7) - (1 : Int32)).toNatClampNeg) (x := ((mI S 86 ((mI S 84 7) - (1 : Int32)).toNatClampNeg) + (1 : Int32))) (xC_o (W := W) hi1) (zir_W hi2 rfl (by decide))).2)) (show aS W (ma_put S 86 ((mI S 84 7) - (1 : Int32)).toNatClampNeg (.inl ((mI S 86 ((mI S 84 7) - (1 : Int32)).toNatClampNeg) + (1 : Int32)))) = (aS W (ma_put S 86 ((mI S 84 7) - (1 : Int32)).toNatClampNeg (.inl ((mI S 86 ((mI S 84 7) - (1 : Int32)).toNatClampNeg) + (1 : Int32))))) from by first | (exact rfl)) (show xW W from by first | (exact hi2) | (exact xW88) | (exact xW75)) (show zTa (mR (ma_put S 86 ((mI S 84 7) - (1 : Int32)).toNatClampNeg (.inl ((mI S 86 ((mI S 84 7) - (1 : Int32)).toNatClampNeg) + (1 : Int32)))) 70) ((l.headD (0, 0)).1) = some c1 from by first | (exact rg_c1)) (show kC (ma_put S 86 ((mI S 84 7) - (1 : Int32)).toNatClampNeg (.inl ((mI S 86 ((mI S 84 7) - (1 : Int32)).toNatClampNeg) + (1 : Int32)))) = (kC (ma_put S 86 ((mI S 84 7) - (1 : Int32)).toNatClampNeg (.inl ((mI S 86 ((mI S 84 7) - (1 : Int32)).toNatClampNeg) + (1 : Int32))))) from by first | (exact rfl)) (show zSt (ma_put S 86 ((mI S 84 7) - (1 : Int32)).toNatClampNeg (.inl ((mI S 86 ((mI S 84 7) - (1 : Int32)).toNatClampNeg) + (1 : Int32)))) (mR (ma_put S 86 ((mI S 84 7) - (1 : Int32)).toNatClampNeg (.inl ((mI S 86 ((mI S 84 7) - (1 : Int32)).toNatClampNeg) + (1 : Int32)))) 70) ((((l.headD (0, 0)).1), (mI S 86 ((mI S 84 7) - (1 : Int32)).toNatClampNeg) + 1) :: l.tail) from by first | (have tp := St_top nf1 (by omega); have h1 := nf1; rw [tp.1] at h1; exact St_nxt h1 rfl)) (show cC (aS W (ma_put S 86 ((mI S 84 7) - (1 : Int32)).toNatClampNeg (.inl ((mI S 86 ((mI S 84 7) - (1 : Int32)).toNatClampNeg) + (1 : Int32))))) ((((l.headD (0, 0)).1), (mI S 86 ((mI S 84 7) - (1 : Int32)).toNatClampNeg)) :: l.tail) (kC (ma_put S 86 ((mI S 84 7) - (1 : Int32)).toNatClampNeg (.inl ((mI S 86 ((mI S 84 7) - (1 : Int32)).toNatClampNeg) + (1 : Int32))))) B from by first | (have tp := St_top nf1 (by omega); have h2 := nf2; rw [tp.1] at h2; rw [(xC_n (c := 86) (k := ((mI S 84 7) - (1 : Int32)).toNatClampNeg) (x := ((mI S 86 ((mI S 84 7) - (1 : Int32)).toNatClampNeg) + (1 : Int32))) (xC_o (W := W) hi1) (zir_W hi2 rfl (by decide))).1, (xK_n (c := 86) (k := ((mI S 84 7) - (1 : Int32)).toNatClampNeg) (x := ((mI S 86 ((mI S 84 7) - (1 : Int32)).toNatClampNeg) + (1 : Int32))) (xK_o (W := W) hi1 rfl) (zir_W hi2 rfl (by decide))).2, tp.2.2]; exact h2)) (show B ≤ 1000000 from by first | (exact hi3)) (by omega) (show (mI S 86 ((mI S 84 7) - (1 : Int32)).toNatClampNeg).toInt < ((aS W (ma_put S 86 ((mI S 84 7) - (1 : Int32)).toNatClampNeg (.inl ((mI S 86 ((mI S 84 7) - (1 : Int32)).toNatClampNeg) + (1 : Int32))))) 128 ((l.headD (0, 0)).1).toNatClampNeg).toInt - 1 from by first | (have ty := xB_th (W := W) hi1 rg_c1; have z2 := congrArg Int32.toInt ty.2.2.2.2.1; rw [(xC_n (c := 86) (k := ((mI S 84 7) - (1 : Int32)).toNatClampNeg) (x := ((mI S 86 ((mI S 84 7) - (1 : Int32)).toNatClampNeg) + (1 : Int32))) (xC_o (W := W) hi1) (zir_W hi2 rfl (by decide))).1]; omega)) (show zfP 84 (mI (ma_put S 86 ((mI S 84 7) - (1 : Int32)).toNatClampNeg (.inl ((mI S 86 ((mI S 84 7) - (1 : Int32)).toNatClampNeg) + (1 : Int32))))) = (zfP 84 (mI (ma_put S 86 ((mI S 84 7) - (1 : Int32)).toNatClampNeg (.inl ((mI S 86 ((mI S 84 7) - (1 : Int32)).toNatClampNeg) + (1 : Int32)))))) from by first | (exact rfl)) (show zN0 (ma_put S 86 ((mI S 84 7) - (1 : Int32)).toNatClampNeg (.inl ((mI S 86 ((mI S 84 7) - (1 : Int32)).toNatClampNeg) + (1 : Int32)))) = n0 from by first | (exact ((n0_p (c := 86) (by decide)).trans hi8))) (fun S6 hI_S6 rp0_S6 rp1_S6 rp2_S6 rp3_S6 => zv_n ⟨zG_T hI_S6, ?_⟩)
              have rp0_S6 : xB S6 (mR (ma_put S 86 ((mI S 84 7) - (1 : Int32)).toNatClampNeg (.inl ((mI S 86 ((mI S 84 7) - (1 : Int32)).toNatClampNeg) + (1 : Int32)))) 70) := rp0_S6
              have rp1_S6 : zFo W S6 (mR (ma_put S 86 ((mI S 84 7) - (1 : Int32)).toNatClampNeg (.inl ((mI S 86 ((mI S 84 7) - (1 : Int32)).toNatClampNeg) + (1 : Int32)))) 70) B (cSt (cPr (aS W (ma_put S 86 ((mI S 84 7) - (1 : Int32)).toNatClampNeg (.inl ((mI S 86 ((mI S 84 7) - (1 : Int32)).toNatClampNeg) + (1 : Int32))))) ((((l.headD (0, 0)).1), (mI S 86 ((mI S 84 7) - (1 : Int32)).toNatClampNeg)) :: l.tail))) := rp1_S6
              have rp2_S6 : zfP 84 (mI S6) = (zfP 84 (mI (ma_put S 86 ((mI S 84 7) - (1 : Int32)).toNatClampNeg (.inl ((mI S 86 ((mI S 84 7) - (1 : Int32)).toNatClampNeg) + (1 : Int32)))))) := rp2_S6
              have rp3_S6 : zN0 S6 = n0 := rp3_S6
              first | have e33 : (l2 + (1 : Int32)).toInt = l2.toInt + (1) := i_addk rfl (by omega) (by omega) | have b34 := i_bd (l2 + (1 : Int32))
              exact IH _ (by omega) _ ((l2 + (1 : Int32))) rfl hI_S6 (by omega) (show xB S6 (mR S6 70) from by first | (exact xB_x (xC_o (W := W) rp0_S6).2)) (show xW W from by first | (exact hi2) | (exact xW88) | (exact xW75)) (show B ≤ 1000000 from by first | (exact hi3)) (show cOk ab y from by first | (exact hi4)) (show kk = kk from by first | (exact rfl)) (show zNF W S6 B (cF1 (cPr ab []) y) ((l2 + (1 : Int32))).toInt from by first | (have tp := St_top nf1 (by omega); have q := rp1_S6; rw [(xC_n (c := 86) (k := ((mI S 84 7) - (1 : Int32)).toNatClampNeg) (x := ((mI S 86 ((mI S 84 7) - (1 : Int32)).toNatClampNeg) + (1 : Int32))) (xC_o (W := W) hi1) (zir_W hi2 rfl (by decide))).1, tp.2.2] at q; exact NF_d (l := l) (by have e0 : l = ((l.headD (0, 0)).1, (l.headD (0, 0)).2) :: l.tail := tp.1; rw [e0]; exact q) rp0_S6.1 nf2 nf3 nf4 tp.1 (show (l2 + (1 : Int32)).toInt = l2.toInt + 1 by omega))) (show zfP 84 (mI S6) = fq from by first | (exact (rp2_S6.trans ((zf_n (P := 84) (c := 86) (by decide)).trans hi7)))) (show zN0 S6 = n0 from by first | (exact rp3_S6))
theorem sp_24_84_sk {X : Nat × (Nat → Int32)} {d w : Nat} {f : Nat → Nat → Int32} {r : Nat → Nat → Option Nat} {C Z N : Nat} {Q : Option ma_V ⊕ Nat → ma_S → Prop} {ab : Nat→Nat→Int32} {W : Nat} {kk : Nat→Int32} {y : Int32} {B : Int} {fq : Nat→Int32} {n0 : Nat→Nat→Int32} {S : ma_S} (t : Option Nat) (hd : 4 ≤ d) (hw : 86 ≤ w) (hI : zJ84 f r C Z N S) (hq_t : ∀ c, t = some c → 126 ≤ c ∧ c < N) (hpre0 : xB S (mR S 70)) (hpre1 : aS W S = ab) (hpre2 : xW W) (hpre3 : t = zTa (mR S 70) y) (hpre4 : kC S = kk) (hpre5 : cC ab [] kk B) (hpre6 : cOk ab y) (hpre7 : B ≤ 1000000) (hpre8 : zfP 84 (mI S) = fq) (hpre9 : zN0 S = n0) (K : ∀ S₉, zJ84 f r C Z N S₉ → (xB S₉ (mR S₉ 70)) → (aS W S₉ = cLe ab y ∧ cC (aS W S₉) [] (kC S₉) B) → (zfP 84 (mI S₉) = fq) → (zN0 S₉ = n0) → Q (.inl none) S₉) : ma_wp X d w 24 0 [(0, .inr (.inr (some 84))), (1, .inr (.inr t))] [] S Q := by
  refine g_24_84_sk_0 t (by omega) (by omega) (zG_T hI) ?_
  have li2 : (0 : Int32).toInt = 0 := rfl
  have hI1 : zJ84 f r C Z N (ma_put S 84 7 (.inl (0 : Int32))) := zG_sp hI (0) (512) rfl (by decide) (by decide) (by decide) trivial (by omega) (by omega)
  refine sp_25_84_sk (ab := (aS W (ma_put S 84 7 (.inl (0 : Int32))))) (R := (mR (ma_put S 84 7 (.inl (0 : Int32))) 70)) (W := W) (kk := (kC (ma_put S 84 7 (.inl (0 : Int32))))) (y := (y)) (l := []) (B := B) (fq := (zfP 84 (mI (ma_put S 84 7 (.inl (0 : Int32)))))) (n0 := n0) (t) (by omega) (by omega) hI1 hq_t (show xB (ma_put S 84 7 (.inl (0 : Int32))) (mR (ma_put S 84 7 (.inl (0 : Int32))) 70) from by first | (exact xB_x (xC_n (c := 84) (k := 7) (x := (0 : Int32)) (xC_o (W := W) hpre0) (zir_W hpre2 rfl (by decide))).2)) (show aS W (ma_put S 84 7 (.inl (0 : Int32))) = (aS W (ma_put S 84 7 (.inl (0 : Int32)))) from by first | (exact rfl)) (show xW W from by first | (exact hpre2) | (exact xW88) | (exact xW75)) (show t = zTa (mR (ma_put S 84 7 (.inl (0 : Int32))) 70) (y) from by first | (exact hpre3)) (show kC (ma_put S 84 7 (.inl (0 : Int32))) = (kC (ma_put S 84 7 (.inl (0 : Int32)))) from by first | (exact rfl)) (show zSt (ma_put S 84 7 (.inl (0 : Int32))) (mR (ma_put S 84 7 (.inl (0 : Int32))) 70) [] from by first | (exact St_0 rfl)) (show cC (aS W (ma_put S 84 7 (.inl (0 : Int32)))) [] (kC (ma_put S 84 7 (.inl (0 : Int32)))) B from by first | (rw [(xC_n (c := 84) (k := 7) (x := (0 : Int32)) (xC_o (W := W) hpre0) (zir_W hpre2 rfl (by decide))).1, (xK_n (c := 84) (k := 7) (x := (0 : Int32)) (xK_o (W := W) hpre0 rfl) (zir_W hpre2 rfl (by decide))).2, hpre1, hpre4]; exact hpre5)) (show cOk (cRa (aS W (ma_put S 84 7 (.inl (0 : Int32)))) []) (y) from by first | (show cOk (aS W _) _; rw [(xC_n (c := 84) (k := 7) (x := (0 : Int32)) (xC_o (W := W) hpre0) (zir_W hpre2 rfl (by decide))).1, hpre1]; exact hpre6)) (show B ≤ 1000000 from by first | (exact hpre7)) (show zfP 84 (mI (ma_put S 84 7 (.inl (0 : Int32)))) = (zfP 84 (mI (ma_put S 84 7 (.inl (0 : Int32))))) from by first | (exact rfl)) (show zN0 (ma_put S 84 7 (.inl (0 : Int32))) = n0 from by first | (exact ((n0_p (c := 84) (by decide)).trans hpre9))) (fun S1 hI_S1 rp0_S1 rp1_S1 rp2_S1 rp3_S1 => zv_n ⟨zG_T hI_S1, ?_⟩)
  have rp0_S1 : xB S1 (mR (ma_put S 84 7 (.inl (0 : Int32))) 70) := rp0_S1
  have rp1_S1 : zFo W S1 (mR (ma_put S 84 7 (.inl (0 : Int32))) 70) B (cF1 (cPr (aS W (ma_put S 84 7 (.inl (0 : Int32)))) []) (y)) := rp1_S1
  have rp2_S1 : zfP 84 (mI S1) = (zfP 84 (mI (ma_put S 84 7 (.inl (0 : Int32))))) := rp2_S1
  have rp3_S1 : zN0 S1 = n0 := rp3_S1
  exact lp_24_84_sk_12 (by omega) (by omega) K _ _ ((0 : Int32)) rfl hI_S1 (by omega) (show xB S1 (mR S1 70) from by first | (exact xB_x (xC_o (W := W) rp0_S1).2)) (show xW W from by first | (exact hpre2) | (exact xW88) | (exact xW75)) (show B ≤ 1000000 from by first | (exact hpre7)) (show cOk ab y from by first | (exact hpre6)) (show kk = kk from by first | (exact rfl)) (show zNF W S1 B (cF1 (cPr ab []) y) ((0 : Int32)).toInt from by first | (have q := rp1_S1; rw [(xC_n (c := 84) (k := 7) (x := (0 : Int32)) (xC_o (W := W) hpre0) (zir_W hpre2 rfl (by decide))).1, hpre1] at q; exact NF_0 q rp0_S1.1)) (show zfP 84 (mI S1) = fq from by first | (exact (rp2_S1.trans (zf_7.trans hpre8)))) (show zN0 S1 = n0 from by first | (exact rp3_S1))

/-! from 95.m29 -/
/-! COUNTS, the class (written by wip/tools/gen20k.py) -/
theorem g_145_64_84_sk_0 {X : Nat × (Nat → Int32)} {d w : Nat} {S : ma_S} {Q : Option ma_V ⊕ Nat → ma_S → Prop} (i : Int32) (x : Option Nat) (hd : 5 ≤ d) (hw : 110 ≤ w) (hS : zT S) (h : ma_wp X (d - 1) (w - 23) 92 0 [(0, .inr (.inr (some 69))), (1, .inl i), (2, .inr (.inr x))] [] S (zo (fun v2 S1 => zT S1 ∧ (ma_wp X (d - 1) (w - 24) 24 0 [(0, .inr (.inr (some 84))), (1, .inr (.inr v2))] [] S1 (zv (fun S3 => zT S3 ∧ (Q (.inl (some (.inr (.inr v2)))) S3)) (fun _ _ => False)))) (fun x S9 => Q (.inr x) S9))) : ma_wp X d w 145 0 [(0, .inr (.inr (some 64))), (1, .inr (.inr (some 84))), (2, .inl i), (3, .inr (.inr x))] [] S Q := by
  refine zw_push hm_145 dX11_changeRoot_0 (v := .inr (.inr (some 64))) rfl ?_
  refine zw_gf hm_145 dX11_changeRoot_1 (v := .inr (.inr (some 69))) (zT_is hS s_64) (zT_t hS s_64) rfl f_11_26_11 (zT_f hS r_64_8) ?_
  refine zw_push hm_145 dX11_changeRoot_4 (v := .inl i) rfl ?_
  refine zw_push hm_145 dX11_changeRoot_5 (v := .inr (.inr x)) rfl ?_
  refine zw_cv hm_145 dX11_changeRoot_6 v_11_379_7 hm_92 [.inr (.inr x), .inl i] [] rfl (zT_rt hS s_69 rfl) ⟨by omega, by omega⟩ rfl (zw_mono h (zo_go ?_ ?_))
  · intro v2 S1 hv
    obtain ⟨hS1, h⟩ := hv
    refine zw_sto hm_145 dX11_changeRoot_9 [(4, .inr (.inr v2)), (0, .inr (.inr (some 64))), (1, .inr (.inr (some 84))), (2, .inl i), (3, .inr (.inr x))] rfl rfl rfl ?_
    refine zw_push hm_145 dX11_changeRoot_11 (v := .inr (.inr (some 84))) rfl ?_
    refine zw_push hm_145 dX11_changeRoot_12 (v := .inr (.inr v2)) rfl ?_
    refine zw_push hm_145 dX11_changeRoot_14 (v := .inr (.inr x)) rfl ?_
    refine zw_cv hm_145 dX11_changeRoot_15 v_11_153_2 hm_265 [.inr (.inr x), .inr (.inr v2)] [] rfl (zT_rt hS1 s_84 rfl) ⟨by omega, by omega⟩ rfl ?_
    show ma_wp X (d - 1) (w - 22) 265 0 [(0, .inr (.inr (some 84))), (1, .inr (.inr v2)), (2, .inr (.inr x))] [] S1 _
    refine zw_vret hm_265 dX1_noteChange_0 ?_
    show ma_wp X d w 145 18 [(4, .inr (.inr v2)), (0, .inr (.inr (some 64))), (1, .inr (.inr (some 84))), (2, .inl i), (3, .inr (.inr x))] [] S1 _
    refine zw_push hm_145 dX11_changeRoot_18 (v := .inr (.inr (some 84))) rfl ?_
    refine zw_push hm_145 dX11_changeRoot_19 (v := .inr (.inr v2)) rfl ?_
    refine zw_cv hm_145 dX11_changeRoot_21 v_11_157_2 hm_24 [.inr (.inr v2)] [] rfl (zT_rt hS1 s_84 rfl) ⟨by omega, by omega⟩ rfl (zw_mono h (zv_go ?_ ?_))
    · intro S3 hv
      obtain ⟨hS3, h⟩ := hv
      refine zw_push hm_145 dX11_changeRoot_24 (v := .inr (.inr v2)) rfl ?_
      exact zw_aret hm_145 dX11_changeRoot_26 h
    · intro x S9 hx
      exact hx.elim
  · intro x S9 hx
    exact ⟨by decide, hx⟩
theorem sp_145_64_84_sk {X : Nat × (Nat → Int32)} {d w : Nat} {f : Nat → Nat → Int32} {r : Nat → Nat → Option Nat} {C Z N : Nat} {Q : Option ma_V ⊕ Nat → ma_S → Prop} {ab : Nat→Nat→Int32} {R : zRT} {W : Nat} {kk : Nat→Int32} {y : Int32} {B : Int} {fq : Nat→Int32} {n0 : Nat→Nat→Int32} {S : ma_S} (i : Int32) (x : Option Nat) (hd : 5 ≤ d) (hw : 110 ≤ w) (hI : zJ84 f r C Z N S) (hq_x : ∀ c, x = some c → 126 ≤ c ∧ c < N) (hpre0 : xB S R) (hpre1 : aS W S = ab) (hpre2 : xW W) (hpre3 : x = zTa R y) (hpre4 : 0 ≤ i.toInt) (hpre5 : i.toInt ≤ 15) (hpre6 : kC S = kk) (hpre7 : cC ab [] kk B) (hpre8 : B ≤ 1000000) (hpre9 : zfP 84 (mI S) = fq) (hpre10 : zN0 S = n0) (K : ∀ v S₉, zJ84 f r C Z N S₉ → (∀ c, v = some c → 126 ≤ c ∧ c < N) → (xB S₉ (mR S₉ 70)) → (aS W S₉ = cLe (aR0 ab i y) (ab 72 i.toNatClampNeg)) → (v = zTa R (ab 72 i.toNatClampNeg)) → (cC (aS W S₉) [] (kC S₉) B) → (zfP 84 (mI S₉) = fq) → (zN0 S₉ = n0) → Q (.inl (some (.inr (.inr v)))) S₉) : ma_wp X d w 145 0 [(0, .inr (.inr (some 64))), (1, .inr (.inr (some 84))), (2, .inl i), (3, .inr (.inr x))] [] S Q := by
  refine g_145_64_84_sk_0 i x (by omega) (by omega) (zG_T hI) ?_
  have b1 := i_bd i
  refine sp_92_69_sk (ab := (aS W S)) (R := R) (W := W) (y := (y)) (kk := (kC S)) (n0 := n0) (i) (x) (by omega) (by omega) (zJ84_dn hI) hq_x (show xB S R from by first | (exact (xC_o (W := 75) hpre0).2)) (show aS W S = (aS W S) from by first | (exact rfl)) (show xW W from by first | (exact hpre2) | (exact xW88) | (exact xW75)) (show x = zTa R (y) from by first | (exact hpre3)) (by omega) (by omega) (show kC S = (kC S) from by first | (exact rfl)) (show zN0 S = n0 from by first | (exact hpre10)) (fun v2 S1 hL_S1 hq_v2 rp0_S1 rp1_S1 rp2_S1 rp3_S1 rp4_S1 => zo_n ⟨zG_T hL_S1, ?_⟩)
  have hI_S1 := zJ84_up hI hL_S1
  have rp0_S1 : xB S1 R := by
    have z := rp0_S1
    (try rw [show mI S 65 = f 65 from funext (fun k => zG_z hI rfl)] at z)
    (try rw [show mI S 64 1 = f 64 1 from zG_z hI rfl] at z)
    exact z
  have rp1_S1 : aS W S1 = ma_u (aS W S) 72 i.toNatClampNeg (aNm (aS W S) (y)) := by
    have z := rp1_S1
    (try rw [show mI S 65 = f 65 from funext (fun k => zG_z hI rfl)] at z)
    (try rw [show mI S 64 1 = f 64 1 from zG_z hI rfl] at z)
    exact z
  have rp2_S1 : v2 = zTa R ((aS W S) 72 i.toNatClampNeg) := by
    have z := rp2_S1
    (try rw [show mI S 65 = f 65 from funext (fun k => zG_z hI rfl)] at z)
    (try rw [show mI S 64 1 = f 64 1 from zG_z hI rfl] at z)
    exact z
  have rp3_S1 : ∀ n, xAl (aS W S) n → kC S1 n = (kC S) n + Int32.ofNat (cIs (y) n) - Int32.ofNat (cIs ((aS W S) 72 i.toNatClampNeg) n) := by
    have z := rp3_S1
    (try rw [show mI S 65 = f 65 from funext (fun k => zG_z hI rfl)] at z)
    (try rw [show mI S 64 1 = f 64 1 from zG_z hI rfl] at z)
    exact z
  have rp4_S1 : zN0 S1 = n0 := by
    have z := rp4_S1
    (try rw [show mI S 65 = f 65 from funext (fun k => zG_z hI rfl)] at z)
    (try rw [show mI S 64 1 = f 64 1 from zG_z hI rfl] at z)
    exact z
  refine sp_24_84_sk (ab := (aS W S1)) (W := W) (kk := (kC S1)) (y := (((aS W S) 72 i.toNatClampNeg))) (B := B) (fq := (zfP 84 (mI S1))) (n0 := n0) (v2) (by omega) (by omega) hI_S1 hq_v2 (show xB S1 (mR S1 70) from by first | (exact xB_x (xC_o (W := W) rp0_S1).2)) (show aS W S1 = (aS W S1) from by first | (exact rfl)) (show xW W from by first | (exact hpre2) | (exact xW88) | (exact xW75)) (show v2 = zTa (mR S1 70) (((aS W S) 72 i.toNatClampNeg)) from by first | (rw [rp0_S1.1]; exact rp2_S1) | (exact rp2_S1)) (show kC S1 = (kC S1) from by first | (exact rfl)) (show cC (aS W S1) [] (kC S1) B from by first | (rw [rp1_S1, hpre1]; exact C_rt hpre7 (by omega) (fun n hn => by have q := rp3_S1 n (by rw [hpre1]; exact hn); rw [hpre6, hpre1] at q; exact q)) | (rw [rp1_S1, hpre1]; refine C_rt hpre7 (by have h0 : 0 ≤ i.toInt := (by omega); have h1 := tn_cast h0; omega) (fun n hn => ?_); have q := rp3_S1 n (by rw [hpre1]; exact hn); rw [hpre6, hpre1] at q; exact q)) (show cOk (aS W S1) (((aS W S) 72 i.toNatClampNeg)) from by first | (rw [rp1_S1, hpre1]; exact (cOk_cg (u_al (by decide))).mpr ((C0_un hpre7).2.1.1 i.toNatClampNeg (by have h0 : 0 ≤ i.toInt := (by omega); have h1 := tn_cast h0; omega)))) (show B ≤ 1000000 from by first | (exact hpre8)) (show zfP 84 (mI S1) = (zfP 84 (mI S1)) from by first | (exact rfl)) (show zN0 S1 = n0 from by first | (exact rp4_S1)) (fun S3 hI_S3 rp0_S3 rp1_S3 rp2_S3 rp3_S3 => zv_n ⟨zG_T hI_S3, ?_⟩)
  have rp0_S3 : xB S3 (mR S3 70) := rp0_S3
  have rp1_S3 : aS W S3 = cLe (aS W S1) (((aS W S) 72 i.toNatClampNeg)) ∧ cC (aS W S3) [] (kC S3) B := rp1_S3
  have rp2_S3 : zfP 84 (mI S3) = (zfP 84 (mI S1)) := rp2_S3
  have rp3_S3 : zN0 S3 = n0 := rp3_S3
  exact K (v2) _ hI_S3 hq_v2 (show xB S3 (mR S3 70) from by first | (exact xB_x (xC_o (W := W) rp0_S3).2)) (show aS W S3 = cLe (aR0 ab i y) (ab 72 i.toNatClampNeg) from by first | (have np := rp1_S3.1; rw [rp1_S1, hpre1] at np; exact np)) (show v2 = zTa R (ab 72 i.toNatClampNeg) from by first | (rw [← hpre1]; exact rp2_S1) | (exact rp2_S1)) (show cC (aS W S3) [] (kC S3) B from by first | (exact rp1_S3.2)) (show zfP 84 (mI S3) = fq from by first | (exact (rp2_S3.trans ((zf_fr (P := 84) (S₉ := S1) (S := S) (fun _ => zG_z hL_S1 rfl)).trans hpre9)))) (show zN0 S3 = n0 from by first | (exact rp3_S3))
theorem g_149_64_sk_0 {X : Nat × (Nat → Int32)} {d w : Nat} {S : ma_S} {Q : Option ma_V ⊕ Nat → ma_S → Prop} (n : Int32) (hd : 6 ≤ d) (hw : 89 ≤ w) (hS : zT S) (h : ma_wp X (d - 1) (w - 20) 116 0 [(0, .inr (.inr (some 75)))] [] S (zv (fun S1 => zT S1 ∧ (if n < 0 then (Q (.inr 4) (ma_bump S1)) else (if (512 : Int32) ≤ n then (Q (.inr 4) (ma_bump S1)) else ((0 ≤ n ∧ n.toNatClampNeg < 512) ∧ (((mR S1 70 n.toNatClampNeg) = none → Q (.inr 4) (ma_bump S1)) ∧ (∀ c3, (mR S1 70 n.toNatClampNeg) = some c3 → (126 ≤ c3 ∧ c3 < mN S1) ∧ (if (mI S1 c3 4) < (mI S1 75 5) then (Q (.inl (some (.inr (.inr (some c3))))) S1) else ((126 ≤ c3 ∧ c3 < mN S1) ∧ (if (512 : Int32) ≤ (mI S1 c3 0) then (Q (.inr 4) (ma_bump S1)) else ((126 ≤ c3 ∧ c3 < mN S1) ∧ ((0 ≤ (mI S1 c3 0) ∧ (mI S1 c3 0).toNatClampNeg < 512) ∧ (if (mI S1 77 (mI S1 c3 0).toNatClampNeg) = 0 then (Q (.inr 4) (ma_bump S1)) else (Q (.inl (some (.inr (.inr (some c3))))) S1))))))))))))) (fun x S9 => Q (.inr x) S9))) : ma_wp X d w 149 0 [(0, .inr (.inr (some 64))), (1, .inl n)] [] S Q := by
  refine zw_push hm_149 dX11_needReached_0 (v := .inr (.inr (some 64))) rfl ?_
  refine zw_gf hm_149 dX11_needReached_1 (v := .inr (.inr (some 75))) (zT_is hS s_64) (zT_t hS s_64) rfl f_11_35_11 (zT_f hS r_64_9) ?_
  refine zw_cv hm_149 dX11_needReached_4 v_11_358_10 hm_116 [] [] rfl (zT_rt hS s_75 rfl) ⟨by omega, by omega⟩ rfl (zw_mono h (zv_go ?_ ?_))
  · intro S1 hv
    obtain ⟨hS1, h⟩ := hv
    refine zw_push hm_149 dX11_needReached_7 (v := .inr (.inr (some 64))) rfl ?_
    refine zw_gf hm_149 dX11_needReached_8 (v := .inr (.inr (some 69))) (zT_is hS1 s_64) (zT_t hS1 s_64) rfl f_11_26_11 (zT_f hS1 r_64_8) ?_
    refine zw_push hm_149 dX11_needReached_11 (v := .inl n) rfl ?_
    refine zw_cv hm_149 dX11_needReached_12 v_11_176_7 hm_81 [.inl n] [] rfl (zT_rt hS1 s_69 rfl) ⟨by omega, by omega⟩ rfl ?_
    show ma_wp X (d - 1) (w - 21) 81 0 [(0, .inr (.inr (some 69))), (1, .inl n)] [] S1 _
    refine zw_push hm_81 dX7_thingAt_0 (v := .inl n) rfl ?_
    refine zw_if0 hm_81 dX7_thingAt_1 (t := 20) rfl zc0_lt ?_ ?_
    · intro hc
      rw [if_pos hc] at h
      refine zw_push hm_81 dX7_thingAt_20 (v := .inr (.inr none)) rfl ?_
      refine zw_aret hm_81 dX7_thingAt_21 ?_
      show ma_wp X d w 149 15 [(0, .inr (.inr (some 64))), (1, .inl n)] [.inr (.inr none)] S1 _
      refine zw_sto hm_149 dX11_needReached_15 [(2, .inr (.inr none)), (0, .inr (.inr (some 64))), (1, .inl n)] rfl rfl rfl ?_
      refine zw_push hm_149 dX11_needReached_16 (v := .inr (.inr none)) rfl ?_
      refine zw_ifnull hm_149 dX11_needReached_17 (t := 31) rfl (fun _ => ?_) (fun _ z => by cases z)
      exact zw_thr hm_149 dX11_needReached_31 dX11_needReached_34 dX11_needReached_35 dX11_needReached_38 x_11_364_366 n_11_364 (by omega) (by show 0 + 81 ≤ w; omega) h
    · intro hc
      rw [if_neg hc] at h
      refine zw_push hm_81 dX7_thingAt_4 (v := .inl n) rfl ?_
      refine zw_push hm_81 dX7_thingAt_5 (v := .inl (512 : Int32)) rfl ?_
      refine zw_if2 hm_81 dX7_thingAt_8 (t := 20) rfl zc2_ge ?_ ?_
      · intro hc
        rw [if_pos hc] at h
        refine zw_push hm_81 dX7_thingAt_20 (v := .inr (.inr none)) rfl ?_
        refine zw_aret hm_81 dX7_thingAt_21 ?_
        show ma_wp X d w 149 15 [(0, .inr (.inr (some 64))), (1, .inl n)] [.inr (.inr none)] S1 _
        refine zw_sto hm_149 dX11_needReached_15 [(2, .inr (.inr none)), (0, .inr (.inr (some 64))), (1, .inl n)] rfl rfl rfl ?_
        refine zw_push hm_149 dX11_needReached_16 (v := .inr (.inr none)) rfl ?_
        refine zw_ifnull hm_149 dX11_needReached_17 (t := 31) rfl (fun _ => ?_) (fun _ z => by cases z)
        exact zw_thr hm_149 dX11_needReached_31 dX11_needReached_34 dX11_needReached_35 dX11_needReached_38 x_11_364_366 n_11_364 (by omega) (by show 0 + 81 ≤ w; omega) h
      · intro hc
        rw [if_neg hc] at h
        refine zw_push hm_81 dX7_thingAt_11 (v := .inr (.inr (some 69))) rfl ?_
        refine zw_gf hm_81 dX7_thingAt_12 (v := .inr (.inr (some 70))) (zT_is hS1 s_69) (zT_t hS1 s_69) rfl f_7_11_7 (zT_f hS1 r_69_0) ?_
        refine zw_push hm_81 dX7_thingAt_15 (v := .inl n) rfl ?_
        obtain ⟨hg, h⟩ := h
        refine zw_aa hm_81 dX7_thingAt_16 (zT_is hS1 s_70) (zT_h hS1 s_70) rfl rfl hg rfl ?_
        show ma_wp X (d - 1) (w - 21) 81 17 [(0, .inr (.inr (some 69))), (1, .inl n)] [.inr (.inr (mR S1 70 n.toNatClampNeg))] S1 _
        refine zw_goto hm_81 dX7_thingAt_17 (t := 21) rfl ?_
        refine zw_aret hm_81 dX7_thingAt_21 ?_
        show ma_wp X d w 149 15 [(0, .inr (.inr (some 64))), (1, .inl n)] [.inr (.inr (mR S1 70 n.toNatClampNeg))] S1 _
        refine zw_sto hm_149 dX11_needReached_15 [(2, .inr (.inr (mR S1 70 n.toNatClampNeg))), (0, .inr (.inr (some 64))), (1, .inl n)] rfl rfl rfl ?_
        refine zw_push hm_149 dX11_needReached_16 (v := .inr (.inr (mR S1 70 n.toNatClampNeg))) rfl ?_
        refine zw_ifnull hm_149 dX11_needReached_17 (t := 31) rfl ?_ ?_
        · intro hc
          have h := h.1 hc
          (try rw [hc])
          show ma_wp X d w 149 31 [(2, .inr (.inr none)), (0, .inr (.inr (some 64))), (1, .inl n)] [] S1 _
          exact zw_thr hm_149 dX11_needReached_31 dX11_needReached_34 dX11_needReached_35 dX11_needReached_38 x_11_364_366 n_11_364 (by omega) (by show 0 + 81 ≤ w; omega) h
        · intro c3 hc
          have h := h.2 c3 hc
          (try rw [hc])
          show ma_wp X d w 149 20 [(2, .inr (.inr (some c3))), (0, .inr (.inr (some 64))), (1, .inl n)] [] S1 _
          refine zw_push hm_149 dX11_needReached_20 (v := .inr (.inr (some 64))) rfl ?_
          refine zw_gf hm_149 dX11_needReached_21 (v := .inr (.inr (some 75))) (zT_is hS1 s_64) (zT_t hS1 s_64) rfl f_11_35_11 (zT_f hS1 r_64_9) ?_
          refine zw_push hm_149 dX11_needReached_24 (v := .inr (.inr (some c3))) rfl ?_
          refine zw_cv hm_149 dX11_needReached_25 v_11_361_10 hm_122 [.inr (.inr (some c3))] [] rfl (zT_rt hS1 s_75 rfl) ⟨by omega, by omega⟩ rfl ?_
          show ma_wp X (d - 1) (w - 21) 122 0 [(0, .inr (.inr (some 75))), (1, .inr (.inr (some c3)))] [] S1 _
          refine zw_push hm_122 dX10_keeps_0 (v := .inr (.inr (some c3))) rfl ?_
          obtain ⟨hg, h⟩ := h
          refine zw_gf hm_122 dX10_keeps_1 (v := .inl (mI S1 c3 4)) (zT_tis hS1 hg) (zT_tt hS1 hg) rfl f_10_49_9 rfl ?_
          refine zw_push hm_122 dX10_keeps_4 (v := .inr (.inr (some 75))) rfl ?_
          refine zw_gf hm_122 dX10_keeps_5 (v := .inl (mI S1 75 5)) (zT_is hS1 s_75) (zT_t hS1 s_75) rfl f_10_35_10 rfl ?_
          refine zw_if2 hm_122 dX10_keeps_8 (t := 19) rfl zc2_lt ?_ ?_
          · intro hc
            rw [if_pos hc] at h
            refine zw_push hm_122 dX10_keeps_19 (v := .inl (1 : Int32)) rfl ?_
            refine zw_goto hm_122 dX10_keeps_20 (t := 24) rfl ?_
            refine zw_bret hm_122 dX10_keeps_24 (by decide) ?_
            show ma_wp X d w 149 28 [(2, .inr (.inr (some c3))), (0, .inr (.inr (some 64))), (1, .inl n)] [.inl (1 : Int32)] S1 _
            refine zw_if0 hm_149 dX11_needReached_28 (t := 39) rfl zc0_ne (fun _ => ?_) (fun hc => absurd (by decide) hc)
            refine zw_push hm_149 dX11_needReached_39 (v := .inr (.inr (some c3))) rfl ?_
            exact zw_aret hm_149 dX11_needReached_40 h
          · intro hc
            rw [if_neg hc] at h
            refine zw_push hm_122 dX10_keeps_11 (v := .inr (.inr (some 75))) rfl ?_
            refine zw_push hm_122 dX10_keeps_12 (v := .inr (.inr (some c3))) rfl ?_
            refine zw_cv hm_122 dX10_keeps_13 v_10_54_10 hm_123 [.inr (.inr (some c3))] [] rfl (zT_rt hS1 s_75 rfl) ⟨by omega, by omega⟩ rfl ?_
            show ma_wp X ((d - 1) - 1) ((w - 21) - 21) 123 0 [(0, .inr (.inr (some 75))), (1, .inr (.inr (some c3)))] [] S1 _
            refine zw_push hm_123 dX10_colourOf_0 (v := .inr (.inr (some c3))) rfl ?_
            obtain ⟨hg, h⟩ := h
            refine zw_gf hm_123 dX10_colourOf_1 (v := .inl (mI S1 c3 0)) (zT_tis hS1 hg) (zT_tt hS1 hg) rfl f_10_58_9 rfl ?_
            refine zw_push hm_123 dX10_colourOf_4 (v := .inl (512 : Int32)) rfl ?_
            refine zw_if2 hm_123 dX10_colourOf_7 (t := 22) rfl zc2_ge ?_ ?_
            · intro hc
              rw [if_pos hc] at h
              refine zw_push hm_123 dX10_colourOf_22 (v := .inl (0 : Int32)) rfl ?_
              refine zw_iret hm_123 dX10_colourOf_23 ?_
              show ma_wp X (d - 1) (w - 21) 122 16 [(0, .inr (.inr (some 75))), (1, .inr (.inr (some c3)))] [.inl (0 : Int32)] S1 _
              refine zw_if0 hm_122 dX10_keeps_16 (t := 23) rfl zc0_eq (fun _ => ?_) (fun hc => absurd (by decide) hc)
              refine zw_push hm_122 dX10_keeps_23 (v := .inl (0 : Int32)) rfl ?_
              refine zw_bret hm_122 dX10_keeps_24 (by decide) ?_
              show ma_wp X d w 149 28 [(2, .inr (.inr (some c3))), (0, .inr (.inr (some 64))), (1, .inl n)] [.inl (0 : Int32)] S1 _
              refine zw_if0 hm_149 dX11_needReached_28 (t := 39) rfl zc0_ne (fun hc => absurd hc (by decide)) (fun _ => ?_)
              exact zw_thr hm_149 dX11_needReached_31 dX11_needReached_34 dX11_needReached_35 dX11_needReached_38 x_11_364_366 n_11_364 (by omega) (by show 0 + 81 ≤ w; omega) h
            · intro hc
              rw [if_neg hc] at h
              refine zw_push hm_123 dX10_colourOf_10 (v := .inr (.inr (some 75))) rfl ?_
              refine zw_gf hm_123 dX10_colourOf_11 (v := .inr (.inr (some 77))) (zT_is hS1 s_75) (zT_t hS1 s_75) rfl f_10_15_10 (zT_f hS1 r_75_2) ?_
              refine zw_push hm_123 dX10_colourOf_14 (v := .inr (.inr (some c3))) rfl ?_
              obtain ⟨hg, h⟩ := h
              refine zw_gf hm_123 dX10_colourOf_15 (v := .inl (mI S1 c3 0)) (zT_tis hS1 hg) (zT_tt hS1 hg) rfl f_10_58_9 rfl ?_
              obtain ⟨hg, h⟩ := h
              refine zw_ia hm_123 dX10_colourOf_18 (zT_is hS1 s_77) (zT_h hS1 s_77) rfl hg ?_
              show ma_wp X ((d - 1) - 1) ((w - 21) - 21) 123 19 [(0, .inr (.inr (some 75))), (1, .inr (.inr (some c3)))] [.inl (mI S1 77 (mI S1 c3 0).toNatClampNeg)] S1 _
              refine zw_goto hm_123 dX10_colourOf_19 (t := 23) rfl ?_
              refine zw_iret hm_123 dX10_colourOf_23 ?_
              show ma_wp X (d - 1) (w - 21) 122 16 [(0, .inr (.inr (some 75))), (1, .inr (.inr (some c3)))] [.inl (mI S1 77 (mI S1 c3 0).toNatClampNeg)] S1 _
              refine zw_if0 hm_122 dX10_keeps_16 (t := 23) rfl zc0_eq ?_ ?_
              · intro hc
                rw [if_pos hc] at h
                refine zw_push hm_122 dX10_keeps_23 (v := .inl (0 : Int32)) rfl ?_
                refine zw_bret hm_122 dX10_keeps_24 (by decide) ?_
                show ma_wp X d w 149 28 [(2, .inr (.inr (some c3))), (0, .inr (.inr (some 64))), (1, .inl n)] [.inl (0 : Int32)] S1 _
                refine zw_if0 hm_149 dX11_needReached_28 (t := 39) rfl zc0_ne (fun hc => absurd hc (by decide)) (fun _ => ?_)
                exact zw_thr hm_149 dX11_needReached_31 dX11_needReached_34 dX11_needReached_35 dX11_needReached_38 x_11_364_366 n_11_364 (by omega) (by show 0 + 81 ≤ w; omega) h
              · intro hc
                rw [if_neg hc] at h
                refine zw_push hm_122 dX10_keeps_19 (v := .inl (1 : Int32)) rfl ?_
                refine zw_goto hm_122 dX10_keeps_20 (t := 24) rfl ?_
                refine zw_bret hm_122 dX10_keeps_24 (by decide) ?_
                show ma_wp X d w 149 28 [(2, .inr (.inr (some c3))), (0, .inr (.inr (some 64))), (1, .inl n)] [.inl (1 : Int32)] S1 _
                refine zw_if0 hm_149 dX11_needReached_28 (t := 39) rfl zc0_ne (fun _ => ?_) (fun hc => absurd (by decide) hc)
                refine zw_push hm_149 dX11_needReached_39 (v := .inr (.inr (some c3))) rfl ?_
                exact zw_aret hm_149 dX11_needReached_40 h
  · intro x S9 hx
    exact ⟨by decide, hx⟩
theorem sp_149_64_sk {X : Nat × (Nat → Int32)} {d w : Nat} {f : Nat → Nat → Int32} {r : Nat → Nat → Option Nat} {C Z N : Nat} {Q : Option ma_V ⊕ Nat → ma_S → Prop} {R : zRT} {a7 : Nat→Nat→Int32} {a8 : Nat→Nat→Int32} {kk : Nat→Int32} {S : ma_S} (n : Int32) (hd : 6 ≤ d) (hw : 89 ≤ w) (hI : zI f r C Z N S) (hpre0 : xB S R) (hpre1 : aS 75 S = a7) (hpre2 : aS 88 S = a8) (hpre3 : kC S = kk) (K : ∀ v S₉, zI f r C Z N S₉ → (∃ c, v = some c ∧ 126 ≤ c ∧ c < N) → (xB S₉ R) → (aS 88 S₉ = a8) → (v = zTa R n) → (zRq a7 n) → (kC S₉ = kk) → Q (.inl (some (.inr (.inr v)))) S₉) (KX : ∀ x S₉, (x = 4) → zI f r C Z N S₉ → (xB S₉ R) → (aS 88 S₉ = a8) → (kC S₉ = kk) → (x = 4 ∧ ¬ zRq a7 n) → Q (.inr x) (ma_bump S₉)) : ma_wp X d w 149 0 [(0, .inr (.inr (some 64))), (1, .inl n)] [] S Q := by
  refine g_149_64_sk_0 n (by omega) (by omega) (zG_T hI) ?_
  refine sp_116_75_sk (ab := (aS 75 S)) (R := R) (a8 := a8) (kk := kk) (by omega) (by omega) hI (show xB S R from by first | (exact (xC_o (W := 75) hpre0).2)) (show aS 75 S = (aS 75 S) from by first | (exact rfl)) (show aS 88 S = a8 from by first | (exact (xC_o (W := 88) hpre0).1.trans hpre2)) (show kC S = kk from by first | (exact (xK_o (W := 88) hpre0 hpre3).2)) (fun S1 hI_S1 rp0_S1 rp1_S1 rp2_S1 rp3_S1 => zv_n ⟨zG_T hI_S1, ?_⟩)
  have rp0_S1 : xB S1 R := rp0_S1
  have rp1_S1 : aS 75 S1 = aSp 512 (aRo (aWh (aS 75 S) 0) 0) := rp1_S1
  have rp2_S1 : aS 88 S1 = a8 := rp2_S1
  have rp3_S1 : kC S1 = kk := rp3_S1
  have b1 := i_bd n
  have li2 : (0 : Int32).toInt = 0 := rfl
  refine zd (fun h3 => ?_) (fun h3 => ?_)
  · skip
    have g4 := i_lt h3
    exact KX 4 _ (by decide) hI_S1 (show xB S1 R from by first | (exact (xC_o (W := 75) rp0_S1).2)) (show aS 88 S1 = a8 from by first | (exact (xC_o (W := 88) rp0_S1).1.trans rp2_S1)) (show kC S1 = kk from by first | (exact (xK_o (W := 88) rp0_S1 rp3_S1).2)) (show 4 = 4 ∧ ¬ zRq a7 n from by first | (refine ⟨rfl, ?_⟩; intro w; have w1 := w.1; have w2 := w.2.1; omega))
  · skip
    have g5 := i_nlt h3
    have li6 : (512 : Int32).toInt = 512 := rfl
    refine zd (fun h7 => ?_) (fun h7 => ?_)
    · skip
      have g8 := i_le h7
      exact KX 4 _ (by decide) hI_S1 (show xB S1 R from by first | (exact (xC_o (W := 75) rp0_S1).2)) (show aS 88 S1 = a8 from by first | (exact (xC_o (W := 88) rp0_S1).1.trans rp2_S1)) (show kC S1 = kk from by first | (exact (xK_o (W := 88) rp0_S1 rp3_S1).2)) (show 4 = 4 ∧ ¬ zRq a7 n from by first | (refine ⟨rfl, ?_⟩; intro w; have w1 := w.1; have w2 := w.2.1; omega))
    · skip
      have g9 := i_nle h7
      refine ⟨i_ix (by omega) (by omega), ?_⟩
      refine ⟨fun hc => ?_, fun c3 hc => ?_⟩
      · skip
        have rn_c3 : zTa R n = none := (ta_rd (y := n) rp0_S1 (by omega) (by omega)).symm.trans hc
        exact KX 4 _ (by decide) hI_S1 (show xB S1 R from by first | (exact (xC_o (W := 75) rp0_S1).2)) (show aS 88 S1 = a8 from by first | (exact (xC_o (W := 88) rp0_S1).1.trans rp2_S1)) (show kC S1 = kk from by first | (exact (xK_o (W := 88) rp0_S1 rp3_S1).2)) (show 4 = 4 ∧ ¬ zRq a7 n from by first | (refine ⟨rfl, ?_⟩; intro w; refine xB_nt (W := 75) hpre0 rn_c3 ?_; rw [hpre1]; exact ⟨w.1, w.2.1, w.2.2.1⟩))
      · skip
        have th_c3 := (fun _ z => zG_70 hI_S1 (c := 70) (by decide) z) c3 hc
        have rg_c3 : zTa R n = some c3 := (ta_rd (y := n) rp0_S1 (by omega) (by omega)).symm.trans hc
        refine ⟨zG_n hI_S1 th_c3, ?_⟩
        have f10 := zG_th hI_S1 th_c3
        have b11 := i_bd (mI S1 75 5)
        refine zd (fun h12 => ?_) (fun h12 => ?_)
        · skip
          have g13 := i_lt h12
          exact K ((some c3)) _ hI_S1 ⟨c3, rfl, th_c3⟩ (show xB S1 R from by first | (exact (xC_o (W := 75) rp0_S1).2)) (show aS 88 S1 = a8 from by first | (exact (xC_o (W := 88) rp0_S1).1.trans rp2_S1)) (show (some c3) = zTa R n from by first | (exact rg_c3.symm)) (show zRq a7 n from by first | (have ty := xB_th (W := 75) hpre0 rg_c3; have t1 := xB_th (W := 75) rp0_S1 rg_c3; have k5 : mI S1 75 5 = 0 := (aS_I (W := 75) (S := S1) (c := 75) (c₉ := 75) (k := 5) rfl rfl).symm.trans ((congrFun (congrFun rp1_S1 75) 5).trans aRA_5); have k5i := congrArg Int32.toInt k5; have k7 : mI S1 77 (mI S1 c3 0).toNatClampNeg = aRA a7 77 n.toNatClampNeg := (by rw [t1.2.2.1, ← hpre1]; exact (aS_I (W := 75) (S := S1) (c := 77) (c₉ := 77) (k := n.toNatClampNeg) rfl rfl).symm.trans (congrFun (congrFun rp1_S1 77) n.toNatClampNeg)); have k7i := congrArg Int32.toInt k7; have l5 : (0 : Int32).toInt = 0 := rfl; have a6 : a7 126 n.toNatClampNeg ≠ 0 := (by rw [← hpre1, ty.2.2.2.2.2.2.2.2]; decide); first | (exfalso; omega) | exact ⟨ty.1, ty.2.1, a6, fun w => by have w2 := congrArg Int32.toInt w; omega⟩)) (show kC S1 = kk from by first | (exact (xK_o (W := 88) rp0_S1 rp3_S1).2))
        · skip
          have g14 := i_nlt h12
          refine ⟨zG_n hI_S1 th_c3, ?_⟩
          have f15 := zG_th hI_S1 th_c3
          refine zd (fun h16 => ?_) (fun h16 => ?_)
          · skip
            have g17 := i_le h16
            exact KX 4 _ (by decide) hI_S1 (show xB S1 R from by first | (exact (xC_o (W := 75) rp0_S1).2)) (show aS 88 S1 = a8 from by first | (exact (xC_o (W := 88) rp0_S1).1.trans rp2_S1)) (show kC S1 = kk from by first | (exact (xK_o (W := 88) rp0_S1 rp3_S1).2)) (show 4 = 4 ∧ ¬ zRq a7 n from by first | (refine ⟨rfl, ?_⟩; have ty := xB_th (W := 75) hpre0 rg_c3; have t1 := xB_th (W := 75) rp0_S1 rg_c3; have k5 : mI S1 75 5 = 0 := (aS_I (W := 75) (S := S1) (c := 75) (c₉ := 75) (k := 5) rfl rfl).symm.trans ((congrFun (congrFun rp1_S1 75) 5).trans aRA_5); have k5i := congrArg Int32.toInt k5; have k7 : mI S1 77 (mI S1 c3 0).toNatClampNeg = aRA a7 77 n.toNatClampNeg := (by rw [t1.2.2.1, ← hpre1]; exact (aS_I (W := 75) (S := S1) (c := 77) (c₉ := 77) (k := n.toNatClampNeg) rfl rfl).symm.trans (congrFun (congrFun rp1_S1 77) n.toNatClampNeg)); have k7i := congrArg Int32.toInt k7; have l5 : (0 : Int32).toInt = 0 := rfl; have a6 : a7 126 n.toNatClampNeg ≠ 0 := (by rw [← hpre1, ty.2.2.2.2.2.2.2.2]; decide); first | (exfalso; omega) | (intro w; exact w.2.2.2 (Int32.toInt_inj.mp (by omega)))))
          · skip
            have g18 := i_nle h16
            refine ⟨zG_n hI_S1 th_c3, ?_⟩
            refine ⟨i_ix (by omega) (by omega), ?_⟩
            have b19 := i_bd (mI S1 77 (mI S1 c3 0).toNatClampNeg)
            refine zd (fun h20 => ?_) (fun h20 => ?_)
            · skip
              have g21 := i_eq h20
              exact KX 4 _ (by decide) hI_S1 (show xB S1 R from by first | (exact (xC_o (W := 75) rp0_S1).2)) (show aS 88 S1 = a8 from by first | (exact (xC_o (W := 88) rp0_S1).1.trans rp2_S1)) (show kC S1 = kk from by first | (exact (xK_o (W := 88) rp0_S1 rp3_S1).2)) (show 4 = 4 ∧ ¬ zRq a7 n from by first | (refine ⟨rfl, ?_⟩; have ty := xB_th (W := 75) hpre0 rg_c3; have t1 := xB_th (W := 75) rp0_S1 rg_c3; have k5 : mI S1 75 5 = 0 := (aS_I (W := 75) (S := S1) (c := 75) (c₉ := 75) (k := 5) rfl rfl).symm.trans ((congrFun (congrFun rp1_S1 75) 5).trans aRA_5); have k5i := congrArg Int32.toInt k5; have k7 : mI S1 77 (mI S1 c3 0).toNatClampNeg = aRA a7 77 n.toNatClampNeg := (by rw [t1.2.2.1, ← hpre1]; exact (aS_I (W := 75) (S := S1) (c := 77) (c₉ := 77) (k := n.toNatClampNeg) rfl rfl).symm.trans (congrFun (congrFun rp1_S1 77) n.toNatClampNeg)); have k7i := congrArg Int32.toInt k7; have l5 : (0 : Int32).toInt = 0 := rfl; have a6 : a7 126 n.toNatClampNeg ≠ 0 := (by rw [← hpre1, ty.2.2.2.2.2.2.2.2]; decide); first | (exfalso; omega) | (intro w; exact w.2.2.2 (Int32.toInt_inj.mp (by omega)))))
            · skip
              have g22 := i_ne h20
              exact K ((some c3)) _ hI_S1 ⟨c3, rfl, th_c3⟩ (show xB S1 R from by first | (exact (xC_o (W := 75) rp0_S1).2)) (show aS 88 S1 = a8 from by first | (exact (xC_o (W := 88) rp0_S1).1.trans rp2_S1)) (show (some c3) = zTa R n from by first | (exact rg_c3.symm)) (show zRq a7 n from by first | (have ty := xB_th (W := 75) hpre0 rg_c3; have t1 := xB_th (W := 75) rp0_S1 rg_c3; have k5 : mI S1 75 5 = 0 := (aS_I (W := 75) (S := S1) (c := 75) (c₉ := 75) (k := 5) rfl rfl).symm.trans ((congrFun (congrFun rp1_S1 75) 5).trans aRA_5); have k5i := congrArg Int32.toInt k5; have k7 : mI S1 77 (mI S1 c3 0).toNatClampNeg = aRA a7 77 n.toNatClampNeg := (by rw [t1.2.2.1, ← hpre1]; exact (aS_I (W := 75) (S := S1) (c := 77) (c₉ := 77) (k := n.toNatClampNeg) rfl rfl).symm.trans (congrFun (congrFun rp1_S1 77) n.toNatClampNeg)); have k7i := congrArg Int32.toInt k7; have l5 : (0 : Int32).toInt = 0 := rfl; have a6 : a7 126 n.toNatClampNeg ≠ 0 := (by rw [← hpre1, ty.2.2.2.2.2.2.2.2]; decide); first | (exfalso; omega) | exact ⟨ty.1, ty.2.1, a6, fun w => by have w2 := congrArg Int32.toInt w; omega⟩)) (show kC S1 = kk from by first | (exact (xK_o (W := 88) rp0_S1 rp3_S1).2))

/-! from 95.m30 -/
/-! COUNTS, the class (written by wip/tools/gen20k.py) -/
theorem g_151_64_sk_0 {X : Nat × (Nat → Int32)} {d w : Nat} {S : ma_S} {Q : Option ma_V ⊕ Nat → ma_S → Prop} (n : Int32) (hd : 7 ≤ d) (hw : 111 ≤ w) (hS : zT S) (h : if n = (-1 : Int32) then (Q (.inl (some (.inr (.inr none)))) S) else (ma_wp X (d - 1) (w - 22) 149 0 [(0, .inr (.inr (some 64))), (1, .inl n)] [] S (zo (fun v2 S1 => zT S1 ∧ ((∃ c3, v2 = some c3 ∧ (Q (.inl (some (.inr (.inr (some c3))))) S1)))) (fun x S9 => Q (.inr x) S9)))) : ma_wp X d w 151 0 [(0, .inr (.inr (some 64))), (1, .inl n)] [] S Q := by
  refine zw_push hm_151 dX11_needReachedOrNothing_0 (v := .inl n) rfl ?_
  refine zw_push hm_151 dX11_needReachedOrNothing_1 (v := .inl (-1 : Int32)) rfl ?_
  refine zw_if2 hm_151 dX11_needReachedOrNothing_2 (t := 9) rfl zc2_ne ?_ ?_
  · intro hc
    rw [if_neg hc] at h
    refine zw_push hm_151 dX11_needReachedOrNothing_9 (v := .inr (.inr (some 64))) rfl ?_
    refine zw_push hm_151 dX11_needReachedOrNothing_10 (v := .inl n) rfl ?_
    refine zw_cv hm_151 dX11_needReachedOrNothing_11 v_11_123_11 hm_149 [.inl n] [] rfl (zT_rt hS s_64 rfl) ⟨by omega, by omega⟩ rfl (zw_mono h (zo_go ?_ ?_))
    · intro v2 S1 hv
      obtain ⟨hS1, h⟩ := hv
      obtain ⟨c3, hc, h⟩ := h
      subst hc
      show ma_wp X d w 151 14 [(0, .inr (.inr (some 64))), (1, .inl n)] [.inr (.inr (some c3))] S1 _
      exact zw_aret hm_151 dX11_needReachedOrNothing_14 h
    · intro x S9 hx
      exact ⟨by decide, hx⟩
  · intro hc
    rw [if_pos (Classical.not_not.mp hc)] at h
    refine zw_push hm_151 dX11_needReachedOrNothing_5 (v := .inr (.inr none)) rfl ?_
    refine zw_goto hm_151 dX11_needReachedOrNothing_6 (t := 14) rfl ?_
    exact zw_aret hm_151 dX11_needReachedOrNothing_14 h
theorem sp_151_64_sk {X : Nat × (Nat → Int32)} {d w : Nat} {f : Nat → Nat → Int32} {r : Nat → Nat → Option Nat} {C Z N : Nat} {Q : Option ma_V ⊕ Nat → ma_S → Prop} {R : zRT} {a7 : Nat→Nat→Int32} {a8 : Nat→Nat→Int32} {kk : Nat→Int32} {S : ma_S} (n : Int32) (hd : 7 ≤ d) (hw : 111 ≤ w) (hI : zI f r C Z N S) (hpre0 : xB S R) (hpre1 : aS 75 S = a7) (hpre2 : aS 88 S = a8) (hpre3 : kC S = kk) (K : ∀ v S₉, zI f r C Z N S₉ → (∀ c, v = some c → 126 ≤ c ∧ c < N) → (xB S₉ R) → (aS 88 S₉ = a8) → (v = zTa R n) → (n = -1 ∨ zRq a7 n) → (kC S₉ = kk) → Q (.inl (some (.inr (.inr v)))) S₉) (KX : ∀ x S₉, (x = 4) → zI f r C Z N S₉ → (xB S₉ R) → (aS 88 S₉ = a8) → (kC S₉ = kk) → (x = 4 ∧ n ≠ -1 ∧ ¬ zRq a7 n) → Q (.inr x) (ma_bump S₉)) : ma_wp X d w 151 0 [(0, .inr (.inr (some 64))), (1, .inl n)] [] S Q := by
  refine g_151_64_sk_0 n (by omega) (by omega) (zG_T hI) ?_
  have b1 := i_bd n
  have li2 : (-1 : Int32).toInt = -1 := rfl
  refine zd (fun h3 => ?_) (fun h3 => ?_)
  · skip
    have g4 := i_eq h3
    exact K (none) _ hI (fun _ z => by cases z) (show xB S R from by first | (exact (xC_o (W := 75) hpre0).2)) (show aS 88 S = a8 from by first | (exact (xC_o (W := 88) hpre0).1.trans hpre2)) (show none = zTa R n from by first | (rw [show n = -1 from by assumption]; exact ta_m1)) (show n = -1 ∨ zRq a7 n from by first | (exact Or.inl (by assumption))) (show kC S = kk from by first | (exact (xK_o (W := 88) hpre0 hpre3).2))
  · skip
    have g5 := i_ne h3
    refine sp_149_64_sk (R := R) (a7 := (aS 75 S)) (a8 := a8) (kk := kk) (n) (by omega) (by omega) hI (show xB S R from by first | (exact (xC_o (W := 75) hpre0).2)) (show aS 75 S = (aS 75 S) from by first | (exact rfl)) (show aS 88 S = a8 from by first | (exact (xC_o (W := 88) hpre0).1.trans hpre2)) (show kC S = kk from by first | (exact (xK_o (W := 88) hpre0 hpre3).2)) (fun v2 S1 hI_S1 hq_v2 rp0_S1 rp1_S1 rp2_S1 rp3_S1 rp4_S1 => zo_n ⟨zG_T hI_S1, ?_⟩) (fun x S9 hx h9 rx0 rx1 rx2 rx3 => by have h9u := h9; exact zo_x (KX x S9 (by omega) h9u (show xB S9 R from by first | (exact (xC_o (W := 75) rx0).2)) (show aS 88 S9 = a8 from by first | (exact (xC_o (W := 88) rx0).1.trans rx1)) (show kC S9 = kk from by first | (exact (xK_o (W := 88) rx0 rx2).2)) (show x = 4 ∧ n ≠ -1 ∧ ¬ zRq a7 n from by first | (exact ⟨rx3.1, by assumption, hpre1 ▸ rx3.2⟩))))
    have rp0_S1 : xB S1 R := rp0_S1
    have rp1_S1 : aS 88 S1 = a8 := rp1_S1
    have rp2_S1 : v2 = zTa R n := rp2_S1
    have rp3_S1 : zRq (aS 75 S) n := rp3_S1
    have rp4_S1 : kC S1 = kk := rp4_S1
    obtain ⟨c3, hc, th_c3⟩ := hq_v2
    have rg_c3 : zTa R n = some c3 := rp2_S1.symm.trans hc
    refine ⟨c3, hc, ?_⟩
    exact K ((some c3)) _ hI_S1 (fun _ z => by cases z; exact th_c3) (show xB S1 R from by first | (exact (xC_o (W := 75) rp0_S1).2)) (show aS 88 S1 = a8 from by first | (exact (xC_o (W := 88) rp0_S1).1.trans rp1_S1)) (show (some c3) = zTa R n from by first | (exact rg_c3.symm)) (show n = -1 ∨ zRq a7 n from by first | (rw [hpre1] at *; exact Or.inr rp3_S1) | (exact Or.inr (hpre1 ▸ rp3_S1))) (show kC S1 = kk from by first | (exact (xK_o (W := 88) rp0_S1 rp4_S1).2))

/-! from 95.m31 -/
/-! COUNTS, the class (written by wip/tools/gen20k.py) -/
theorem g_148_64_sk_p84_0 {X : Nat × (Nat → Int32)} {d w : Nat} {S : ma_S} {Q : Option ma_V ⊕ Nat → ma_S → Prop} (o : Int32) (i : Int32) (x : Int32) (hd : 7 ≤ d) (hw : 111 ≤ w) (hS : zT S) (h : mR S 64 11 = some 84 ∧ (mR S 64 11 = some 84 ∧ (ma_wp X (d - 1) (w - 22) 149 0 [(0, .inr (.inr (some 64))), (1, .inl o)] [] S (zo (fun v2 S1 => zT S1 ∧ ((∃ c3, v2 = some c3 ∧ ((126 ≤ c3 ∧ c3 < mN S1) ∧ (if i < 0 then (Q (.inr 1) (ma_bump S1)) else ((126 ≤ c3 ∧ c3 < mN S1) ∧ (if ((mI S1 c3 2) - (1 : Int32)) ≤ i then (Q (.inr 1) (ma_bump S1)) else ((126 ≤ c3 ∧ c3 < mN S1) ∧ ((126 ≤ c3 ∧ c3 < mN S1) ∧ (if i < 0 then (ma_wp X (d - 1) (w - 25) 95 0 [(0, .inr (.inr (some 69))), (1, .inr (.inr (some c3))), (2, .inl i), (3, .inl x)] [] S1 (zi (fun v5 S4 => zT S4 ∧ (Q (.inl (some (.inl v5))) S4)) (fun x S9 => Q (.inr x) S9))) else ((126 ≤ c3 ∧ c3 < mN S1) ∧ (if ((mI S1 c3 2) - (1 : Int32)) ≤ i then (ma_wp X (d - 1) (w - 25) 95 0 [(0, .inr (.inr (some 69))), (1, .inr (.inr (some c3))), (2, .inl i), (3, .inl x)] [] S1 (zi (fun v7 S6 => zT S6 ∧ (Q (.inl (some (.inl v7))) S6)) (fun x S9 => Q (.inr x) S9))) else ((126 ≤ c3 ∧ c3 < mN S1) ∧ (if (lg_cmp ((((mL S1 c3 3).toUInt64 >>> (i.toInt64.toUInt64 &&& Int64.toUInt64 63)).toInt64) &&& (1 : Int64)) (0 : Int64)) = 0 then (ma_wp X (d - 1) (w - 25) 95 0 [(0, .inr (.inr (some 69))), (1, .inr (.inr (some c3))), (2, .inl i), (3, .inl x)] [] S1 (zi (fun v9 S8 => zT S8 ∧ (Q (.inl (some (.inl v9))) S8)) (fun x S9 => Q (.inr x) S9))) else (Q (.inr 5) (ma_bump S1)))))))))))))))) (fun x S9 => Q (.inr x) S9))))) : ma_wp X d w 148 0 [(0, .inr (.inr (some 64))), (1, .inl o), (2, .inl i), (3, .inl x)] [] S Q := by
  refine zw_push hm_148 dX11_put_0 (v := .inr (.inr (some 64))) rfl ?_
  refine zw_cv hm_148 dX11_put_1 v_11_119_11 hm_144 [] [] rfl (zT_rt hS s_64 rfl) ⟨by omega, by omega⟩ rfl ?_
  show ma_wp X (d - 1) (w - 20) 144 0 [(0, .inr (.inr (some 64)))] [] S _
  refine zw_push hm_144 dX11_needCollector_0 (v := .inr (.inr (some 64))) rfl ?_
  obtain ⟨hg, h⟩ := h
  refine zw_gf hm_144 dX11_needCollector_1 (v := .inr (.inr (some 84))) (zT_is hS s_64) (zT_t hS s_64) rfl f_11_98_11 (congrArg (fun z => Sum.inr (Sum.inr z)) hg) ?_
  refine zw_ifnonnull hm_144 dX11_needCollector_4 (t := 15) rfl (fun z => by cases z) (fun _ _ => ?_)
  refine zw_push hm_144 dX11_needCollector_15 (v := .inr (.inr (some 64))) rfl ?_
  obtain ⟨hg, h⟩ := h
  refine zw_gf hm_144 dX11_needCollector_16 (v := .inr (.inr (some 84))) (zT_is hS s_64) (zT_t hS s_64) rfl f_11_98_11 (congrArg (fun z => Sum.inr (Sum.inr z)) hg) ?_
  refine zw_aret hm_144 dX11_needCollector_19 ?_
  show ma_wp X d w 148 4 [(0, .inr (.inr (some 64))), (1, .inl o), (2, .inl i), (3, .inl x)] [.inr (.inr (some 84))] S _
  refine zw_stk hm_148 dX11_put_4 (st₉ := []) rfl rfl ?_
  refine zw_push hm_148 dX11_put_5 (v := .inr (.inr (some 64))) rfl ?_
  refine zw_push hm_148 dX11_put_6 (v := .inl o) rfl ?_
  refine zw_cv hm_148 dX11_put_7 v_11_123_11 hm_149 [.inl o] [] rfl (zT_rt hS s_64 rfl) ⟨by omega, by omega⟩ rfl (zw_mono h (zo_go ?_ ?_))
  · intro v2 S1 hv
    obtain ⟨hS1, h⟩ := hv
    obtain ⟨c3, hc, h⟩ := h
    subst hc
    show ma_wp X d w 148 10 [(0, .inr (.inr (some 64))), (1, .inl o), (2, .inl i), (3, .inl x)] [.inr (.inr (some c3))] S1 _
    refine zw_sto hm_148 dX11_put_10 [(4, .inr (.inr (some c3))), (0, .inr (.inr (some 64))), (1, .inl o), (2, .inl i), (3, .inl x)] rfl rfl rfl ?_
    refine zw_push hm_148 dX11_put_12 (v := .inr (.inr (some c3))) rfl ?_
    refine zw_push hm_148 dX11_put_14 (v := .inl i) rfl ?_
    obtain ⟨hg, h⟩ := h
    refine zw_cv hm_148 dX11_put_15 v_11_127_9 hm_114 [.inl i] [] rfl (zT_trt hS1 hg) ⟨by omega, by omega⟩ rfl ?_
    show ma_wp X (d - 1) (w - 21) 114 0 [(0, .inr (.inr (some c3))), (1, .inl i)] [] S1 _
    refine zw_push hm_114 dX9_hasWord_0 (v := .inl i) rfl ?_
    refine zw_if0 hm_114 dX9_hasWord_1 (t := 18) rfl zc0_lt ?_ ?_
    · intro hc
      rw [if_pos hc] at h
      refine zw_push hm_114 dX9_hasWord_18 (v := .inl (0 : Int32)) rfl ?_
      refine zw_bret hm_114 dX9_hasWord_19 (by decide) ?_
      show ma_wp X d w 148 18 [(4, .inr (.inr (some c3))), (0, .inr (.inr (some 64))), (1, .inl o), (2, .inl i), (3, .inl x)] [.inl (0 : Int32)] S1 _
      refine zw_if0 hm_148 dX11_put_18 (t := 29) rfl zc0_ne (fun hc => absurd hc (by decide)) (fun _ => ?_)
      exact zw_thr hm_148 dX11_put_21 dX11_put_24 dX11_put_25 dX11_put_28 x_11_72_74 n_11_72 (by omega) (by show 0 + 81 ≤ w; omega) h
    · intro hc
      rw [if_neg hc] at h
      refine zw_push hm_114 dX9_hasWord_4 (v := .inl i) rfl ?_
      refine zw_push hm_114 dX9_hasWord_5 (v := .inr (.inr (some c3))) rfl ?_
      obtain ⟨hg, h⟩ := h
      refine zw_gf hm_114 dX9_hasWord_6 (v := .inl (mI S1 c3 2)) (zT_tis hS1 hg) (zT_tt hS1 hg) rfl f_9_16_9 rfl ?_
      refine zw_push hm_114 dX9_hasWord_9 (v := .inl (1 : Int32)) rfl ?_
      refine zw_stk hm_114 dX9_hasWord_10 (st₉ := [.inl ((mI S1 c3 2) - (1 : Int32)), .inl i]) rfl rfl ?_
      refine zw_if2 hm_114 dX9_hasWord_11 (t := 18) rfl zc2_ge ?_ ?_
      · intro hc
        rw [if_pos hc] at h
        refine zw_push hm_114 dX9_hasWord_18 (v := .inl (0 : Int32)) rfl ?_
        refine zw_bret hm_114 dX9_hasWord_19 (by decide) ?_
        show ma_wp X d w 148 18 [(4, .inr (.inr (some c3))), (0, .inr (.inr (some 64))), (1, .inl o), (2, .inl i), (3, .inl x)] [.inl (0 : Int32)] S1 _
        refine zw_if0 hm_148 dX11_put_18 (t := 29) rfl zc0_ne (fun hc => absurd hc (by decide)) (fun _ => ?_)
        exact zw_thr hm_148 dX11_put_21 dX11_put_24 dX11_put_25 dX11_put_28 x_11_72_74 n_11_72 (by omega) (by show 0 + 81 ≤ w; omega) h
      · intro hc
        rw [if_neg hc] at h
        refine zw_push hm_114 dX9_hasWord_14 (v := .inl (1 : Int32)) rfl ?_
        refine zw_goto hm_114 dX9_hasWord_15 (t := 19) rfl ?_
        refine zw_bret hm_114 dX9_hasWord_19 (by decide) ?_
        show ma_wp X d w 148 18 [(4, .inr (.inr (some c3))), (0, .inr (.inr (some 64))), (1, .inl o), (2, .inl i), (3, .inl x)] [.inl (1 : Int32)] S1 _
        refine zw_if0 hm_148 dX11_put_18 (t := 29) rfl zc0_ne (fun _ => ?_) (fun hc => absurd (by decide) hc)
        refine zw_push hm_148 dX11_put_29 (v := .inr (.inr (some c3))) rfl ?_
        refine zw_push hm_148 dX11_put_31 (v := .inl i) rfl ?_
        obtain ⟨hg, h⟩ := h
        refine zw_cv hm_148 dX11_put_32 v_11_132_9 hm_113 [.inl i] [] rfl (zT_trt hS1 hg) ⟨by omega, by omega⟩ rfl ?_
        show ma_wp X (d - 1) (w - 21) 113 0 [(0, .inr (.inr (some c3))), (1, .inl i)] [] S1 _
        refine zw_push hm_113 dX9_isReference_0 (v := .inr (.inr (some c3))) rfl ?_
        refine zw_push hm_113 dX9_isReference_1 (v := .inl i) rfl ?_
        obtain ⟨hg, h⟩ := h
        refine zw_cv hm_113 dX9_isReference_2 v_9_26_9 hm_114 [.inl i] [] rfl (zT_trt hS1 hg) ⟨by omega, by omega⟩ rfl ?_
        show ma_wp X ((d - 1) - 1) ((w - 21) - 21) 114 0 [(0, .inr (.inr (some c3))), (1, .inl i)] [] S1 _
        refine zw_push hm_114 dX9_hasWord_0 (v := .inl i) rfl ?_
        refine zw_if0 hm_114 dX9_hasWord_1 (t := 18) rfl zc0_lt ?_ ?_
        · intro hc
          rw [if_pos hc] at h
          refine zw_push hm_114 dX9_hasWord_18 (v := .inl (0 : Int32)) rfl ?_
          refine zw_bret hm_114 dX9_hasWord_19 (by decide) ?_
          show ma_wp X (d - 1) (w - 21) 113 5 [(0, .inr (.inr (some c3))), (1, .inl i)] [.inl (0 : Int32)] S1 _
          refine zw_if0 hm_113 dX9_isReference_5 (t := 25) rfl zc0_eq (fun _ => ?_) (fun hc => absurd (by decide) hc)
          refine zw_push hm_113 dX9_isReference_25 (v := .inl (0 : Int32)) rfl ?_
          refine zw_bret hm_113 dX9_isReference_26 (by decide) ?_
          show ma_wp X d w 148 35 [(4, .inr (.inr (some c3))), (0, .inr (.inr (some 64))), (1, .inl o), (2, .inl i), (3, .inl x)] [.inl (0 : Int32)] S1 _
          refine zw_if0 hm_148 dX11_put_35 (t := 46) rfl zc0_eq (fun _ => ?_) (fun hc => absurd (by decide) hc)
          refine zw_push hm_148 dX11_put_46 (v := .inr (.inr (some 64))) rfl ?_
          refine zw_gf hm_148 dX11_put_47 (v := .inr (.inr (some 69))) (zT_is hS1 s_64) (zT_t hS1 s_64) rfl f_11_26_11 (zT_f hS1 r_64_8) ?_
          refine zw_push hm_148 dX11_put_50 (v := .inr (.inr (some c3))) rfl ?_
          refine zw_push hm_148 dX11_put_52 (v := .inl i) rfl ?_
          refine zw_push hm_148 dX11_put_53 (v := .inl x) rfl ?_
          refine zw_cv hm_148 dX11_put_54 v_11_138_7 hm_95 [.inl x, .inl i, .inr (.inr (some c3))] [] rfl (zT_rt hS1 s_69 rfl) ⟨by omega, by omega⟩ rfl (zw_mono h (zi_go ?_ ?_))
          · intro v5 S4 hv
            obtain ⟨hS4, h⟩ := hv
            exact zw_iret hm_148 dX11_put_57 h
          · intro x S9 hx
            exact ⟨by decide, hx⟩
        · intro hc
          rw [if_neg hc] at h
          refine zw_push hm_114 dX9_hasWord_4 (v := .inl i) rfl ?_
          refine zw_push hm_114 dX9_hasWord_5 (v := .inr (.inr (some c3))) rfl ?_
          obtain ⟨hg, h⟩ := h
          refine zw_gf hm_114 dX9_hasWord_6 (v := .inl (mI S1 c3 2)) (zT_tis hS1 hg) (zT_tt hS1 hg) rfl f_9_16_9 rfl ?_
          refine zw_push hm_114 dX9_hasWord_9 (v := .inl (1 : Int32)) rfl ?_
          refine zw_stk hm_114 dX9_hasWord_10 (st₉ := [.inl ((mI S1 c3 2) - (1 : Int32)), .inl i]) rfl rfl ?_
          refine zw_if2 hm_114 dX9_hasWord_11 (t := 18) rfl zc2_ge ?_ ?_
          · intro hc
            rw [if_pos hc] at h
            refine zw_push hm_114 dX9_hasWord_18 (v := .inl (0 : Int32)) rfl ?_
            refine zw_bret hm_114 dX9_hasWord_19 (by decide) ?_
            show ma_wp X (d - 1) (w - 21) 113 5 [(0, .inr (.inr (some c3))), (1, .inl i)] [.inl (0 : Int32)] S1 _
            refine zw_if0 hm_113 dX9_isReference_5 (t := 25) rfl zc0_eq (fun _ => ?_) (fun hc => absurd (by decide) hc)
            refine zw_push hm_113 dX9_isReference_25 (v := .inl (0 : Int32)) rfl ?_
            refine zw_bret hm_113 dX9_isReference_26 (by decide) ?_
            show ma_wp X d w 148 35 [(4, .inr (.inr (some c3))), (0, .inr (.inr (some 64))), (1, .inl o), (2, .inl i), (3, .inl x)] [.inl (0 : Int32)] S1 _
            refine zw_if0 hm_148 dX11_put_35 (t := 46) rfl zc0_eq (fun _ => ?_) (fun hc => absurd (by decide) hc)
            refine zw_push hm_148 dX11_put_46 (v := .inr (.inr (some 64))) rfl ?_
            refine zw_gf hm_148 dX11_put_47 (v := .inr (.inr (some 69))) (zT_is hS1 s_64) (zT_t hS1 s_64) rfl f_11_26_11 (zT_f hS1 r_64_8) ?_
            refine zw_push hm_148 dX11_put_50 (v := .inr (.inr (some c3))) rfl ?_
            refine zw_push hm_148 dX11_put_52 (v := .inl i) rfl ?_
            refine zw_push hm_148 dX11_put_53 (v := .inl x) rfl ?_
            refine zw_cv hm_148 dX11_put_54 v_11_138_7 hm_95 [.inl x, .inl i, .inr (.inr (some c3))] [] rfl (zT_rt hS1 s_69 rfl) ⟨by omega, by omega⟩ rfl (zw_mono h (zi_go ?_ ?_))
            · intro v7 S6 hv
              obtain ⟨hS6, h⟩ := hv
              exact zw_iret hm_148 dX11_put_57 h
            · intro x S9 hx
              exact ⟨by decide, hx⟩
          · intro hc
            rw [if_neg hc] at h
            refine zw_push hm_114 dX9_hasWord_14 (v := .inl (1 : Int32)) rfl ?_
            refine zw_goto hm_114 dX9_hasWord_15 (t := 19) rfl ?_
            refine zw_bret hm_114 dX9_hasWord_19 (by decide) ?_
            show ma_wp X (d - 1) (w - 21) 113 5 [(0, .inr (.inr (some c3))), (1, .inl i)] [.inl (1 : Int32)] S1 _
            refine zw_if0 hm_113 dX9_isReference_5 (t := 25) rfl zc0_eq (fun hc => absurd hc (by decide)) (fun _ => ?_)
            refine zw_push hm_113 dX9_isReference_8 (v := .inr (.inr (some c3))) rfl ?_
            obtain ⟨hg, h⟩ := h
            refine zw_gf hm_113 dX9_isReference_9 (v := .inr (.inl (mL S1 c3 3))) (zT_tis hS1 hg) (zT_tt hS1 hg) rfl f_9_19_9 rfl ?_
            refine zw_push hm_113 dX9_isReference_12 (v := .inl i) rfl ?_
            refine zw_stk hm_113 dX9_isReference_13 (st₉ := [.inr (.inl (((mL S1 c3 3).toUInt64 >>> (i.toInt64.toUInt64 &&& Int64.toUInt64 63)).toInt64))]) rfl rfl ?_
            refine zw_push hm_113 dX9_isReference_14 (v := .inr (.inl (1 : Int64))) rfl ?_
            refine zw_stk hm_113 dX9_isReference_15 (st₉ := [.inr (.inl ((((mL S1 c3 3).toUInt64 >>> (i.toInt64.toUInt64 &&& Int64.toUInt64 63)).toInt64) &&& (1 : Int64)))]) rfl rfl ?_
            refine zw_push hm_113 dX9_isReference_16 (v := .inr (.inl (0 : Int64))) rfl ?_
            refine zw_stk hm_113 dX9_isReference_17 (st₉ := [.inl (lg_cmp ((((mL S1 c3 3).toUInt64 >>> (i.toInt64.toUInt64 &&& Int64.toUInt64 63)).toInt64) &&& (1 : Int64)) (0 : Int64))]) rfl rfl ?_
            refine zw_if0 hm_113 dX9_isReference_18 (t := 25) rfl zc0_eq ?_ ?_
            · intro hc
              rw [if_pos hc] at h
              refine zw_push hm_113 dX9_isReference_25 (v := .inl (0 : Int32)) rfl ?_
              refine zw_bret hm_113 dX9_isReference_26 (by decide) ?_
              show ma_wp X d w 148 35 [(4, .inr (.inr (some c3))), (0, .inr (.inr (some 64))), (1, .inl o), (2, .inl i), (3, .inl x)] [.inl (0 : Int32)] S1 _
              refine zw_if0 hm_148 dX11_put_35 (t := 46) rfl zc0_eq (fun _ => ?_) (fun hc => absurd (by decide) hc)
              refine zw_push hm_148 dX11_put_46 (v := .inr (.inr (some 64))) rfl ?_
              refine zw_gf hm_148 dX11_put_47 (v := .inr (.inr (some 69))) (zT_is hS1 s_64) (zT_t hS1 s_64) rfl f_11_26_11 (zT_f hS1 r_64_8) ?_
              refine zw_push hm_148 dX11_put_50 (v := .inr (.inr (some c3))) rfl ?_
              refine zw_push hm_148 dX11_put_52 (v := .inl i) rfl ?_
              refine zw_push hm_148 dX11_put_53 (v := .inl x) rfl ?_
              refine zw_cv hm_148 dX11_put_54 v_11_138_7 hm_95 [.inl x, .inl i, .inr (.inr (some c3))] [] rfl (zT_rt hS1 s_69 rfl) ⟨by omega, by omega⟩ rfl (zw_mono h (zi_go ?_ ?_))
              · intro v9 S8 hv
                obtain ⟨hS8, h⟩ := hv
                exact zw_iret hm_148 dX11_put_57 h
              · intro x S9 hx
                exact ⟨by decide, hx⟩
            · intro hc
              rw [if_neg hc] at h
              refine zw_push hm_113 dX9_isReference_21 (v := .inl (1 : Int32)) rfl ?_
              refine zw_goto hm_113 dX9_isReference_22 (t := 26) rfl ?_
              refine zw_bret hm_113 dX9_isReference_26 (by decide) ?_
              show ma_wp X d w 148 35 [(4, .inr (.inr (some c3))), (0, .inr (.inr (some 64))), (1, .inl o), (2, .inl i), (3, .inl x)] [.inl (1 : Int32)] S1 _
              refine zw_if0 hm_148 dX11_put_35 (t := 46) rfl zc0_eq (fun hc => absurd hc (by decide)) (fun _ => ?_)
              exact zw_thr hm_148 dX11_put_38 dX11_put_41 dX11_put_42 dX11_put_45 x_11_135_137 n_11_135 (by omega) (by show 0 + 81 ≤ w; omega) h
  · intro x S9 hx
    exact ⟨by decide, hx⟩
theorem sp_148_64_sk_p84 {X : Nat × (Nat → Int32)} {d w : Nat} {f : Nat → Nat → Int32} {r : Nat → Nat → Option Nat} {C Z N : Nat} {Q : Option ma_V ⊕ Nat → ma_S → Prop} {ab : Nat→Nat→Int32} {B : Int} {fq : Nat→Int32} {S : ma_S} (o : Int32) (i : Int32) (x : Int32) (hd : 7 ≤ d) (hw : 111 ≤ w) (hI : zB f r C Z N S) (hr : r 64 11 = some 84) (hpre0 : xB S (mR S 70)) (hpre1 : aS 88 S = ab) (hpre2 : cC ab [] (kC S) B) (hpre3 : zfP 84 (mI S) = fq) (K : ∀ v S₉, zB f r C Z N S₉ → (True) → (xB S₉ (mR S₉ 70)) → (cC (aS 88 S₉) [] (kC S₉) B) → (zRq ab o ∧ zHw ab o i ∧ ¬ zIr ab o i ∧ aS 88 S₉ = aCi ab o.toNatClampNeg i x ∧ v = aWo ab o.toNatClampNeg i) → (zfP 84 (mI S₉) = fq) → Q (.inl (some (.inl v))) S₉) (KX : ∀ x S₉, (x = 1 ∨ x = 4 ∨ x = 5) → zB f r C Z N S₉ → (xB S₉ (mR S₉ 70)) → (aS 88 S₉ = ab) → (cC ab [] (kC S₉) B) → ((x = 4 ∧ ¬ zRq ab o) ∨ (x = 1 ∧ zRq ab o ∧ ¬ zHw ab o i) ∨ (x = 5 ∧ zRq ab o ∧ zHw ab o i ∧ zIr ab o i)) → (zfP 84 (mI S₉) = fq) → Q (.inr x) (ma_bump S₉)) : ma_wp X d w 148 0 [(0, .inr (.inr (some 64))), (1, .inl o), (2, .inl i), (3, .inl x)] [] S Q := by
  refine g_148_64_sk_p84_0 o i x (by omega) (by omega) (zG_T hI) ?_
  refine ⟨((zG_r hI (by decide)).trans hr), ?_⟩
  refine ⟨((zG_r hI (by decide)).trans hr), ?_⟩
  have b1 := i_bd o
  refine sp_149_64_sk (R := (mR S 70)) (a7 := (aS 75 S)) (a8 := (aS 88 S)) (kk := (kC S)) (o) (by omega) (by omega) (zB_dn_zI hI) (show xB S (mR S 70) from by first | (exact (xC_o (W := 75) hpre0).2)) (show aS 75 S = (aS 75 S) from by first | (exact rfl)) (show aS 88 S = (aS 88 S) from by first | (exact rfl)) (show kC S = (kC S) from by first | (exact rfl)) (fun v2 S1 hL_S1 hq_v2 rp0_S1 rp1_S1 rp2_S1 rp3_S1 rp4_S1 => zo_n ⟨zG_T hL_S1, ?_⟩) (fun x S9 hx h9 rx0 rx1 rx2 rx3 => by have h9u := (zB_up_zI hI h9); exact zo_x (KX x S9 (by omega) h9u (show xB S9 (mR S9 70) from by first | (exact xB_x (xC_o (W := 75) rx0).2)) (show aS 88 S9 = ab from by first | (exact rx1.trans hpre1)) (show cC ab [] (kC S9) B from by first | (rw [rx2]; exact hpre2)) (show (x = 4 ∧ ¬ zRq ab o) ∨ (x = 1 ∧ zRq ab o ∧ ¬ zHw ab o i) ∨ (x = 5 ∧ zRq ab o ∧ zHw ab o i ∧ zIr ab o i) from by first | (exact Or.inl ⟨rx3.1, rq_no rx3.2 hpre1⟩)) (show zfP 84 (mI S9) = fq from by first | (exact ((zf_fr (P := 84) (fun _ => zG_z h9 rfl)).trans hpre3)))))
  have hI_S1 := zB_up_zI hI hL_S1
  have rp0_S1 : xB S1 (mR S 70) := by
    have z := rp0_S1
    (try rw [show mI S 65 = f 65 from funext (fun k => zG_z hI rfl)] at z)
    (try rw [show mI S 64 1 = f 64 1 from zG_z hI rfl] at z)
    exact z
  have rp1_S1 : aS 88 S1 = (aS 88 S) := by
    have z := rp1_S1
    (try rw [show mI S 65 = f 65 from funext (fun k => zG_z hI rfl)] at z)
    (try rw [show mI S 64 1 = f 64 1 from zG_z hI rfl] at z)
    exact z
  have rp2_S1 : v2 = zTa (mR S 70) o := by
    have z := rp2_S1
    (try rw [show mI S 65 = f 65 from funext (fun k => zG_z hI rfl)] at z)
    (try rw [show mI S 64 1 = f 64 1 from zG_z hI rfl] at z)
    exact z
  have rp3_S1 : zRq (aS 75 S) o := by
    have z := rp3_S1
    (try rw [show mI S 65 = f 65 from funext (fun k => zG_z hI rfl)] at z)
    (try rw [show mI S 64 1 = f 64 1 from zG_z hI rfl] at z)
    exact z
  have rp4_S1 : kC S1 = (kC S) := by
    have z := rp4_S1
    (try rw [show mI S 65 = f 65 from funext (fun k => zG_z hI rfl)] at z)
    (try rw [show mI S 64 1 = f 64 1 from zG_z hI rfl] at z)
    exact z
  obtain ⟨c3, hc, th_c3⟩ := hq_v2
  have rg_c3 : zTa (mR S 70) o = some c3 := rp2_S1.symm.trans hc
  refine ⟨c3, hc, ?_⟩
  refine ⟨zG_n hI_S1 th_c3, ?_⟩
  have b2 := i_bd i
  have li3 : (0 : Int32).toInt = 0 := rfl
  refine zd (fun h4 => ?_) (fun h4 => ?_)
  · skip
    have g5 := i_lt h4
    exact KX 1 _ (by decide) hI_S1 (show xB S1 (mR S1 70) from by first | (exact xB_x (xC_o (W := 75) rp0_S1).2)) (show aS 88 S1 = ab from by first | (exact (xC_o (W := 88) rp0_S1).1.trans (rp1_S1.trans hpre1))) (show cC ab [] (kC S1) B from by first | (rw [(xK_o (W := 88) rp0_S1 rfl).2, rp4_S1]; exact hpre2) | (exact hpre2)) (show (1 = 4 ∧ ¬ zRq ab o) ∨ (1 = 1 ∧ zRq ab o ∧ ¬ zHw ab o i) ∨ (1 = 5 ∧ zRq ab o ∧ zHw ab o i ∧ zIr ab o i) from by first | (have ty := xB_th (W := 88) rp0_S1 rg_c3; have z2 := congrArg Int32.toInt ty.2.2.2.2.1; rw [(rp1_S1.trans hpre1)] at z2; exact Or.inr (Or.inl ⟨rfl, (rq_up rp3_S1 hpre1), fun w => by have w1 := w.1; have w2 := w.2; omega⟩))) (show zfP 84 (mI S1) = fq from by first | (exact ((zf_fr (P := 84) (S₉ := S1) (S := S) (fun _ => zG_z hL_S1 rfl)).trans hpre3)))
  · skip
    have g6 := i_nlt h4
    refine ⟨zG_n hI_S1 th_c3, ?_⟩
    have f7 := zG_th hI_S1 th_c3
    first | have e8 : ((mI S1 c3 2) - (1 : Int32)).toInt = (mI S1 c3 2).toInt - (1) := i_subk rfl (by omega) (by omega) | have b9 := i_bd ((mI S1 c3 2) - (1 : Int32))
    refine zd (fun h10 => ?_) (fun h10 => ?_)
    · skip
      have g11 := i_le h10
      exact KX 1 _ (by decide) hI_S1 (show xB S1 (mR S1 70) from by first | (exact xB_x (xC_o (W := 75) rp0_S1).2)) (show aS 88 S1 = ab from by first | (exact (xC_o (W := 88) rp0_S1).1.trans (rp1_S1.trans hpre1))) (show cC ab [] (kC S1) B from by first | (rw [(xK_o (W := 88) rp0_S1 rfl).2, rp4_S1]; exact hpre2) | (exact hpre2)) (show (1 = 4 ∧ ¬ zRq ab o) ∨ (1 = 1 ∧ zRq ab o ∧ ¬ zHw ab o i) ∨ (1 = 5 ∧ zRq ab o ∧ zHw ab o i ∧ zIr ab o i) from by first | (have ty := xB_th (W := 88) rp0_S1 rg_c3; have z2 := congrArg Int32.toInt ty.2.2.2.2.1; rw [(rp1_S1.trans hpre1)] at z2; exact Or.inr (Or.inl ⟨rfl, (rq_up rp3_S1 hpre1), fun w => by have w1 := w.1; have w2 := w.2; omega⟩))) (show zfP 84 (mI S1) = fq from by first | (exact ((zf_fr (P := 84) (S₉ := S1) (S := S) (fun _ => zG_z hL_S1 rfl)).trans hpre3)))
    · skip
      have g12 := i_nle h10
      refine ⟨zG_n hI_S1 th_c3, ?_⟩
      refine ⟨zG_n hI_S1 th_c3, ?_⟩
      refine zd (fun h13 => ?_) (fun h13 => ?_)
      · skip
        have g14 := i_lt h13
        have b15 := i_bd x
        refine sp_95_69_sk (ab := (aS 88 S1)) (R := (mR S 70)) (W := 88) (y := (o)) (kk := (kC S1)) (n0 := (zN0 S1)) c3 (i) (x) (by omega) (by omega) (zB_dn_zI hI_S1) th_c3 (show xB S1 (mR S 70) from by first | (exact (xC_o (W := 75) rp0_S1).2)) (show aS 88 S1 = (aS 88 S1) from by first | (exact rfl)) (show xW 88 from by first | (exact xW88) | (exact xW75)) (show zTa (mR S 70) (o) = some c3 from by first | (exact rg_c3)) (show kC S1 = (kC S1) from by first | (exact rfl)) (show zN0 S1 = (zN0 S1) from by first | (exact rfl)) (fun v5 S4 hL_S4 hp_v5 rp0_S4 rp1_S4 rp2_S4 rp3_S4 => zi_n ⟨zG_T hL_S4, ?_⟩)
        have hI_S4 := zB_up_zI hI_S1 hL_S4
        have rp0_S4 : xB S4 (mR S 70) := by
          have z := rp0_S4
          (try rw [show mI S1 65 = f 65 from funext (fun k => zG_z hI_S1 rfl)] at z)
          (try rw [show mI S1 64 1 = f 64 1 from zG_z hI_S1 rfl] at z)
          exact z
        have rp1_S4 : aS 88 S4 = aCi (aS 88 S1) (o).toNatClampNeg i x ∧ v5 = aWo (aS 88 S1) (o).toNatClampNeg i := by
          have z := rp1_S4
          (try rw [show mI S1 65 = f 65 from funext (fun k => zG_z hI_S1 rfl)] at z)
          (try rw [show mI S1 64 1 = f 64 1 from zG_z hI_S1 rfl] at z)
          exact z
        have rp2_S4 : kC S4 = (kC S1) := by
          have z := rp2_S4
          (try rw [show mI S1 65 = f 65 from funext (fun k => zG_z hI_S1 rfl)] at z)
          (try rw [show mI S1 64 1 = f 64 1 from zG_z hI_S1 rfl] at z)
          exact z
        have rp3_S4 : zN0 S4 = (zN0 S1) := by
          have z := rp3_S4
          (try rw [show mI S1 65 = f 65 from funext (fun k => zG_z hI_S1 rfl)] at z)
          (try rw [show mI S1 64 1 = f 64 1 from zG_z hI_S1 rfl] at z)
          exact z
        have b16 := i_bd v5
        exact K (v5) _ hI_S4 trivial (show xB S4 (mR S4 70) from by first | (exact xB_x (xC_o (W := 75) rp0_S4).2)) (show cC (aS 88 S4) [] (kC S4) B from by first | (exfalso; omega) | (have ty := xB_th (W := 88) rp0_S1 rg_c3; have z2 := congrArg Int32.toInt ty.2.2.2.2.1; rw [(rp1_S1.trans hpre1)] at z2; have ci := rp1_S4; rw [(rp1_S1.trans hpre1)] at ci; rw [ci.1, rp2_S4, rp4_S1]; refine C_pu hpre2 ⟨(by have q := (rq_up rp3_S1 hpre1); exact al_of q), by omega, by omega⟩ ?_; exact Classical.byContradiction (fun w => ir_n rp0_S1 rg_c3 (rp1_S1.trans hpre1) (by omega) (by assumption) w))) (show zRq ab o ∧ zHw ab o i ∧ ¬ zIr ab o i ∧ aS 88 S4 = aCi ab o.toNatClampNeg i x ∧ v5 = aWo ab o.toNatClampNeg i from by first | (exfalso; omega) | (have ty := xB_th (W := 88) rp0_S1 rg_c3; have z2 := congrArg Int32.toInt ty.2.2.2.2.1; rw [(rp1_S1.trans hpre1)] at z2; have ci := rp1_S4; rw [(rp1_S1.trans hpre1)] at ci; exact ⟨(rq_up rp3_S1 hpre1), ⟨by omega, by omega⟩, ir_n rp0_S1 rg_c3 (rp1_S1.trans hpre1) (by omega) (by assumption), ci.1, ci.2⟩)) (show zfP 84 (mI S4) = fq from by first | (exact ((zf_fr (P := 84) (S₉ := S4) (S := S1) (fun _ => zG_z hL_S4 rfl)).trans ((zf_fr (P := 84) (S₉ := S1) (S := S) (fun _ => zG_z hL_S1 rfl)).trans hpre3))))
      · skip
        have g17 := i_nlt h13
        refine ⟨zG_n hI_S1 th_c3, ?_⟩
        refine zd (fun h18 => ?_) (fun h18 => ?_)
        · skip
          have g19 := i_le h18
          have b20 := i_bd x
          refine sp_95_69_sk (ab := (aS 88 S1)) (R := (mR S 70)) (W := 88) (y := (o)) (kk := (kC S1)) (n0 := (zN0 S1)) c3 (i) (x) (by omega) (by omega) (zB_dn_zI hI_S1) th_c3 (show xB S1 (mR S 70) from by first | (exact (xC_o (W := 75) rp0_S1).2)) (show aS 88 S1 = (aS 88 S1) from by first | (exact rfl)) (show xW 88 from by first | (exact xW88) | (exact xW75)) (show zTa (mR S 70) (o) = some c3 from by first | (exact rg_c3)) (show kC S1 = (kC S1) from by first | (exact rfl)) (show zN0 S1 = (zN0 S1) from by first | (exact rfl)) (fun v7 S6 hL_S6 hp_v7 rp0_S6 rp1_S6 rp2_S6 rp3_S6 => zi_n ⟨zG_T hL_S6, ?_⟩)
          have hI_S6 := zB_up_zI hI_S1 hL_S6
          have rp0_S6 : xB S6 (mR S 70) := by
            have z := rp0_S6
            (try rw [show mI S1 65 = f 65 from funext (fun k => zG_z hI_S1 rfl)] at z)
            (try rw [show mI S1 64 1 = f 64 1 from zG_z hI_S1 rfl] at z)
            exact z
          have rp1_S6 : aS 88 S6 = aCi (aS 88 S1) (o).toNatClampNeg i x ∧ v7 = aWo (aS 88 S1) (o).toNatClampNeg i := by
            have z := rp1_S6
            (try rw [show mI S1 65 = f 65 from funext (fun k => zG_z hI_S1 rfl)] at z)
            (try rw [show mI S1 64 1 = f 64 1 from zG_z hI_S1 rfl] at z)
            exact z
          have rp2_S6 : kC S6 = (kC S1) := by
            have z := rp2_S6
            (try rw [show mI S1 65 = f 65 from funext (fun k => zG_z hI_S1 rfl)] at z)
            (try rw [show mI S1 64 1 = f 64 1 from zG_z hI_S1 rfl] at z)
            exact z
          have rp3_S6 : zN0 S6 = (zN0 S1) := by
            have z := rp3_S6
            (try rw [show mI S1 65 = f 65 from funext (fun k => zG_z hI_S1 rfl)] at z)
            (try rw [show mI S1 64 1 = f 64 1 from zG_z hI_S1 rfl] at z)
            exact z
          have b21 := i_bd v7
          exact K (v7) _ hI_S6 trivial (show xB S6 (mR S6 70) from by first | (exact xB_x (xC_o (W := 75) rp0_S6).2)) (show cC (aS 88 S6) [] (kC S6) B from by first | (exfalso; omega) | (have ty := xB_th (W := 88) rp0_S1 rg_c3; have z2 := congrArg Int32.toInt ty.2.2.2.2.1; rw [(rp1_S1.trans hpre1)] at z2; have ci := rp1_S6; rw [(rp1_S1.trans hpre1)] at ci; rw [ci.1, rp2_S6, rp4_S1]; refine C_pu hpre2 ⟨(by have q := (rq_up rp3_S1 hpre1); exact al_of q), by omega, by omega⟩ ?_; exact Classical.byContradiction (fun w => ir_n rp0_S1 rg_c3 (rp1_S1.trans hpre1) (by omega) (by assumption) w))) (show zRq ab o ∧ zHw ab o i ∧ ¬ zIr ab o i ∧ aS 88 S6 = aCi ab o.toNatClampNeg i x ∧ v7 = aWo ab o.toNatClampNeg i from by first | (exfalso; omega) | (have ty := xB_th (W := 88) rp0_S1 rg_c3; have z2 := congrArg Int32.toInt ty.2.2.2.2.1; rw [(rp1_S1.trans hpre1)] at z2; have ci := rp1_S6; rw [(rp1_S1.trans hpre1)] at ci; exact ⟨(rq_up rp3_S1 hpre1), ⟨by omega, by omega⟩, ir_n rp0_S1 rg_c3 (rp1_S1.trans hpre1) (by omega) (by assumption), ci.1, ci.2⟩)) (show zfP 84 (mI S6) = fq from by first | (exact ((zf_fr (P := 84) (S₉ := S6) (S := S1) (fun _ => zG_z hL_S6 rfl)).trans ((zf_fr (P := 84) (S₉ := S1) (S := S) (fun _ => zG_z hL_S1 rfl)).trans hpre3))))
        · skip
          have g22 := i_nle h18
          refine ⟨zG_n hI_S1 th_c3, ?_⟩
          have b23 := i_bd (lg_cmp ((((mL S1 c3 3).toUInt64 >>> (i.toInt64.toUInt64 &&& Int64.toUInt64 63)).toInt64) &&& (1 : Int64)) (0 : Int64))
          refine zd (fun h24 => ?_) (fun h24 => ?_)
          · skip
            have g25 := i_eq h24
            have b26 := i_bd x
            refine sp_95_69_sk (ab := (aS 88 S1)) (R := (mR S 70)) (W := 88) (y := (o)) (kk := (kC S1)) (n0 := (zN0 S1)) c3 (i) (x) (by omega) (by omega) (zB_dn_zI hI_S1) th_c3 (show xB S1 (mR S 70) from by first | (exact (xC_o (W := 75) rp0_S1).2)) (show aS 88 S1 = (aS 88 S1) from by first | (exact rfl)) (show xW 88 from by first | (exact xW88) | (exact xW75)) (show zTa (mR S 70) (o) = some c3 from by first | (exact rg_c3)) (show kC S1 = (kC S1) from by first | (exact rfl)) (show zN0 S1 = (zN0 S1) from by first | (exact rfl)) (fun v9 S8 hL_S8 hp_v9 rp0_S8 rp1_S8 rp2_S8 rp3_S8 => zi_n ⟨zG_T hL_S8, ?_⟩)
            have hI_S8 := zB_up_zI hI_S1 hL_S8
            have rp0_S8 : xB S8 (mR S 70) := by
              have z := rp0_S8
              (try rw [show mI S1 65 = f 65 from funext (fun k => zG_z hI_S1 rfl)] at z)
              (try rw [show mI S1 64 1 = f 64 1 from zG_z hI_S1 rfl] at z)
              exact z
            have rp1_S8 : aS 88 S8 = aCi (aS 88 S1) (o).toNatClampNeg i x ∧ v9 = aWo (aS 88 S1) (o).toNatClampNeg i := by
              have z := rp1_S8
              (try rw [show mI S1 65 = f 65 from funext (fun k => zG_z hI_S1 rfl)] at z)
              (try rw [show mI S1 64 1 = f 64 1 from zG_z hI_S1 rfl] at z)
              exact z
            have rp2_S8 : kC S8 = (kC S1) := by
              have z := rp2_S8
              (try rw [show mI S1 65 = f 65 from funext (fun k => zG_z hI_S1 rfl)] at z)
              (try rw [show mI S1 64 1 = f 64 1 from zG_z hI_S1 rfl] at z)
              exact z
            have rp3_S8 : zN0 S8 = (zN0 S1) := by
              have z := rp3_S8
              (try rw [show mI S1 65 = f 65 from funext (fun k => zG_z hI_S1 rfl)] at z)
              (try rw [show mI S1 64 1 = f 64 1 from zG_z hI_S1 rfl] at z)
              exact z
            have b27 := i_bd v9
            exact K (v9) _ hI_S8 trivial (show xB S8 (mR S8 70) from by first | (exact xB_x (xC_o (W := 75) rp0_S8).2)) (show cC (aS 88 S8) [] (kC S8) B from by first | (exfalso; omega) | (have ty := xB_th (W := 88) rp0_S1 rg_c3; have z2 := congrArg Int32.toInt ty.2.2.2.2.1; rw [(rp1_S1.trans hpre1)] at z2; have ci := rp1_S8; rw [(rp1_S1.trans hpre1)] at ci; rw [ci.1, rp2_S8, rp4_S1]; refine C_pu hpre2 ⟨(by have q := (rq_up rp3_S1 hpre1); exact al_of q), by omega, by omega⟩ ?_; exact Classical.byContradiction (fun w => ir_n rp0_S1 rg_c3 (rp1_S1.trans hpre1) (by omega) (by assumption) w))) (show zRq ab o ∧ zHw ab o i ∧ ¬ zIr ab o i ∧ aS 88 S8 = aCi ab o.toNatClampNeg i x ∧ v9 = aWo ab o.toNatClampNeg i from by first | (exfalso; omega) | (have ty := xB_th (W := 88) rp0_S1 rg_c3; have z2 := congrArg Int32.toInt ty.2.2.2.2.1; rw [(rp1_S1.trans hpre1)] at z2; have ci := rp1_S8; rw [(rp1_S1.trans hpre1)] at ci; exact ⟨(rq_up rp3_S1 hpre1), ⟨by omega, by omega⟩, ir_n rp0_S1 rg_c3 (rp1_S1.trans hpre1) (by omega) (by assumption), ci.1, ci.2⟩)) (show zfP 84 (mI S8) = fq from by first | (exact ((zf_fr (P := 84) (S₉ := S8) (S := S1) (fun _ => zG_z hL_S8 rfl)).trans ((zf_fr (P := 84) (S₉ := S1) (S := S) (fun _ => zG_z hL_S1 rfl)).trans hpre3))))
          · skip
            have g28 := i_ne h24
            exact KX 5 _ (by decide) hI_S1 (show xB S1 (mR S1 70) from by first | (exact xB_x (xC_o (W := 75) rp0_S1).2)) (show aS 88 S1 = ab from by first | (exact (xC_o (W := 88) rp0_S1).1.trans (rp1_S1.trans hpre1))) (show cC ab [] (kC S1) B from by first | (rw [(xK_o (W := 88) rp0_S1 rfl).2, rp4_S1]; exact hpre2) | (exact hpre2)) (show (5 = 4 ∧ ¬ zRq ab o) ∨ (5 = 1 ∧ zRq ab o ∧ ¬ zHw ab o i) ∨ (5 = 5 ∧ zRq ab o ∧ zHw ab o i ∧ zIr ab o i) from by first | (have ty := xB_th (W := 88) rp0_S1 rg_c3; have z2 := congrArg Int32.toInt ty.2.2.2.2.1; rw [(rp1_S1.trans hpre1)] at z2; exact Or.inr (Or.inr ⟨rfl, (rq_up rp3_S1 hpre1), ⟨by omega, by omega⟩, ir_y rp0_S1 rg_c3 (rp1_S1.trans hpre1) (by omega) (by assumption)⟩))) (show zfP 84 (mI S1) = fq from by first | (exact ((zf_fr (P := 84) (S₉ := S1) (S := S) (fun _ => zG_z hL_S1 rfl)).trans hpre3)))

/-! from 95.m32 -/
/-! COUNTS, the class (written by wip/tools/gen20k.py) -/
theorem g_152_64_sk_p84_0 {X : Nat × (Nat → Int32)} {d w : Nat} {S : ma_S} {Q : Option ma_V ⊕ Nat → ma_S → Prop} (o : Int32) (i : Int32) (hd : 7 ≤ d) (hw : 111 ≤ w) (hS : zT S) (h : mR S 64 11 = some 84 ∧ (mR S 64 11 = some 84 ∧ (ma_wp X (d - 1) (w - 22) 149 0 [(0, .inr (.inr (some 64))), (1, .inl o)] [] S (zo (fun v2 S1 => zT S1 ∧ ((∃ c3, v2 = some c3 ∧ ((126 ≤ c3 ∧ c3 < mN S1) ∧ (if i < 0 then (Q (.inr 1) (ma_bump S1)) else ((126 ≤ c3 ∧ c3 < mN S1) ∧ (if ((mI S1 c3 2) - (1 : Int32)) ≤ i then (Q (.inr 1) (ma_bump S1)) else (ma_wp X (d - 1) (w - 23) 96 0 [(0, .inr (.inr (some 69))), (1, .inr (.inr (some c3))), (2, .inl i)] [] S1 (zi (fun v5 S4 => zT S4 ∧ (Q (.inl (some (.inl v5))) S4)) (fun x S9 => Q (.inr x) S9)))))))))) (fun x S9 => Q (.inr x) S9))))) : ma_wp X d w 152 0 [(0, .inr (.inr (some 64))), (1, .inl o), (2, .inl i)] [] S Q := by
  refine zw_push hm_152 dX11_get_0 (v := .inr (.inr (some 64))) rfl ?_
  refine zw_cv hm_152 dX11_get_1 v_11_119_11 hm_144 [] [] rfl (zT_rt hS s_64 rfl) ⟨by omega, by omega⟩ rfl ?_
  show ma_wp X (d - 1) (w - 20) 144 0 [(0, .inr (.inr (some 64)))] [] S _
  refine zw_push hm_144 dX11_needCollector_0 (v := .inr (.inr (some 64))) rfl ?_
  obtain ⟨hg, h⟩ := h
  refine zw_gf hm_144 dX11_needCollector_1 (v := .inr (.inr (some 84))) (zT_is hS s_64) (zT_t hS s_64) rfl f_11_98_11 (congrArg (fun z => Sum.inr (Sum.inr z)) hg) ?_
  refine zw_ifnonnull hm_144 dX11_needCollector_4 (t := 15) rfl (fun z => by cases z) (fun _ _ => ?_)
  refine zw_push hm_144 dX11_needCollector_15 (v := .inr (.inr (some 64))) rfl ?_
  obtain ⟨hg, h⟩ := h
  refine zw_gf hm_144 dX11_needCollector_16 (v := .inr (.inr (some 84))) (zT_is hS s_64) (zT_t hS s_64) rfl f_11_98_11 (congrArg (fun z => Sum.inr (Sum.inr z)) hg) ?_
  refine zw_aret hm_144 dX11_needCollector_19 ?_
  show ma_wp X d w 152 4 [(0, .inr (.inr (some 64))), (1, .inl o), (2, .inl i)] [.inr (.inr (some 84))] S _
  refine zw_stk hm_152 dX11_get_4 (st₉ := []) rfl rfl ?_
  refine zw_push hm_152 dX11_get_5 (v := .inr (.inr (some 64))) rfl ?_
  refine zw_push hm_152 dX11_get_6 (v := .inl o) rfl ?_
  refine zw_cv hm_152 dX11_get_7 v_11_123_11 hm_149 [.inl o] [] rfl (zT_rt hS s_64 rfl) ⟨by omega, by omega⟩ rfl (zw_mono h (zo_go ?_ ?_))
  · intro v2 S1 hv
    obtain ⟨hS1, h⟩ := hv
    obtain ⟨c3, hc, h⟩ := h
    subst hc
    show ma_wp X d w 152 10 [(0, .inr (.inr (some 64))), (1, .inl o), (2, .inl i)] [.inr (.inr (some c3))] S1 _
    refine zw_sto hm_152 dX11_get_10 [(3, .inr (.inr (some c3))), (0, .inr (.inr (some 64))), (1, .inl o), (2, .inl i)] rfl rfl rfl ?_
    refine zw_push hm_152 dX11_get_11 (v := .inr (.inr (some c3))) rfl ?_
    refine zw_push hm_152 dX11_get_12 (v := .inl i) rfl ?_
    obtain ⟨hg, h⟩ := h
    refine zw_cv hm_152 dX11_get_13 v_11_127_9 hm_114 [.inl i] [] rfl (zT_trt hS1 hg) ⟨by omega, by omega⟩ rfl ?_
    show ma_wp X (d - 1) (w - 21) 114 0 [(0, .inr (.inr (some c3))), (1, .inl i)] [] S1 _
    refine zw_push hm_114 dX9_hasWord_0 (v := .inl i) rfl ?_
    refine zw_if0 hm_114 dX9_hasWord_1 (t := 18) rfl zc0_lt ?_ ?_
    · intro hc
      rw [if_pos hc] at h
      refine zw_push hm_114 dX9_hasWord_18 (v := .inl (0 : Int32)) rfl ?_
      refine zw_bret hm_114 dX9_hasWord_19 (by decide) ?_
      show ma_wp X d w 152 16 [(3, .inr (.inr (some c3))), (0, .inr (.inr (some 64))), (1, .inl o), (2, .inl i)] [.inl (0 : Int32)] S1 _
      refine zw_if0 hm_152 dX11_get_16 (t := 27) rfl zc0_ne (fun hc => absurd hc (by decide)) (fun _ => ?_)
      exact zw_thr hm_152 dX11_get_19 dX11_get_22 dX11_get_23 dX11_get_26 x_11_72_74 n_11_72 (by omega) (by show 0 + 81 ≤ w; omega) h
    · intro hc
      rw [if_neg hc] at h
      refine zw_push hm_114 dX9_hasWord_4 (v := .inl i) rfl ?_
      refine zw_push hm_114 dX9_hasWord_5 (v := .inr (.inr (some c3))) rfl ?_
      obtain ⟨hg, h⟩ := h
      refine zw_gf hm_114 dX9_hasWord_6 (v := .inl (mI S1 c3 2)) (zT_tis hS1 hg) (zT_tt hS1 hg) rfl f_9_16_9 rfl ?_
      refine zw_push hm_114 dX9_hasWord_9 (v := .inl (1 : Int32)) rfl ?_
      refine zw_stk hm_114 dX9_hasWord_10 (st₉ := [.inl ((mI S1 c3 2) - (1 : Int32)), .inl i]) rfl rfl ?_
      refine zw_if2 hm_114 dX9_hasWord_11 (t := 18) rfl zc2_ge ?_ ?_
      · intro hc
        rw [if_pos hc] at h
        refine zw_push hm_114 dX9_hasWord_18 (v := .inl (0 : Int32)) rfl ?_
        refine zw_bret hm_114 dX9_hasWord_19 (by decide) ?_
        show ma_wp X d w 152 16 [(3, .inr (.inr (some c3))), (0, .inr (.inr (some 64))), (1, .inl o), (2, .inl i)] [.inl (0 : Int32)] S1 _
        refine zw_if0 hm_152 dX11_get_16 (t := 27) rfl zc0_ne (fun hc => absurd hc (by decide)) (fun _ => ?_)
        exact zw_thr hm_152 dX11_get_19 dX11_get_22 dX11_get_23 dX11_get_26 x_11_72_74 n_11_72 (by omega) (by show 0 + 81 ≤ w; omega) h
      · intro hc
        rw [if_neg hc] at h
        refine zw_push hm_114 dX9_hasWord_14 (v := .inl (1 : Int32)) rfl ?_
        refine zw_goto hm_114 dX9_hasWord_15 (t := 19) rfl ?_
        refine zw_bret hm_114 dX9_hasWord_19 (by decide) ?_
        show ma_wp X d w 152 16 [(3, .inr (.inr (some c3))), (0, .inr (.inr (some 64))), (1, .inl o), (2, .inl i)] [.inl (1 : Int32)] S1 _
        refine zw_if0 hm_152 dX11_get_16 (t := 27) rfl zc0_ne (fun _ => ?_) (fun hc => absurd (by decide) hc)
        refine zw_push hm_152 dX11_get_27 (v := .inr (.inr (some 64))) rfl ?_
        refine zw_gf hm_152 dX11_get_28 (v := .inr (.inr (some 69))) (zT_is hS1 s_64) (zT_t hS1 s_64) rfl f_11_26_11 (zT_f hS1 r_64_8) ?_
        refine zw_push hm_152 dX11_get_31 (v := .inr (.inr (some c3))) rfl ?_
        refine zw_push hm_152 dX11_get_32 (v := .inl i) rfl ?_
        refine zw_cv hm_152 dX11_get_33 v_11_165_7 hm_96 [.inl i, .inr (.inr (some c3))] [] rfl (zT_rt hS1 s_69 rfl) ⟨by omega, by omega⟩ rfl (zw_mono h (zi_go ?_ ?_))
        · intro v5 S4 hv
          obtain ⟨hS4, h⟩ := hv
          exact zw_iret hm_152 dX11_get_36 h
        · intro x S9 hx
          exact ⟨by decide, hx⟩
  · intro x S9 hx
    exact ⟨by decide, hx⟩
theorem sp_152_64_sk_p84 {X : Nat × (Nat → Int32)} {d w : Nat} {f : Nat → Nat → Int32} {r : Nat → Nat → Option Nat} {C Z N : Nat} {Q : Option ma_V ⊕ Nat → ma_S → Prop} {ab : Nat→Nat→Int32} {B : Int} {fq : Nat→Int32} {S : ma_S} (o : Int32) (i : Int32) (hd : 7 ≤ d) (hw : 111 ≤ w) (hI : zB f r C Z N S) (hr : r 64 11 = some 84) (hpre0 : xB S (mR S 70)) (hpre1 : aS 88 S = ab) (hpre2 : cC ab [] (kC S) B) (hpre3 : zfP 84 (mI S) = fq) (K : ∀ v S₉, zB f r C Z N S₉ → (True) → (xB S₉ (mR S₉ 70)) → (cC (aS 88 S₉) [] (kC S₉) B) → (zRq ab o ∧ zHw ab o i ∧ aS 88 S₉ = ab ∧ v = aWo ab o.toNatClampNeg i) → (zfP 84 (mI S₉) = fq) → Q (.inl (some (.inl v))) S₉) (KX : ∀ x S₉, (x = 1 ∨ x = 4) → zB f r C Z N S₉ → (xB S₉ (mR S₉ 70)) → (aS 88 S₉ = ab) → (cC ab [] (kC S₉) B) → ((x = 4 ∧ ¬ zRq ab o) ∨ (x = 1 ∧ zRq ab o ∧ ¬ zHw ab o i)) → (zfP 84 (mI S₉) = fq) → Q (.inr x) (ma_bump S₉)) : ma_wp X d w 152 0 [(0, .inr (.inr (some 64))), (1, .inl o), (2, .inl i)] [] S Q := by
  refine g_152_64_sk_p84_0 o i (by omega) (by omega) (zG_T hI) ?_
  refine ⟨((zG_r hI (by decide)).trans hr), ?_⟩
  refine ⟨((zG_r hI (by decide)).trans hr), ?_⟩
  have b1 := i_bd o
  refine sp_149_64_sk (R := (mR S 70)) (a7 := (aS 75 S)) (a8 := (aS 88 S)) (kk := (kC S)) (o) (by omega) (by omega) (zB_dn_zI hI) (show xB S (mR S 70) from by first | (exact (xC_o (W := 75) hpre0).2)) (show aS 75 S = (aS 75 S) from by first | (exact rfl)) (show aS 88 S = (aS 88 S) from by first | (exact rfl)) (show kC S = (kC S) from by first | (exact rfl)) (fun v2 S1 hL_S1 hq_v2 rp0_S1 rp1_S1 rp2_S1 rp3_S1 rp4_S1 => zo_n ⟨zG_T hL_S1, ?_⟩) (fun x S9 hx h9 rx0 rx1 rx2 rx3 => by have h9u := (zB_up_zI hI h9); exact zo_x (KX x S9 (by omega) h9u (show xB S9 (mR S9 70) from by first | (exact xB_x (xC_o (W := 75) rx0).2)) (show aS 88 S9 = ab from by first | (exact rx1.trans hpre1)) (show cC ab [] (kC S9) B from by first | (rw [rx2]; exact hpre2)) (show (x = 4 ∧ ¬ zRq ab o) ∨ (x = 1 ∧ zRq ab o ∧ ¬ zHw ab o i) from by first | (exact Or.inl ⟨rx3.1, rq_no rx3.2 hpre1⟩)) (show zfP 84 (mI S9) = fq from by first | (exact ((zf_fr (P := 84) (fun _ => zG_z h9 rfl)).trans hpre3)))))
  have hI_S1 := zB_up_zI hI hL_S1
  have rp0_S1 : xB S1 (mR S 70) := by
    have z := rp0_S1
    (try rw [show mI S 65 = f 65 from funext (fun k => zG_z hI rfl)] at z)
    (try rw [show mI S 64 1 = f 64 1 from zG_z hI rfl] at z)
    exact z
  have rp1_S1 : aS 88 S1 = (aS 88 S) := by
    have z := rp1_S1
    (try rw [show mI S 65 = f 65 from funext (fun k => zG_z hI rfl)] at z)
    (try rw [show mI S 64 1 = f 64 1 from zG_z hI rfl] at z)
    exact z
  have rp2_S1 : v2 = zTa (mR S 70) o := by
    have z := rp2_S1
    (try rw [show mI S 65 = f 65 from funext (fun k => zG_z hI rfl)] at z)
    (try rw [show mI S 64 1 = f 64 1 from zG_z hI rfl] at z)
    exact z
  have rp3_S1 : zRq (aS 75 S) o := by
    have z := rp3_S1
    (try rw [show mI S 65 = f 65 from funext (fun k => zG_z hI rfl)] at z)
    (try rw [show mI S 64 1 = f 64 1 from zG_z hI rfl] at z)
    exact z
  have rp4_S1 : kC S1 = (kC S) := by
    have z := rp4_S1
    (try rw [show mI S 65 = f 65 from funext (fun k => zG_z hI rfl)] at z)
    (try rw [show mI S 64 1 = f 64 1 from zG_z hI rfl] at z)
    exact z
  obtain ⟨c3, hc, th_c3⟩ := hq_v2
  have rg_c3 : zTa (mR S 70) o = some c3 := rp2_S1.symm.trans hc
  refine ⟨c3, hc, ?_⟩
  refine ⟨zG_n hI_S1 th_c3, ?_⟩
  have b2 := i_bd i
  have li3 : (0 : Int32).toInt = 0 := rfl
  refine zd (fun h4 => ?_) (fun h4 => ?_)
  · skip
    have g5 := i_lt h4
    exact KX 1 _ (by decide) hI_S1 (show xB S1 (mR S1 70) from by first | (exact xB_x (xC_o (W := 75) rp0_S1).2)) (show aS 88 S1 = ab from by first | (exact (xC_o (W := 88) rp0_S1).1.trans (rp1_S1.trans hpre1))) (show cC ab [] (kC S1) B from by first | (rw [(xK_o (W := 88) rp0_S1 rfl).2, rp4_S1]; exact hpre2) | (exact hpre2)) (show (1 = 4 ∧ ¬ zRq ab o) ∨ (1 = 1 ∧ zRq ab o ∧ ¬ zHw ab o i) from by first | (have ty := xB_th (W := 88) rp0_S1 rg_c3; have z2 := congrArg Int32.toInt ty.2.2.2.2.1; rw [(rp1_S1.trans hpre1)] at z2; exact Or.inr ⟨rfl, (rq_up rp3_S1 hpre1), fun w => by have w1 := w.1; have w2 := w.2; omega⟩)) (show zfP 84 (mI S1) = fq from by first | (exact ((zf_fr (P := 84) (S₉ := S1) (S := S) (fun _ => zG_z hL_S1 rfl)).trans hpre3)))
  · skip
    have g6 := i_nlt h4
    refine ⟨zG_n hI_S1 th_c3, ?_⟩
    have f7 := zG_th hI_S1 th_c3
    first | have e8 : ((mI S1 c3 2) - (1 : Int32)).toInt = (mI S1 c3 2).toInt - (1) := i_subk rfl (by omega) (by omega) | have b9 := i_bd ((mI S1 c3 2) - (1 : Int32))
    refine zd (fun h10 => ?_) (fun h10 => ?_)
    · skip
      have g11 := i_le h10
      exact KX 1 _ (by decide) hI_S1 (show xB S1 (mR S1 70) from by first | (exact xB_x (xC_o (W := 75) rp0_S1).2)) (show aS 88 S1 = ab from by first | (exact (xC_o (W := 88) rp0_S1).1.trans (rp1_S1.trans hpre1))) (show cC ab [] (kC S1) B from by first | (rw [(xK_o (W := 88) rp0_S1 rfl).2, rp4_S1]; exact hpre2) | (exact hpre2)) (show (1 = 4 ∧ ¬ zRq ab o) ∨ (1 = 1 ∧ zRq ab o ∧ ¬ zHw ab o i) from by first | (have ty := xB_th (W := 88) rp0_S1 rg_c3; have z2 := congrArg Int32.toInt ty.2.2.2.2.1; rw [(rp1_S1.trans hpre1)] at z2; exact Or.inr ⟨rfl, (rq_up rp3_S1 hpre1), fun w => by have w1 := w.1; have w2 := w.2; omega⟩)) (show zfP 84 (mI S1) = fq from by first | (exact ((zf_fr (P := 84) (S₉ := S1) (S := S) (fun _ => zG_z hL_S1 rfl)).trans hpre3)))
    · skip
      have g12 := i_nle h10
      refine sp_96_69_sk (ab := (aS 88 S1)) (R := (mR S 70)) (W := 88) (y := (o)) (kk := (kC S1)) c3 (i) (by omega) (by omega) (zB_dn_zI hI_S1) th_c3 (show xB S1 (mR S 70) from by first | (exact (xC_o (W := 75) rp0_S1).2)) (show aS 88 S1 = (aS 88 S1) from by first | (exact rfl)) (show xW 88 from by first | (exact xW88) | (exact xW75)) (show zTa (mR S 70) (o) = some c3 from by first | (exact rg_c3)) (show kC S1 = (kC S1) from by first | (exact rfl)) (fun v5 S4 hL_S4 hp_v5 rp0_S4 rp1_S4 rp2_S4 rp3_S4 => zi_n ⟨zG_T hL_S4, ?_⟩)
      have hI_S4 := zB_up_zI hI_S1 hL_S4
      have rp0_S4 : xB S4 (mR S 70) := by
        have z := rp0_S4
        (try rw [show mI S1 65 = f 65 from funext (fun k => zG_z hI_S1 rfl)] at z)
        (try rw [show mI S1 64 1 = f 64 1 from zG_z hI_S1 rfl] at z)
        exact z
      have rp1_S4 : aS 88 S4 = (aS 88 S1) := by
        have z := rp1_S4
        (try rw [show mI S1 65 = f 65 from funext (fun k => zG_z hI_S1 rfl)] at z)
        (try rw [show mI S1 64 1 = f 64 1 from zG_z hI_S1 rfl] at z)
        exact z
      have rp2_S4 : v5 = aWo (aS 88 S1) (o).toNatClampNeg i := by
        have z := rp2_S4
        (try rw [show mI S1 65 = f 65 from funext (fun k => zG_z hI_S1 rfl)] at z)
        (try rw [show mI S1 64 1 = f 64 1 from zG_z hI_S1 rfl] at z)
        exact z
      have rp3_S4 : kC S4 = (kC S1) := by
        have z := rp3_S4
        (try rw [show mI S1 65 = f 65 from funext (fun k => zG_z hI_S1 rfl)] at z)
        (try rw [show mI S1 64 1 = f 64 1 from zG_z hI_S1 rfl] at z)
        exact z
      have b13 := i_bd v5
      exact K (v5) _ hI_S4 trivial (show xB S4 (mR S4 70) from by first | (exact xB_x (xC_o (W := 75) rp0_S4).2)) (show cC (aS 88 S4) [] (kC S4) B from by first | (exfalso; omega) | (rw [show aS 88 S4 = ab from rp1_S4.trans (rp1_S1.trans hpre1), rp3_S4, rp4_S1]; exact hpre2)) (show zRq ab o ∧ zHw ab o i ∧ aS 88 S4 = ab ∧ v5 = aWo ab o.toNatClampNeg i from by first | (exfalso; omega) | (have ty := xB_th (W := 88) rp0_S1 rg_c3; have z2 := congrArg Int32.toInt ty.2.2.2.2.1; rw [(rp1_S1.trans hpre1)] at z2; have wo := rp2_S4; rw [(rp1_S1.trans hpre1)] at wo; exact ⟨(rq_up rp3_S1 hpre1), ⟨by omega, by omega⟩, rp1_S4.trans (rp1_S1.trans hpre1), wo⟩)) (show zfP 84 (mI S4) = fq from by first | (exact ((zf_fr (P := 84) (S₉ := S4) (S := S1) (fun _ => zG_z hL_S4 rfl)).trans ((zf_fr (P := 84) (S₉ := S1) (S := S) (fun _ => zG_z hL_S1 rfl)).trans hpre3))))

/-! from 95.m33 -/
/-! COUNTS, the class (written by wip/tools/gen20k.py) -/
theorem g_154_64_sk_p84_0 {X : Nat × (Nat → Int32)} {d w : Nat} {S : ma_S} {Q : Option ma_V ⊕ Nat → ma_S → Prop} (i : Int32) (o : Int32) (hd : 8 ≤ d) (hw : 132 ≤ w) (hS : zT S) (h : if i < 0 then (Q (.inr 2) (ma_bump S)) else (if (16 : Int32) ≤ i then (Q (.inr 2) (ma_bump S)) else (mR S 64 11 = some 84 ∧ (mR S 64 11 = some 84 ∧ (ma_wp X (d - 1) (w - 21) 151 0 [(0, .inr (.inr (some 64))), (1, .inl o)] [] S (zo (fun v2 S1 => zT S1 ∧ ((0 ≤ i ∧ i.toNatClampNeg < 16) ∧ ((v2 = none → (0 ≤ i ∧ i.toNatClampNeg < 16) ∧ (Q (.inl (some (.inl (mI S1 73 i.toNatClampNeg)))) (ma_put S1 73 i.toNatClampNeg (.inl (-1 : Int32))))) ∧ (∀ c3, v2 = some c3 → (126 ≤ c3 ∧ c3 < mN S1) ∧ ((0 ≤ i ∧ i.toNatClampNeg < 16) ∧ (Q (.inl (some (.inl (mI S1 73 i.toNatClampNeg)))) (ma_put S1 73 i.toNatClampNeg (.inl (mI S1 c3 0))))))))) (fun x S9 => Q (.inr x) S9))))))) : ma_wp X d w 154 0 [(0, .inr (.inr (some 64))), (1, .inl i), (2, .inl o)] [] S Q := by
  refine zw_push hm_154 dX11_weak_0 (v := .inl i) rfl ?_
  refine zw_cs hm_154 dX11_weak_1 pn_11_109 sl_11_109 hm_142 [.inl i] [] rfl ⟨by omega, by omega⟩ rfl ?_
  show ma_wp X (d - 1) (w - 20) 142 0 [(0, .inl i)] [] S _
  refine zw_push hm_142 dX11_isSlot_0 (v := .inl i) rfl ?_
  refine zw_if0 hm_142 dX11_isSlot_1 (t := 14) rfl zc0_lt ?_ ?_
  · intro hc
    rw [if_pos hc] at h
    refine zw_push hm_142 dX11_isSlot_14 (v := .inl (0 : Int32)) rfl ?_
    refine zw_bret hm_142 dX11_isSlot_15 (by decide) ?_
    show ma_wp X d w 154 4 [(0, .inr (.inr (some 64))), (1, .inl i), (2, .inl o)] [.inl (0 : Int32)] S _
    refine zw_if0 hm_154 dX11_weak_4 (t := 15) rfl zc0_ne (fun hc => absurd hc (by decide)) (fun _ => ?_)
    exact zw_thr hm_154 dX11_weak_7 dX11_weak_10 dX11_weak_11 dX11_weak_14 x_11_79_81 n_11_79 (by omega) (by show 0 + 81 ≤ w; omega) h
  · intro hc
    rw [if_neg hc] at h
    refine zw_push hm_142 dX11_isSlot_4 (v := .inl i) rfl ?_
    refine zw_push hm_142 dX11_isSlot_5 (v := .inl (16 : Int32)) rfl ?_
    refine zw_if2 hm_142 dX11_isSlot_7 (t := 14) rfl zc2_ge ?_ ?_
    · intro hc
      rw [if_pos hc] at h
      refine zw_push hm_142 dX11_isSlot_14 (v := .inl (0 : Int32)) rfl ?_
      refine zw_bret hm_142 dX11_isSlot_15 (by decide) ?_
      show ma_wp X d w 154 4 [(0, .inr (.inr (some 64))), (1, .inl i), (2, .inl o)] [.inl (0 : Int32)] S _
      refine zw_if0 hm_154 dX11_weak_4 (t := 15) rfl zc0_ne (fun hc => absurd hc (by decide)) (fun _ => ?_)
      exact zw_thr hm_154 dX11_weak_7 dX11_weak_10 dX11_weak_11 dX11_weak_14 x_11_79_81 n_11_79 (by omega) (by show 0 + 81 ≤ w; omega) h
    · intro hc
      rw [if_neg hc] at h
      refine zw_push hm_142 dX11_isSlot_10 (v := .inl (1 : Int32)) rfl ?_
      refine zw_goto hm_142 dX11_isSlot_11 (t := 15) rfl ?_
      refine zw_bret hm_142 dX11_isSlot_15 (by decide) ?_
      show ma_wp X d w 154 4 [(0, .inr (.inr (some 64))), (1, .inl i), (2, .inl o)] [.inl (1 : Int32)] S _
      refine zw_if0 hm_154 dX11_weak_4 (t := 15) rfl zc0_ne (fun _ => ?_) (fun hc => absurd (by decide) hc)
      refine zw_push hm_154 dX11_weak_15 (v := .inr (.inr (some 64))) rfl ?_
      refine zw_cv hm_154 dX11_weak_16 v_11_119_11 hm_144 [] [] rfl (zT_rt hS s_64 rfl) ⟨by omega, by omega⟩ rfl ?_
      show ma_wp X (d - 1) (w - 20) 144 0 [(0, .inr (.inr (some 64)))] [] S _
      refine zw_push hm_144 dX11_needCollector_0 (v := .inr (.inr (some 64))) rfl ?_
      obtain ⟨hg, h⟩ := h
      refine zw_gf hm_144 dX11_needCollector_1 (v := .inr (.inr (some 84))) (zT_is hS s_64) (zT_t hS s_64) rfl f_11_98_11 (congrArg (fun z => Sum.inr (Sum.inr z)) hg) ?_
      refine zw_ifnonnull hm_144 dX11_needCollector_4 (t := 15) rfl (fun z => by cases z) (fun _ _ => ?_)
      refine zw_push hm_144 dX11_needCollector_15 (v := .inr (.inr (some 64))) rfl ?_
      obtain ⟨hg, h⟩ := h
      refine zw_gf hm_144 dX11_needCollector_16 (v := .inr (.inr (some 84))) (zT_is hS s_64) (zT_t hS s_64) rfl f_11_98_11 (congrArg (fun z => Sum.inr (Sum.inr z)) hg) ?_
      refine zw_aret hm_144 dX11_needCollector_19 ?_
      show ma_wp X d w 154 19 [(0, .inr (.inr (some 64))), (1, .inl i), (2, .inl o)] [.inr (.inr (some 84))] S _
      refine zw_stk hm_154 dX11_weak_19 (st₉ := []) rfl rfl ?_
      refine zw_push hm_154 dX11_weak_20 (v := .inr (.inr (some 64))) rfl ?_
      refine zw_push hm_154 dX11_weak_21 (v := .inl o) rfl ?_
      refine zw_cv hm_154 dX11_weak_22 v_11_142_11 hm_151 [.inl o] [] rfl (zT_rt hS s_64 rfl) ⟨by omega, by omega⟩ rfl (zw_mono h (zo_go ?_ ?_))
      · intro v2 S1 hv
        obtain ⟨hS1, h⟩ := hv
        refine zw_sto hm_154 dX11_weak_25 [(3, .inr (.inr v2)), (0, .inr (.inr (some 64))), (1, .inl i), (2, .inl o)] rfl rfl rfl ?_
        refine zw_push hm_154 dX11_weak_26 (v := .inr (.inr (some 64))) rfl ?_
        refine zw_gf hm_154 dX11_weak_27 (v := .inr (.inr (some 69))) (zT_is hS1 s_64) (zT_t hS1 s_64) rfl f_11_26_11 (zT_f hS1 r_64_8) ?_
        refine zw_gf hm_154 dX11_weak_30 (v := .inr (.inr (some 73))) (zT_is hS1 s_69) (zT_t hS1 s_69) rfl f_11_173_7 (zT_f hS1 r_69_3) ?_
        refine zw_push hm_154 dX11_weak_33 (v := .inl i) rfl ?_
        obtain ⟨hg, h⟩ := h
        refine zw_ia hm_154 dX11_weak_34 (zT_is hS1 s_73) (zT_h hS1 s_73) rfl hg ?_
        show ma_wp X d w 154 35 [(3, .inr (.inr v2)), (0, .inr (.inr (some 64))), (1, .inl i), (2, .inl o)] [.inl (mI S1 73 i.toNatClampNeg)] S1 _
        refine zw_sto hm_154 dX11_weak_35 [(4, .inl (mI S1 73 i.toNatClampNeg)), (3, .inr (.inr v2)), (0, .inr (.inr (some 64))), (1, .inl i), (2, .inl o)] rfl rfl rfl ?_
        refine zw_push hm_154 dX11_weak_37 (v := .inr (.inr (some 64))) rfl ?_
        refine zw_gf hm_154 dX11_weak_38 (v := .inr (.inr (some 69))) (zT_is hS1 s_64) (zT_t hS1 s_64) rfl f_11_26_11 (zT_f hS1 r_64_8) ?_
        refine zw_gf hm_154 dX11_weak_41 (v := .inr (.inr (some 73))) (zT_is hS1 s_69) (zT_t hS1 s_69) rfl f_11_173_7 (zT_f hS1 r_69_3) ?_
        refine zw_push hm_154 dX11_weak_44 (v := .inl i) rfl ?_
        refine zw_push hm_154 dX11_weak_45 (v := .inr (.inr v2)) rfl ?_
        refine zw_cs hm_154 dX11_weak_46 pn_11_161 sl_11_161 hm_146 [.inr (.inr v2)] [.inl i, .inr (.inr (some 73))] rfl ⟨by omega, by omega⟩ rfl ?_
        show ma_wp X (d - 1) (w - 20) 146 0 [(0, .inr (.inr v2))] [] S1 _
        refine zw_push hm_146 dX11_numberOf_0 (v := .inr (.inr v2)) rfl ?_
        refine zw_ifnonnull hm_146 dX11_numberOf_1 (t := 8) rfl ?_ ?_
        · intro hc
          have h := h.1 hc
          (try rw [hc])
          show ma_wp X (d - 1) (w - 20) 146 4 [(0, .inr (.inr none))] [] S1 _
          refine zw_push hm_146 dX11_numberOf_4 (v := .inl (-1 : Int32)) rfl ?_
          refine zw_goto hm_146 dX11_numberOf_5 (t := 12) rfl ?_
          refine zw_iret hm_146 dX11_numberOf_12 ?_
          show ma_wp X d w 154 49 [(4, .inl (mI S1 73 i.toNatClampNeg)), (3, .inr (.inr none)), (0, .inr (.inr (some 64))), (1, .inl i), (2, .inl o)] [.inl (-1 : Int32), .inl i, .inr (.inr (some 73))] S1 _
          obtain ⟨hg, h⟩ := h
          refine zw_ias hm_154 dX11_weak_49 (zT_is hS1 s_73) (zT_h hS1 s_73) rfl hg ?_
          refine zw_push hm_154 dX11_weak_50 (v := .inl (mI S1 73 i.toNatClampNeg)) rfl ?_
          exact zw_iret hm_154 dX11_weak_52 h
        · intro c3 hc
          have h := h.2 c3 hc
          (try rw [hc])
          show ma_wp X (d - 1) (w - 20) 146 8 [(0, .inr (.inr (some c3)))] [] S1 _
          refine zw_push hm_146 dX11_numberOf_8 (v := .inr (.inr (some c3))) rfl ?_
          obtain ⟨hg, h⟩ := h
          refine zw_gf hm_146 dX11_numberOf_9 (v := .inl (mI S1 c3 0)) (zT_tis hS1 hg) (zT_tt hS1 hg) rfl f_11_182_9 rfl ?_
          refine zw_iret hm_146 dX11_numberOf_12 ?_
          show ma_wp X d w 154 49 [(4, .inl (mI S1 73 i.toNatClampNeg)), (3, .inr (.inr (some c3))), (0, .inr (.inr (some 64))), (1, .inl i), (2, .inl o)] [.inl (mI S1 c3 0), .inl i, .inr (.inr (some 73))] S1 _
          obtain ⟨hg, h⟩ := h
          refine zw_ias hm_154 dX11_weak_49 (zT_is hS1 s_73) (zT_h hS1 s_73) rfl hg ?_
          refine zw_push hm_154 dX11_weak_50 (v := .inl (mI S1 73 i.toNatClampNeg)) rfl ?_
          exact zw_iret hm_154 dX11_weak_52 h
      · intro x S9 hx
        exact ⟨by decide, hx⟩
theorem sp_154_64_sk_p84 {X : Nat × (Nat → Int32)} {d w : Nat} {f : Nat → Nat → Int32} {r : Nat → Nat → Option Nat} {C Z N : Nat} {Q : Option ma_V ⊕ Nat → ma_S → Prop} {ab : Nat→Nat→Int32} {B : Int} {fq : Nat→Int32} {S : ma_S} (i : Int32) (o : Int32) (hd : 8 ≤ d) (hw : 132 ≤ w) (hI : zB f r C Z N S) (hr : r 64 11 = some 84) (hpre0 : xB S (mR S 70)) (hpre1 : aS 88 S = ab) (hpre2 : cC ab [] (kC S) B) (hpre3 : zfP 84 (mI S) = fq) (K : ∀ v S₉, zB f r C Z N S₉ → (True) → (xB S₉ (mR S₉ 70)) → (cC (aS 88 S₉) [] (kC S₉) B) → ((0 ≤ i.toInt ∧ i.toInt ≤ 15) ∧ (o = -1 ∨ zRq ab o) ∧ aS 88 S₉ = ma_u ab 73 i.toNatClampNeg (aNm ab o) ∧ v = ab 73 i.toNatClampNeg) → (zfP 84 (mI S₉) = fq) → Q (.inl (some (.inl v))) S₉) (KX : ∀ x S₉, (x = 2 ∨ x = 4) → zB f r C Z N S₉ → (xB S₉ (mR S₉ 70)) → (aS 88 S₉ = ab) → (cC ab [] (kC S₉) B) → ((x = 2 ∧ ¬ (0 ≤ i.toInt ∧ i.toInt ≤ 15)) ∨ ((0 ≤ i.toInt ∧ i.toInt ≤ 15) ∧ x = 4 ∧ o ≠ -1 ∧ ¬ zRq ab o)) → (zfP 84 (mI S₉) = fq) → Q (.inr x) (ma_bump S₉)) : ma_wp X d w 154 0 [(0, .inr (.inr (some 64))), (1, .inl i), (2, .inl o)] [] S Q := by
  refine g_154_64_sk_p84_0 i o (by omega) (by omega) (zG_T hI) ?_
  have b1 := i_bd i
  have li2 : (0 : Int32).toInt = 0 := rfl
  refine zd (fun h3 => ?_) (fun h3 => ?_)
  · skip
    have g4 := i_lt h3
    exact KX 2 _ (by decide) hI (show xB S (mR S 70) from by first | (exact xB_x (xC_o (W := 75) hpre0).2)) (show aS 88 S = ab from by first | (exact (xC_o (W := 88) hpre0).1.trans hpre1)) (show cC ab [] (kC S) B from by first | (rw [(xK_o (W := 88) hpre0 rfl).2]; exact hpre2) | (exact hpre2)) (show (2 = 2 ∧ ¬ (0 ≤ i.toInt ∧ i.toInt ≤ 15)) ∨ ((0 ≤ i.toInt ∧ i.toInt ≤ 15) ∧ 2 = 4 ∧ o ≠ -1 ∧ ¬ zRq ab o) from by first | (exact Or.inl ⟨rfl, by omega⟩)) (show zfP 84 (mI S) = fq from by first | (exact hpre3))
  · skip
    have g5 := i_nlt h3
    have li6 : (16 : Int32).toInt = 16 := rfl
    refine zd (fun h7 => ?_) (fun h7 => ?_)
    · skip
      have g8 := i_le h7
      exact KX 2 _ (by decide) hI (show xB S (mR S 70) from by first | (exact xB_x (xC_o (W := 75) hpre0).2)) (show aS 88 S = ab from by first | (exact (xC_o (W := 88) hpre0).1.trans hpre1)) (show cC ab [] (kC S) B from by first | (rw [(xK_o (W := 88) hpre0 rfl).2]; exact hpre2) | (exact hpre2)) (show (2 = 2 ∧ ¬ (0 ≤ i.toInt ∧ i.toInt ≤ 15)) ∨ ((0 ≤ i.toInt ∧ i.toInt ≤ 15) ∧ 2 = 4 ∧ o ≠ -1 ∧ ¬ zRq ab o) from by first | (exact Or.inl ⟨rfl, by omega⟩)) (show zfP 84 (mI S) = fq from by first | (exact hpre3))
    · skip
      have g9 := i_nle h7
      refine ⟨((zG_r hI (by decide)).trans hr), ?_⟩
      refine ⟨((zG_r hI (by decide)).trans hr), ?_⟩
      have b10 := i_bd o
      refine sp_151_64_sk (R := (mR S 70)) (a7 := (aS 75 S)) (a8 := (aS 88 S)) (kk := (kC S)) (o) (by omega) (by omega) (zB_dn_zI hI) (show xB S (mR S 70) from by first | (exact (xC_o (W := 75) hpre0).2)) (show aS 75 S = (aS 75 S) from by first | (exact rfl)) (show aS 88 S = (aS 88 S) from by first | (exact rfl)) (show kC S = (kC S) from by first | (exact rfl)) (fun v2 S1 hL_S1 hq_v2 rp0_S1 rp1_S1 rp2_S1 rp3_S1 rp4_S1 => zo_n ⟨zG_T hL_S1, ?_⟩) (fun x S9 hx h9 rx0 rx1 rx2 rx3 => by have h9u := (zB_up_zI hI h9); exact zo_x (KX x S9 (by omega) h9u (show xB S9 (mR S9 70) from by first | (exact xB_x (xC_o (W := 75) rx0).2)) (show aS 88 S9 = ab from by first | (exact rx1.trans hpre1)) (show cC ab [] (kC S9) B from by first | (rw [rx2]; exact hpre2)) (show (x = 2 ∧ ¬ (0 ≤ i.toInt ∧ i.toInt ≤ 15)) ∨ ((0 ≤ i.toInt ∧ i.toInt ≤ 15) ∧ x = 4 ∧ o ≠ -1 ∧ ¬ zRq ab o) from by first | (exact Or.inr ⟨⟨by omega, by omega⟩, ⟨rx3.1, rx3.2.1, rq_no rx3.2.2 hpre1⟩⟩)) (show zfP 84 (mI S9) = fq from by first | (exact ((zf_fr (P := 84) (fun _ => zG_z h9 rfl)).trans hpre3)))))
      have hI_S1 := zB_up_zI hI hL_S1
      have rp0_S1 : xB S1 (mR S 70) := by
        have z := rp0_S1
        (try rw [show mI S 65 = f 65 from funext (fun k => zG_z hI rfl)] at z)
        (try rw [show mI S 64 1 = f 64 1 from zG_z hI rfl] at z)
        exact z
      have rp1_S1 : aS 88 S1 = (aS 88 S) := by
        have z := rp1_S1
        (try rw [show mI S 65 = f 65 from funext (fun k => zG_z hI rfl)] at z)
        (try rw [show mI S 64 1 = f 64 1 from zG_z hI rfl] at z)
        exact z
      have rp2_S1 : v2 = zTa (mR S 70) o := by
        have z := rp2_S1
        (try rw [show mI S 65 = f 65 from funext (fun k => zG_z hI rfl)] at z)
        (try rw [show mI S 64 1 = f 64 1 from zG_z hI rfl] at z)
        exact z
      have rp3_S1 : o = -1 ∨ zRq (aS 75 S) o := by
        have z := rp3_S1
        (try rw [show mI S 65 = f 65 from funext (fun k => zG_z hI rfl)] at z)
        (try rw [show mI S 64 1 = f 64 1 from zG_z hI rfl] at z)
        exact z
      have rp4_S1 : kC S1 = (kC S) := by
        have z := rp4_S1
        (try rw [show mI S 65 = f 65 from funext (fun k => zG_z hI rfl)] at z)
        (try rw [show mI S 64 1 = f 64 1 from zG_z hI rfl] at z)
        exact z
      refine ⟨i_ix (by omega) (by omega), ?_⟩
      refine ⟨fun hc => ?_, fun c3 hc => ?_⟩
      · skip
        have rn_c3 : zTa (mR S 70) o = none := rp2_S1.symm.trans hc
        refine ⟨i_ix (by omega) (by omega), ?_⟩
        have hI11 : zB f r C Z N (ma_put S1 73 i.toNatClampNeg (.inl (-1 : Int32))) := zG_fa hI_S1 rfl (by decide) (by decide) (by decide) (show zB_x (mI S1) from zG_x hI_S1)
        have b12 := i_bd (mI S1 73 i.toNatClampNeg)
        exact K ((mI S1 73 i.toNatClampNeg)) _ hI11 trivial (show xB (ma_put S1 73 i.toNatClampNeg (.inl (-1 : Int32))) (mR (ma_put S1 73 i.toNatClampNeg (.inl (-1 : Int32))) 70) from by first | (exact xB_x (xC_p (c := 73) (k := i.toNatClampNeg) (x := (-1 : Int32)) (xC_o (W := 75) rp0_S1) 73 xW75 rfl rfl).2)) (show cC (aS 88 (ma_put S1 73 i.toNatClampNeg (.inl (-1 : Int32)))) [] (kC (ma_put S1 73 i.toNatClampNeg (.inl (-1 : Int32)))) B from by first | (exfalso; omega) | (rw [(xC_p (c := 73) (k := i.toNatClampNeg) (x := (-1 : Int32)) (xC_o (W := 88) rp0_S1) 73 xW88 rfl rfl).1, (rp1_S1.trans hpre1)]; rw [(xK_p (c := 73) (k := i.toNatClampNeg) (x := (-1 : Int32)) (xK_o (W := 88) rp0_S1 rfl) 73 xW88 rfl rfl).2, rp4_S1]; exact C_u (by decide) (by decide) hpre2) | (rw [(xK_p (c := 73) (k := i.toNatClampNeg) (x := (-1 : Int32)) (xK_o (W := 88) rp0_S1 rfl) 73 xW88 rfl rfl).2, rp4_S1]; rw [(xC_p (c := 73) (k := i.toNatClampNeg) (x := (-1 : Int32)) (xC_o (W := 88) rp0_S1) 73 xW88 rfl rfl).1, (rp1_S1.trans hpre1)]; exact C_u (by decide) (by decide) hpre2)) (show (0 ≤ i.toInt ∧ i.toInt ≤ 15) ∧ (o = -1 ∨ zRq ab o) ∧ aS 88 (ma_put S1 73 i.toNatClampNeg (.inl (-1 : Int32))) = ma_u ab 73 i.toNatClampNeg (aNm ab o) ∧ (mI S1 73 i.toNatClampNeg) = ab 73 i.toNatClampNeg from by first | (exfalso; omega) | (skip; have nn := (nm_n (W := 88) rp0_S1 rn_c3); rw [(rp1_S1.trans hpre1)] at nn; refine ⟨⟨by omega, by omega⟩, (rp3_S1.imp id (fun w => rq_up w hpre1)), (xC_p (c := 73) (k := i.toNatClampNeg) (x := (-1 : Int32)) (xC_o (W := 88) rp0_S1) 73 xW88 rfl rfl).1.trans ?_, ?_⟩; (rw [(rp1_S1.trans hpre1), nn]); (rw [← (rp1_S1.trans hpre1), (aS_I (W := 88) (S := S1) (c := 73) (c₉ := 73) (k := i.toNatClampNeg) rfl rfl)]))) (show zfP 84 (mI (ma_put S1 73 i.toNatClampNeg (.inl (-1 : Int32)))) = fq from by first | (exact ((zf_n (P := 84) (c := 73) (by decide)).trans ((zf_fr (P := 84) (S₉ := S1) (S := S) (fun _ => zG_z hL_S1 rfl)).trans hpre3))))
      · skip
        have th_c3 := hq_v2 c3 hc
        have rg_c3 : zTa (mR S 70) o = some c3 := rp2_S1.symm.trans hc
        subst hc
        refine ⟨zG_n hI_S1 th_c3, ?_⟩
        refine ⟨i_ix (by omega) (by omega), ?_⟩
        have hI13 : zB f r C Z N (ma_put S1 73 i.toNatClampNeg (.inl (mI S1 c3 0))) := zG_fa hI_S1 rfl (by decide) (by decide) (by decide) (show zB_x (mI S1) from zG_x hI_S1)
        have b14 := i_bd (mI S1 73 i.toNatClampNeg)
        exact K ((mI S1 73 i.toNatClampNeg)) _ hI13 trivial (show xB (ma_put S1 73 i.toNatClampNeg (.inl (mI S1 c3 0))) (mR (ma_put S1 73 i.toNatClampNeg (.inl (mI S1 c3 0))) 70) from by first | (exact xB_x (xC_p (c := 73) (k := i.toNatClampNeg) (x := (mI S1 c3 0)) (xC_o (W := 75) rp0_S1) 73 xW75 rfl rfl).2)) (show cC (aS 88 (ma_put S1 73 i.toNatClampNeg (.inl (mI S1 c3 0)))) [] (kC (ma_put S1 73 i.toNatClampNeg (.inl (mI S1 c3 0)))) B from by first | (exfalso; omega) | (rw [(xC_p (c := 73) (k := i.toNatClampNeg) (x := (mI S1 c3 0)) (xC_o (W := 88) rp0_S1) 73 xW88 rfl rfl).1, (rp1_S1.trans hpre1)]; rw [(xK_p (c := 73) (k := i.toNatClampNeg) (x := (mI S1 c3 0)) (xK_o (W := 88) rp0_S1 rfl) 73 xW88 rfl rfl).2, rp4_S1]; exact C_u (by decide) (by decide) hpre2) | (rw [(xK_p (c := 73) (k := i.toNatClampNeg) (x := (mI S1 c3 0)) (xK_o (W := 88) rp0_S1 rfl) 73 xW88 rfl rfl).2, rp4_S1]; rw [(xC_p (c := 73) (k := i.toNatClampNeg) (x := (mI S1 c3 0)) (xC_o (W := 88) rp0_S1) 73 xW88 rfl rfl).1, (rp1_S1.trans hpre1)]; exact C_u (by decide) (by decide) hpre2)) (show (0 ≤ i.toInt ∧ i.toInt ≤ 15) ∧ (o = -1 ∨ zRq ab o) ∧ aS 88 (ma_put S1 73 i.toNatClampNeg (.inl (mI S1 c3 0))) = ma_u ab 73 i.toNatClampNeg (aNm ab o) ∧ (mI S1 73 i.toNatClampNeg) = ab 73 i.toNatClampNeg from by first | (exfalso; omega) | (have tn := (xB_th (W := 88) rp0_S1 rg_c3).2.2.1; have nn := (nm_y (W := 88) rp0_S1 rg_c3); rw [(rp1_S1.trans hpre1)] at nn; refine ⟨⟨by omega, by omega⟩, (rp3_S1.imp id (fun w => rq_up w hpre1)), (xC_p (c := 73) (k := i.toNatClampNeg) (x := (mI S1 c3 0)) (xC_o (W := 88) rp0_S1) 73 xW88 rfl rfl).1.trans ?_, ?_⟩; (rw [(rp1_S1.trans hpre1), nn]; rw [tn]); (rw [← (rp1_S1.trans hpre1), (aS_I (W := 88) (S := S1) (c := 73) (c₉ := 73) (k := i.toNatClampNeg) rfl rfl)]))) (show zfP 84 (mI (ma_put S1 73 i.toNatClampNeg (.inl (mI S1 c3 0)))) = fq from by first | (exact ((zf_n (P := 84) (c := 73) (by decide)).trans ((zf_fr (P := 84) (S₉ := S1) (S := S) (fun _ => zG_z hL_S1 rfl)).trans hpre3))))
theorem g_157_64_sk_p84_0 {X : Nat × (Nat → Int32)} {d w : Nat} {S : ma_S} {Q : Option ma_V ⊕ Nat → ma_S → Prop} (o : Int32) (hd : 7 ≤ d) (hw : 111 ≤ w) (hS : zT S) (h : mR S 64 11 = some 84 ∧ (mR S 64 11 = some 84 ∧ (ma_wp X (d - 1) (w - 22) 149 0 [(0, .inr (.inr (some 64))), (1, .inl o)] [] S (zo (fun v2 S1 => zT S1 ∧ ((∃ c3, v2 = some c3 ∧ ((126 ≤ c3 ∧ c3 < mN S1) ∧ (if (mI S1 c3 8) = 0 then ((126 ≤ c3 ∧ c3 < mN S1) ∧ (Q (.inl (some (.inl (1 : Int32)))) (ma_put S1 c3 8 (.inl (1 : Int32))))) else ((126 ≤ c3 ∧ c3 < mN S1) ∧ (Q (.inl (some (.inl (0 : Int32)))) (ma_put S1 c3 8 (.inl (1 : Int32)))))))))) (fun x S9 => Q (.inr x) S9))))) : ma_wp X d w 157 0 [(0, .inr (.inr (some 64))), (1, .inl o)] [] S Q := by
  refine zw_push hm_157 dX11_wish_0 (v := .inr (.inr (some 64))) rfl ?_
  refine zw_cv hm_157 dX11_wish_1 v_11_119_11 hm_144 [] [] rfl (zT_rt hS s_64 rfl) ⟨by omega, by omega⟩ rfl ?_
  show ma_wp X (d - 1) (w - 20) 144 0 [(0, .inr (.inr (some 64)))] [] S _
  refine zw_push hm_144 dX11_needCollector_0 (v := .inr (.inr (some 64))) rfl ?_
  obtain ⟨hg, h⟩ := h
  refine zw_gf hm_144 dX11_needCollector_1 (v := .inr (.inr (some 84))) (zT_is hS s_64) (zT_t hS s_64) rfl f_11_98_11 (congrArg (fun z => Sum.inr (Sum.inr z)) hg) ?_
  refine zw_ifnonnull hm_144 dX11_needCollector_4 (t := 15) rfl (fun z => by cases z) (fun _ _ => ?_)
  refine zw_push hm_144 dX11_needCollector_15 (v := .inr (.inr (some 64))) rfl ?_
  obtain ⟨hg, h⟩ := h
  refine zw_gf hm_144 dX11_needCollector_16 (v := .inr (.inr (some 84))) (zT_is hS s_64) (zT_t hS s_64) rfl f_11_98_11 (congrArg (fun z => Sum.inr (Sum.inr z)) hg) ?_
  refine zw_aret hm_144 dX11_needCollector_19 ?_
  show ma_wp X d w 157 4 [(0, .inr (.inr (some 64))), (1, .inl o)] [.inr (.inr (some 84))] S _
  refine zw_stk hm_157 dX11_wish_4 (st₉ := []) rfl rfl ?_
  refine zw_push hm_157 dX11_wish_5 (v := .inr (.inr (some 64))) rfl ?_
  refine zw_push hm_157 dX11_wish_6 (v := .inl o) rfl ?_
  refine zw_cv hm_157 dX11_wish_7 v_11_123_11 hm_149 [.inl o] [] rfl (zT_rt hS s_64 rfl) ⟨by omega, by omega⟩ rfl (zw_mono h (zo_go ?_ ?_))
  · intro v2 S1 hv
    obtain ⟨hS1, h⟩ := hv
    obtain ⟨c3, hc, h⟩ := h
    subst hc
    show ma_wp X d w 157 10 [(0, .inr (.inr (some 64))), (1, .inl o)] [.inr (.inr (some c3))] S1 _
    refine zw_sto hm_157 dX11_wish_10 [(2, .inr (.inr (some c3))), (0, .inr (.inr (some 64))), (1, .inl o)] rfl rfl rfl ?_
    refine zw_push hm_157 dX11_wish_11 (v := .inr (.inr (some c3))) rfl ?_
    obtain ⟨hg, h⟩ := h
    refine zw_gf hm_157 dX11_wish_12 (v := .inl (mI S1 c3 8)) (zT_tis hS1 hg) (zT_tt hS1 hg) rfl f_11_199_9 rfl ?_
    refine zw_if0 hm_157 dX11_wish_15 (t := 22) rfl zc0_eq ?_ ?_
    · intro hc
      rw [if_pos hc] at h
      refine zw_push hm_157 dX11_wish_22 (v := .inl (1 : Int32)) rfl ?_
      refine zw_sto hm_157 dX11_wish_23 [(3, .inl (1 : Int32)), (2, .inr (.inr (some c3))), (0, .inr (.inr (some 64))), (1, .inl o)] rfl rfl rfl ?_
      refine zw_push hm_157 dX11_wish_24 (v := .inr (.inr (some c3))) rfl ?_
      refine zw_push hm_157 dX11_wish_25 (v := .inl (1 : Int32)) rfl ?_
      obtain ⟨hg, h⟩ := h
      refine zw_pf hm_157 dX11_wish_26 (zT_tis hS1 hg) (zT_tt hS1 hg) p_11_199_9 (zk_bool (by decide)) ?_
      refine zw_push hm_157 dX11_wish_29 (v := .inl (1 : Int32)) rfl ?_
      exact zw_iret hm_157 dX11_wish_30 h
    · intro hc
      rw [if_neg hc] at h
      refine zw_push hm_157 dX11_wish_18 (v := .inl (0 : Int32)) rfl ?_
      refine zw_goto hm_157 dX11_wish_19 (t := 23) rfl ?_
      refine zw_sto hm_157 dX11_wish_23 [(3, .inl (0 : Int32)), (2, .inr (.inr (some c3))), (0, .inr (.inr (some 64))), (1, .inl o)] rfl rfl rfl ?_
      refine zw_push hm_157 dX11_wish_24 (v := .inr (.inr (some c3))) rfl ?_
      refine zw_push hm_157 dX11_wish_25 (v := .inl (1 : Int32)) rfl ?_
      obtain ⟨hg, h⟩ := h
      refine zw_pf hm_157 dX11_wish_26 (zT_tis hS1 hg) (zT_tt hS1 hg) p_11_199_9 (zk_bool (by decide)) ?_
      refine zw_push hm_157 dX11_wish_29 (v := .inl (0 : Int32)) rfl ?_
      exact zw_iret hm_157 dX11_wish_30 h
  · intro x S9 hx
    exact ⟨by decide, hx⟩
theorem sp_157_64_sk_p84 {X : Nat × (Nat → Int32)} {d w : Nat} {f : Nat → Nat → Int32} {r : Nat → Nat → Option Nat} {C Z N : Nat} {Q : Option ma_V ⊕ Nat → ma_S → Prop} {ab : Nat→Nat→Int32} {B : Int} {fq : Nat→Int32} {S : ma_S} (o : Int32) (hd : 7 ≤ d) (hw : 111 ≤ w) (hI : zB f r C Z N S) (hr : r 64 11 = some 84) (hpre0 : xB S (mR S 70)) (hpre1 : aS 88 S = ab) (hpre2 : cC ab [] (kC S) B) (hpre3 : zfP 84 (mI S) = fq) (K : ∀ v S₉, zB f r C Z N S₉ → (True) → (xB S₉ (mR S₉ 70)) → (cC (aS 88 S₉) [] (kC S₉) B) → (zRq ab o ∧ aS 88 S₉ = ma_u ab 134 o.toNatClampNeg 1 ∧ v = (if ab 134 o.toNatClampNeg = 0 then 1 else 0)) → (zfP 84 (mI S₉) = fq) → Q (.inl (some (.inl v))) S₉) (KX : ∀ x S₉, (x = 4) → zB f r C Z N S₉ → (xB S₉ (mR S₉ 70)) → (aS 88 S₉ = ab) → (cC ab [] (kC S₉) B) → (x = 4 ∧ ¬ zRq ab o) → (zfP 84 (mI S₉) = fq) → Q (.inr x) (ma_bump S₉)) : ma_wp X d w 157 0 [(0, .inr (.inr (some 64))), (1, .inl o)] [] S Q := by
  refine g_157_64_sk_p84_0 o (by omega) (by omega) (zG_T hI) ?_
  refine ⟨((zG_r hI (by decide)).trans hr), ?_⟩
  refine ⟨((zG_r hI (by decide)).trans hr), ?_⟩
  have b1 := i_bd o
  refine sp_149_64_sk (R := (mR S 70)) (a7 := (aS 75 S)) (a8 := (aS 88 S)) (kk := (kC S)) (o) (by omega) (by omega) (zB_dn_zI hI) (show xB S (mR S 70) from by first | (exact (xC_o (W := 75) hpre0).2)) (show aS 75 S = (aS 75 S) from by first | (exact rfl)) (show aS 88 S = (aS 88 S) from by first | (exact rfl)) (show kC S = (kC S) from by first | (exact rfl)) (fun v2 S1 hL_S1 hq_v2 rp0_S1 rp1_S1 rp2_S1 rp3_S1 rp4_S1 => zo_n ⟨zG_T hL_S1, ?_⟩) (fun x S9 hx h9 rx0 rx1 rx2 rx3 => by have h9u := (zB_up_zI hI h9); exact zo_x (KX x S9 (by omega) h9u (show xB S9 (mR S9 70) from by first | (exact xB_x (xC_o (W := 75) rx0).2)) (show aS 88 S9 = ab from by first | (exact rx1.trans hpre1)) (show cC ab [] (kC S9) B from by first | (rw [rx2]; exact hpre2)) (show x = 4 ∧ ¬ zRq ab o from by first | (exact ⟨rx3.1, rq_no rx3.2 hpre1⟩)) (show zfP 84 (mI S9) = fq from by first | (exact ((zf_fr (P := 84) (fun _ => zG_z h9 rfl)).trans hpre3)))))
  have hI_S1 := zB_up_zI hI hL_S1
  have rp0_S1 : xB S1 (mR S 70) := by
    have z := rp0_S1
    (try rw [show mI S 65 = f 65 from funext (fun k => zG_z hI rfl)] at z)
    (try rw [show mI S 64 1 = f 64 1 from zG_z hI rfl] at z)
    exact z
  have rp1_S1 : aS 88 S1 = (aS 88 S) := by
    have z := rp1_S1
    (try rw [show mI S 65 = f 65 from funext (fun k => zG_z hI rfl)] at z)
    (try rw [show mI S 64 1 = f 64 1 from zG_z hI rfl] at z)
    exact z
  have rp2_S1 : v2 = zTa (mR S 70) o := by
    have z := rp2_S1
    (try rw [show mI S 65 = f 65 from funext (fun k => zG_z hI rfl)] at z)
    (try rw [show mI S 64 1 = f 64 1 from zG_z hI rfl] at z)
    exact z
  have rp3_S1 : zRq (aS 75 S) o := by
    have z := rp3_S1
    (try rw [show mI S 65 = f 65 from funext (fun k => zG_z hI rfl)] at z)
    (try rw [show mI S 64 1 = f 64 1 from zG_z hI rfl] at z)
    exact z
  have rp4_S1 : kC S1 = (kC S) := by
    have z := rp4_S1
    (try rw [show mI S 65 = f 65 from funext (fun k => zG_z hI rfl)] at z)
    (try rw [show mI S 64 1 = f 64 1 from zG_z hI rfl] at z)
    exact z
  obtain ⟨c3, hc, th_c3⟩ := hq_v2
  have rg_c3 : zTa (mR S 70) o = some c3 := rp2_S1.symm.trans hc
  refine ⟨c3, hc, ?_⟩
  refine ⟨zG_n hI_S1 th_c3, ?_⟩
  have b2 := i_bd (mI S1 c3 8)
  have li3 : (0 : Int32).toInt = 0 := rfl
  refine zd (fun h4 => ?_) (fun h4 => ?_)
  · skip
    have g5 := i_eq h4
    refine ⟨zG_n hI_S1 th_c3, ?_⟩
    have hI6 : zB f r C Z N (ma_put S1 c3 8 (.inl (1 : Int32))) := zG_tf hI_S1 th_c3.1 zB_t (by decide) (by decide) (zB_xt (S := S1) th_c3.1 (zG_x hI_S1)) (by decide) (by decide) (by decide)
    have li7 : (1 : Int32).toInt = 1 := rfl
    exact K ((1 : Int32)) _ hI6 trivial (show xB (ma_put S1 c3 8 (.inl (1 : Int32))) (mR (ma_put S1 c3 8 (.inl (1 : Int32))) 70) from by first | (exact xB_x (xC_t (k := 8) (x := (1 : Int32)) (xC_o (W := 75) rp0_S1) xW75 rg_c3 rfl).2)) (show cC (aS 88 (ma_put S1 c3 8 (.inl (1 : Int32)))) [] (kC (ma_put S1 c3 8 (.inl (1 : Int32)))) B from by first | (exfalso; omega) | (rw [(xC_t (k := 8) (x := (1 : Int32)) (xC_o (W := 88) rp0_S1) xW88 rg_c3 rfl).1, (rp1_S1.trans hpre1)]; rw [(xK_t (k := 8) (x := (1 : Int32)) (xK_o (W := 88) rp0_S1 rfl) xW88 rg_c3 rfl (by decide)).2, rp4_S1]; exact C_u (by decide) (by decide) hpre2) | (rw [(xK_t (k := 8) (x := (1 : Int32)) (xK_o (W := 88) rp0_S1 rfl) xW88 rg_c3 rfl (by decide)).2, rp4_S1]; rw [(xC_t (k := 8) (x := (1 : Int32)) (xC_o (W := 88) rp0_S1) xW88 rg_c3 rfl).1, (rp1_S1.trans hpre1)]; exact C_u (by decide) (by decide) hpre2)) (show zRq ab o ∧ aS 88 (ma_put S1 c3 8 (.inl (1 : Int32))) = ma_u ab 134 o.toNatClampNeg 1 ∧ (1 : Int32) = (if ab 134 o.toNatClampNeg = 0 then 1 else 0) from by first | (have ty := xB_th (W := 88) rp0_S1 rg_c3; have e8 := ty.2.2.2.2.2.2.2.1; rw [(rp1_S1.trans hpre1)] at e8; refine ⟨(rq_up rp3_S1 hpre1), (xC_t (k := 8) (x := (1 : Int32)) (xC_o (W := 88) rp0_S1) xW88 rg_c3 rfl).1.trans ?_, ?_⟩; (rw [(rp1_S1.trans hpre1)]); (rw [← e8]; exact (if_pos (by assumption)).symm))) (show zfP 84 (mI (ma_put S1 c3 8 (.inl (1 : Int32)))) = fq from by first | (exact ((zf_t (P := 84) th_c3.1 (by decide)).trans ((zf_fr (P := 84) (S₉ := S1) (S := S) (fun _ => zG_z hL_S1 rfl)).trans hpre3))))
  · skip
    have g8 := i_ne h4
    refine ⟨zG_n hI_S1 th_c3, ?_⟩
    have hI9 : zB f r C Z N (ma_put S1 c3 8 (.inl (1 : Int32))) := zG_tf hI_S1 th_c3.1 zB_t (by decide) (by decide) (zB_xt (S := S1) th_c3.1 (zG_x hI_S1)) (by decide) (by decide) (by decide)
    exact K ((0 : Int32)) _ hI9 trivial (show xB (ma_put S1 c3 8 (.inl (1 : Int32))) (mR (ma_put S1 c3 8 (.inl (1 : Int32))) 70) from by first | (exact xB_x (xC_t (k := 8) (x := (1 : Int32)) (xC_o (W := 75) rp0_S1) xW75 rg_c3 rfl).2)) (show cC (aS 88 (ma_put S1 c3 8 (.inl (1 : Int32)))) [] (kC (ma_put S1 c3 8 (.inl (1 : Int32)))) B from by first | (exfalso; omega) | (rw [(xC_t (k := 8) (x := (1 : Int32)) (xC_o (W := 88) rp0_S1) xW88 rg_c3 rfl).1, (rp1_S1.trans hpre1)]; rw [(xK_t (k := 8) (x := (1 : Int32)) (xK_o (W := 88) rp0_S1 rfl) xW88 rg_c3 rfl (by decide)).2, rp4_S1]; exact C_u (by decide) (by decide) hpre2) | (rw [(xK_t (k := 8) (x := (1 : Int32)) (xK_o (W := 88) rp0_S1 rfl) xW88 rg_c3 rfl (by decide)).2, rp4_S1]; rw [(xC_t (k := 8) (x := (1 : Int32)) (xC_o (W := 88) rp0_S1) xW88 rg_c3 rfl).1, (rp1_S1.trans hpre1)]; exact C_u (by decide) (by decide) hpre2)) (show zRq ab o ∧ aS 88 (ma_put S1 c3 8 (.inl (1 : Int32))) = ma_u ab 134 o.toNatClampNeg 1 ∧ (0 : Int32) = (if ab 134 o.toNatClampNeg = 0 then 1 else 0) from by first | (have ty := xB_th (W := 88) rp0_S1 rg_c3; have e8 := ty.2.2.2.2.2.2.2.1; rw [(rp1_S1.trans hpre1)] at e8; refine ⟨(rq_up rp3_S1 hpre1), (xC_t (k := 8) (x := (1 : Int32)) (xC_o (W := 88) rp0_S1) xW88 rg_c3 rfl).1.trans ?_, ?_⟩; (rw [(rp1_S1.trans hpre1)]); (rw [← e8]; exact (if_neg (by assumption)).symm))) (show zfP 84 (mI (ma_put S1 c3 8 (.inl (1 : Int32)))) = fq from by first | (exact ((zf_t (P := 84) th_c3.1 (by decide)).trans ((zf_fr (P := 84) (S₉ := S1) (S := S) (fun _ => zG_z hL_S1 rfl)).trans hpre3))))

/-! from 95.m34 -/
/-! COUNTS, the class (written by wip/tools/gen20k.py) -/
theorem g_153_64_sk_p84_0 {X : Nat × (Nat → Int32)} {d w : Nat} {S : ma_S} {Q : Option ma_V ⊕ Nat → ma_S → Prop} (i : Int32) (o : Int32) (hd : 8 ≤ d) (hw : 134 ≤ w) (hS : zT S) (h : if i < 0 then (Q (.inr 2) (ma_bump S)) else (if (16 : Int32) ≤ i then (Q (.inr 2) (ma_bump S)) else (mR S 64 11 = some 84 ∧ (mR S 64 11 = some 84 ∧ (ma_wp X (d - 1) (w - 21) 151 0 [(0, .inr (.inr (some 64))), (1, .inl o)] [] S (zo (fun v2 S1 => zT S1 ∧ (ma_wp X (d - 1) (w - 24) 145 0 [(0, .inr (.inr (some 64))), (1, .inr (.inr (some 84))), (2, .inl i), (3, .inr (.inr v2))] [] S1 (zo (fun v4 S3 => zT S3 ∧ ((v4 = none → Q (.inl (some (.inl (-1 : Int32)))) S3) ∧ (∀ c5, v4 = some c5 → (126 ≤ c5 ∧ c5 < mN S3) ∧ (Q (.inl (some (.inl (mI S3 c5 0)))) S3)))) (fun x S9 => Q (.inr x) S9)))) (fun x S9 => Q (.inr x) S9))))))) : ma_wp X d w 153 0 [(0, .inr (.inr (some 64))), (1, .inl i), (2, .inl o)] [] S Q := by
  refine zw_push hm_153 dX11_root_0 (v := .inl i) rfl ?_
  refine zw_cs hm_153 dX11_root_1 pn_11_109 sl_11_109 hm_142 [.inl i] [] rfl ⟨by omega, by omega⟩ rfl ?_
  show ma_wp X (d - 1) (w - 20) 142 0 [(0, .inl i)] [] S _
  refine zw_push hm_142 dX11_isSlot_0 (v := .inl i) rfl ?_
  refine zw_if0 hm_142 dX11_isSlot_1 (t := 14) rfl zc0_lt ?_ ?_
  · intro hc
    rw [if_pos hc] at h
    refine zw_push hm_142 dX11_isSlot_14 (v := .inl (0 : Int32)) rfl ?_
    refine zw_bret hm_142 dX11_isSlot_15 (by decide) ?_
    show ma_wp X d w 153 4 [(0, .inr (.inr (some 64))), (1, .inl i), (2, .inl o)] [.inl (0 : Int32)] S _
    refine zw_if0 hm_153 dX11_root_4 (t := 15) rfl zc0_ne (fun hc => absurd hc (by decide)) (fun _ => ?_)
    exact zw_thr hm_153 dX11_root_7 dX11_root_10 dX11_root_11 dX11_root_14 x_11_79_81 n_11_79 (by omega) (by show 0 + 81 ≤ w; omega) h
  · intro hc
    rw [if_neg hc] at h
    refine zw_push hm_142 dX11_isSlot_4 (v := .inl i) rfl ?_
    refine zw_push hm_142 dX11_isSlot_5 (v := .inl (16 : Int32)) rfl ?_
    refine zw_if2 hm_142 dX11_isSlot_7 (t := 14) rfl zc2_ge ?_ ?_
    · intro hc
      rw [if_pos hc] at h
      refine zw_push hm_142 dX11_isSlot_14 (v := .inl (0 : Int32)) rfl ?_
      refine zw_bret hm_142 dX11_isSlot_15 (by decide) ?_
      show ma_wp X d w 153 4 [(0, .inr (.inr (some 64))), (1, .inl i), (2, .inl o)] [.inl (0 : Int32)] S _
      refine zw_if0 hm_153 dX11_root_4 (t := 15) rfl zc0_ne (fun hc => absurd hc (by decide)) (fun _ => ?_)
      exact zw_thr hm_153 dX11_root_7 dX11_root_10 dX11_root_11 dX11_root_14 x_11_79_81 n_11_79 (by omega) (by show 0 + 81 ≤ w; omega) h
    · intro hc
      rw [if_neg hc] at h
      refine zw_push hm_142 dX11_isSlot_10 (v := .inl (1 : Int32)) rfl ?_
      refine zw_goto hm_142 dX11_isSlot_11 (t := 15) rfl ?_
      refine zw_bret hm_142 dX11_isSlot_15 (by decide) ?_
      show ma_wp X d w 153 4 [(0, .inr (.inr (some 64))), (1, .inl i), (2, .inl o)] [.inl (1 : Int32)] S _
      refine zw_if0 hm_153 dX11_root_4 (t := 15) rfl zc0_ne (fun _ => ?_) (fun hc => absurd (by decide) hc)
      refine zw_push hm_153 dX11_root_15 (v := .inr (.inr (some 64))) rfl ?_
      refine zw_cv hm_153 dX11_root_16 v_11_119_11 hm_144 [] [] rfl (zT_rt hS s_64 rfl) ⟨by omega, by omega⟩ rfl ?_
      show ma_wp X (d - 1) (w - 20) 144 0 [(0, .inr (.inr (some 64)))] [] S _
      refine zw_push hm_144 dX11_needCollector_0 (v := .inr (.inr (some 64))) rfl ?_
      obtain ⟨hg, h⟩ := h
      refine zw_gf hm_144 dX11_needCollector_1 (v := .inr (.inr (some 84))) (zT_is hS s_64) (zT_t hS s_64) rfl f_11_98_11 (congrArg (fun z => Sum.inr (Sum.inr z)) hg) ?_
      refine zw_ifnonnull hm_144 dX11_needCollector_4 (t := 15) rfl (fun z => by cases z) (fun _ _ => ?_)
      refine zw_push hm_144 dX11_needCollector_15 (v := .inr (.inr (some 64))) rfl ?_
      obtain ⟨hg, h⟩ := h
      refine zw_gf hm_144 dX11_needCollector_16 (v := .inr (.inr (some 84))) (zT_is hS s_64) (zT_t hS s_64) rfl f_11_98_11 (congrArg (fun z => Sum.inr (Sum.inr z)) hg) ?_
      refine zw_aret hm_144 dX11_needCollector_19 ?_
      show ma_wp X d w 153 19 [(0, .inr (.inr (some 64))), (1, .inl i), (2, .inl o)] [.inr (.inr (some 84))] S _
      refine zw_sto hm_153 dX11_root_19 [(3, .inr (.inr (some 84))), (0, .inr (.inr (some 64))), (1, .inl i), (2, .inl o)] rfl rfl rfl ?_
      refine zw_push hm_153 dX11_root_20 (v := .inr (.inr (some 64))) rfl ?_
      refine zw_push hm_153 dX11_root_21 (v := .inl o) rfl ?_
      refine zw_cv hm_153 dX11_root_22 v_11_142_11 hm_151 [.inl o] [] rfl (zT_rt hS s_64 rfl) ⟨by omega, by omega⟩ rfl (zw_mono h (zo_go ?_ ?_))
      · intro v2 S1 hv
        obtain ⟨hS1, h⟩ := hv
        refine zw_sto hm_153 dX11_root_25 [(4, .inr (.inr v2)), (3, .inr (.inr (some 84))), (0, .inr (.inr (some 64))), (1, .inl i), (2, .inl o)] rfl rfl rfl ?_
        refine zw_push hm_153 dX11_root_27 (v := .inr (.inr (some 64))) rfl ?_
        refine zw_push hm_153 dX11_root_28 (v := .inr (.inr (some 84))) rfl ?_
        refine zw_push hm_153 dX11_root_29 (v := .inl i) rfl ?_
        refine zw_push hm_153 dX11_root_30 (v := .inr (.inr v2)) rfl ?_
        refine zw_cv hm_153 dX11_root_32 v_11_169_11 hm_145 [.inr (.inr v2), .inl i, .inr (.inr (some 84))] [] rfl (zT_rt hS1 s_64 rfl) ⟨by omega, by omega⟩ rfl (zw_mono h (zo_go ?_ ?_))
        · intro v4 S3 hv
          obtain ⟨hS3, h⟩ := hv
          refine zw_cs hm_153 dX11_root_35 pn_11_161 sl_11_161 hm_146 [.inr (.inr v4)] [] rfl ⟨by omega, by omega⟩ rfl ?_
          show ma_wp X (d - 1) (w - 20) 146 0 [(0, .inr (.inr v4))] [] S3 _
          refine zw_push hm_146 dX11_numberOf_0 (v := .inr (.inr v4)) rfl ?_
          refine zw_ifnonnull hm_146 dX11_numberOf_1 (t := 8) rfl ?_ ?_
          · intro hc
            have h := h.1 hc
            (try rw [hc])
            show ma_wp X (d - 1) (w - 20) 146 4 [(0, .inr (.inr none))] [] S3 _
            refine zw_push hm_146 dX11_numberOf_4 (v := .inl (-1 : Int32)) rfl ?_
            refine zw_goto hm_146 dX11_numberOf_5 (t := 12) rfl ?_
            refine zw_iret hm_146 dX11_numberOf_12 ?_
            show ma_wp X d w 153 38 [(4, .inr (.inr v2)), (3, .inr (.inr (some 84))), (0, .inr (.inr (some 64))), (1, .inl i), (2, .inl o)] [.inl (-1 : Int32)] S3 _
            exact zw_iret hm_153 dX11_root_38 h
          · intro c5 hc
            have h := h.2 c5 hc
            (try rw [hc])
            show ma_wp X (d - 1) (w - 20) 146 8 [(0, .inr (.inr (some c5)))] [] S3 _
            refine zw_push hm_146 dX11_numberOf_8 (v := .inr (.inr (some c5))) rfl ?_
            obtain ⟨hg, h⟩ := h
            refine zw_gf hm_146 dX11_numberOf_9 (v := .inl (mI S3 c5 0)) (zT_tis hS3 hg) (zT_tt hS3 hg) rfl f_11_182_9 rfl ?_
            refine zw_iret hm_146 dX11_numberOf_12 ?_
            show ma_wp X d w 153 38 [(4, .inr (.inr v2)), (3, .inr (.inr (some 84))), (0, .inr (.inr (some 64))), (1, .inl i), (2, .inl o)] [.inl (mI S3 c5 0)] S3 _
            exact zw_iret hm_153 dX11_root_38 h
        · intro x S9 hx
          exact ⟨by decide, hx⟩
      · intro x S9 hx
        exact ⟨by decide, hx⟩
theorem sp_153_64_sk_p84 {X : Nat × (Nat → Int32)} {d w : Nat} {f : Nat → Nat → Int32} {r : Nat → Nat → Option Nat} {C Z N : Nat} {Q : Option ma_V ⊕ Nat → ma_S → Prop} {ab : Nat→Nat→Int32} {B : Int} {fq : Nat→Int32} {S : ma_S} (i : Int32) (o : Int32) (hd : 8 ≤ d) (hw : 134 ≤ w) (hI : zB f r C Z N S) (hr : r 64 11 = some 84) (hpre0 : xB S (mR S 70)) (hpre1 : aS 88 S = ab) (hpre2 : cC ab [] (kC S) B) (hpre3 : B ≤ 1000000) (hpre4 : zfP 84 (mI S) = fq) (K : ∀ v S₉, zB f r C Z N S₉ → (True) → (xB S₉ (mR S₉ 70)) → (cC (aS 88 S₉) [] (kC S₉) B) → ((0 ≤ i.toInt ∧ i.toInt ≤ 15) ∧ (o = -1 ∨ zRq ab o) ∧ aS 88 S₉ = cLe (aR0 ab i o) (ab 72 i.toNatClampNeg) ∧ v = aNm ab (ab 72 i.toNatClampNeg)) → (zfP 84 (mI S₉) = fq) → Q (.inl (some (.inl v))) S₉) (KX : ∀ x S₉, (x = 2 ∨ x = 4) → zB f r C Z N S₉ → (xB S₉ (mR S₉ 70)) → (aS 88 S₉ = ab) → (cC ab [] (kC S₉) B) → ((x = 2 ∧ ¬ (0 ≤ i.toInt ∧ i.toInt ≤ 15)) ∨ ((0 ≤ i.toInt ∧ i.toInt ≤ 15) ∧ x = 4 ∧ o ≠ -1 ∧ ¬ zRq ab o)) → (zfP 84 (mI S₉) = fq) → Q (.inr x) (ma_bump S₉)) : ma_wp X d w 153 0 [(0, .inr (.inr (some 64))), (1, .inl i), (2, .inl o)] [] S Q := by
  refine g_153_64_sk_p84_0 i o (by omega) (by omega) (zG_T hI) ?_
  have b1 := i_bd i
  have li2 : (0 : Int32).toInt = 0 := rfl
  refine zd (fun h3 => ?_) (fun h3 => ?_)
  · skip
    have g4 := i_lt h3
    exact KX 2 _ (by decide) hI (show xB S (mR S 70) from by first | (exact xB_x (xC_o (W := 75) hpre0).2)) (show aS 88 S = ab from by first | (exact (xC_o (W := 88) hpre0).1.trans hpre1)) (show cC ab [] (kC S) B from by first | (rw [(xK_o (W := 88) hpre0 rfl).2]; exact hpre2) | (exact hpre2)) (show (2 = 2 ∧ ¬ (0 ≤ i.toInt ∧ i.toInt ≤ 15)) ∨ ((0 ≤ i.toInt ∧ i.toInt ≤ 15) ∧ 2 = 4 ∧ o ≠ -1 ∧ ¬ zRq ab o) from by first | (exact Or.inl ⟨rfl, by omega⟩)) (show zfP 84 (mI S) = fq from by first | (exact hpre4))
  · skip
    have g5 := i_nlt h3
    have li6 : (16 : Int32).toInt = 16 := rfl
    refine zd (fun h7 => ?_) (fun h7 => ?_)
    · skip
      have g8 := i_le h7
      exact KX 2 _ (by decide) hI (show xB S (mR S 70) from by first | (exact xB_x (xC_o (W := 75) hpre0).2)) (show aS 88 S = ab from by first | (exact (xC_o (W := 88) hpre0).1.trans hpre1)) (show cC ab [] (kC S) B from by first | (rw [(xK_o (W := 88) hpre0 rfl).2]; exact hpre2) | (exact hpre2)) (show (2 = 2 ∧ ¬ (0 ≤ i.toInt ∧ i.toInt ≤ 15)) ∨ ((0 ≤ i.toInt ∧ i.toInt ≤ 15) ∧ 2 = 4 ∧ o ≠ -1 ∧ ¬ zRq ab o) from by first | (exact Or.inl ⟨rfl, by omega⟩)) (show zfP 84 (mI S) = fq from by first | (exact hpre4))
    · skip
      have g9 := i_nle h7
      refine ⟨((zG_r hI (by decide)).trans hr), ?_⟩
      refine ⟨((zG_r hI (by decide)).trans hr), ?_⟩
      have b10 := i_bd o
      refine sp_151_64_sk (R := (mR S 70)) (a7 := (aS 75 S)) (a8 := (aS 88 S)) (kk := (kC S)) (o) (by omega) (by omega) (zB_dn_zI hI) (show xB S (mR S 70) from by first | (exact (xC_o (W := 75) hpre0).2)) (show aS 75 S = (aS 75 S) from by first | (exact rfl)) (show aS 88 S = (aS 88 S) from by first | (exact rfl)) (show kC S = (kC S) from by first | (exact rfl)) (fun v2 S1 hL_S1 hq_v2 rp0_S1 rp1_S1 rp2_S1 rp3_S1 rp4_S1 => zo_n ⟨zG_T hL_S1, ?_⟩) (fun x S9 hx h9 rx0 rx1 rx2 rx3 => by have h9u := (zB_up_zI hI h9); exact zo_x (KX x S9 (by omega) h9u (show xB S9 (mR S9 70) from by first | (exact xB_x (xC_o (W := 75) rx0).2)) (show aS 88 S9 = ab from by first | (exact rx1.trans hpre1)) (show cC ab [] (kC S9) B from by first | (rw [rx2]; exact hpre2)) (show (x = 2 ∧ ¬ (0 ≤ i.toInt ∧ i.toInt ≤ 15)) ∨ ((0 ≤ i.toInt ∧ i.toInt ≤ 15) ∧ x = 4 ∧ o ≠ -1 ∧ ¬ zRq ab o) from by first | (exact Or.inr ⟨⟨by omega, by omega⟩, ⟨rx3.1, rx3.2.1, rq_no rx3.2.2 hpre1⟩⟩)) (show zfP 84 (mI S9) = fq from by first | (exact ((zf_fr (P := 84) (fun _ => zG_z h9 rfl)).trans hpre4)))))
      have hI_S1 := zB_up_zI hI hL_S1
      have rp0_S1 : xB S1 (mR S 70) := by
        have z := rp0_S1
        (try rw [show mI S 65 = f 65 from funext (fun k => zG_z hI rfl)] at z)
        (try rw [show mI S 64 1 = f 64 1 from zG_z hI rfl] at z)
        exact z
      have rp1_S1 : aS 88 S1 = (aS 88 S) := by
        have z := rp1_S1
        (try rw [show mI S 65 = f 65 from funext (fun k => zG_z hI rfl)] at z)
        (try rw [show mI S 64 1 = f 64 1 from zG_z hI rfl] at z)
        exact z
      have rp2_S1 : v2 = zTa (mR S 70) o := by
        have z := rp2_S1
        (try rw [show mI S 65 = f 65 from funext (fun k => zG_z hI rfl)] at z)
        (try rw [show mI S 64 1 = f 64 1 from zG_z hI rfl] at z)
        exact z
      have rp3_S1 : o = -1 ∨ zRq (aS 75 S) o := by
        have z := rp3_S1
        (try rw [show mI S 65 = f 65 from funext (fun k => zG_z hI rfl)] at z)
        (try rw [show mI S 64 1 = f 64 1 from zG_z hI rfl] at z)
        exact z
      have rp4_S1 : kC S1 = (kC S) := by
        have z := rp4_S1
        (try rw [show mI S 65 = f 65 from funext (fun k => zG_z hI rfl)] at z)
        (try rw [show mI S 64 1 = f 64 1 from zG_z hI rfl] at z)
        exact z
      refine sp_145_64_84_sk (ab := (aS 88 S1)) (R := (mR S 70)) (W := 88) (y := (o)) (kk := (kC S1)) (B := B) (fq := (zfP 84 (mI S1))) (n0 := (zN0 S1)) (i) (v2) (by omega) (by omega) (zB_dn_zJ84 hI_S1) hq_v2 (show xB S1 (mR S 70) from by first | (exact (xC_o (W := 88) rp0_S1).2)) (show aS 88 S1 = (aS 88 S1) from by first | (exact rfl)) (show xW 88 from by first | (exact xW88) | (exact xW75)) (show v2 = zTa (mR S 70) (o) from by first | (exact rp2_S1)) (by omega) (by omega) (show kC S1 = (kC S1) from by first | (exact rfl)) (show cC (aS 88 S1) [] (kC S1) B from by first | (rw [(rp1_S1.trans hpre1), rp4_S1]; exact hpre2)) (show B ≤ 1000000 from by first | (exact hpre3)) (show zfP 84 (mI S1) = (zfP 84 (mI S1)) from by first | (exact rfl)) (show zN0 S1 = (zN0 S1) from by first | (exact rfl)) (fun v4 S3 hL_S3 hq_v4 rp0_S3 rp1_S3 rp2_S3 rp3_S3 rp4_S3 rp5_S3 => zo_n ⟨zG_T hL_S3, ?_⟩)
      have hI_S3 := zB_up_zJ84 hI_S1 hL_S3
      have rp0_S3 : xB S3 (mR S3 70) := by
        have z := rp0_S3
        (try rw [show mI S1 65 = f 65 from funext (fun k => zG_z hI_S1 rfl)] at z)
        (try rw [show mI S1 64 1 = f 64 1 from zG_z hI_S1 rfl] at z)
        exact z
      have rp1_S3 : aS 88 S3 = cLe (aR0 (aS 88 S1) i (o)) ((aS 88 S1) 72 i.toNatClampNeg) := by
        have z := rp1_S3
        (try rw [show mI S1 65 = f 65 from funext (fun k => zG_z hI_S1 rfl)] at z)
        (try rw [show mI S1 64 1 = f 64 1 from zG_z hI_S1 rfl] at z)
        exact z
      have rp2_S3 : v4 = zTa (mR S 70) ((aS 88 S1) 72 i.toNatClampNeg) := by
        have z := rp2_S3
        (try rw [show mI S1 65 = f 65 from funext (fun k => zG_z hI_S1 rfl)] at z)
        (try rw [show mI S1 64 1 = f 64 1 from zG_z hI_S1 rfl] at z)
        exact z
      have rp3_S3 : cC (aS 88 S3) [] (kC S3) B := by
        have z := rp3_S3
        (try rw [show mI S1 65 = f 65 from funext (fun k => zG_z hI_S1 rfl)] at z)
        (try rw [show mI S1 64 1 = f 64 1 from zG_z hI_S1 rfl] at z)
        exact z
      have rp4_S3 : zfP 84 (mI S3) = (zfP 84 (mI S1)) := by
        have z := rp4_S3
        (try rw [show mI S1 65 = f 65 from funext (fun k => zG_z hI_S1 rfl)] at z)
        (try rw [show mI S1 64 1 = f 64 1 from zG_z hI_S1 rfl] at z)
        exact z
      have rp5_S3 : zN0 S3 = (zN0 S1) := by
        have z := rp5_S3
        (try rw [show mI S1 65 = f 65 from funext (fun k => zG_z hI_S1 rfl)] at z)
        (try rw [show mI S1 64 1 = f 64 1 from zG_z hI_S1 rfl] at z)
        exact z
      refine ⟨fun hc => ?_, fun c5 hc => ?_⟩
      · skip
        have rn_c5 : zTa (mR S 70) ((aS 88 S1) 72 i.toNatClampNeg) = none := rp2_S3.symm.trans hc
        have li11 : (-1 : Int32).toInt = -1 := rfl
        exact K ((-1 : Int32)) _ hI_S3 trivial (show xB S3 (mR S3 70) from by first | (exact xB_x (xC_o (W := 75) rp0_S3).2)) (show cC (aS 88 S3) [] (kC S3) B from by first | (exact rp3_S3)) (show (0 ≤ i.toInt ∧ i.toInt ≤ 15) ∧ (o = -1 ∨ zRq ab o) ∧ aS 88 S3 = cLe (aR0 ab i o) (ab 72 i.toNatClampNeg) ∧ (-1 : Int32) = aNm ab (ab 72 i.toNatClampNeg) from by first | (exfalso; omega) | (have rt := rp1_S3; rw [(rp1_S1.trans hpre1)] at rt; have nn := nm_n (W := 88) rp0_S1 rn_c5; rw [(rp1_S1.trans hpre1)] at nn; refine ⟨⟨by omega, by omega⟩, (rp3_S1.imp id (fun w => rq_up w hpre1)), rt, ?_⟩; exact nn.symm)) (show zfP 84 (mI S3) = fq from by first | (exact (rp4_S3.trans ((zf_fr (P := 84) (S₉ := S1) (S := S) (fun _ => zG_z hL_S1 rfl)).trans hpre4))))
      · skip
        have th_c5 := hq_v4 c5 hc
        have rg_c5 : zTa (mR S 70) ((aS 88 S1) 72 i.toNatClampNeg) = some c5 := rp2_S3.symm.trans hc
        subst hc
        refine ⟨zG_n hI_S3 th_c5, ?_⟩
        have f12 := zG_th hI_S3 th_c5
        exact K ((mI S3 c5 0)) _ hI_S3 trivial (show xB S3 (mR S3 70) from by first | (exact xB_x (xC_o (W := 75) rp0_S3).2)) (show cC (aS 88 S3) [] (kC S3) B from by first | (exact rp3_S3)) (show (0 ≤ i.toInt ∧ i.toInt ≤ 15) ∧ (o = -1 ∨ zRq ab o) ∧ aS 88 S3 = cLe (aR0 ab i o) (ab 72 i.toNatClampNeg) ∧ (mI S3 c5 0) = aNm ab (ab 72 i.toNatClampNeg) from by first | (exfalso; omega) | (have rt := rp1_S3; rw [(rp1_S1.trans hpre1)] at rt; have nn := nm_y (W := 88) rp0_S1 rg_c5; have tn := (n0_k rp5_S3 th_c5.1 (Or.inl rfl)).trans (xB_th (W := 88) rp0_S1 rg_c5).2.2.1; rw [(rp1_S1.trans hpre1)] at nn; refine ⟨⟨by omega, by omega⟩, (rp3_S1.imp id (fun w => rq_up w hpre1)), rt, ?_⟩; rw [tn]; (try rw [(rp1_S1.trans hpre1)]); exact nn.symm)) (show zfP 84 (mI S3) = fq from by first | (exact (rp4_S3.trans ((zf_fr (P := 84) (S₉ := S1) (S := S) (fun _ => zG_z hL_S1 rfl)).trans hpre4))))

/-! from 95.m35 -/
/-! COUNTS, the class (written by wip/tools/gen20k.py) -/
theorem g_150_64_sk_p84_0 {X : Nat × (Nat → Int32)} {d w : Nat} {S : ma_S} {Q : Option ma_V ⊕ Nat → ma_S → Prop} (o : Int32) (i : Int32) (t : Int32) (hd : 8 ≤ d) (hw : 132 ≤ w) (hS : zT S) (h : mR S 64 11 = some 84 ∧ (mR S 64 11 = some 84 ∧ (ma_wp X (d - 1) (w - 22) 149 0 [(0, .inr (.inr (some 64))), (1, .inl o)] [] S (zo (fun v2 S1 => zT S1 ∧ ((∃ c3, v2 = some c3 ∧ (ma_wp X (d - 1) (w - 21) 151 0 [(0, .inr (.inr (some 64))), (1, .inl t)] [] S1 (zo (fun v5 S4 => zT S4 ∧ ((126 ≤ c3 ∧ c3 < mN S4) ∧ (if i < 0 then (Q (.inr 1) (ma_bump S4)) else ((126 ≤ c3 ∧ c3 < mN S4) ∧ (if ((mI S4 c3 2) - (1 : Int32)) ≤ i then (Q (.inr 1) (ma_bump S4)) else ((126 ≤ c3 ∧ c3 < mN S4) ∧ ((126 ≤ c3 ∧ c3 < mN S4) ∧ (if i < 0 then (Q (.inr 5) (ma_bump S4)) else ((126 ≤ c3 ∧ c3 < mN S4) ∧ (if ((mI S4 c3 2) - (1 : Int32)) ≤ i then (Q (.inr 5) (ma_bump S4)) else ((126 ≤ c3 ∧ c3 < mN S4) ∧ (if (lg_cmp ((((mL S4 c3 3).toUInt64 >>> (i.toInt64.toUInt64 &&& Int64.toUInt64 63)).toInt64) &&& (1 : Int64)) (0 : Int64)) = 0 then (Q (.inr 5) (ma_bump S4)) else (ma_wp X (d - 1) (w - 24) 94 0 [(0, .inr (.inr (some 69))), (1, .inr (.inr (some c3))), (2, .inl i), (3, .inr (.inr v5))] [] S4 (zo (fun v7 S6 => zT S6 ∧ (ma_wp X (d - 1) (w - 24) 24 0 [(0, .inr (.inr (some 84))), (1, .inr (.inr v7))] [] S6 (zv (fun S8 => zT S8 ∧ ((v7 = none → Q (.inl (some (.inl (-1 : Int32)))) S8) ∧ (∀ c10, v7 = some c10 → (126 ≤ c10 ∧ c10 < mN S8) ∧ (Q (.inl (some (.inl (mI S8 c10 0)))) S8)))) (fun _ _ => False)))) (fun x S9 => Q (.inr x) S9))))))))))))))) (fun x S9 => Q (.inr x) S9)))))) (fun x S9 => Q (.inr x) S9))))) : ma_wp X d w 150 0 [(0, .inr (.inr (some 64))), (1, .inl o), (2, .inl i), (3, .inl t)] [] S Q := by
  refine zw_push hm_150 dX11_link_0 (v := .inr (.inr (some 64))) rfl ?_
  refine zw_cv hm_150 dX11_link_1 v_11_119_11 hm_144 [] [] rfl (zT_rt hS s_64 rfl) ⟨by omega, by omega⟩ rfl ?_
  show ma_wp X (d - 1) (w - 20) 144 0 [(0, .inr (.inr (some 64)))] [] S _
  refine zw_push hm_144 dX11_needCollector_0 (v := .inr (.inr (some 64))) rfl ?_
  obtain ⟨hg, h⟩ := h
  refine zw_gf hm_144 dX11_needCollector_1 (v := .inr (.inr (some 84))) (zT_is hS s_64) (zT_t hS s_64) rfl f_11_98_11 (congrArg (fun z => Sum.inr (Sum.inr z)) hg) ?_
  refine zw_ifnonnull hm_144 dX11_needCollector_4 (t := 15) rfl (fun z => by cases z) (fun _ _ => ?_)
  refine zw_push hm_144 dX11_needCollector_15 (v := .inr (.inr (some 64))) rfl ?_
  obtain ⟨hg, h⟩ := h
  refine zw_gf hm_144 dX11_needCollector_16 (v := .inr (.inr (some 84))) (zT_is hS s_64) (zT_t hS s_64) rfl f_11_98_11 (congrArg (fun z => Sum.inr (Sum.inr z)) hg) ?_
  refine zw_aret hm_144 dX11_needCollector_19 ?_
  show ma_wp X d w 150 4 [(0, .inr (.inr (some 64))), (1, .inl o), (2, .inl i), (3, .inl t)] [.inr (.inr (some 84))] S _
  refine zw_sto hm_150 dX11_link_4 [(4, .inr (.inr (some 84))), (0, .inr (.inr (some 64))), (1, .inl o), (2, .inl i), (3, .inl t)] rfl rfl rfl ?_
  refine zw_push hm_150 dX11_link_6 (v := .inr (.inr (some 64))) rfl ?_
  refine zw_push hm_150 dX11_link_7 (v := .inl o) rfl ?_
  refine zw_cv hm_150 dX11_link_8 v_11_123_11 hm_149 [.inl o] [] rfl (zT_rt hS s_64 rfl) ⟨by omega, by omega⟩ rfl (zw_mono h (zo_go ?_ ?_))
  · intro v2 S1 hv
    obtain ⟨hS1, h⟩ := hv
    obtain ⟨c3, hc, h⟩ := h
    subst hc
    show ma_wp X d w 150 11 [(4, .inr (.inr (some 84))), (0, .inr (.inr (some 64))), (1, .inl o), (2, .inl i), (3, .inl t)] [.inr (.inr (some c3))] S1 _
    refine zw_sto hm_150 dX11_link_11 [(5, .inr (.inr (some c3))), (4, .inr (.inr (some 84))), (0, .inr (.inr (some 64))), (1, .inl o), (2, .inl i), (3, .inl t)] rfl rfl rfl ?_
    refine zw_push hm_150 dX11_link_13 (v := .inr (.inr (some 64))) rfl ?_
    refine zw_push hm_150 dX11_link_14 (v := .inl t) rfl ?_
    refine zw_cv hm_150 dX11_link_15 v_11_142_11 hm_151 [.inl t] [] rfl (zT_rt hS1 s_64 rfl) ⟨by omega, by omega⟩ rfl (zw_mono h (zo_go ?_ ?_))
    · intro v5 S4 hv
      obtain ⟨hS4, h⟩ := hv
      refine zw_sto hm_150 dX11_link_18 [(6, .inr (.inr v5)), (5, .inr (.inr (some c3))), (4, .inr (.inr (some 84))), (0, .inr (.inr (some 64))), (1, .inl o), (2, .inl i), (3, .inl t)] rfl rfl rfl ?_
      refine zw_push hm_150 dX11_link_20 (v := .inr (.inr (some c3))) rfl ?_
      refine zw_push hm_150 dX11_link_22 (v := .inl i) rfl ?_
      obtain ⟨hg, h⟩ := h
      refine zw_cv hm_150 dX11_link_23 v_11_127_9 hm_114 [.inl i] [] rfl (zT_trt hS4 hg) ⟨by omega, by omega⟩ rfl ?_
      show ma_wp X (d - 1) (w - 21) 114 0 [(0, .inr (.inr (some c3))), (1, .inl i)] [] S4 _
      refine zw_push hm_114 dX9_hasWord_0 (v := .inl i) rfl ?_
      refine zw_if0 hm_114 dX9_hasWord_1 (t := 18) rfl zc0_lt ?_ ?_
      · intro hc
        rw [if_pos hc] at h
        refine zw_push hm_114 dX9_hasWord_18 (v := .inl (0 : Int32)) rfl ?_
        refine zw_bret hm_114 dX9_hasWord_19 (by decide) ?_
        show ma_wp X d w 150 26 [(6, .inr (.inr v5)), (5, .inr (.inr (some c3))), (4, .inr (.inr (some 84))), (0, .inr (.inr (some 64))), (1, .inl o), (2, .inl i), (3, .inl t)] [.inl (0 : Int32)] S4 _
        refine zw_if0 hm_150 dX11_link_26 (t := 37) rfl zc0_ne (fun hc => absurd hc (by decide)) (fun _ => ?_)
        exact zw_thr hm_150 dX11_link_29 dX11_link_32 dX11_link_33 dX11_link_36 x_11_72_74 n_11_72 (by omega) (by show 0 + 81 ≤ w; omega) h
      · intro hc
        rw [if_neg hc] at h
        refine zw_push hm_114 dX9_hasWord_4 (v := .inl i) rfl ?_
        refine zw_push hm_114 dX9_hasWord_5 (v := .inr (.inr (some c3))) rfl ?_
        obtain ⟨hg, h⟩ := h
        refine zw_gf hm_114 dX9_hasWord_6 (v := .inl (mI S4 c3 2)) (zT_tis hS4 hg) (zT_tt hS4 hg) rfl f_9_16_9 rfl ?_
        refine zw_push hm_114 dX9_hasWord_9 (v := .inl (1 : Int32)) rfl ?_
        refine zw_stk hm_114 dX9_hasWord_10 (st₉ := [.inl ((mI S4 c3 2) - (1 : Int32)), .inl i]) rfl rfl ?_
        refine zw_if2 hm_114 dX9_hasWord_11 (t := 18) rfl zc2_ge ?_ ?_
        · intro hc
          rw [if_pos hc] at h
          refine zw_push hm_114 dX9_hasWord_18 (v := .inl (0 : Int32)) rfl ?_
          refine zw_bret hm_114 dX9_hasWord_19 (by decide) ?_
          show ma_wp X d w 150 26 [(6, .inr (.inr v5)), (5, .inr (.inr (some c3))), (4, .inr (.inr (some 84))), (0, .inr (.inr (some 64))), (1, .inl o), (2, .inl i), (3, .inl t)] [.inl (0 : Int32)] S4 _
          refine zw_if0 hm_150 dX11_link_26 (t := 37) rfl zc0_ne (fun hc => absurd hc (by decide)) (fun _ => ?_)
          exact zw_thr hm_150 dX11_link_29 dX11_link_32 dX11_link_33 dX11_link_36 x_11_72_74 n_11_72 (by omega) (by show 0 + 81 ≤ w; omega) h
        · intro hc
          rw [if_neg hc] at h
          refine zw_push hm_114 dX9_hasWord_14 (v := .inl (1 : Int32)) rfl ?_
          refine zw_goto hm_114 dX9_hasWord_15 (t := 19) rfl ?_
          refine zw_bret hm_114 dX9_hasWord_19 (by decide) ?_
          show ma_wp X d w 150 26 [(6, .inr (.inr v5)), (5, .inr (.inr (some c3))), (4, .inr (.inr (some 84))), (0, .inr (.inr (some 64))), (1, .inl o), (2, .inl i), (3, .inl t)] [.inl (1 : Int32)] S4 _
          refine zw_if0 hm_150 dX11_link_26 (t := 37) rfl zc0_ne (fun _ => ?_) (fun hc => absurd (by decide) hc)
          refine zw_push hm_150 dX11_link_37 (v := .inr (.inr (some c3))) rfl ?_
          refine zw_push hm_150 dX11_link_39 (v := .inl i) rfl ?_
          obtain ⟨hg, h⟩ := h
          refine zw_cv hm_150 dX11_link_40 v_11_132_9 hm_113 [.inl i] [] rfl (zT_trt hS4 hg) ⟨by omega, by omega⟩ rfl ?_
          show ma_wp X (d - 1) (w - 21) 113 0 [(0, .inr (.inr (some c3))), (1, .inl i)] [] S4 _
          refine zw_push hm_113 dX9_isReference_0 (v := .inr (.inr (some c3))) rfl ?_
          refine zw_push hm_113 dX9_isReference_1 (v := .inl i) rfl ?_
          obtain ⟨hg, h⟩ := h
          refine zw_cv hm_113 dX9_isReference_2 v_9_26_9 hm_114 [.inl i] [] rfl (zT_trt hS4 hg) ⟨by omega, by omega⟩ rfl ?_
          show ma_wp X ((d - 1) - 1) ((w - 21) - 21) 114 0 [(0, .inr (.inr (some c3))), (1, .inl i)] [] S4 _
          refine zw_push hm_114 dX9_hasWord_0 (v := .inl i) rfl ?_
          refine zw_if0 hm_114 dX9_hasWord_1 (t := 18) rfl zc0_lt ?_ ?_
          · intro hc
            rw [if_pos hc] at h
            refine zw_push hm_114 dX9_hasWord_18 (v := .inl (0 : Int32)) rfl ?_
            refine zw_bret hm_114 dX9_hasWord_19 (by decide) ?_
            show ma_wp X (d - 1) (w - 21) 113 5 [(0, .inr (.inr (some c3))), (1, .inl i)] [.inl (0 : Int32)] S4 _
            refine zw_if0 hm_113 dX9_isReference_5 (t := 25) rfl zc0_eq (fun _ => ?_) (fun hc => absurd (by decide) hc)
            refine zw_push hm_113 dX9_isReference_25 (v := .inl (0 : Int32)) rfl ?_
            refine zw_bret hm_113 dX9_isReference_26 (by decide) ?_
            show ma_wp X d w 150 43 [(6, .inr (.inr v5)), (5, .inr (.inr (some c3))), (4, .inr (.inr (some 84))), (0, .inr (.inr (some 64))), (1, .inl o), (2, .inl i), (3, .inl t)] [.inl (0 : Int32)] S4 _
            refine zw_if0 hm_150 dX11_link_43 (t := 54) rfl zc0_ne (fun hc => absurd hc (by decide)) (fun _ => ?_)
            exact zw_thr hm_150 dX11_link_46 dX11_link_49 dX11_link_50 dX11_link_53 x_11_135_137 n_11_135 (by omega) (by show 0 + 81 ≤ w; omega) h
          · intro hc
            rw [if_neg hc] at h
            refine zw_push hm_114 dX9_hasWord_4 (v := .inl i) rfl ?_
            refine zw_push hm_114 dX9_hasWord_5 (v := .inr (.inr (some c3))) rfl ?_
            obtain ⟨hg, h⟩ := h
            refine zw_gf hm_114 dX9_hasWord_6 (v := .inl (mI S4 c3 2)) (zT_tis hS4 hg) (zT_tt hS4 hg) rfl f_9_16_9 rfl ?_
            refine zw_push hm_114 dX9_hasWord_9 (v := .inl (1 : Int32)) rfl ?_
            refine zw_stk hm_114 dX9_hasWord_10 (st₉ := [.inl ((mI S4 c3 2) - (1 : Int32)), .inl i]) rfl rfl ?_
            refine zw_if2 hm_114 dX9_hasWord_11 (t := 18) rfl zc2_ge ?_ ?_
            · intro hc
              rw [if_pos hc] at h
              refine zw_push hm_114 dX9_hasWord_18 (v := .inl (0 : Int32)) rfl ?_
              refine zw_bret hm_114 dX9_hasWord_19 (by decide) ?_
              show ma_wp X (d - 1) (w - 21) 113 5 [(0, .inr (.inr (some c3))), (1, .inl i)] [.inl (0 : Int32)] S4 _
              refine zw_if0 hm_113 dX9_isReference_5 (t := 25) rfl zc0_eq (fun _ => ?_) (fun hc => absurd (by decide) hc)
              refine zw_push hm_113 dX9_isReference_25 (v := .inl (0 : Int32)) rfl ?_
              refine zw_bret hm_113 dX9_isReference_26 (by decide) ?_
              show ma_wp X d w 150 43 [(6, .inr (.inr v5)), (5, .inr (.inr (some c3))), (4, .inr (.inr (some 84))), (0, .inr (.inr (some 64))), (1, .inl o), (2, .inl i), (3, .inl t)] [.inl (0 : Int32)] S4 _
              refine zw_if0 hm_150 dX11_link_43 (t := 54) rfl zc0_ne (fun hc => absurd hc (by decide)) (fun _ => ?_)
              exact zw_thr hm_150 dX11_link_46 dX11_link_49 dX11_link_50 dX11_link_53 x_11_135_137 n_11_135 (by omega) (by show 0 + 81 ≤ w; omega) h
            · intro hc
              rw [if_neg hc] at h
              refine zw_push hm_114 dX9_hasWord_14 (v := .inl (1 : Int32)) rfl ?_
              refine zw_goto hm_114 dX9_hasWord_15 (t := 19) rfl ?_
              refine zw_bret hm_114 dX9_hasWord_19 (by decide) ?_
              show ma_wp X (d - 1) (w - 21) 113 5 [(0, .inr (.inr (some c3))), (1, .inl i)] [.inl (1 : Int32)] S4 _
              refine zw_if0 hm_113 dX9_isReference_5 (t := 25) rfl zc0_eq (fun hc => absurd hc (by decide)) (fun _ => ?_)
              refine zw_push hm_113 dX9_isReference_8 (v := .inr (.inr (some c3))) rfl ?_
              obtain ⟨hg, h⟩ := h
              refine zw_gf hm_113 dX9_isReference_9 (v := .inr (.inl (mL S4 c3 3))) (zT_tis hS4 hg) (zT_tt hS4 hg) rfl f_9_19_9 rfl ?_
              refine zw_push hm_113 dX9_isReference_12 (v := .inl i) rfl ?_
              refine zw_stk hm_113 dX9_isReference_13 (st₉ := [.inr (.inl (((mL S4 c3 3).toUInt64 >>> (i.toInt64.toUInt64 &&& Int64.toUInt64 63)).toInt64))]) rfl rfl ?_
              refine zw_push hm_113 dX9_isReference_14 (v := .inr (.inl (1 : Int64))) rfl ?_
              refine zw_stk hm_113 dX9_isReference_15 (st₉ := [.inr (.inl ((((mL S4 c3 3).toUInt64 >>> (i.toInt64.toUInt64 &&& Int64.toUInt64 63)).toInt64) &&& (1 : Int64)))]) rfl rfl ?_
              refine zw_push hm_113 dX9_isReference_16 (v := .inr (.inl (0 : Int64))) rfl ?_
              refine zw_stk hm_113 dX9_isReference_17 (st₉ := [.inl (lg_cmp ((((mL S4 c3 3).toUInt64 >>> (i.toInt64.toUInt64 &&& Int64.toUInt64 63)).toInt64) &&& (1 : Int64)) (0 : Int64))]) rfl rfl ?_
              refine zw_if0 hm_113 dX9_isReference_18 (t := 25) rfl zc0_eq ?_ ?_
              · intro hc
                rw [if_pos hc] at h
                refine zw_push hm_113 dX9_isReference_25 (v := .inl (0 : Int32)) rfl ?_
                refine zw_bret hm_113 dX9_isReference_26 (by decide) ?_
                show ma_wp X d w 150 43 [(6, .inr (.inr v5)), (5, .inr (.inr (some c3))), (4, .inr (.inr (some 84))), (0, .inr (.inr (some 64))), (1, .inl o), (2, .inl i), (3, .inl t)] [.inl (0 : Int32)] S4 _
                refine zw_if0 hm_150 dX11_link_43 (t := 54) rfl zc0_ne (fun hc => absurd hc (by decide)) (fun _ => ?_)
                exact zw_thr hm_150 dX11_link_46 dX11_link_49 dX11_link_50 dX11_link_53 x_11_135_137 n_11_135 (by omega) (by show 0 + 81 ≤ w; omega) h
              · intro hc
                rw [if_neg hc] at h
                refine zw_push hm_113 dX9_isReference_21 (v := .inl (1 : Int32)) rfl ?_
                refine zw_goto hm_113 dX9_isReference_22 (t := 26) rfl ?_
                refine zw_bret hm_113 dX9_isReference_26 (by decide) ?_
                show ma_wp X d w 150 43 [(6, .inr (.inr v5)), (5, .inr (.inr (some c3))), (4, .inr (.inr (some 84))), (0, .inr (.inr (some 64))), (1, .inl o), (2, .inl i), (3, .inl t)] [.inl (1 : Int32)] S4 _
                refine zw_if0 hm_150 dX11_link_43 (t := 54) rfl zc0_ne (fun _ => ?_) (fun hc => absurd (by decide) hc)
                refine zw_push hm_150 dX11_link_54 (v := .inr (.inr (some 64))) rfl ?_
                refine zw_gf hm_150 dX11_link_55 (v := .inr (.inr (some 69))) (zT_is hS4 s_64) (zT_t hS4 s_64) rfl f_11_26_11 (zT_f hS4 r_64_8) ?_
                refine zw_push hm_150 dX11_link_58 (v := .inr (.inr (some c3))) rfl ?_
                refine zw_push hm_150 dX11_link_60 (v := .inl i) rfl ?_
                refine zw_push hm_150 dX11_link_61 (v := .inr (.inr v5)) rfl ?_
                refine zw_cv hm_150 dX11_link_63 v_11_145_7 hm_94 [.inr (.inr v5), .inl i, .inr (.inr (some c3))] [] rfl (zT_rt hS4 s_69 rfl) ⟨by omega, by omega⟩ rfl (zw_mono h (zo_go ?_ ?_))
                · intro v7 S6 hv
                  obtain ⟨hS6, h⟩ := hv
                  refine zw_sto hm_150 dX11_link_66 [(7, .inr (.inr v7)), (6, .inr (.inr v5)), (5, .inr (.inr (some c3))), (4, .inr (.inr (some 84))), (0, .inr (.inr (some 64))), (1, .inl o), (2, .inl i), (3, .inl t)] rfl rfl rfl ?_
                  refine zw_push hm_150 dX11_link_68 (v := .inr (.inr (some 84))) rfl ?_
                  refine zw_push hm_150 dX11_link_70 (v := .inr (.inr (some c3))) rfl ?_
                  refine zw_push hm_150 dX11_link_72 (v := .inl i) rfl ?_
                  refine zw_push hm_150 dX11_link_73 (v := .inr (.inr v5)) rfl ?_
                  refine zw_cv hm_150 dX11_link_75 v_11_149_2 hm_267 [.inr (.inr v5), .inl i, .inr (.inr (some c3))] [] rfl (zT_rt hS6 s_84 rfl) ⟨by omega, by omega⟩ rfl ?_
                  show ma_wp X (d - 1) (w - 23) 267 0 [(0, .inr (.inr (some 84))), (1, .inr (.inr (some c3))), (2, .inl i), (3, .inr (.inr v5))] [] S6 _
                  refine zw_vret hm_267 dX1_noteReference_0 ?_
                  show ma_wp X d w 150 78 [(7, .inr (.inr v7)), (6, .inr (.inr v5)), (5, .inr (.inr (some c3))), (4, .inr (.inr (some 84))), (0, .inr (.inr (some 64))), (1, .inl o), (2, .inl i), (3, .inl t)] [] S6 _
                  refine zw_push hm_150 dX11_link_78 (v := .inr (.inr (some 84))) rfl ?_
                  refine zw_push hm_150 dX11_link_80 (v := .inr (.inr v7)) rfl ?_
                  refine zw_push hm_150 dX11_link_82 (v := .inr (.inr v5)) rfl ?_
                  refine zw_cv hm_150 dX11_link_84 v_11_153_2 hm_265 [.inr (.inr v5), .inr (.inr v7)] [] rfl (zT_rt hS6 s_84 rfl) ⟨by omega, by omega⟩ rfl ?_
                  show ma_wp X (d - 1) (w - 22) 265 0 [(0, .inr (.inr (some 84))), (1, .inr (.inr v7)), (2, .inr (.inr v5))] [] S6 _
                  refine zw_vret hm_265 dX1_noteChange_0 ?_
                  show ma_wp X d w 150 87 [(7, .inr (.inr v7)), (6, .inr (.inr v5)), (5, .inr (.inr (some c3))), (4, .inr (.inr (some 84))), (0, .inr (.inr (some 64))), (1, .inl o), (2, .inl i), (3, .inl t)] [] S6 _
                  refine zw_push hm_150 dX11_link_87 (v := .inr (.inr (some 84))) rfl ?_
                  refine zw_push hm_150 dX11_link_89 (v := .inr (.inr v7)) rfl ?_
                  refine zw_cv hm_150 dX11_link_91 v_11_157_2 hm_24 [.inr (.inr v7)] [] rfl (zT_rt hS6 s_84 rfl) ⟨by omega, by omega⟩ rfl (zw_mono h (zv_go ?_ ?_))
                  · intro S8 hv
                    obtain ⟨hS8, h⟩ := hv
                    refine zw_push hm_150 dX11_link_94 (v := .inr (.inr v7)) rfl ?_
                    refine zw_cs hm_150 dX11_link_96 pn_11_161 sl_11_161 hm_146 [.inr (.inr v7)] [] rfl ⟨by omega, by omega⟩ rfl ?_
                    show ma_wp X (d - 1) (w - 20) 146 0 [(0, .inr (.inr v7))] [] S8 _
                    refine zw_push hm_146 dX11_numberOf_0 (v := .inr (.inr v7)) rfl ?_
                    refine zw_ifnonnull hm_146 dX11_numberOf_1 (t := 8) rfl ?_ ?_
                    · intro hc
                      have h := h.1 hc
                      (try rw [hc])
                      show ma_wp X (d - 1) (w - 20) 146 4 [(0, .inr (.inr none))] [] S8 _
                      refine zw_push hm_146 dX11_numberOf_4 (v := .inl (-1 : Int32)) rfl ?_
                      refine zw_goto hm_146 dX11_numberOf_5 (t := 12) rfl ?_
                      refine zw_iret hm_146 dX11_numberOf_12 ?_
                      show ma_wp X d w 150 99 [(7, .inr (.inr none)), (6, .inr (.inr v5)), (5, .inr (.inr (some c3))), (4, .inr (.inr (some 84))), (0, .inr (.inr (some 64))), (1, .inl o), (2, .inl i), (3, .inl t)] [.inl (-1 : Int32)] S8 _
                      exact zw_iret hm_150 dX11_link_99 h
                    · intro c10 hc
                      have h := h.2 c10 hc
                      (try rw [hc])
                      show ma_wp X (d - 1) (w - 20) 146 8 [(0, .inr (.inr (some c10)))] [] S8 _
                      refine zw_push hm_146 dX11_numberOf_8 (v := .inr (.inr (some c10))) rfl ?_
                      obtain ⟨hg, h⟩ := h
                      refine zw_gf hm_146 dX11_numberOf_9 (v := .inl (mI S8 c10 0)) (zT_tis hS8 hg) (zT_tt hS8 hg) rfl f_11_182_9 rfl ?_
                      refine zw_iret hm_146 dX11_numberOf_12 ?_
                      show ma_wp X d w 150 99 [(7, .inr (.inr (some c10))), (6, .inr (.inr v5)), (5, .inr (.inr (some c3))), (4, .inr (.inr (some 84))), (0, .inr (.inr (some 64))), (1, .inl o), (2, .inl i), (3, .inl t)] [.inl (mI S8 c10 0)] S8 _
                      exact zw_iret hm_150 dX11_link_99 h
                  · intro x S9 hx
                    exact hx.elim
                · intro x S9 hx
                  exact ⟨by decide, hx⟩
    · intro x S9 hx
      exact ⟨by decide, hx⟩
  · intro x S9 hx
    exact ⟨by decide, hx⟩
theorem sp_150_64_sk_p84 {X : Nat × (Nat → Int32)} {d w : Nat} {f : Nat → Nat → Int32} {r : Nat → Nat → Option Nat} {C Z N : Nat} {Q : Option ma_V ⊕ Nat → ma_S → Prop} {ab : Nat→Nat→Int32} {B : Int} {fq : Nat→Int32} {S : ma_S} (o : Int32) (i : Int32) (t : Int32) (hd : 8 ≤ d) (hw : 132 ≤ w) (hI : zB f r C Z N S) (hr : r 64 11 = some 84) (hpre0 : xB S (mR S 70)) (hpre1 : aS 88 S = ab) (hpre2 : cC ab [] (kC S) B) (hpre3 : B ≤ 1000000) (hpre4 : zfP 84 (mI S) = fq) (K : ∀ v S₉, zB f r C Z N S₉ → (True) → (xB S₉ (mR S₉ 70)) → (cC (aS 88 S₉) [] (kC S₉) B) → (zRq ab o ∧ (t = -1 ∨ zRq ab t) ∧ zHw ab o i ∧ zIr ab o i ∧ aS 88 S₉ = cLe (aL0 ab o.toNatClampNeg i t) (aRef ab o.toNatClampNeg i) ∧ v = aNm ab (aRef ab o.toNatClampNeg i)) → (zfP 84 (mI S₉) = fq) → Q (.inl (some (.inl v))) S₉) (KX : ∀ x S₉, (x = 1 ∨ x = 4 ∨ x = 5) → zB f r C Z N S₉ → (xB S₉ (mR S₉ 70)) → (aS 88 S₉ = ab) → (cC ab [] (kC S₉) B) → ((x = 4 ∧ (¬ zRq ab o ∨ (zRq ab o ∧ t ≠ -1 ∧ ¬ zRq ab t))) ∨ (x = 1 ∧ zRq ab o ∧ (t = -1 ∨ zRq ab t) ∧ ¬ zHw ab o i) ∨ (x = 5 ∧ zRq ab o ∧ (t = -1 ∨ zRq ab t) ∧ zHw ab o i ∧ ¬ zIr ab o i)) → (zfP 84 (mI S₉) = fq) → Q (.inr x) (ma_bump S₉)) : ma_wp X d w 150 0 [(0, .inr (.inr (some 64))), (1, .inl o), (2, .inl i), (3, .inl t)] [] S Q := by
  refine g_150_64_sk_p84_0 o i t (by omega) (by omega) (zG_T hI) ?_
  refine ⟨((zG_r hI (by decide)).trans hr), ?_⟩
  refine ⟨((zG_r hI (by decide)).trans hr), ?_⟩
  have b1 := i_bd o
  refine sp_149_64_sk (R := (mR S 70)) (a7 := (aS 75 S)) (a8 := (aS 88 S)) (kk := (kC S)) (o) (by omega) (by omega) (zB_dn_zI hI) (show xB S (mR S 70) from by first | (exact (xC_o (W := 75) hpre0).2)) (show aS 75 S = (aS 75 S) from by first | (exact rfl)) (show aS 88 S = (aS 88 S) from by first | (exact rfl)) (show kC S = (kC S) from by first | (exact rfl)) (fun v2 S1 hL_S1 hq_v2 rp0_S1 rp1_S1 rp2_S1 rp3_S1 rp4_S1 => zo_n ⟨zG_T hL_S1, ?_⟩) (fun x S9 hx h9 rx0 rx1 rx2 rx3 => by have h9u := (zB_up_zI hI h9); exact zo_x (KX x S9 (by omega) h9u (show xB S9 (mR S9 70) from by first | (exact xB_x (xC_o (W := 75) rx0).2)) (show aS 88 S9 = ab from by first | (exact rx1.trans hpre1)) (show cC ab [] (kC S9) B from by first | (rw [rx2]; exact hpre2)) (show (x = 4 ∧ (¬ zRq ab o ∨ (zRq ab o ∧ t ≠ -1 ∧ ¬ zRq ab t))) ∨ (x = 1 ∧ zRq ab o ∧ (t = -1 ∨ zRq ab t) ∧ ¬ zHw ab o i) ∨ (x = 5 ∧ zRq ab o ∧ (t = -1 ∨ zRq ab t) ∧ zHw ab o i ∧ ¬ zIr ab o i) from by first | (exact Or.inl ⟨rx3.1, Or.inl (rq_no rx3.2 hpre1)⟩)) (show zfP 84 (mI S9) = fq from by first | (exact ((zf_fr (P := 84) (fun _ => zG_z h9 rfl)).trans hpre4)))))
  have hI_S1 := zB_up_zI hI hL_S1
  have rp0_S1 : xB S1 (mR S 70) := by
    have z := rp0_S1
    (try rw [show mI S 65 = f 65 from funext (fun k => zG_z hI rfl)] at z)
    (try rw [show mI S 64 1 = f 64 1 from zG_z hI rfl] at z)
    exact z
  have rp1_S1 : aS 88 S1 = (aS 88 S) := by
    have z := rp1_S1
    (try rw [show mI S 65 = f 65 from funext (fun k => zG_z hI rfl)] at z)
    (try rw [show mI S 64 1 = f 64 1 from zG_z hI rfl] at z)
    exact z
  have rp2_S1 : v2 = zTa (mR S 70) o := by
    have z := rp2_S1
    (try rw [show mI S 65 = f 65 from funext (fun k => zG_z hI rfl)] at z)
    (try rw [show mI S 64 1 = f 64 1 from zG_z hI rfl] at z)
    exact z
  have rp3_S1 : zRq (aS 75 S) o := by
    have z := rp3_S1
    (try rw [show mI S 65 = f 65 from funext (fun k => zG_z hI rfl)] at z)
    (try rw [show mI S 64 1 = f 64 1 from zG_z hI rfl] at z)
    exact z
  have rp4_S1 : kC S1 = (kC S) := by
    have z := rp4_S1
    (try rw [show mI S 65 = f 65 from funext (fun k => zG_z hI rfl)] at z)
    (try rw [show mI S 64 1 = f 64 1 from zG_z hI rfl] at z)
    exact z
  obtain ⟨c3, hc, th_c3⟩ := hq_v2
  have rg_c3 : zTa (mR S 70) o = some c3 := rp2_S1.symm.trans hc
  refine ⟨c3, hc, ?_⟩
  have b2 := i_bd t
  refine sp_151_64_sk (R := (mR S 70)) (a7 := (aS 75 S1)) (a8 := (aS 88 S1)) (kk := (kC S1)) (t) (by omega) (by omega) (zB_dn_zI hI_S1) (show xB S1 (mR S 70) from by first | (exact (xC_o (W := 75) rp0_S1).2)) (show aS 75 S1 = (aS 75 S1) from by first | (exact rfl)) (show aS 88 S1 = (aS 88 S1) from by first | (exact rfl) | (exact (xC_o (W := 88) rp0_S1).1.trans rp1_S1)) (show kC S1 = (kC S1) from by first | (exact rfl)) (fun v5 S4 hL_S4 hq_v5 rp0_S4 rp1_S4 rp2_S4 rp3_S4 rp4_S4 => zo_n ⟨zG_T hL_S4, ?_⟩) (fun x S9 hx h9 rx0 rx1 rx2 rx3 => by have h9u := (zB_up_zI hI_S1 h9); exact zo_x (KX x S9 (by omega) h9u (show xB S9 (mR S9 70) from by first | (exact xB_x (xC_o (W := 75) rx0).2)) (show aS 88 S9 = ab from by first | (exact rx1.trans (rp1_S1.trans hpre1))) (show cC ab [] (kC S9) B from by first | (rw [rx2, rp4_S1]; exact hpre2)) (show (x = 4 ∧ (¬ zRq ab o ∨ (zRq ab o ∧ t ≠ -1 ∧ ¬ zRq ab t))) ∨ (x = 1 ∧ zRq ab o ∧ (t = -1 ∨ zRq ab t) ∧ ¬ zHw ab o i) ∨ (x = 5 ∧ zRq ab o ∧ (t = -1 ∨ zRq ab t) ∧ zHw ab o i ∧ ¬ zIr ab o i) from by first | (exact Or.inl ⟨rx3.1, Or.inr ⟨(rq_up rp3_S1 hpre1), rx3.2.1, rq_no rx3.2.2 (rp1_S1.trans hpre1)⟩⟩)) (show zfP 84 (mI S9) = fq from by first | (exact ((zf_fr (P := 84) (fun _ => zG_z h9 rfl)).trans ((zf_fr (P := 84) (S₉ := S1) (S := S) (fun _ => zG_z hL_S1 rfl)).trans hpre4))))))
  have hI_S4 := zB_up_zI hI_S1 hL_S4
  have rp0_S4 : xB S4 (mR S 70) := by
    have z := rp0_S4
    (try rw [show mI S1 65 = f 65 from funext (fun k => zG_z hI_S1 rfl)] at z)
    (try rw [show mI S1 64 1 = f 64 1 from zG_z hI_S1 rfl] at z)
    exact z
  have rp1_S4 : aS 88 S4 = (aS 88 S1) := by
    have z := rp1_S4
    (try rw [show mI S1 65 = f 65 from funext (fun k => zG_z hI_S1 rfl)] at z)
    (try rw [show mI S1 64 1 = f 64 1 from zG_z hI_S1 rfl] at z)
    exact z
  have rp2_S4 : v5 = zTa (mR S 70) t := by
    have z := rp2_S4
    (try rw [show mI S1 65 = f 65 from funext (fun k => zG_z hI_S1 rfl)] at z)
    (try rw [show mI S1 64 1 = f 64 1 from zG_z hI_S1 rfl] at z)
    exact z
  have rp3_S4 : t = -1 ∨ zRq (aS 75 S1) t := by
    have z := rp3_S4
    (try rw [show mI S1 65 = f 65 from funext (fun k => zG_z hI_S1 rfl)] at z)
    (try rw [show mI S1 64 1 = f 64 1 from zG_z hI_S1 rfl] at z)
    exact z
  have rp4_S4 : kC S4 = (kC S1) := by
    have z := rp4_S4
    (try rw [show mI S1 65 = f 65 from funext (fun k => zG_z hI_S1 rfl)] at z)
    (try rw [show mI S1 64 1 = f 64 1 from zG_z hI_S1 rfl] at z)
    exact z
  refine ⟨zG_n hI_S4 th_c3, ?_⟩
  have b3 := i_bd i
  have li4 : (0 : Int32).toInt = 0 := rfl
  refine zd (fun h5 => ?_) (fun h5 => ?_)
  · skip
    have g6 := i_lt h5
    exact KX 1 _ (by decide) hI_S4 (show xB S4 (mR S4 70) from by first | (exact xB_x (xC_o (W := 75) rp0_S4).2)) (show aS 88 S4 = ab from by first | (exact (xC_o (W := 88) rp0_S4).1.trans (rp1_S4.trans (rp1_S1.trans hpre1)))) (show cC ab [] (kC S4) B from by first | (rw [(xK_o (W := 88) rp0_S4 rfl).2, (rp4_S4.trans rp4_S1)]; exact hpre2) | (exact hpre2)) (show (1 = 4 ∧ (¬ zRq ab o ∨ (zRq ab o ∧ t ≠ -1 ∧ ¬ zRq ab t))) ∨ (1 = 1 ∧ zRq ab o ∧ (t = -1 ∨ zRq ab t) ∧ ¬ zHw ab o i) ∨ (1 = 5 ∧ zRq ab o ∧ (t = -1 ∨ zRq ab t) ∧ zHw ab o i ∧ ¬ zIr ab o i) from by first | (have ty := xB_th (W := 88) rp0_S4 rg_c3; have z2 := congrArg Int32.toInt ty.2.2.2.2.1; rw [(rp1_S4.trans (rp1_S1.trans hpre1))] at z2; exact Or.inr (Or.inl ⟨rfl, (rq_up rp3_S1 hpre1), (rp3_S4.imp id (fun w => rq_up w (rp1_S1.trans hpre1))), fun w => by have w1 := w.1; have w2 := w.2; omega⟩))) (show zfP 84 (mI S4) = fq from by first | (exact ((zf_fr (P := 84) (S₉ := S4) (S := S1) (fun _ => zG_z hL_S4 rfl)).trans ((zf_fr (P := 84) (S₉ := S1) (S := S) (fun _ => zG_z hL_S1 rfl)).trans hpre4))))
  · skip
    have g7 := i_nlt h5
    refine ⟨zG_n hI_S4 th_c3, ?_⟩
    have f8 := zG_th hI_S4 th_c3
    first | have e9 : ((mI S4 c3 2) - (1 : Int32)).toInt = (mI S4 c3 2).toInt - (1) := i_subk rfl (by omega) (by omega) | have b10 := i_bd ((mI S4 c3 2) - (1 : Int32))
    refine zd (fun h11 => ?_) (fun h11 => ?_)
    · skip
      have g12 := i_le h11
      exact KX 1 _ (by decide) hI_S4 (show xB S4 (mR S4 70) from by first | (exact xB_x (xC_o (W := 75) rp0_S4).2)) (show aS 88 S4 = ab from by first | (exact (xC_o (W := 88) rp0_S4).1.trans (rp1_S4.trans (rp1_S1.trans hpre1)))) (show cC ab [] (kC S4) B from by first | (rw [(xK_o (W := 88) rp0_S4 rfl).2, (rp4_S4.trans rp4_S1)]; exact hpre2) | (exact hpre2)) (show (1 = 4 ∧ (¬ zRq ab o ∨ (zRq ab o ∧ t ≠ -1 ∧ ¬ zRq ab t))) ∨ (1 = 1 ∧ zRq ab o ∧ (t = -1 ∨ zRq ab t) ∧ ¬ zHw ab o i) ∨ (1 = 5 ∧ zRq ab o ∧ (t = -1 ∨ zRq ab t) ∧ zHw ab o i ∧ ¬ zIr ab o i) from by first | (have ty := xB_th (W := 88) rp0_S4 rg_c3; have z2 := congrArg Int32.toInt ty.2.2.2.2.1; rw [(rp1_S4.trans (rp1_S1.trans hpre1))] at z2; exact Or.inr (Or.inl ⟨rfl, (rq_up rp3_S1 hpre1), (rp3_S4.imp id (fun w => rq_up w (rp1_S1.trans hpre1))), fun w => by have w1 := w.1; have w2 := w.2; omega⟩))) (show zfP 84 (mI S4) = fq from by first | (exact ((zf_fr (P := 84) (S₉ := S4) (S := S1) (fun _ => zG_z hL_S4 rfl)).trans ((zf_fr (P := 84) (S₉ := S1) (S := S) (fun _ => zG_z hL_S1 rfl)).trans hpre4))))
    · skip
      have g13 := i_nle h11
      refine ⟨zG_n hI_S4 th_c3, ?_⟩
      refine ⟨zG_n hI_S4 th_c3, ?_⟩
      refine zd (fun h14 => ?_) (fun h14 => ?_)
      · skip
        have g15 := i_lt h14
        exact KX 5 _ (by decide) hI_S4 (show xB S4 (mR S4 70) from by first | (exact xB_x (xC_o (W := 75) rp0_S4).2)) (show aS 88 S4 = ab from by first | (exact (xC_o (W := 88) rp0_S4).1.trans (rp1_S4.trans (rp1_S1.trans hpre1)))) (show cC ab [] (kC S4) B from by first | (rw [(xK_o (W := 88) rp0_S4 rfl).2, (rp4_S4.trans rp4_S1)]; exact hpre2) | (exact hpre2)) (show (5 = 4 ∧ (¬ zRq ab o ∨ (zRq ab o ∧ t ≠ -1 ∧ ¬ zRq ab t))) ∨ (5 = 1 ∧ zRq ab o ∧ (t = -1 ∨ zRq ab t) ∧ ¬ zHw ab o i) ∨ (5 = 5 ∧ zRq ab o ∧ (t = -1 ∨ zRq ab t) ∧ zHw ab o i ∧ ¬ zIr ab o i) from by first | (exfalso; omega) | (have ty := xB_th (W := 88) rp0_S4 rg_c3; have z2 := congrArg Int32.toInt ty.2.2.2.2.1; rw [(rp1_S4.trans (rp1_S1.trans hpre1))] at z2; exact Or.inr (Or.inr ⟨rfl, (rq_up rp3_S1 hpre1), (rp3_S4.imp id (fun w => rq_up w (rp1_S1.trans hpre1))), ⟨by omega, by omega⟩, ir_n rp0_S4 rg_c3 (rp1_S4.trans (rp1_S1.trans hpre1)) (by omega) (by assumption)⟩))) (show zfP 84 (mI S4) = fq from by first | (exact ((zf_fr (P := 84) (S₉ := S4) (S := S1) (fun _ => zG_z hL_S4 rfl)).trans ((zf_fr (P := 84) (S₉ := S1) (S := S) (fun _ => zG_z hL_S1 rfl)).trans hpre4))))
      · skip
        have g16 := i_nlt h14
        refine ⟨zG_n hI_S4 th_c3, ?_⟩
        refine zd (fun h17 => ?_) (fun h17 => ?_)
        · skip
          have g18 := i_le h17
          exact KX 5 _ (by decide) hI_S4 (show xB S4 (mR S4 70) from by first | (exact xB_x (xC_o (W := 75) rp0_S4).2)) (show aS 88 S4 = ab from by first | (exact (xC_o (W := 88) rp0_S4).1.trans (rp1_S4.trans (rp1_S1.trans hpre1)))) (show cC ab [] (kC S4) B from by first | (rw [(xK_o (W := 88) rp0_S4 rfl).2, (rp4_S4.trans rp4_S1)]; exact hpre2) | (exact hpre2)) (show (5 = 4 ∧ (¬ zRq ab o ∨ (zRq ab o ∧ t ≠ -1 ∧ ¬ zRq ab t))) ∨ (5 = 1 ∧ zRq ab o ∧ (t = -1 ∨ zRq ab t) ∧ ¬ zHw ab o i) ∨ (5 = 5 ∧ zRq ab o ∧ (t = -1 ∨ zRq ab t) ∧ zHw ab o i ∧ ¬ zIr ab o i) from by first | (exfalso; omega) | (have ty := xB_th (W := 88) rp0_S4 rg_c3; have z2 := congrArg Int32.toInt ty.2.2.2.2.1; rw [(rp1_S4.trans (rp1_S1.trans hpre1))] at z2; exact Or.inr (Or.inr ⟨rfl, (rq_up rp3_S1 hpre1), (rp3_S4.imp id (fun w => rq_up w (rp1_S1.trans hpre1))), ⟨by omega, by omega⟩, ir_n rp0_S4 rg_c3 (rp1_S4.trans (rp1_S1.trans hpre1)) (by omega) (by assumption)⟩))) (show zfP 84 (mI S4) = fq from by first | (exact ((zf_fr (P := 84) (S₉ := S4) (S := S1) (fun _ => zG_z hL_S4 rfl)).trans ((zf_fr (P := 84) (S₉ := S1) (S := S) (fun _ => zG_z hL_S1 rfl)).trans hpre4))))
        · skip
          have g19 := i_nle h17
          refine ⟨zG_n hI_S4 th_c3, ?_⟩
          have b20 := i_bd (lg_cmp ((((mL S4 c3 3).toUInt64 >>> (i.toInt64.toUInt64 &&& Int64.toUInt64 63)).toInt64) &&& (1 : Int64)) (0 : Int64))
          refine zd (fun h21 => ?_) (fun h21 => ?_)
          · skip
            have g22 := i_eq h21
            exact KX 5 _ (by decide) hI_S4 (show xB S4 (mR S4 70) from by first | (exact xB_x (xC_o (W := 75) rp0_S4).2)) (show aS 88 S4 = ab from by first | (exact (xC_o (W := 88) rp0_S4).1.trans (rp1_S4.trans (rp1_S1.trans hpre1)))) (show cC ab [] (kC S4) B from by first | (rw [(xK_o (W := 88) rp0_S4 rfl).2, (rp4_S4.trans rp4_S1)]; exact hpre2) | (exact hpre2)) (show (5 = 4 ∧ (¬ zRq ab o ∨ (zRq ab o ∧ t ≠ -1 ∧ ¬ zRq ab t))) ∨ (5 = 1 ∧ zRq ab o ∧ (t = -1 ∨ zRq ab t) ∧ ¬ zHw ab o i) ∨ (5 = 5 ∧ zRq ab o ∧ (t = -1 ∨ zRq ab t) ∧ zHw ab o i ∧ ¬ zIr ab o i) from by first | (exfalso; omega) | (have ty := xB_th (W := 88) rp0_S4 rg_c3; have z2 := congrArg Int32.toInt ty.2.2.2.2.1; rw [(rp1_S4.trans (rp1_S1.trans hpre1))] at z2; exact Or.inr (Or.inr ⟨rfl, (rq_up rp3_S1 hpre1), (rp3_S4.imp id (fun w => rq_up w (rp1_S1.trans hpre1))), ⟨by omega, by omega⟩, ir_n rp0_S4 rg_c3 (rp1_S4.trans (rp1_S1.trans hpre1)) (by omega) (by assumption)⟩))) (show zfP 84 (mI S4) = fq from by first | (exact ((zf_fr (P := 84) (S₉ := S4) (S := S1) (fun _ => zG_z hL_S4 rfl)).trans ((zf_fr (P := 84) (S₉ := S1) (S := S) (fun _ => zG_z hL_S1 rfl)).trans hpre4))))
          · skip
            have g23 := i_ne h21
            refine sp_94_69_sk (ab := (aS 88 S4)) (R := (mR S 70)) (W := 88) (y := (t)) (yt := (o)) (kk := (kC S4)) (n0 := (zN0 S4)) c3 (i) (v5) (by omega) (by omega) (zB_dn_zI hI_S4) th_c3 hq_v5 (show xB S4 (mR S 70) from by first | (exact (xC_o (W := 75) rp0_S4).2)) (show aS 88 S4 = (aS 88 S4) from by first | (exact rfl)) (show xW 88 from by first | (exact xW88) | (exact xW75)) (show zTa (mR S 70) (o) = some c3 from by first | (exact rg_c3)) (show v5 = zTa (mR S 70) (t) from by first | (exact rp2_S4)) (by omega) (show kC S4 = (kC S4) from by first | (exact rfl)) (show zN0 S4 = (zN0 S4) from by first | (exact rfl)) (fun v7 S6 hL_S6 hq_v7 rp0_S6 rp1_S6 rp2_S6 rp3_S6 rp4_S6 => zo_n ⟨zG_T hL_S6, ?_⟩)
            have hI_S6 := zB_up_zI hI_S4 hL_S6
            have rp0_S6 : xB S6 (mR S 70) := by
              have z := rp0_S6
              (try rw [show mI S4 65 = f 65 from funext (fun k => zG_z hI_S4 rfl)] at z)
              (try rw [show mI S4 64 1 = f 64 1 from zG_z hI_S4 rfl] at z)
              exact z
            have rp1_S6 : aS 88 S6 = aCi (aS 88 S4) (o).toNatClampNeg i (aNm (aS 88 S4) (t)) := by
              have z := rp1_S6
              (try rw [show mI S4 65 = f 65 from funext (fun k => zG_z hI_S4 rfl)] at z)
              (try rw [show mI S4 64 1 = f 64 1 from zG_z hI_S4 rfl] at z)
              exact z
            have rp2_S6 : v7 = zTa (mR S 70) (aRef (aS 88 S4) (o).toNatClampNeg i) := by
              have z := rp2_S6
              (try rw [show mI S4 65 = f 65 from funext (fun k => zG_z hI_S4 rfl)] at z)
              (try rw [show mI S4 64 1 = f 64 1 from zG_z hI_S4 rfl] at z)
              exact z
            have rp3_S6 : ∀ n, xAl (aS 88 S4) n → kC S6 n = (kC S4) n + Int32.ofNat (cIs (t) n) - Int32.ofNat (cIs (aRef (aS 88 S4) (o).toNatClampNeg i) n) := by
              have z := rp3_S6
              (try rw [show mI S4 65 = f 65 from funext (fun k => zG_z hI_S4 rfl)] at z)
              (try rw [show mI S4 64 1 = f 64 1 from zG_z hI_S4 rfl] at z)
              exact z
            have rp4_S6 : zN0 S6 = (zN0 S4) := by
              have z := rp4_S6
              (try rw [show mI S4 65 = f 65 from funext (fun k => zG_z hI_S4 rfl)] at z)
              (try rw [show mI S4 64 1 = f 64 1 from zG_z hI_S4 rfl] at z)
              exact z
            refine sp_24_84_sk (ab := (aS 88 S6)) (W := 88) (kk := (kC S6)) (y := ((aRef (aS 88 S4) (o).toNatClampNeg i))) (B := B) (fq := (zfP 84 (mI S6))) (n0 := (zN0 S6)) (v7) (by omega) (by omega) (zB_dn_zJ84 hI_S6) hq_v7 (show xB S6 (mR S6 70) from by first | (exact xB_x (xC_o (W := 88) rp0_S6).2)) (show aS 88 S6 = (aS 88 S6) from by first | (exact rfl)) (show xW 88 from by first | (exact xW88) | (exact xW75)) (show v7 = zTa (mR S6 70) ((aRef (aS 88 S4) (o).toNatClampNeg i)) from by first | (rw [rp0_S6.1]; exact rp2_S6) | (exact rp2_S6)) (show kC S6 = (kC S6) from by first | (exact rfl)) (show cC (aS 88 S6) [] (kC S6) B from by first | (have cs := rp1_S6; rw [(rp1_S4.trans (rp1_S1.trans hpre1))] at cs; have ty := xB_th (W := 88) rp0_S4 rg_c3; have z2 := congrArg Int32.toInt ty.2.2.2.2.1; rw [(rp1_S4.trans (rp1_S1.trans hpre1))] at z2; have al : xAl ab o.toNatClampNeg := (by have q := (rq_up rp3_S1 hpre1); exact al_of q); rw [cs]; refine C_li (y := t) hpre2 ⟨al, by omega, by omega⟩ (ir_y rp0_S4 rg_c3 (rp1_S4.trans (rp1_S1.trans hpre1)) (by omega) (by assumption)) (fun n hn => ?_); have q := rp3_S6 n (by rw [(rp1_S4.trans (rp1_S1.trans hpre1))]; exact hn); rw [(rp4_S4.trans rp4_S1), (rp1_S4.trans (rp1_S1.trans hpre1))] at q; exact q)) (show cOk (aS 88 S6) ((aRef (aS 88 S4) (o).toNatClampNeg i)) from by first | (have cs := rp1_S6; rw [(rp1_S4.trans (rp1_S1.trans hpre1))] at cs; have ty := xB_th (W := 88) rp0_S4 rg_c3; have z2 := congrArg Int32.toInt ty.2.2.2.2.1; rw [(rp1_S4.trans (rp1_S1.trans hpre1))] at z2; have al : xAl ab o.toNatClampNeg := (by have q := (rq_up rp3_S1 hpre1); exact al_of q); rw [cs, (rp1_S4.trans (rp1_S1.trans hpre1))]; exact (cOk_cg (funext (fun n => propext ci_al))).mpr ((C0_un hpre2).2.1.2.2 o.toNatClampNeg i ⟨al, by omega, by omega⟩))) (show B ≤ 1000000 from by first | (exact hpre3)) (show zfP 84 (mI S6) = (zfP 84 (mI S6)) from by first | (exact rfl)) (show zN0 S6 = (zN0 S6) from by first | (exact rfl)) (fun S8 hL_S8 rp0_S8 rp1_S8 rp2_S8 rp3_S8 => zv_n ⟨zG_T hL_S8, ?_⟩)
            have hI_S8 := zB_up_zJ84 hI_S6 hL_S8
            have rp0_S8 : xB S8 (mR S8 70) := by
              have z := rp0_S8
              (try rw [show mI S6 65 = f 65 from funext (fun k => zG_z hI_S6 rfl)] at z)
              (try rw [show mI S6 64 1 = f 64 1 from zG_z hI_S6 rfl] at z)
              exact z
            have rp1_S8 : aS 88 S8 = cLe (aS 88 S6) ((aRef (aS 88 S4) (o).toNatClampNeg i)) ∧ cC (aS 88 S8) [] (kC S8) B := by
              have z := rp1_S8
              (try rw [show mI S6 65 = f 65 from funext (fun k => zG_z hI_S6 rfl)] at z)
              (try rw [show mI S6 64 1 = f 64 1 from zG_z hI_S6 rfl] at z)
              exact z
            have rp2_S8 : zfP 84 (mI S8) = (zfP 84 (mI S6)) := by
              have z := rp2_S8
              (try rw [show mI S6 65 = f 65 from funext (fun k => zG_z hI_S6 rfl)] at z)
              (try rw [show mI S6 64 1 = f 64 1 from zG_z hI_S6 rfl] at z)
              exact z
            have rp3_S8 : zN0 S8 = (zN0 S6) := by
              have z := rp3_S8
              (try rw [show mI S6 65 = f 65 from funext (fun k => zG_z hI_S6 rfl)] at z)
              (try rw [show mI S6 64 1 = f 64 1 from zG_z hI_S6 rfl] at z)
              exact z
            refine ⟨fun hc => ?_, fun c10 hc => ?_⟩
            · skip
              have rn_c10 : zTa (mR S 70) (aRef (aS 88 S4) (o).toNatClampNeg i) = none := rp2_S6.symm.trans hc
              have li24 : (-1 : Int32).toInt = -1 := rfl
              exact K ((-1 : Int32)) _ hI_S8 trivial (show xB S8 (mR S8 70) from by first | (exact xB_x (xC_o (W := 75) rp0_S8).2)) (show cC (aS 88 S8) [] (kC S8) B from by first | (exact rp1_S8.2)) (show zRq ab o ∧ (t = -1 ∨ zRq ab t) ∧ zHw ab o i ∧ zIr ab o i ∧ aS 88 S8 = cLe (aL0 ab o.toNatClampNeg i t) (aRef ab o.toNatClampNeg i) ∧ (-1 : Int32) = aNm ab (aRef ab o.toNatClampNeg i) from by first | (exfalso; omega) | (have ty := xB_th (W := 88) rp0_S4 rg_c3; have z2 := congrArg Int32.toInt ty.2.2.2.2.1; rw [(rp1_S4.trans (rp1_S1.trans hpre1))] at z2; have ns := rp1_S8.1; rw [rp1_S6, (rp1_S4.trans (rp1_S1.trans hpre1))] at ns; have nn := nm_n (W := 88) rp0_S4 rn_c10; rw [(rp1_S4.trans (rp1_S1.trans hpre1))] at nn; exact ⟨(rq_up rp3_S1 hpre1), (rp3_S4.imp id (fun w => rq_up w (rp1_S1.trans hpre1))), ⟨by omega, by omega⟩, ir_y rp0_S4 rg_c3 (rp1_S4.trans (rp1_S1.trans hpre1)) (by omega) (by assumption), ns, (by exact nn.symm)⟩)) (show zfP 84 (mI S8) = fq from by first | (exact (rp2_S8.trans ((zf_fr (P := 84) (S₉ := S6) (S := S4) (fun _ => zG_z hL_S6 rfl)).trans ((zf_fr (P := 84) (S₉ := S4) (S := S1) (fun _ => zG_z hL_S4 rfl)).trans ((zf_fr (P := 84) (S₉ := S1) (S := S) (fun _ => zG_z hL_S1 rfl)).trans hpre4))))))
            · skip
              have th_c10 := hq_v7 c10 hc
              have rg_c10 : zTa (mR S 70) (aRef (aS 88 S4) (o).toNatClampNeg i) = some c10 := rp2_S6.symm.trans hc
              subst hc
              refine ⟨zG_n hI_S8 th_c10, ?_⟩
              have f25 := zG_th hI_S8 th_c10
              exact K ((mI S8 c10 0)) _ hI_S8 trivial (show xB S8 (mR S8 70) from by first | (exact xB_x (xC_o (W := 75) rp0_S8).2)) (show cC (aS 88 S8) [] (kC S8) B from by first | (exact rp1_S8.2)) (show zRq ab o ∧ (t = -1 ∨ zRq ab t) ∧ zHw ab o i ∧ zIr ab o i ∧ aS 88 S8 = cLe (aL0 ab o.toNatClampNeg i t) (aRef ab o.toNatClampNeg i) ∧ (mI S8 c10 0) = aNm ab (aRef ab o.toNatClampNeg i) from by first | (exfalso; omega) | (have ty := xB_th (W := 88) rp0_S4 rg_c3; have z2 := congrArg Int32.toInt ty.2.2.2.2.1; rw [(rp1_S4.trans (rp1_S1.trans hpre1))] at z2; have ns := rp1_S8.1; rw [rp1_S6, (rp1_S4.trans (rp1_S1.trans hpre1))] at ns; have nn := nm_y (W := 88) rp0_S4 rg_c10; have tn := (n0_k rp3_S8 th_c10.1 (Or.inl rfl)).trans (xB_th (W := 88) rp0_S6 rg_c10).2.2.1; rw [(rp1_S4.trans (rp1_S1.trans hpre1))] at nn; exact ⟨(rq_up rp3_S1 hpre1), (rp3_S4.imp id (fun w => rq_up w (rp1_S1.trans hpre1))), ⟨by omega, by omega⟩, ir_y rp0_S4 rg_c3 (rp1_S4.trans (rp1_S1.trans hpre1)) (by omega) (by assumption), ns, (by rw [tn]; (try rw [(rp1_S4.trans (rp1_S1.trans hpre1))]); exact nn.symm)⟩)) (show zfP 84 (mI S8) = fq from by first | (exact (rp2_S8.trans ((zf_fr (P := 84) (S₉ := S6) (S := S4) (fun _ => zG_z hL_S6 rfl)).trans ((zf_fr (P := 84) (S₉ := S4) (S := S1) (fun _ => zG_z hL_S4 rfl)).trans ((zf_fr (P := 84) (S₉ := S1) (S := S) (fun _ => zG_z hL_S1 rfl)).trans hpre4))))))

/-! from 95.m36 -/
/-! COUNTS, the class (written by wip/tools/gen20k.py) -/
theorem g_155_64_sk_p84_0 {X : Nat × (Nat → Int32)} {d w : Nat} {S : ma_S} {Q : Option ma_V ⊕ Nat → ma_S → Prop} (i : Int32) (rt : Int32) (hd : 7 ≤ d) (hw : 134 ≤ w) (hS : zT S) (h : if i < 0 then (Q (.inr 2) (ma_bump S)) else (if (16 : Int32) ≤ i then (Q (.inr 2) (ma_bump S)) else (if rt < 0 then (Q (.inr 2) (ma_bump S)) else (if (16 : Int32) ≤ rt then (Q (.inr 2) (ma_bump S)) else (mR S 64 11 = some 84 ∧ (mR S 64 11 = some 84 ∧ ((0 ≤ i ∧ i.toNatClampNeg < 16) ∧ (if (mI S 73 i.toNatClampNeg) < 0 then (Q (.inl (some (.inl (-1 : Int32)))) S) else (if (512 : Int32) ≤ (mI S 73 i.toNatClampNeg) then (Q (.inl (some (.inl (-1 : Int32)))) S) else ((0 ≤ (mI S 73 i.toNatClampNeg) ∧ (mI S 73 i.toNatClampNeg).toNatClampNeg < 512) ∧ (((mR S 70 (mI S 73 i.toNatClampNeg).toNatClampNeg) = none → Q (.inl (some (.inl (-1 : Int32)))) S) ∧ (∀ c1, (mR S 70 (mI S 73 i.toNatClampNeg).toNatClampNeg) = some c1 → ma_wp X (d - 1) (w - 24) 145 0 [(0, .inr (.inr (some 64))), (1, .inr (.inr (some 84))), (2, .inl rt), (3, .inr (.inr (some c1)))] [] S (zo (fun v3 S2 => zT S2 ∧ ((126 ≤ c1 ∧ c1 < mN S2) ∧ (Q (.inl (some (.inl (mI S2 c1 0)))) S2))) (fun x S9 => Q (.inr x) S9)))))))))))))) : ma_wp X d w 155 0 [(0, .inr (.inr (some 64))), (1, .inl i), (2, .inl rt)] [] S Q := by
  refine zw_push hm_155 dX11_strong_0 (v := .inl i) rfl ?_
  refine zw_cs hm_155 dX11_strong_1 pn_11_109 sl_11_109 hm_142 [.inl i] [] rfl ⟨by omega, by omega⟩ rfl ?_
  show ma_wp X (d - 1) (w - 20) 142 0 [(0, .inl i)] [] S _
  refine zw_push hm_142 dX11_isSlot_0 (v := .inl i) rfl ?_
  refine zw_if0 hm_142 dX11_isSlot_1 (t := 14) rfl zc0_lt ?_ ?_
  · intro hc
    rw [if_pos hc] at h
    refine zw_push hm_142 dX11_isSlot_14 (v := .inl (0 : Int32)) rfl ?_
    refine zw_bret hm_142 dX11_isSlot_15 (by decide) ?_
    show ma_wp X d w 155 4 [(0, .inr (.inr (some 64))), (1, .inl i), (2, .inl rt)] [.inl (0 : Int32)] S _
    refine zw_if0 hm_155 dX11_strong_4 (t := 14) rfl zc0_eq (fun _ => ?_) (fun hc => absurd (by decide) hc)
    exact zw_thr hm_155 dX11_strong_14 dX11_strong_17 dX11_strong_18 dX11_strong_21 x_11_79_81 n_11_79 (by omega) (by show 0 + 81 ≤ w; omega) h
  · intro hc
    rw [if_neg hc] at h
    refine zw_push hm_142 dX11_isSlot_4 (v := .inl i) rfl ?_
    refine zw_push hm_142 dX11_isSlot_5 (v := .inl (16 : Int32)) rfl ?_
    refine zw_if2 hm_142 dX11_isSlot_7 (t := 14) rfl zc2_ge ?_ ?_
    · intro hc
      rw [if_pos hc] at h
      refine zw_push hm_142 dX11_isSlot_14 (v := .inl (0 : Int32)) rfl ?_
      refine zw_bret hm_142 dX11_isSlot_15 (by decide) ?_
      show ma_wp X d w 155 4 [(0, .inr (.inr (some 64))), (1, .inl i), (2, .inl rt)] [.inl (0 : Int32)] S _
      refine zw_if0 hm_155 dX11_strong_4 (t := 14) rfl zc0_eq (fun _ => ?_) (fun hc => absurd (by decide) hc)
      exact zw_thr hm_155 dX11_strong_14 dX11_strong_17 dX11_strong_18 dX11_strong_21 x_11_79_81 n_11_79 (by omega) (by show 0 + 81 ≤ w; omega) h
    · intro hc
      rw [if_neg hc] at h
      refine zw_push hm_142 dX11_isSlot_10 (v := .inl (1 : Int32)) rfl ?_
      refine zw_goto hm_142 dX11_isSlot_11 (t := 15) rfl ?_
      refine zw_bret hm_142 dX11_isSlot_15 (by decide) ?_
      show ma_wp X d w 155 4 [(0, .inr (.inr (some 64))), (1, .inl i), (2, .inl rt)] [.inl (1 : Int32)] S _
      refine zw_if0 hm_155 dX11_strong_4 (t := 14) rfl zc0_eq (fun hc => absurd hc (by decide)) (fun _ => ?_)
      refine zw_push hm_155 dX11_strong_7 (v := .inl rt) rfl ?_
      refine zw_cs hm_155 dX11_strong_8 pn_11_109 sl_11_109 hm_142 [.inl rt] [] rfl ⟨by omega, by omega⟩ rfl ?_
      show ma_wp X (d - 1) (w - 20) 142 0 [(0, .inl rt)] [] S _
      refine zw_push hm_142 dX11_isSlot_0 (v := .inl rt) rfl ?_
      refine zw_if0 hm_142 dX11_isSlot_1 (t := 14) rfl zc0_lt ?_ ?_
      · intro hc
        rw [if_pos hc] at h
        refine zw_push hm_142 dX11_isSlot_14 (v := .inl (0 : Int32)) rfl ?_
        refine zw_bret hm_142 dX11_isSlot_15 (by decide) ?_
        show ma_wp X d w 155 11 [(0, .inr (.inr (some 64))), (1, .inl i), (2, .inl rt)] [.inl (0 : Int32)] S _
        refine zw_if0 hm_155 dX11_strong_11 (t := 22) rfl zc0_ne (fun hc => absurd hc (by decide)) (fun _ => ?_)
        exact zw_thr hm_155 dX11_strong_14 dX11_strong_17 dX11_strong_18 dX11_strong_21 x_11_79_81 n_11_79 (by omega) (by show 0 + 81 ≤ w; omega) h
      · intro hc
        rw [if_neg hc] at h
        refine zw_push hm_142 dX11_isSlot_4 (v := .inl rt) rfl ?_
        refine zw_push hm_142 dX11_isSlot_5 (v := .inl (16 : Int32)) rfl ?_
        refine zw_if2 hm_142 dX11_isSlot_7 (t := 14) rfl zc2_ge ?_ ?_
        · intro hc
          rw [if_pos hc] at h
          refine zw_push hm_142 dX11_isSlot_14 (v := .inl (0 : Int32)) rfl ?_
          refine zw_bret hm_142 dX11_isSlot_15 (by decide) ?_
          show ma_wp X d w 155 11 [(0, .inr (.inr (some 64))), (1, .inl i), (2, .inl rt)] [.inl (0 : Int32)] S _
          refine zw_if0 hm_155 dX11_strong_11 (t := 22) rfl zc0_ne (fun hc => absurd hc (by decide)) (fun _ => ?_)
          exact zw_thr hm_155 dX11_strong_14 dX11_strong_17 dX11_strong_18 dX11_strong_21 x_11_79_81 n_11_79 (by omega) (by show 0 + 81 ≤ w; omega) h
        · intro hc
          rw [if_neg hc] at h
          refine zw_push hm_142 dX11_isSlot_10 (v := .inl (1 : Int32)) rfl ?_
          refine zw_goto hm_142 dX11_isSlot_11 (t := 15) rfl ?_
          refine zw_bret hm_142 dX11_isSlot_15 (by decide) ?_
          show ma_wp X d w 155 11 [(0, .inr (.inr (some 64))), (1, .inl i), (2, .inl rt)] [.inl (1 : Int32)] S _
          refine zw_if0 hm_155 dX11_strong_11 (t := 22) rfl zc0_ne (fun _ => ?_) (fun hc => absurd (by decide) hc)
          refine zw_push hm_155 dX11_strong_22 (v := .inr (.inr (some 64))) rfl ?_
          refine zw_cv hm_155 dX11_strong_23 v_11_119_11 hm_144 [] [] rfl (zT_rt hS s_64 rfl) ⟨by omega, by omega⟩ rfl ?_
          show ma_wp X (d - 1) (w - 20) 144 0 [(0, .inr (.inr (some 64)))] [] S _
          refine zw_push hm_144 dX11_needCollector_0 (v := .inr (.inr (some 64))) rfl ?_
          obtain ⟨hg, h⟩ := h
          refine zw_gf hm_144 dX11_needCollector_1 (v := .inr (.inr (some 84))) (zT_is hS s_64) (zT_t hS s_64) rfl f_11_98_11 (congrArg (fun z => Sum.inr (Sum.inr z)) hg) ?_
          refine zw_ifnonnull hm_144 dX11_needCollector_4 (t := 15) rfl (fun z => by cases z) (fun _ _ => ?_)
          refine zw_push hm_144 dX11_needCollector_15 (v := .inr (.inr (some 64))) rfl ?_
          obtain ⟨hg, h⟩ := h
          refine zw_gf hm_144 dX11_needCollector_16 (v := .inr (.inr (some 84))) (zT_is hS s_64) (zT_t hS s_64) rfl f_11_98_11 (congrArg (fun z => Sum.inr (Sum.inr z)) hg) ?_
          refine zw_aret hm_144 dX11_needCollector_19 ?_
          show ma_wp X d w 155 26 [(0, .inr (.inr (some 64))), (1, .inl i), (2, .inl rt)] [.inr (.inr (some 84))] S _
          refine zw_sto hm_155 dX11_strong_26 [(3, .inr (.inr (some 84))), (0, .inr (.inr (some 64))), (1, .inl i), (2, .inl rt)] rfl rfl rfl ?_
          refine zw_push hm_155 dX11_strong_27 (v := .inr (.inr (some 64))) rfl ?_
          refine zw_gf hm_155 dX11_strong_28 (v := .inr (.inr (some 69))) (zT_is hS s_64) (zT_t hS s_64) rfl f_11_26_11 (zT_f hS r_64_8) ?_
          refine zw_push hm_155 dX11_strong_31 (v := .inr (.inr (some 64))) rfl ?_
          refine zw_gf hm_155 dX11_strong_32 (v := .inr (.inr (some 69))) (zT_is hS s_64) (zT_t hS s_64) rfl f_11_26_11 (zT_f hS r_64_8) ?_
          refine zw_gf hm_155 dX11_strong_35 (v := .inr (.inr (some 73))) (zT_is hS s_69) (zT_t hS s_69) rfl f_11_173_7 (zT_f hS r_69_3) ?_
          refine zw_push hm_155 dX11_strong_38 (v := .inl i) rfl ?_
          obtain ⟨hg, h⟩ := h
          refine zw_ia hm_155 dX11_strong_39 (zT_is hS s_73) (zT_h hS s_73) rfl hg ?_
          show ma_wp X d w 155 40 [(3, .inr (.inr (some 84))), (0, .inr (.inr (some 64))), (1, .inl i), (2, .inl rt)] [.inl (mI S 73 i.toNatClampNeg), .inr (.inr (some 69))] S _
          refine zw_cv hm_155 dX11_strong_40 v_11_176_7 hm_81 [.inl (mI S 73 i.toNatClampNeg)] [] rfl (zT_rt hS s_69 rfl) ⟨by omega, by omega⟩ rfl ?_
          show ma_wp X (d - 1) (w - 21) 81 0 [(0, .inr (.inr (some 69))), (1, .inl (mI S 73 i.toNatClampNeg))] [] S _
          refine zw_push hm_81 dX7_thingAt_0 (v := .inl (mI S 73 i.toNatClampNeg)) rfl ?_
          refine zw_if0 hm_81 dX7_thingAt_1 (t := 20) rfl zc0_lt ?_ ?_
          · intro hc
            rw [if_pos hc] at h
            refine zw_push hm_81 dX7_thingAt_20 (v := .inr (.inr none)) rfl ?_
            refine zw_aret hm_81 dX7_thingAt_21 ?_
            show ma_wp X d w 155 43 [(3, .inr (.inr (some 84))), (0, .inr (.inr (some 64))), (1, .inl i), (2, .inl rt)] [.inr (.inr none)] S _
            refine zw_sto hm_155 dX11_strong_43 [(4, .inr (.inr none)), (3, .inr (.inr (some 84))), (0, .inr (.inr (some 64))), (1, .inl i), (2, .inl rt)] rfl rfl rfl ?_
            refine zw_push hm_155 dX11_strong_45 (v := .inr (.inr none)) rfl ?_
            refine zw_ifnonnull hm_155 dX11_strong_47 (t := 52) rfl (fun _ => ?_) (fun _ z => by cases z)
            refine zw_push hm_155 dX11_strong_50 (v := .inl (-1 : Int32)) rfl ?_
            exact zw_iret hm_155 dX11_strong_51 h
          · intro hc
            rw [if_neg hc] at h
            refine zw_push hm_81 dX7_thingAt_4 (v := .inl (mI S 73 i.toNatClampNeg)) rfl ?_
            refine zw_push hm_81 dX7_thingAt_5 (v := .inl (512 : Int32)) rfl ?_
            refine zw_if2 hm_81 dX7_thingAt_8 (t := 20) rfl zc2_ge ?_ ?_
            · intro hc
              rw [if_pos hc] at h
              refine zw_push hm_81 dX7_thingAt_20 (v := .inr (.inr none)) rfl ?_
              refine zw_aret hm_81 dX7_thingAt_21 ?_
              show ma_wp X d w 155 43 [(3, .inr (.inr (some 84))), (0, .inr (.inr (some 64))), (1, .inl i), (2, .inl rt)] [.inr (.inr none)] S _
              refine zw_sto hm_155 dX11_strong_43 [(4, .inr (.inr none)), (3, .inr (.inr (some 84))), (0, .inr (.inr (some 64))), (1, .inl i), (2, .inl rt)] rfl rfl rfl ?_
              refine zw_push hm_155 dX11_strong_45 (v := .inr (.inr none)) rfl ?_
              refine zw_ifnonnull hm_155 dX11_strong_47 (t := 52) rfl (fun _ => ?_) (fun _ z => by cases z)
              refine zw_push hm_155 dX11_strong_50 (v := .inl (-1 : Int32)) rfl ?_
              exact zw_iret hm_155 dX11_strong_51 h
            · intro hc
              rw [if_neg hc] at h
              refine zw_push hm_81 dX7_thingAt_11 (v := .inr (.inr (some 69))) rfl ?_
              refine zw_gf hm_81 dX7_thingAt_12 (v := .inr (.inr (some 70))) (zT_is hS s_69) (zT_t hS s_69) rfl f_7_11_7 (zT_f hS r_69_0) ?_
              refine zw_push hm_81 dX7_thingAt_15 (v := .inl (mI S 73 i.toNatClampNeg)) rfl ?_
              obtain ⟨hg, h⟩ := h
              refine zw_aa hm_81 dX7_thingAt_16 (zT_is hS s_70) (zT_h hS s_70) rfl rfl hg rfl ?_
              show ma_wp X (d - 1) (w - 21) 81 17 [(0, .inr (.inr (some 69))), (1, .inl (mI S 73 i.toNatClampNeg))] [.inr (.inr (mR S 70 (mI S 73 i.toNatClampNeg).toNatClampNeg))] S _
              refine zw_goto hm_81 dX7_thingAt_17 (t := 21) rfl ?_
              refine zw_aret hm_81 dX7_thingAt_21 ?_
              show ma_wp X d w 155 43 [(3, .inr (.inr (some 84))), (0, .inr (.inr (some 64))), (1, .inl i), (2, .inl rt)] [.inr (.inr (mR S 70 (mI S 73 i.toNatClampNeg).toNatClampNeg))] S _
              refine zw_sto hm_155 dX11_strong_43 [(4, .inr (.inr (mR S 70 (mI S 73 i.toNatClampNeg).toNatClampNeg))), (3, .inr (.inr (some 84))), (0, .inr (.inr (some 64))), (1, .inl i), (2, .inl rt)] rfl rfl rfl ?_
              refine zw_push hm_155 dX11_strong_45 (v := .inr (.inr (mR S 70 (mI S 73 i.toNatClampNeg).toNatClampNeg))) rfl ?_
              refine zw_ifnonnull hm_155 dX11_strong_47 (t := 52) rfl ?_ ?_
              · intro hc
                have h := h.1 hc
                (try rw [hc])
                show ma_wp X d w 155 50 [(4, .inr (.inr none)), (3, .inr (.inr (some 84))), (0, .inr (.inr (some 64))), (1, .inl i), (2, .inl rt)] [] S _
                refine zw_push hm_155 dX11_strong_50 (v := .inl (-1 : Int32)) rfl ?_
                exact zw_iret hm_155 dX11_strong_51 h
              · intro c1 hc
                have h := h.2 c1 hc
                (try rw [hc])
                show ma_wp X d w 155 52 [(4, .inr (.inr (some c1))), (3, .inr (.inr (some 84))), (0, .inr (.inr (some 64))), (1, .inl i), (2, .inl rt)] [] S _
                refine zw_push hm_155 dX11_strong_52 (v := .inr (.inr (some 64))) rfl ?_
                refine zw_push hm_155 dX11_strong_53 (v := .inr (.inr (some 84))) rfl ?_
                refine zw_push hm_155 dX11_strong_54 (v := .inl rt) rfl ?_
                refine zw_push hm_155 dX11_strong_55 (v := .inr (.inr (some c1))) rfl ?_
                refine zw_cv hm_155 dX11_strong_57 v_11_169_11 hm_145 [.inr (.inr (some c1)), .inl rt, .inr (.inr (some 84))] [] rfl (zT_rt hS s_64 rfl) ⟨by omega, by omega⟩ rfl (zw_mono h (zo_go ?_ ?_))
                · intro v3 S2 hv
                  obtain ⟨hS2, h⟩ := hv
                  refine zw_stk hm_155 dX11_strong_60 (st₉ := []) rfl rfl ?_
                  refine zw_push hm_155 dX11_strong_61 (v := .inr (.inr (some 84))) rfl ?_
                  refine zw_push hm_155 dX11_strong_62 (v := .inr (.inr (some c1))) rfl ?_
                  refine zw_cv hm_155 dX11_strong_64 v_11_179_2 hm_268 [.inr (.inr (some c1))] [] rfl (zT_rt hS2 s_84 rfl) ⟨by omega, by omega⟩ rfl ?_
                  show ma_wp X (d - 1) (w - 21) 268 0 [(0, .inr (.inr (some 84))), (1, .inr (.inr (some c1)))] [] S2 _
                  refine zw_vret hm_268 dX1_noteStrong_0 ?_
                  show ma_wp X d w 155 67 [(4, .inr (.inr (some c1))), (3, .inr (.inr (some 84))), (0, .inr (.inr (some 64))), (1, .inl i), (2, .inl rt)] [] S2 _
                  refine zw_push hm_155 dX11_strong_67 (v := .inr (.inr (some c1))) rfl ?_
                  obtain ⟨hg, h⟩ := h
                  refine zw_gf hm_155 dX11_strong_69 (v := .inl (mI S2 c1 0)) (zT_tis hS2 hg) (zT_tt hS2 hg) rfl f_11_182_9 rfl ?_
                  exact zw_iret hm_155 dX11_strong_72 h
                · intro x S9 hx
                  exact ⟨by decide, hx⟩
theorem sp_155_64_sk_p84 {X : Nat × (Nat → Int32)} {d w : Nat} {f : Nat → Nat → Int32} {r : Nat → Nat → Option Nat} {C Z N : Nat} {Q : Option ma_V ⊕ Nat → ma_S → Prop} {ab : Nat→Nat→Int32} {B : Int} {fq : Nat→Int32} {S : ma_S} (i : Int32) (rt : Int32) (hd : 7 ≤ d) (hw : 134 ≤ w) (hI : zB f r C Z N S) (hr : r 64 11 = some 84) (hpre0 : xB S (mR S 70)) (hpre1 : aS 88 S = ab) (hpre2 : cC ab [] (kC S) B) (hpre3 : B ≤ 1000000) (hpre4 : zfP 84 (mI S) = fq) (K : ∀ v S₉, zB f r C Z N S₉ → (True) → (xB S₉ (mR S₉ 70)) → (cC (aS 88 S₉) [] (kC S₉) B) → ((0 ≤ i.toInt ∧ i.toInt ≤ 15) ∧ (0 ≤ rt.toInt ∧ rt.toInt ≤ 15) ∧ ((aNm ab (ab 73 i.toNatClampNeg) = -1 ∧ aS 88 S₉ = ab ∧ v = -1) ∨ (aNm ab (ab 73 i.toNatClampNeg) = ab 73 i.toNatClampNeg ∧ 0 ≤ (ab 73 i.toNatClampNeg).toInt ∧ aS 88 S₉ = cLe (aR0 ab rt (ab 73 i.toNatClampNeg)) (ab 72 rt.toNatClampNeg) ∧ v = ab 73 i.toNatClampNeg))) → (zfP 84 (mI S₉) = fq) → Q (.inl (some (.inl v))) S₉) (KX : ∀ x S₉, (x = 2) → zB f r C Z N S₉ → (xB S₉ (mR S₉ 70)) → (aS 88 S₉ = ab) → (cC ab [] (kC S₉) B) → (x = 2 ∧ ¬ ((0 ≤ i.toInt ∧ i.toInt ≤ 15) ∧ (0 ≤ rt.toInt ∧ rt.toInt ≤ 15))) → (zfP 84 (mI S₉) = fq) → Q (.inr x) (ma_bump S₉)) : ma_wp X d w 155 0 [(0, .inr (.inr (some 64))), (1, .inl i), (2, .inl rt)] [] S Q := by
  refine g_155_64_sk_p84_0 i rt (by omega) (by omega) (zG_T hI) ?_
  have b1 := i_bd i
  have li2 : (0 : Int32).toInt = 0 := rfl
  refine zd (fun h3 => ?_) (fun h3 => ?_)
  · skip
    have g4 := i_lt h3
    exact KX 2 _ (by decide) hI (show xB S (mR S 70) from by first | (exact xB_x (xC_o (W := 75) hpre0).2)) (show aS 88 S = ab from by first | (exact (xC_o (W := 88) hpre0).1.trans hpre1)) (show cC ab [] (kC S) B from by first | (rw [(xK_o (W := 88) hpre0 rfl).2]; exact hpre2) | (exact hpre2)) (show 2 = 2 ∧ ¬ ((0 ≤ i.toInt ∧ i.toInt ≤ 15) ∧ (0 ≤ rt.toInt ∧ rt.toInt ≤ 15)) from by first | (exact ⟨rfl, by omega⟩)) (show zfP 84 (mI S) = fq from by first | (exact hpre4))
  · skip
    have g5 := i_nlt h3
    have li6 : (16 : Int32).toInt = 16 := rfl
    refine zd (fun h7 => ?_) (fun h7 => ?_)
    · skip
      have g8 := i_le h7
      exact KX 2 _ (by decide) hI (show xB S (mR S 70) from by first | (exact xB_x (xC_o (W := 75) hpre0).2)) (show aS 88 S = ab from by first | (exact (xC_o (W := 88) hpre0).1.trans hpre1)) (show cC ab [] (kC S) B from by first | (rw [(xK_o (W := 88) hpre0 rfl).2]; exact hpre2) | (exact hpre2)) (show 2 = 2 ∧ ¬ ((0 ≤ i.toInt ∧ i.toInt ≤ 15) ∧ (0 ≤ rt.toInt ∧ rt.toInt ≤ 15)) from by first | (exact ⟨rfl, by omega⟩)) (show zfP 84 (mI S) = fq from by first | (exact hpre4))
    · skip
      have g9 := i_nle h7
      have b10 := i_bd rt
      refine zd (fun h11 => ?_) (fun h11 => ?_)
      · skip
        have g12 := i_lt h11
        exact KX 2 _ (by decide) hI (show xB S (mR S 70) from by first | (exact xB_x (xC_o (W := 75) hpre0).2)) (show aS 88 S = ab from by first | (exact (xC_o (W := 88) hpre0).1.trans hpre1)) (show cC ab [] (kC S) B from by first | (rw [(xK_o (W := 88) hpre0 rfl).2]; exact hpre2) | (exact hpre2)) (show 2 = 2 ∧ ¬ ((0 ≤ i.toInt ∧ i.toInt ≤ 15) ∧ (0 ≤ rt.toInt ∧ rt.toInt ≤ 15)) from by first | (exact ⟨rfl, by omega⟩)) (show zfP 84 (mI S) = fq from by first | (exact hpre4))
      · skip
        have g13 := i_nlt h11
        refine zd (fun h14 => ?_) (fun h14 => ?_)
        · skip
          have g15 := i_le h14
          exact KX 2 _ (by decide) hI (show xB S (mR S 70) from by first | (exact xB_x (xC_o (W := 75) hpre0).2)) (show aS 88 S = ab from by first | (exact (xC_o (W := 88) hpre0).1.trans hpre1)) (show cC ab [] (kC S) B from by first | (rw [(xK_o (W := 88) hpre0 rfl).2]; exact hpre2) | (exact hpre2)) (show 2 = 2 ∧ ¬ ((0 ≤ i.toInt ∧ i.toInt ≤ 15) ∧ (0 ≤ rt.toInt ∧ rt.toInt ≤ 15)) from by first | (exact ⟨rfl, by omega⟩)) (show zfP 84 (mI S) = fq from by first | (exact hpre4))
        · skip
          have g16 := i_nle h14
          refine ⟨((zG_r hI (by decide)).trans hr), ?_⟩
          refine ⟨((zG_r hI (by decide)).trans hr), ?_⟩
          refine ⟨i_ix (by omega) (by omega), ?_⟩
          have b17 := i_bd (mI S 73 i.toNatClampNeg)
          refine zd (fun h18 => ?_) (fun h18 => ?_)
          · skip
            have g19 := i_lt h18
            have li20 : (-1 : Int32).toInt = -1 := rfl
            exact K ((-1 : Int32)) _ hI trivial (show xB S (mR S 70) from by first | (exact xB_x (xC_o (W := 75) hpre0).2)) (show cC (aS 88 S) [] (kC S) B from by first | (rw [hpre1]; exact hpre2)) (show (0 ≤ i.toInt ∧ i.toInt ≤ 15) ∧ (0 ≤ rt.toInt ∧ rt.toInt ≤ 15) ∧ ((aNm ab (ab 73 i.toNatClampNeg) = -1 ∧ aS 88 S = ab ∧ (-1 : Int32) = -1) ∨ (aNm ab (ab 73 i.toNatClampNeg) = ab 73 i.toNatClampNeg ∧ 0 ≤ (ab 73 i.toNatClampNeg).toInt ∧ aS 88 S = cLe (aR0 ab rt (ab 73 i.toNatClampNeg)) (ab 72 rt.toNatClampNeg) ∧ (-1 : Int32) = ab 73 i.toNatClampNeg)) from by first | (have we : mI S 73 i.toNatClampNeg = ab 73 i.toNatClampNeg := (aS_I (W := 88) (S := S) (c := 73) (c₉ := 73) (k := i.toNatClampNeg) rfl rfl).symm.trans (congrFun (congrFun hpre1 73) i.toNatClampNeg); have wi := congrArg Int32.toInt we; refine ⟨⟨by omega, by omega⟩, ⟨by omega, by omega⟩, ?_⟩; exact Or.inl ⟨if_neg (fun q => by omega), hpre1, rfl⟩)) (show zfP 84 (mI S) = fq from by first | (exact hpre4))
          · skip
            have g21 := i_nlt h18
            have li22 : (512 : Int32).toInt = 512 := rfl
            refine zd (fun h23 => ?_) (fun h23 => ?_)
            · skip
              have g24 := i_le h23
              have li25 : (-1 : Int32).toInt = -1 := rfl
              exact K ((-1 : Int32)) _ hI trivial (show xB S (mR S 70) from by first | (exact xB_x (xC_o (W := 75) hpre0).2)) (show cC (aS 88 S) [] (kC S) B from by first | (rw [hpre1]; exact hpre2)) (show (0 ≤ i.toInt ∧ i.toInt ≤ 15) ∧ (0 ≤ rt.toInt ∧ rt.toInt ≤ 15) ∧ ((aNm ab (ab 73 i.toNatClampNeg) = -1 ∧ aS 88 S = ab ∧ (-1 : Int32) = -1) ∨ (aNm ab (ab 73 i.toNatClampNeg) = ab 73 i.toNatClampNeg ∧ 0 ≤ (ab 73 i.toNatClampNeg).toInt ∧ aS 88 S = cLe (aR0 ab rt (ab 73 i.toNatClampNeg)) (ab 72 rt.toNatClampNeg) ∧ (-1 : Int32) = ab 73 i.toNatClampNeg)) from by first | (have we : mI S 73 i.toNatClampNeg = ab 73 i.toNatClampNeg := (aS_I (W := 88) (S := S) (c := 73) (c₉ := 73) (k := i.toNatClampNeg) rfl rfl).symm.trans (congrFun (congrFun hpre1 73) i.toNatClampNeg); have wi := congrArg Int32.toInt we; refine ⟨⟨by omega, by omega⟩, ⟨by omega, by omega⟩, ?_⟩; exact Or.inl ⟨if_neg (fun q => by omega), hpre1, rfl⟩)) (show zfP 84 (mI S) = fq from by first | (exact hpre4))
            · skip
              have g26 := i_nle h23
              refine ⟨i_ix (by omega) (by omega), ?_⟩
              refine ⟨fun hc => ?_, fun c1 hc => ?_⟩
              · skip
                have rn_c1 : zTa (mR S 70) (mI S 73 i.toNatClampNeg) = none := (ta_rd (y := (mI S 73 i.toNatClampNeg)) hpre0 (by omega) (by omega)).symm.trans hc
                have li27 : (-1 : Int32).toInt = -1 := rfl
                exact K ((-1 : Int32)) _ hI trivial (show xB S (mR S 70) from by first | (exact xB_x (xC_o (W := 75) hpre0).2)) (show cC (aS 88 S) [] (kC S) B from by first | (rw [hpre1]; exact hpre2)) (show (0 ≤ i.toInt ∧ i.toInt ≤ 15) ∧ (0 ≤ rt.toInt ∧ rt.toInt ≤ 15) ∧ ((aNm ab (ab 73 i.toNatClampNeg) = -1 ∧ aS 88 S = ab ∧ (-1 : Int32) = -1) ∨ (aNm ab (ab 73 i.toNatClampNeg) = ab 73 i.toNatClampNeg ∧ 0 ≤ (ab 73 i.toNatClampNeg).toInt ∧ aS 88 S = cLe (aR0 ab rt (ab 73 i.toNatClampNeg)) (ab 72 rt.toNatClampNeg) ∧ (-1 : Int32) = ab 73 i.toNatClampNeg)) from by first | (have we : mI S 73 i.toNatClampNeg = ab 73 i.toNatClampNeg := (aS_I (W := 88) (S := S) (c := 73) (c₉ := 73) (k := i.toNatClampNeg) rfl rfl).symm.trans (congrFun (congrFun hpre1 73) i.toNatClampNeg); have wi := congrArg Int32.toInt we; have nn := nm_n (W := 88) hpre0 rn_c1; rw [hpre1, we] at nn; refine ⟨⟨by omega, by omega⟩, ⟨by omega, by omega⟩, ?_⟩; exact Or.inl ⟨nn, hpre1, rfl⟩)) (show zfP 84 (mI S) = fq from by first | (exact hpre4))
              · skip
                have th_c1 := (fun _ z => zG_70 hI (c := 70) (by decide) z) c1 hc
                have rg_c1 : zTa (mR S 70) (mI S 73 i.toNatClampNeg) = some c1 := (ta_rd (y := (mI S 73 i.toNatClampNeg)) hpre0 (by omega) (by omega)).symm.trans hc
                refine sp_145_64_84_sk (ab := (aS 88 S)) (R := (mR S 70)) (W := 88) (y := ((mI S 73 i.toNatClampNeg))) (kk := (kC S)) (B := B) (fq := (zfP 84 (mI S))) (n0 := (zN0 S)) (rt) ((some c1)) (by omega) (by omega) (zB_dn_zJ84 hI) (fun _ z => by cases z; exact th_c1) (show xB S (mR S 70) from by first | (exact (xC_o (W := 88) hpre0).2)) (show aS 88 S = (aS 88 S) from by first | (exact rfl)) (show xW 88 from by first | (exact xW88) | (exact xW75)) (show (some c1) = zTa (mR S 70) ((mI S 73 i.toNatClampNeg)) from by first | (exact rg_c1.symm)) (by omega) (by omega) (show kC S = (kC S) from by first | (exact rfl)) (show cC (aS 88 S) [] (kC S) B from by first | (rw [hpre1]; exact hpre2)) (show B ≤ 1000000 from by first | (exact hpre3)) (show zfP 84 (mI S) = (zfP 84 (mI S)) from by first | (exact rfl)) (show zN0 S = (zN0 S) from by first | (exact rfl)) (fun v3 S2 hL_S2 hq_v3 rp0_S2 rp1_S2 rp2_S2 rp3_S2 rp4_S2 rp5_S2 => zo_n ⟨zG_T hL_S2, ?_⟩)
                have hI_S2 := zB_up_zJ84 hI hL_S2
                have rp0_S2 : xB S2 (mR S2 70) := by
                  have z := rp0_S2
                  (try rw [show mI S 65 = f 65 from funext (fun k => zG_z hI rfl)] at z)
                  (try rw [show mI S 64 1 = f 64 1 from zG_z hI rfl] at z)
                  exact z
                have rp1_S2 : aS 88 S2 = cLe (aR0 (aS 88 S) rt ((mI S 73 i.toNatClampNeg))) ((aS 88 S) 72 rt.toNatClampNeg) := by
                  have z := rp1_S2
                  (try rw [show mI S 65 = f 65 from funext (fun k => zG_z hI rfl)] at z)
                  (try rw [show mI S 64 1 = f 64 1 from zG_z hI rfl] at z)
                  exact z
                have rp2_S2 : v3 = zTa (mR S 70) ((aS 88 S) 72 rt.toNatClampNeg) := by
                  have z := rp2_S2
                  (try rw [show mI S 65 = f 65 from funext (fun k => zG_z hI rfl)] at z)
                  (try rw [show mI S 64 1 = f 64 1 from zG_z hI rfl] at z)
                  exact z
                have rp3_S2 : cC (aS 88 S2) [] (kC S2) B := by
                  have z := rp3_S2
                  (try rw [show mI S 65 = f 65 from funext (fun k => zG_z hI rfl)] at z)
                  (try rw [show mI S 64 1 = f 64 1 from zG_z hI rfl] at z)
                  exact z
                have rp4_S2 : zfP 84 (mI S2) = (zfP 84 (mI S)) := by
                  have z := rp4_S2
                  (try rw [show mI S 65 = f 65 from funext (fun k => zG_z hI rfl)] at z)
                  (try rw [show mI S 64 1 = f 64 1 from zG_z hI rfl] at z)
                  exact z
                have rp5_S2 : zN0 S2 = (zN0 S) := by
                  have z := rp5_S2
                  (try rw [show mI S 65 = f 65 from funext (fun k => zG_z hI rfl)] at z)
                  (try rw [show mI S 64 1 = f 64 1 from zG_z hI rfl] at z)
                  exact z
                refine ⟨zG_n hI_S2 th_c1, ?_⟩
                have f28 := zG_th hI_S2 th_c1
                exact K ((mI S2 c1 0)) _ hI_S2 trivial (show xB S2 (mR S2 70) from by first | (exact xB_x (xC_o (W := 75) rp0_S2).2)) (show cC (aS 88 S2) [] (kC S2) B from by first | (exact rp3_S2)) (show (0 ≤ i.toInt ∧ i.toInt ≤ 15) ∧ (0 ≤ rt.toInt ∧ rt.toInt ≤ 15) ∧ ((aNm ab (ab 73 i.toNatClampNeg) = -1 ∧ aS 88 S2 = ab ∧ (mI S2 c1 0) = -1) ∨ (aNm ab (ab 73 i.toNatClampNeg) = ab 73 i.toNatClampNeg ∧ 0 ≤ (ab 73 i.toNatClampNeg).toInt ∧ aS 88 S2 = cLe (aR0 ab rt (ab 73 i.toNatClampNeg)) (ab 72 rt.toNatClampNeg) ∧ (mI S2 c1 0) = ab 73 i.toNatClampNeg)) from by first | (have we : mI S 73 i.toNatClampNeg = ab 73 i.toNatClampNeg := (aS_I (W := 88) (S := S) (c := 73) (c₉ := 73) (k := i.toNatClampNeg) rfl rfl).symm.trans (congrFun (congrFun hpre1 73) i.toNatClampNeg); have wi := congrArg Int32.toInt we; have nn := nm_y (W := 88) hpre0 rg_c1; rw [hpre1, we] at nn; have w0 := (zTa_p rg_c1).1; have st := rp1_S2; rw [hpre1, we] at st; have tn := (n0_k rp5_S2 th_c1.1 (Or.inl rfl)).trans (xB_th (W := 88) hpre0 rg_c1).2.2.1; refine ⟨⟨by omega, by omega⟩, ⟨by omega, by omega⟩, ?_⟩; exact Or.inr ⟨nn, (by omega), st, tn.trans we⟩)) (show zfP 84 (mI S2) = fq from by first | (exact (rp4_S2.trans hpre4)))

/-! from 95.m37 -/
/-! COUNTS, the class (written by wip/tools/gen20k.py) -/
theorem g_158_64_sk_p84_0 {X : Nat × (Nat → Int32)} {d w : Nat} {S : ma_S} {Q : Option ma_V ⊕ Nat → ma_S → Prop} (rt : Int32) (hd : 7 ≤ d) (hw : 134 ≤ w) (hS : zT S) (h : if rt < 0 then (Q (.inr 2) (ma_bump S)) else (if (16 : Int32) ≤ rt then (Q (.inr 2) (ma_bump S)) else (mR S 64 11 = some 84 ∧ (mR S 64 11 = some 84 ∧ (ma_wp X (d - 1) (w - 22) 98 0 [(0, .inr (.inr (some 69)))] [] S (zo (fun v2 S1 => zT S1 ∧ ((v2 = none → Q (.inl (some (.inl (-1 : Int32)))) S1) ∧ (∀ c3, v2 = some c3 → ma_wp X (d - 1) (w - 24) 145 0 [(0, .inr (.inr (some 64))), (1, .inr (.inr (some 84))), (2, .inl rt), (3, .inr (.inr (some c3)))] [] S1 (zo (fun v5 S4 => zT S4 ∧ ((126 ≤ c3 ∧ c3 < mN S4) ∧ (Q (.inl (some (.inl (mI S4 c3 0)))) S4))) (fun x S9 => Q (.inr x) S9))))) (fun x S9 => Q (.inr x) S9))))))) : ma_wp X d w 158 0 [(0, .inr (.inr (some 64))), (1, .inl rt)] [] S Q := by
  refine zw_push hm_158 dX11_granted_0 (v := .inl rt) rfl ?_
  refine zw_cs hm_158 dX11_granted_1 pn_11_109 sl_11_109 hm_142 [.inl rt] [] rfl ⟨by omega, by omega⟩ rfl ?_
  show ma_wp X (d - 1) (w - 20) 142 0 [(0, .inl rt)] [] S _
  refine zw_push hm_142 dX11_isSlot_0 (v := .inl rt) rfl ?_
  refine zw_if0 hm_142 dX11_isSlot_1 (t := 14) rfl zc0_lt ?_ ?_
  · intro hc
    rw [if_pos hc] at h
    refine zw_push hm_142 dX11_isSlot_14 (v := .inl (0 : Int32)) rfl ?_
    refine zw_bret hm_142 dX11_isSlot_15 (by decide) ?_
    show ma_wp X d w 158 4 [(0, .inr (.inr (some 64))), (1, .inl rt)] [.inl (0 : Int32)] S _
    refine zw_if0 hm_158 dX11_granted_4 (t := 15) rfl zc0_ne (fun hc => absurd hc (by decide)) (fun _ => ?_)
    exact zw_thr hm_158 dX11_granted_7 dX11_granted_10 dX11_granted_11 dX11_granted_14 x_11_79_81 n_11_79 (by omega) (by show 0 + 81 ≤ w; omega) h
  · intro hc
    rw [if_neg hc] at h
    refine zw_push hm_142 dX11_isSlot_4 (v := .inl rt) rfl ?_
    refine zw_push hm_142 dX11_isSlot_5 (v := .inl (16 : Int32)) rfl ?_
    refine zw_if2 hm_142 dX11_isSlot_7 (t := 14) rfl zc2_ge ?_ ?_
    · intro hc
      rw [if_pos hc] at h
      refine zw_push hm_142 dX11_isSlot_14 (v := .inl (0 : Int32)) rfl ?_
      refine zw_bret hm_142 dX11_isSlot_15 (by decide) ?_
      show ma_wp X d w 158 4 [(0, .inr (.inr (some 64))), (1, .inl rt)] [.inl (0 : Int32)] S _
      refine zw_if0 hm_158 dX11_granted_4 (t := 15) rfl zc0_ne (fun hc => absurd hc (by decide)) (fun _ => ?_)
      exact zw_thr hm_158 dX11_granted_7 dX11_granted_10 dX11_granted_11 dX11_granted_14 x_11_79_81 n_11_79 (by omega) (by show 0 + 81 ≤ w; omega) h
    · intro hc
      rw [if_neg hc] at h
      refine zw_push hm_142 dX11_isSlot_10 (v := .inl (1 : Int32)) rfl ?_
      refine zw_goto hm_142 dX11_isSlot_11 (t := 15) rfl ?_
      refine zw_bret hm_142 dX11_isSlot_15 (by decide) ?_
      show ma_wp X d w 158 4 [(0, .inr (.inr (some 64))), (1, .inl rt)] [.inl (1 : Int32)] S _
      refine zw_if0 hm_158 dX11_granted_4 (t := 15) rfl zc0_ne (fun _ => ?_) (fun hc => absurd (by decide) hc)
      refine zw_push hm_158 dX11_granted_15 (v := .inr (.inr (some 64))) rfl ?_
      refine zw_cv hm_158 dX11_granted_16 v_11_119_11 hm_144 [] [] rfl (zT_rt hS s_64 rfl) ⟨by omega, by omega⟩ rfl ?_
      show ma_wp X (d - 1) (w - 20) 144 0 [(0, .inr (.inr (some 64)))] [] S _
      refine zw_push hm_144 dX11_needCollector_0 (v := .inr (.inr (some 64))) rfl ?_
      obtain ⟨hg, h⟩ := h
      refine zw_gf hm_144 dX11_needCollector_1 (v := .inr (.inr (some 84))) (zT_is hS s_64) (zT_t hS s_64) rfl f_11_98_11 (congrArg (fun z => Sum.inr (Sum.inr z)) hg) ?_
      refine zw_ifnonnull hm_144 dX11_needCollector_4 (t := 15) rfl (fun z => by cases z) (fun _ _ => ?_)
      refine zw_push hm_144 dX11_needCollector_15 (v := .inr (.inr (some 64))) rfl ?_
      obtain ⟨hg, h⟩ := h
      refine zw_gf hm_144 dX11_needCollector_16 (v := .inr (.inr (some 84))) (zT_is hS s_64) (zT_t hS s_64) rfl f_11_98_11 (congrArg (fun z => Sum.inr (Sum.inr z)) hg) ?_
      refine zw_aret hm_144 dX11_needCollector_19 ?_
      show ma_wp X d w 158 19 [(0, .inr (.inr (some 64))), (1, .inl rt)] [.inr (.inr (some 84))] S _
      refine zw_sto hm_158 dX11_granted_19 [(2, .inr (.inr (some 84))), (0, .inr (.inr (some 64))), (1, .inl rt)] rfl rfl rfl ?_
      refine zw_push hm_158 dX11_granted_20 (v := .inr (.inr (some 64))) rfl ?_
      refine zw_gf hm_158 dX11_granted_21 (v := .inr (.inr (some 69))) (zT_is hS s_64) (zT_t hS s_64) rfl f_11_26_11 (zT_f hS r_64_8) ?_
      refine zw_cv hm_158 dX11_granted_24 v_11_203_7 hm_98 [] [] rfl (zT_rt hS s_69 rfl) ⟨by omega, by omega⟩ rfl (zw_mono h (zo_go ?_ ?_))
      · intro v2 S1 hv
        obtain ⟨hS1, h⟩ := hv
        refine zw_sto hm_158 dX11_granted_27 [(3, .inr (.inr v2)), (2, .inr (.inr (some 84))), (0, .inr (.inr (some 64))), (1, .inl rt)] rfl rfl rfl ?_
        refine zw_push hm_158 dX11_granted_28 (v := .inr (.inr v2)) rfl ?_
        refine zw_ifnonnull hm_158 dX11_granted_29 (t := 34) rfl ?_ ?_
        · intro hc
          have h := h.1 hc
          (try rw [hc])
          show ma_wp X d w 158 32 [(3, .inr (.inr none)), (2, .inr (.inr (some 84))), (0, .inr (.inr (some 64))), (1, .inl rt)] [] S1 _
          refine zw_push hm_158 dX11_granted_32 (v := .inl (-1 : Int32)) rfl ?_
          exact zw_iret hm_158 dX11_granted_33 h
        · intro c3 hc
          have h := h.2 c3 hc
          (try rw [hc])
          show ma_wp X d w 158 34 [(3, .inr (.inr (some c3))), (2, .inr (.inr (some 84))), (0, .inr (.inr (some 64))), (1, .inl rt)] [] S1 _
          refine zw_push hm_158 dX11_granted_34 (v := .inr (.inr (some 64))) rfl ?_
          refine zw_push hm_158 dX11_granted_35 (v := .inr (.inr (some 84))) rfl ?_
          refine zw_push hm_158 dX11_granted_36 (v := .inl rt) rfl ?_
          refine zw_push hm_158 dX11_granted_37 (v := .inr (.inr (some c3))) rfl ?_
          refine zw_cv hm_158 dX11_granted_38 v_11_169_11 hm_145 [.inr (.inr (some c3)), .inl rt, .inr (.inr (some 84))] [] rfl (zT_rt hS1 s_64 rfl) ⟨by omega, by omega⟩ rfl (zw_mono h (zo_go ?_ ?_))
          · intro v5 S4 hv
            obtain ⟨hS4, h⟩ := hv
            refine zw_stk hm_158 dX11_granted_41 (st₉ := []) rfl rfl ?_
            refine zw_push hm_158 dX11_granted_42 (v := .inr (.inr (some c3))) rfl ?_
            obtain ⟨hg, h⟩ := h
            refine zw_gf hm_158 dX11_granted_43 (v := .inl (mI S4 c3 0)) (zT_tis hS4 hg) (zT_tt hS4 hg) rfl f_11_182_9 rfl ?_
            exact zw_iret hm_158 dX11_granted_46 h
          · intro x S9 hx
            exact ⟨by decide, hx⟩
      · intro x S9 hx
        exact ⟨by decide, hx⟩
theorem sp_158_64_sk_p84 {X : Nat × (Nat → Int32)} {d w : Nat} {f : Nat → Nat → Int32} {r : Nat → Nat → Option Nat} {C Z N : Nat} {Q : Option ma_V ⊕ Nat → ma_S → Prop} {ab : Nat→Nat→Int32} {B : Int} {fq : Nat→Int32} {S : ma_S} (rt : Int32) (hd : 7 ≤ d) (hw : 134 ≤ w) (hI : zB f r C Z N S) (hr : r 64 11 = some 84) (hpre0 : xB S (mR S 70)) (hpre1 : aS 88 S = ab) (hpre2 : cC ab [] (kC S) B) (hpre3 : B ≤ 1000000) (hpre4 : zfP 84 (mI S) = fq) (K : ∀ v S₉, zB f r C Z N S₉ → (True) → (xB S₉ (mR S₉ 70)) → (cC (aS 88 S₉) [] (kC S₉) B) → ((0 ≤ rt.toInt ∧ rt.toInt ≤ 15) ∧ ((aNm ab (aTy ab) = -1 ∧ aS 88 S₉ = aTw ab ∧ v = -1) ∨ (aNm ab (aTy ab) = aTy ab ∧ 0 ≤ (aTy ab).toInt ∧ aS 88 S₉ = cLe (aR0 (aTw ab) rt (aTy ab)) (aTw ab 72 rt.toNatClampNeg) ∧ v = aTy ab))) → (zfP 84 (mI S₉) = fq) → Q (.inl (some (.inl v))) S₉) (KX : ∀ x S₉, (x = 2) → zB f r C Z N S₉ → (xB S₉ (mR S₉ 70)) → (aS 88 S₉ = ab) → (cC ab [] (kC S₉) B) → (x = 2 ∧ ¬ (0 ≤ rt.toInt ∧ rt.toInt ≤ 15)) → (zfP 84 (mI S₉) = fq) → Q (.inr x) (ma_bump S₉)) : ma_wp X d w 158 0 [(0, .inr (.inr (some 64))), (1, .inl rt)] [] S Q := by
  refine g_158_64_sk_p84_0 rt (by omega) (by omega) (zG_T hI) ?_
  have b1 := i_bd rt
  have li2 : (0 : Int32).toInt = 0 := rfl
  refine zd (fun h3 => ?_) (fun h3 => ?_)
  · skip
    have g4 := i_lt h3
    exact KX 2 _ (by decide) hI (show xB S (mR S 70) from by first | (exact xB_x (xC_o (W := 75) hpre0).2)) (show aS 88 S = ab from by first | (exact (xC_o (W := 88) hpre0).1.trans hpre1)) (show cC ab [] (kC S) B from by first | (rw [(xK_o (W := 88) hpre0 rfl).2]; exact hpre2) | (exact hpre2)) (show 2 = 2 ∧ ¬ (0 ≤ rt.toInt ∧ rt.toInt ≤ 15) from by first | (exact ⟨rfl, by omega⟩)) (show zfP 84 (mI S) = fq from by first | (exact hpre4))
  · skip
    have g5 := i_nlt h3
    have li6 : (16 : Int32).toInt = 16 := rfl
    refine zd (fun h7 => ?_) (fun h7 => ?_)
    · skip
      have g8 := i_le h7
      exact KX 2 _ (by decide) hI (show xB S (mR S 70) from by first | (exact xB_x (xC_o (W := 75) hpre0).2)) (show aS 88 S = ab from by first | (exact (xC_o (W := 88) hpre0).1.trans hpre1)) (show cC ab [] (kC S) B from by first | (rw [(xK_o (W := 88) hpre0 rfl).2]; exact hpre2) | (exact hpre2)) (show 2 = 2 ∧ ¬ (0 ≤ rt.toInt ∧ rt.toInt ≤ 15) from by first | (exact ⟨rfl, by omega⟩)) (show zfP 84 (mI S) = fq from by first | (exact hpre4))
    · skip
      have g9 := i_nle h7
      refine ⟨((zG_r hI (by decide)).trans hr), ?_⟩
      refine ⟨((zG_r hI (by decide)).trans hr), ?_⟩
      refine sp_98_69_sk (ab := (aS 88 S)) (R := (mR S 70)) (W := 88) (kk := (kC S)) (n0 := (zN0 S)) (by omega) (by omega) (zB_dn_zI hI) (show xB S (mR S 70) from by first | (exact (xC_o (W := 75) hpre0).2)) (show aS 88 S = (aS 88 S) from by first | (exact rfl)) (show xW 88 from by first | (exact xW88) | (exact xW75)) (show kC S = (kC S) from by first | (exact rfl)) (show zN0 S = (zN0 S) from by first | (exact rfl)) (fun v2 S1 hL_S1 hq_v2 rp0_S1 rp1_S1 rp2_S1 rp3_S1 => zo_n ⟨zG_T hL_S1, ?_⟩)
      have hI_S1 := zB_up_zI hI hL_S1
      have rp0_S1 : xB S1 (mR S 70) := by
        have z := rp0_S1
        (try rw [show mI S 65 = f 65 from funext (fun k => zG_z hI rfl)] at z)
        (try rw [show mI S 64 1 = f 64 1 from zG_z hI rfl] at z)
        exact z
      have rp1_S1 : v2 = zTa (mR S 70) (aTy (aS 88 S)) ∧ aS 88 S1 = aTw (aS 88 S) := by
        have z := rp1_S1
        (try rw [show mI S 65 = f 65 from funext (fun k => zG_z hI rfl)] at z)
        (try rw [show mI S 64 1 = f 64 1 from zG_z hI rfl] at z)
        exact z
      have rp2_S1 : ∀ n, xAl (aS 88 S) n → kC S1 n = (kC S) n - (if 0 < ((aS 88 S) 69 5).toInt then Int32.ofNat (cIs ((aS 88 S) 74 0) n) else 0) := by
        have z := rp2_S1
        (try rw [show mI S 65 = f 65 from funext (fun k => zG_z hI rfl)] at z)
        (try rw [show mI S 64 1 = f 64 1 from zG_z hI rfl] at z)
        exact z
      have rp3_S1 : zN0 S1 = (zN0 S) := by
        have z := rp3_S1
        (try rw [show mI S 65 = f 65 from funext (fun k => zG_z hI rfl)] at z)
        (try rw [show mI S 64 1 = f 64 1 from zG_z hI rfl] at z)
        exact z
      refine ⟨fun hc => ?_, fun c3 hc => ?_⟩
      · skip
        have rn_c3 : zTa (mR S 70) (aTy (aS 88 S)) = none := rp1_S1.1.symm.trans hc
        have li10 : (-1 : Int32).toInt = -1 := rfl
        exact K ((-1 : Int32)) _ hI_S1 trivial (show xB S1 (mR S1 70) from by first | (exact xB_x (xC_o (W := 75) rp0_S1).2)) (show cC (aS 88 S1) [] (kC S1) B from by first | (have tw := rp1_S1; rw [tw.2, hpre1]; exact (C_tw hpre2 (fun n hn => by have q := rp2_S1 n (by rw [hpre1]; exact hn); rw [hpre1] at q; exact q)).1)) (show (0 ≤ rt.toInt ∧ rt.toInt ≤ 15) ∧ ((aNm ab (aTy ab) = -1 ∧ aS 88 S1 = aTw ab ∧ (-1 : Int32) = -1) ∨ (aNm ab (aTy ab) = aTy ab ∧ 0 ≤ (aTy ab).toInt ∧ aS 88 S1 = cLe (aR0 (aTw ab) rt (aTy ab)) (aTw ab 72 rt.toNatClampNeg) ∧ (-1 : Int32) = aTy ab)) from by first | (have tw := rp1_S1; rw [hpre1] at tw; have nn := nm_n (W := 88) hpre0 rn_c3; rw [hpre1] at nn; refine ⟨⟨by omega, by omega⟩, Or.inl ⟨nn, tw.2, rfl⟩⟩)) (show zfP 84 (mI S1) = fq from by first | (exact ((zf_fr (P := 84) (S₉ := S1) (S := S) (fun _ => zG_z hL_S1 rfl)).trans hpre4)))
      · skip
        have th_c3 := hq_v2 c3 hc
        have rg_c3 : zTa (mR S 70) (aTy (aS 88 S)) = some c3 := rp1_S1.1.symm.trans hc
        subst hc
        refine sp_145_64_84_sk (ab := (aS 88 S1)) (R := (mR S 70)) (W := 88) (y := ((aTy (aS 88 S)))) (kk := (kC S1)) (B := B) (fq := (zfP 84 (mI S1))) (n0 := (zN0 S1)) (rt) ((some c3)) (by omega) (by omega) (zB_dn_zJ84 hI_S1) (fun _ z => by cases z; exact th_c3) (show xB S1 (mR S 70) from by first | (exact (xC_o (W := 88) rp0_S1).2)) (show aS 88 S1 = (aS 88 S1) from by first | (exact rfl)) (show xW 88 from by first | (exact xW88) | (exact xW75)) (show (some c3) = zTa (mR S 70) ((aTy (aS 88 S))) from by first | (exact rg_c3.symm)) (by omega) (by omega) (show kC S1 = (kC S1) from by first | (exact rfl)) (show cC (aS 88 S1) [] (kC S1) B from by first | (have tw := rp1_S1; rw [tw.2, hpre1]; exact (C_tw hpre2 (fun n hn => by have q := rp2_S1 n (by rw [hpre1]; exact hn); rw [hpre1] at q; exact q)).1)) (show B ≤ 1000000 from by first | (exact hpre3)) (show zfP 84 (mI S1) = (zfP 84 (mI S1)) from by first | (exact rfl)) (show zN0 S1 = (zN0 S1) from by first | (exact rfl)) (fun v5 S4 hL_S4 hq_v5 rp0_S4 rp1_S4 rp2_S4 rp3_S4 rp4_S4 rp5_S4 => zo_n ⟨zG_T hL_S4, ?_⟩)
        have hI_S4 := zB_up_zJ84 hI_S1 hL_S4
        have rp0_S4 : xB S4 (mR S4 70) := by
          have z := rp0_S4
          (try rw [show mI S1 65 = f 65 from funext (fun k => zG_z hI_S1 rfl)] at z)
          (try rw [show mI S1 64 1 = f 64 1 from zG_z hI_S1 rfl] at z)
          exact z
        have rp1_S4 : aS 88 S4 = cLe (aR0 (aS 88 S1) rt ((aTy (aS 88 S)))) ((aS 88 S1) 72 rt.toNatClampNeg) := by
          have z := rp1_S4
          (try rw [show mI S1 65 = f 65 from funext (fun k => zG_z hI_S1 rfl)] at z)
          (try rw [show mI S1 64 1 = f 64 1 from zG_z hI_S1 rfl] at z)
          exact z
        have rp2_S4 : v5 = zTa (mR S 70) ((aS 88 S1) 72 rt.toNatClampNeg) := by
          have z := rp2_S4
          (try rw [show mI S1 65 = f 65 from funext (fun k => zG_z hI_S1 rfl)] at z)
          (try rw [show mI S1 64 1 = f 64 1 from zG_z hI_S1 rfl] at z)
          exact z
        have rp3_S4 : cC (aS 88 S4) [] (kC S4) B := by
          have z := rp3_S4
          (try rw [show mI S1 65 = f 65 from funext (fun k => zG_z hI_S1 rfl)] at z)
          (try rw [show mI S1 64 1 = f 64 1 from zG_z hI_S1 rfl] at z)
          exact z
        have rp4_S4 : zfP 84 (mI S4) = (zfP 84 (mI S1)) := by
          have z := rp4_S4
          (try rw [show mI S1 65 = f 65 from funext (fun k => zG_z hI_S1 rfl)] at z)
          (try rw [show mI S1 64 1 = f 64 1 from zG_z hI_S1 rfl] at z)
          exact z
        have rp5_S4 : zN0 S4 = (zN0 S1) := by
          have z := rp5_S4
          (try rw [show mI S1 65 = f 65 from funext (fun k => zG_z hI_S1 rfl)] at z)
          (try rw [show mI S1 64 1 = f 64 1 from zG_z hI_S1 rfl] at z)
          exact z
        refine ⟨zG_n hI_S4 th_c3, ?_⟩
        have f11 := zG_th hI_S4 th_c3
        exact K ((mI S4 c3 0)) _ hI_S4 trivial (show xB S4 (mR S4 70) from by first | (exact xB_x (xC_o (W := 75) rp0_S4).2)) (show cC (aS 88 S4) [] (kC S4) B from by first | (exact rp3_S4)) (show (0 ≤ rt.toInt ∧ rt.toInt ≤ 15) ∧ ((aNm ab (aTy ab) = -1 ∧ aS 88 S4 = aTw ab ∧ (mI S4 c3 0) = -1) ∨ (aNm ab (aTy ab) = aTy ab ∧ 0 ≤ (aTy ab).toInt ∧ aS 88 S4 = cLe (aR0 (aTw ab) rt (aTy ab)) (aTw ab 72 rt.toNatClampNeg) ∧ (mI S4 c3 0) = aTy ab)) from by first | (have tw := rp1_S1; rw [hpre1] at tw; have nn := nm_y (W := 88) hpre0 rg_c3; rw [hpre1] at nn; have w0 := (zTa_p rg_c3).1; rw [hpre1] at w0; have st := rp1_S4; rw [tw.2, hpre1] at st; have tn := (n0_k rp5_S4 th_c3.1 (Or.inl rfl)).trans (xB_th (W := 88) rp0_S1 rg_c3).2.2.1; rw [hpre1] at tn; refine ⟨⟨by omega, by omega⟩, Or.inr ⟨nn, w0, st, tn⟩⟩)) (show zfP 84 (mI S4) = fq from by first | (exact (rp4_S4.trans ((zf_fr (P := 84) (S₉ := S1) (S := S) (fun _ => zG_z hL_S1 rfl)).trans hpre4))))

