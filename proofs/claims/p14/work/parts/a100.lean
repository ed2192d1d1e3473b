/-! from 95.g37 -/
/-! the heap by numbers, the class (written by wip/tools/gen18.py) -/
/-! A NEW THING'S CELL -/
section B12
variable {W c k n : Nat} {S : ma_S} {nu kd sz pl x y : Int32} {rr : Int64} {R : zRT} {a : Nat → Nat → Int32}
def zFn (nu kd sz pl : Int32) : Nat → Int32 := fun k => if k = 4 then pl else if k = 2 then sz else if k = 1 then kd else if k = 0 then nu else 0
theorem zTh_ne (z : c ≠ mN S) : mI (zTh S nu kd sz rr pl) c k = mI S c k := by
  show (if c = mN S ∧ k = 4 then pl else if c = mN S ∧ k = 2 then sz else if c = mN S ∧ k = 1 then kd else if c = mN S ∧ k = 0 then nu else (ma_uc (mI S) (mN S) (fun _ => 0)) c k) = _
  have : (ma_uc (mI S) (mN S) (fun _ => 0)) c k = mI S c k := by unfold ma_uc; simp [z]
  rw [this]
  simp [z]
theorem zTh_eq : mI (zTh S nu kd sz rr pl) (mN S) = zFn nu kd sz pl := by
  funext k
  show (if mN S = mN S ∧ k = 4 then pl else if mN S = mN S ∧ k = 2 then sz else if mN S = mN S ∧ k = 1 then kd else if mN S = mN S ∧ k = 0 then nu else (ma_uc (mI S) (mN S) (fun _ => 0)) (mN S) k) = _
  have : (ma_uc (mI S) (mN S) (fun _ => 0)) (mN S) k = 0 := by unfold ma_uc; simp
  rw [this]
  unfold zFn
  simp
theorem zTh_Ln (z : c ≠ mN S) : mL (zTh S nu kd sz rr pl) c k = mL S c k := by
  show (if c = mN S ∧ k = 3 then rr else (ma_uc (mL S) (mN S) (fun _ => 0)) c k) = _
  rw [if_neg (fun w => z w.1)]
  unfold ma_uc
  simp [z]
theorem zTh_L3 : mL (zTh S nu kd sz rr pl) (mN S) 3 = rr := by
  show (if mN S = mN S ∧ 3 = 3 then rr else (ma_uc (mL S) (mN S) (fun _ => 0)) (mN S) 3) = _
  rw [if_pos ⟨rfl, rfl⟩]
theorem zTh_R (hN : 126 ≤ mN S) : mR (zTh S nu kd sz rr pl) 70 = mR S 70 := by
  funext k
  show (ma_uc (mR S) (mN S) (fun _ => none)) 70 k = _
  unfold ma_uc
  rw [if_neg (by omega)]
theorem mk_B (hB : xB S (mR S 70)) (hN : 126 ≤ mN S) (hr : ∀ n c, mR S 70 n = some c → c < mN S) : xB (zTh S nu kd sz rr pl) (mR S 70) := by
  refine ⟨zTh_R hN, fun n c hn e => ?_⟩
  have q := hB.2 n c hn e
  rw [zTh_ne (by have := hr n c e; omega)]
  exact q
theorem mk_a (hW : xW W) (hN : 126 ≤ mN S) (hr : ∀ n c, mR S 70 n = some c → c < mN S) : aS W (zTh S nu kd sz rr pl) = aS W S := by
  funext c k
  unfold aS
  rw [zTh_R hN]
  by_cases b : zrl c k = true
  · rw [aF_I b, aF_I b, zTh_ne (by have := zcw_lt hW b; omega)]
  · unfold aF
    rw [if_neg b, if_neg b]
    have e1 : aTf (mI (zTh S nu kd sz rr pl)) (mR S 70) (c - 126) k = aTf (mI S) (mR S 70) (c - 126) k := by
      unfold aTf
      by_cases h : k < 512
      · rw [if_pos h, if_pos h]
        cases e : mR S 70 k with
        | none => rfl
        | some t => exact zTh_ne (by have := hr k t e; omega)
      · rw [if_neg h, if_neg h]
    have e2 : aTr (mL (zTh S nu kd sz rr pl)) (mR S 70) (c - 1000) k = aTr (mL S) (mR S 70) (c - 1000) k := by
      unfold aTr
      by_cases h : c - 1000 < 512
      · rw [if_pos h, if_pos h]
        cases e : mR S 70 (c - 1000) with
        | none => rfl
        | some t =>
          show zbit (mL (zTh S nu kd sz rr pl) t 3) _ = zbit (mL S t 3) _
          rw [zTh_Ln (by have := hr _ t e; omega)]
      · rw [if_neg h, if_neg h]
    rw [e1, e2]
theorem aMd_n (h : a 87 8 = 0) : aMd a y = ma_u a 87 2 (a 130 y.toNatClampNeg + a 128 y.toNatClampNeg) := if_pos h
theorem aMd_y (h : ¬ a 87 8 = 0) : aMd a y = ma_u (ma_u a 87 2 (a 130 y.toNatClampNeg + a 128 y.toNatClampNeg)) 77 y.toNatClampNeg 2 := if_neg h
/-- what make and row do: a 69 6 the number that is given -/
def aMk (a : Nat → Nat → Int32) (kd wd : Int32) (L : Int64) (rt : Int32) : Nat → Nat → Int32 := if (a 69 6).toInt < 512 then (if aRp a (wd + 1).toInt = -1 then aRs a (wd + 1).toInt else aRt (aMd (aAd (aRs a (wd + 1).toInt) (aRs a (wd + 1).toInt 69 6) (zFn (aRs a (wd + 1).toInt 69 6) kd (wd + 1) (Int32.ofInt (aRp a (wd + 1).toInt))) L) (aRs a (wd + 1).toInt 69 6)) rt (aRs a (wd + 1).toInt 69 6)) else a
def aMn (a : Nat → Nat → Int32) (wd : Int32) : Int32 := if (a 69 6).toInt < 512 then (if aRp a (wd + 1).toInt = -1 then -1 else aRs a (wd + 1).toInt 69 6) else -1
theorem aMk_0 {kd wd rt : Int32} {L : Int64} (h : ¬ (a 69 6).toInt < 512) : aMk a kd wd L rt = a ∧ aMn a wd = -1 := ⟨if_neg h, if_neg h⟩
theorem aMk_1 {kd wd rt : Int32} {L : Int64} (h : (a 69 6).toInt < 512) (h1 : aRp a (wd + 1).toInt = -1) : aMk a kd wd L rt = aRs a (wd + 1).toInt ∧ aMn a wd = -1 := by
  unfold aMk aMn
  rw [if_pos h, if_pos h, if_pos h1, if_pos h1]
  exact ⟨rfl, rfl⟩
theorem aMk_2 {kd wd rt : Int32} {L : Int64} {b : Nat → Nat → Int32} (h : (a 69 6).toInt < 512) (e : b = aRs a (wd + 1).toInt) (h1 : pl.toInt = aRp a (wd + 1).toInt) (h2 : ¬ pl.toInt = -1) (hy : y = b 69 6) : aMk a kd wd L rt = aRt (aMd (aAd b y (zFn y kd (wd + 1) pl) L) y) rt y ∧ aMn a wd = y := by
  unfold aMk aMn
  rw [if_pos h, if_pos h, ← h1, if_neg h2, if_neg h2, ← e, hy, Int32.ofInt_toInt]
  exact ⟨rfl, rfl⟩
end B12
theorem g_110_87_s_0 {X : Nat × (Nat → Int32)} {d w : Nat} {S : ma_S} {Q : Option ma_V ⊕ Nat → ma_S → Prop} (t : Nat) (hd : 0 ≤ d) (hw : 0 ≤ w) (hS : zT S) (h : (126 ≤ t ∧ t < mN S) ∧ ((126 ≤ t ∧ t < mN S) ∧ (Q (.inl none) (ma_put S 87 2 (.inl ((mI S t 4) + (mI S t 2))))))) : ma_wp X d w 110 0 [(0, .inr (.inr (some 87))), (1, .inr (.inr (some t)))] [] S Q := by
  refine zw_push hm_110 dX8_noteMade_0 (v := .inr (.inr (some 87))) rfl ?_
  refine zw_push hm_110 dX8_noteMade_1 (v := .inr (.inr (some t))) rfl ?_
  obtain ⟨hg, h⟩ := h
  refine zw_gf hm_110 dX8_noteMade_2 (v := .inl (mI S t 4)) (zT_tis hS hg) (zT_tt hS hg) rfl f_8_29_9 rfl ?_
  refine zw_push hm_110 dX8_noteMade_5 (v := .inr (.inr (some t))) rfl ?_
  obtain ⟨hg, h⟩ := h
  refine zw_gf hm_110 dX8_noteMade_6 (v := .inl (mI S t 2)) (zT_tis hS hg) (zT_tt hS hg) rfl f_8_34_9 rfl ?_
  refine zw_stk hm_110 dX8_noteMade_9 (st₉ := [.inl ((mI S t 4) + (mI S t 2)), .inr (.inr (some 87))]) rfl rfl ?_
  refine zw_pf hm_110 dX8_noteMade_10 (zT_is hS s_87) (zT_t hS s_87) p_8_18_6 zk_int ?_
  exact zw_vret hm_110 dX8_noteMade_13 h
theorem sp_110_87_s {X : Nat × (Nat → Int32)} {d w : Nat} {f : Nat → Nat → Int32} {r : Nat → Nat → Option Nat} {C Z N : Nat} {Q : Option ma_V ⊕ Nat → ma_S → Prop} {ab : Nat→Nat→Int32} {R : zRT} {y : Int32} {S : ma_S} (t : Nat) (hd : 0 ≤ d) (hw : 0 ≤ w) (hI : zJ87 f r C Z N S) (th_t : 126 ≤ t ∧ t < N) (hpre0 : xB S R) (hpre1 : aS 88 S = ab) (hpre2 : zTa R y = some t) (K : ∀ S₉, zJ87 f r C Z N S₉ → (xB S₉ R) → (aS 88 S₉ = ma_u ab 87 2 (ab 130 y.toNatClampNeg + ab 128 y.toNatClampNeg)) → Q (.inl none) S₉) : ma_wp X d w 110 0 [(0, .inr (.inr (some 87))), (1, .inr (.inr (some t)))] [] S Q := by
  refine g_110_87_s_0 t (by omega) (by omega) (zG_T hI) ?_
  refine ⟨zG_n hI th_t, ?_⟩
  refine ⟨zG_n hI th_t, ?_⟩
  have f2 := zG_th hI th_t
  have f3 := zG_th hI th_t
  first | have e4 : ((mI S t 4) + (mI S t 2)).toInt = (mI S t 4).toInt + (mI S t 2).toInt := i_add (by omega) (by omega) | have b5 := i_bd ((mI S t 4) + (mI S t 2))
  have hI1 : zJ87 f r C Z N (ma_put S 87 2 (.inl ((mI S t 4) + (mI S t 2)))) := zG_sp hI (0) (400000) rfl (by decide) (by decide) (by decide) trivial (by omega) (by omega)
  exact K _ hI1 (show xB (ma_put S 87 2 (.inl ((mI S t 4) + (mI S t 2)))) R from by first | (exact (xC_p (c := 87) (k := 2) (x := ((mI S t 4) + (mI S t 2))) (xC_o (W := 75) hpre0) 87 xW75 rfl rfl).2)) (show aS 88 (ma_put S 87 2 (.inl ((mI S t 4) + (mI S t 2)))) = ma_u ab 87 2 (ab 130 y.toNatClampNeg + ab 128 y.toNatClampNeg) from by first | (have ty := xB_th (W := 88) hpre0 hpre2; have f2 := ty.2.2.2.2.1; have f4 := ty.2.2.2.2.2.1; rw [hpre1] at f2 f4; refine (xC_p (c := 87) (k := 2) (x := ((mI S t 4) + (mI S t 2))) (xC_o (W := 88) hpre0) 87 xW88 rfl rfl).1.trans ?_; (try simp only [zp_e (c₉ := 87) th_t.1 (by decide)]); rw [hpre1, f2, f4]))
theorem g_73_87_s_0 {X : Nat × (Nat → Int32)} {d w : Nat} {S : ma_S} {Q : Option ma_V ⊕ Nat → ma_S → Prop} (t : Nat) (hd : 1 ≤ d) (hw : 21 ≤ w) (hS : zT S) (h : ma_wp X (d - 1) (w - 21) 110 0 [(0, .inr (.inr (some 87))), (1, .inr (.inr (some t)))] [] S (zv (fun S1 => zT S1 ∧ (if (mI S1 87 8) = 0 then (Q (.inl none) S1) else ((126 ≤ t ∧ t < mN S1) ∧ (if (512 : Int32) ≤ (mI S1 t 0) then (Q (.inl none) S1) else ((126 ≤ t ∧ t < mN S1) ∧ ((0 ≤ (mI S1 t 0) ∧ (mI S1 t 0).toNatClampNeg < 512) ∧ (Q (.inl none) (ma_put S1 90 (mI S1 t 0).toNatClampNeg (.inl (2 : Int32)))))))))) (fun _ _ => False))) : ma_wp X d w 73 0 [(0, .inr (.inr (some 87))), (1, .inr (.inr (some t)))] [] S Q := by
  refine zw_push hm_73 dX6_noteMade_0 (v := .inr (.inr (some 87))) rfl ?_
  refine zw_push hm_73 dX6_noteMade_1 (v := .inr (.inr (some t))) rfl ?_
  refine zw_csp hm_73 dX6_noteMade_2 ip_6_62 il_6_62 hm_110 [.inr (.inr (some t))] [] rfl (zT_is hS s_87) (by rw [(zT_t hS s_87)]; decide) ⟨by omega, by omega⟩ rfl (zw_mono h (zv_go ?_ ?_))
  · intro S1 hv
    obtain ⟨hS1, h⟩ := hv
    refine zw_push hm_73 dX6_noteMade_5 (v := .inr (.inr (some 87))) rfl ?_
    refine zw_gf hm_73 dX6_noteMade_6 (v := .inl (mI S1 87 8)) (zT_is hS1 s_87) (zT_t hS1 s_87) rfl f_6_31_6 rfl ?_
    refine zw_if0 hm_73 dX6_noteMade_9 (t := 20) rfl zc0_eq ?_ ?_
    · intro hc
      rw [if_pos hc] at h
      exact zw_vret hm_73 dX6_noteMade_20 h
    · intro hc
      rw [if_neg hc] at h
      refine zw_push hm_73 dX6_noteMade_12 (v := .inr (.inr (some 87))) rfl ?_
      refine zw_gf hm_73 dX6_noteMade_13 (v := .inr (.inr (some 88))) (zT_is hS1 s_87) (zT_t hS1 s_87) rfl f_6_14_6 (zT_f hS1 r_87_5) ?_
      refine zw_push hm_73 dX6_noteMade_16 (v := .inr (.inr (some t))) rfl ?_
      refine zw_cv hm_73 dX6_noteMade_17 v_6_66_10 hm_121 [.inr (.inr (some t))] [] rfl (zT_rt hS1 s_88 rfl) ⟨by omega, by omega⟩ rfl ?_
      show ma_wp X (d - 1) (w - 21) 121 0 [(0, .inr (.inr (some 88))), (1, .inr (.inr (some t)))] [] S1 _
      refine zw_push hm_121 dX10_blacken_0 (v := .inr (.inr (some t))) rfl ?_
      obtain ⟨hg, h⟩ := h
      refine zw_gf hm_121 dX10_blacken_1 (v := .inl (mI S1 t 0)) (zT_tis hS1 hg) (zT_tt hS1 hg) rfl f_10_58_9 rfl ?_
      refine zw_push hm_121 dX10_blacken_4 (v := .inl (512 : Int32)) rfl ?_
      refine zw_if2 hm_121 dX10_blacken_7 (t := 20) rfl zc2_ge ?_ ?_
      · intro hc
        rw [if_pos hc] at h
        refine zw_vret hm_121 dX10_blacken_20 ?_
        show ma_wp X d w 73 20 [(0, .inr (.inr (some 87))), (1, .inr (.inr (some t)))] [] S1 _
        exact zw_vret hm_73 dX6_noteMade_20 h
      · intro hc
        rw [if_neg hc] at h
        refine zw_push hm_121 dX10_blacken_10 (v := .inr (.inr (some 88))) rfl ?_
        refine zw_gf hm_121 dX10_blacken_11 (v := .inr (.inr (some 90))) (zT_is hS1 s_88) (zT_t hS1 s_88) rfl f_10_15_10 (zT_f hS1 r_88_2) ?_
        refine zw_push hm_121 dX10_blacken_14 (v := .inr (.inr (some t))) rfl ?_
        obtain ⟨hg, h⟩ := h
        refine zw_gf hm_121 dX10_blacken_15 (v := .inl (mI S1 t 0)) (zT_tis hS1 hg) (zT_tt hS1 hg) rfl f_10_58_9 rfl ?_
        refine zw_push hm_121 dX10_blacken_18 (v := .inl (2 : Int32)) rfl ?_
        obtain ⟨hg, h⟩ := h
        refine zw_ias hm_121 dX10_blacken_19 (zT_is hS1 s_90) (zT_h hS1 s_90) rfl hg ?_
        refine zw_vret hm_121 dX10_blacken_20 ?_
        show ma_wp X d w 73 20 [(0, .inr (.inr (some 87))), (1, .inr (.inr (some t)))] [] (ma_put S1 90 (mI S1 t 0).toNatClampNeg (.inl (2 : Int32))) _
        exact zw_vret hm_73 dX6_noteMade_20 h
  · intro x S9 hx
    exact hx.elim
theorem sp_73_87_s {X : Nat × (Nat → Int32)} {d w : Nat} {f : Nat → Nat → Int32} {r : Nat → Nat → Option Nat} {C Z N : Nat} {Q : Option ma_V ⊕ Nat → ma_S → Prop} {ab : Nat→Nat→Int32} {R : zRT} {y : Int32} {S : ma_S} (t : Nat) (hd : 1 ≤ d) (hw : 21 ≤ w) (hI : zJ87 f r C Z N S) (th_t : 126 ≤ t ∧ t < N) (hpre0 : xB S R) (hpre1 : aS 88 S = ab) (hpre2 : zTa R y = some t) (K : ∀ S₉, zJ87 f r C Z N S₉ → (xB S₉ R) → (aS 88 S₉ = aMd ab y) → Q (.inl none) S₉) : ma_wp X d w 73 0 [(0, .inr (.inr (some 87))), (1, .inr (.inr (some t)))] [] S Q := by
  refine g_73_87_s_0 t (by omega) (by omega) (zG_T hI) ?_
  refine sp_110_87_s (ab := (aS 88 S)) (R := R) (y := (y)) t (by omega) (by omega) hI th_t (show xB S R from by first | (exact (xC_o (W := 75) hpre0).2)) (show aS 88 S = (aS 88 S) from by first | (exact rfl)) (show zTa R (y) = some t from by first | (exact hpre2)) (fun S1 hI_S1 rp0_S1 rp1_S1 => zv_n ⟨zG_T hI_S1, ?_⟩)
  have rp0_S1 : xB S1 R := rp0_S1
  have rp1_S1 : aS 88 S1 = ma_u (aS 88 S) 87 2 ((aS 88 S) 130 (y).toNatClampNeg + (aS 88 S) 128 (y).toNatClampNeg) := rp1_S1
  have f1 := zG_s hI_S1 (0) (1) (c := 87) (k := 8) (by decide)
  have li2 : (0 : Int32).toInt = 0 := rfl
  refine zd (fun h3 => ?_) (fun h3 => ?_)
  · skip
    have g4 := i_eq h3
    exact K _ hI_S1 (show xB S1 R from by first | (exact (xC_o (W := 75) rp0_S1).2)) (show aS 88 S1 = aMd ab y from by first | (exfalso; omega) | (have k8 : mI S1 87 8 = ab 87 8 := (aS_I (W := 88) (S := S1) (c := 87) (c₉ := 87) (k := 8) rfl rfl).symm.trans ((congrFun (congrFun rp1_S1 87) 8).trans ((xu_o (by omega)).trans (congrFun (congrFun hpre1 87) 8))); have st := rp1_S1; rw [hpre1] at st; rw [st]; exact (aMd_n (by rw [← k8]; assumption)).symm))
  · skip
    have g5 := i_ne h3
    refine ⟨zG_n hI_S1 th_t, ?_⟩
    have li6 : (512 : Int32).toInt = 512 := rfl
    have f7 := zG_th hI_S1 th_t
    refine zd (fun h8 => ?_) (fun h8 => ?_)
    · skip
      have g9 := i_le h8
      exact K _ hI_S1 (show xB S1 R from by first | (exact (xC_o (W := 75) rp0_S1).2)) (show aS 88 S1 = aMd ab y from by first | (exfalso; omega) | (have k8 : mI S1 87 8 = ab 87 8 := (aS_I (W := 88) (S := S1) (c := 87) (c₉ := 87) (k := 8) rfl rfl).symm.trans ((congrFun (congrFun rp1_S1 87) 8).trans ((xu_o (by omega)).trans (congrFun (congrFun hpre1 87) 8))); have st := rp1_S1; rw [hpre1] at st; rw [st]; exact (aMd_n (by rw [← k8]; assumption)).symm))
    · skip
      have g10 := i_nle h8
      refine ⟨zG_n hI_S1 th_t, ?_⟩
      refine ⟨i_ix (by omega) (by omega), ?_⟩
      have hI11 : zJ87 f r C Z N (ma_put S1 90 (mI S1 t 0).toNatClampNeg (.inl (2 : Int32))) := zG_fa hI_S1 rfl (by decide) (by decide) (by decide) trivial
      exact K _ hI11 (show xB (ma_put S1 90 (mI S1 t 0).toNatClampNeg (.inl (2 : Int32))) R from by first | (exact (xC_n (c := 90) (k := (mI S1 t 0).toNatClampNeg) (x := (2 : Int32)) (xC_o (W := 75) rp0_S1) ⟨by decide, Or.inl ⟨rfl, rfl⟩⟩).2)) (show aS 88 (ma_put S1 90 (mI S1 t 0).toNatClampNeg (.inl (2 : Int32))) = aMd ab y from by first | (have k8 : mI S1 87 8 = ab 87 8 := (aS_I (W := 88) (S := S1) (c := 87) (c₉ := 87) (k := 8) rfl rfl).symm.trans ((congrFun (congrFun rp1_S1 87) 8).trans ((xu_o (by omega)).trans (congrFun (congrFun hpre1 87) 8))); have st := rp1_S1; rw [hpre1] at st; have ty := xB_th (W := 88) rp0_S1 hpre2; refine (xC_p (c := 90) (k := (mI S1 t 0).toNatClampNeg) (x := (2 : Int32)) (xC_o (W := 88) rp0_S1) 77 xW88 rfl rfl).1.trans ?_; rw [st, ty.2.2.1]; exact (aMd_y (by rw [← k8]; assumption)).symm))
section MK1s
variable {X : Nat × (Nat → Int32)} {d w M pc o nL : Nat} {L : ma_L} {st r : List ma_V} {S : ma_S} {y : MethodName} {cc : ByteArray} {ret : Option FieldType} {Q : Option ma_V ⊕ Nat → ma_S → Prop}
theorem mk_143s {f : Nat → Nat → Int32} {r : Nat → Nat → Option Nat} {C Z N p : Nat} {kd wd rt pl : Int32} {rr : Int64} (hd : 3 ≤ d) (hw : 60 ≤ w) (h : zB f r C Z N S) (h0 : 0 ≤ (mI S 69 6).toInt) (h0₉ : (mI S 69 6).toInt ≤ 511) (h1 : 0 ≤ wd.toInt) (h1₉ : wd.toInt ≤ 60) (h2 : 0 ≤ pl.toInt) (h2₉ : pl.toInt ≤ 200000) (HK : ∀ S₉, zB f (zrN r N) (C + 1) (Z + 9) (N + 1) S₉ → S₉ = zTh S (mI S 69 6) kd (wd + (1 : Int32)) rr pl → ma_wp X d w 143 64 [(0, .inr (.inr (some 64))), (5, .inl rt), (6, .inr (.inr (some p))), (8, .inr (.inr (some N)))] [] S₉ Q) : ma_wp X d w 143 41 [(0, .inr (.inr (some 64))), (1, .inl kd), (2, .inl wd), (3, .inr (.inl rr)), (5, .inl rt), (6, .inr (.inr (some p))), (7, .inl pl)] [] S Q := by
  have hT := zG_T h
  have hN : mN S = N := zG_N h
  have hT2 : 126 ≤ mN S := hT.2.1
  have hes : (wd + (1 : Int32)).toInt = wd.toInt + 1 := i_addk rfl (by omega) (by omega)
  refine zw_new hm_143 dX11_addObject_41 n9_11_128 ?_
  refine zw_stk hm_143 dX11_addObject_44 (st₉ := [.inr (.inr (some (mN S))), .inr (.inr (some (mN S)))]) rfl rfl ?_
  refine zw_push hm_143 dX11_addObject_45 (v := .inr (.inr (some 64))) rfl ?_
  have oh : ∀ c, c < mN S → mH (ma_new S 9 9) c = mH S c := fun c hc => by
    show (ma_uc (mH S) (mN S) (9, 9)) c = mH S c
    unfold ma_uc
    rw [if_neg (by omega)]
  have oi : ∀ c, 64 ≤ c → c < mN S + 1 → ma_is (ma_new S 9 9) c = true := fun c h1 h2 => by
    show (decide (64 ≤ c) && decide (c < mN S + 1)) = true
    rw [Bool.and_eq_true, decide_eq_true_eq, decide_eq_true_eq]
    omega
  have oR : mR (ma_new S 9 9) 64 8 = some 69 := by
    show (ma_uc (mR S) (mN S) (fun _ => none)) 64 8 = some 69
    unfold ma_uc
    rw [if_neg (by omega)]
    exact zT_r hT r_64_8
  have oI : mI (ma_new S 9 9) 69 6 = mI S 69 6 := by
    show (ma_uc (mI S) (mN S) (fun _ => 0)) 69 6 = mI S 69 6
    unfold ma_uc
    rw [if_neg (by omega)]
  have oN : (mH (ma_new S 9 9) (mN S)).1 = 9 := by
    show ((ma_uc (mH S) (mN S) (9, 9)) (mN S)).1 = 9
    unfold ma_uc
    rw [if_pos rfl]
  refine zw_gf hm_143 dX11_addObject_46 (v := .inr (.inr (some 69))) (oi 64 (by omega) (by omega)) (by rw [oh 64 (by omega)]; exact zT_t hT s_64) rfl f_11_26_11 (congrArg (fun z => Sum.inr (Sum.inr z)) oR) ?_
  refine zw_gf hm_143 dX11_addObject_49 (v := .inl (mI S 69 6)) (oi 69 (by omega) (by omega)) (by rw [oh 69 (by omega)]; exact zT_t hT s_69) rfl f_11_244_7 (congrArg Sum.inl oI) ?_
  refine zw_push hm_143 dX11_addObject_52 (v := .inl kd) rfl ?_
  refine zw_push hm_143 dX11_addObject_53 (v := .inl wd) rfl ?_
  refine zw_push hm_143 dX11_addObject_54 (v := .inl 1) rfl ?_
  refine zw_stk hm_143 dX11_addObject_55 (st₉ := [.inl (wd + (1 : Int32)), .inl kd, .inl (mI S 69 6), .inr (.inr (some (mN S))), .inr (.inr (some (mN S)))]) rfl rfl ?_
  refine zw_push hm_143 dX11_addObject_56 (v := .inr (.inl rr)) rfl ?_
  refine zw_push hm_143 dX11_addObject_57 (v := .inl pl) rfl ?_
  refine zw_ccn hm_143 dX11_addObject_59 ip_11_370 il_11_370 hm_112 [.inl pl, .inr (.inl rr), .inl (wd + (1 : Int32)), .inl kd, .inl (mI S 69 6)] [.inr (.inr (some (mN S)))] rfl (oi _ (by omega) (by omega)) ⟨by rw [oN]; decide, by rw [oN]; decide⟩ ⟨by omega, by omega⟩ rfl ?_
  refine mk_112 (by omega) (by omega) (oi _ (by omega) (by omega)) oN ?_
  show ma_wp X d w 143 62 [(0, .inr (.inr (some 64))), (1, .inl kd), (2, .inl wd), (3, .inr (.inl rr)), (5, .inl rt), (6, .inr (.inr (some p))), (7, .inl pl)] [.inr (.inr (some (mN S)))] (zTh S (mI S 69 6) kd (wd + (1 : Int32)) rr pl) Q
  refine zw_sto hm_143 dX11_addObject_62 ((8, .inr (.inr (some (mN S)))) :: [(0, .inr (.inr (some 64))), (1, .inl kd), (2, .inl wd), (3, .inr (.inl rr)), (5, .inl rt), (6, .inr (.inr (some p))), (7, .inl pl)]) rfl rfl rfl ?_
  rw [hN]
  refine zw_sub (ma_nd_of (ks := [0, 5, 6, 8]) rfl (by decide)) (ma_nd_of (ks := [8, 0, 1, 2, 3, 5, 6, 7]) rfl (by decide)) (ma_le_cons rfl (ma_le_cons rfl (ma_le_cons rfl (ma_le_cons rfl (ma_le_nil _))))) (HK _ ?_ rfl)
  refine zG_mk h zB_t (by decide) (by decide) (by decide) (fun z => ?_) h0 h0₉ (by omega) (by omega) h2 h2₉
  exact zB_xk z hT2
end MK1s
theorem g_143_64_s_64 {X : Nat × (Nat → Int32)} {d w : Nat} {S : ma_S} {Q : Option ma_V ⊕ Nat → ma_S → Prop} (l5 : Int32) (l8 : Nat) (hd : 7 ≤ d) (hw : 182 ≤ w) (hS : zT S) (h : ma_wp X (d - 1) (w - 23) 91 0 [(0, .inr (.inr (some 69))), (1, .inr (.inr (some l8)))] [] S (zv (fun S1 => zT S1 ∧ (ma_wp X (d - 1) (w - 21) 73 0 [(0, .inr (.inr (some 87))), (1, .inr (.inr (some l8)))] [] S1 (zv (fun S3 => zT S3 ∧ (ma_wp X (d - 1) (w - 24) 145 0 [(0, .inr (.inr (some 64))), (1, .inr (.inr (some 87))), (2, .inl l5), (3, .inr (.inr (some l8)))] [] S3 (zo (fun v6 S5 => zT S5 ∧ ((126 ≤ l8 ∧ l8 < mN S5) ∧ (Q (.inl (some (.inl (mI S5 l8 0)))) S5))) (fun x S9 => Q (.inr x) S9)))) (fun _ _ => False)))) (fun x S9 => Q (.inr x) S9))) : ma_wp X d w 143 64 [(0, .inr (.inr (some 64))), (5, .inl l5), (6, .inr (.inr (some 87))), (8, .inr (.inr (some l8)))] [] S Q := by
  refine zw_push hm_143 dX11_addObject_64 (v := .inr (.inr (some 64))) rfl ?_
  refine zw_gf hm_143 dX11_addObject_65 (v := .inr (.inr (some 69))) (zT_is hS s_64) (zT_t hS s_64) rfl f_11_26_11 (zT_f hS r_64_8) ?_
  refine zw_push hm_143 dX11_addObject_68 (v := .inr (.inr (some l8))) rfl ?_
  refine zw_cv hm_143 dX11_addObject_70 v_11_373_7 hm_91 [.inr (.inr (some l8))] [] rfl (zT_rt hS s_69 rfl) ⟨by omega, by omega⟩ rfl (zw_mono h (zv_go ?_ ?_))
  · intro S1 hv
    obtain ⟨hS1, h⟩ := hv
    refine zw_push hm_143 dX11_addObject_73 (v := .inr (.inr (some 87))) rfl ?_
    refine zw_push hm_143 dX11_addObject_75 (v := .inr (.inr (some l8))) rfl ?_
    refine zw_cv hm_143 dX11_addObject_77 v_11_376_6 hm_73 [.inr (.inr (some l8))] [] rfl (zT_rt hS1 s_87 rfl) ⟨by omega, by omega⟩ rfl (zw_mono h (zv_go ?_ ?_))
    · intro S3 hv
      obtain ⟨hS3, h⟩ := hv
      refine zw_push hm_143 dX11_addObject_80 (v := .inr (.inr (some 64))) rfl ?_
      refine zw_push hm_143 dX11_addObject_81 (v := .inr (.inr (some 87))) rfl ?_
      refine zw_push hm_143 dX11_addObject_83 (v := .inl l5) rfl ?_
      refine zw_push hm_143 dX11_addObject_85 (v := .inr (.inr (some l8))) rfl ?_
      refine zw_cv hm_143 dX11_addObject_87 v_11_169_11 hm_145 [.inr (.inr (some l8)), .inl l5, .inr (.inr (some 87))] [] rfl (zT_rt hS3 s_64 rfl) ⟨by omega, by omega⟩ rfl (zw_mono h (zo_go ?_ ?_))
      · intro v6 S5 hv
        obtain ⟨hS5, h⟩ := hv
        refine zw_stk hm_143 dX11_addObject_90 (st₉ := []) rfl rfl ?_
        refine zw_push hm_143 dX11_addObject_91 (v := .inr (.inr (some l8))) rfl ?_
        obtain ⟨hg, h⟩ := h
        refine zw_gf hm_143 dX11_addObject_93 (v := .inl (mI S5 l8 0)) (zT_tis hS5 hg) (zT_tt hS5 hg) rfl f_11_182_9 rfl ?_
        exact zw_iret hm_143 dX11_addObject_96 h
      · intro x S9 hx
        exact ⟨by decide, hx⟩
    · intro x S9 hx
      exact hx.elim
  · intro x S9 hx
    exact ⟨by decide, hx⟩
theorem sg_143_64_s_64 {X : Nat × (Nat → Int32)} {d w : Nat} {f : Nat → Nat → Int32} {r : Nat → Nat → Option Nat} {C Z N : Nat} {Q : Option ma_V ⊕ Nat → ma_S → Prop} {ab : Nat→Nat→Int32} {R : zRT} {y : Int32} {I0 : Nat→Int32} {L0 : Int64} {S : ma_S} (l5 : Int32) (l8 : Nat) (hd : 7 ≤ d) (hw : 182 ≤ w) (hI : zB f r C Z N S) (th_l8 : 126 ≤ l8 ∧ l8 < N) (hpre0 : (mI S 69 6).toInt ≤ 511) (hpre1 : xB S R) (hpre2 : aS 88 S = ab) (hpre3 : mI S l8 = I0) (hpre4 : mL S l8 3 = L0) (hpre5 : I0 0 = y) (hpre6 : (0 ≤ (I0 0).toInt ∧ (I0 0).toInt ≤ 511) ∧ (1 ≤ (I0 2).toInt ∧ (I0 2).toInt ≤ 61) ∧ 0 ≤ (I0 4).toInt ∧ (I0 4).toInt + (I0 2).toInt ≤ 4500) (hpre7 : 0 ≤ y.toInt ∧ y.toInt < 512) (hpre8 : 0 ≤ l5.toInt) (hpre9 : l5.toInt ≤ 15) (K : ∀ v S₉, zB f r C Z N S₉ → (True) → (xB S₉ (mR S₉ 70)) → (aS 88 S₉ = aRt (aMd (aAd ab y I0 L0) y) l5 y ∧ v = y) → Q (.inl (some (.inl v))) S₉) : ma_wp X d w 143 64 [(0, .inr (.inr (some 64))), (5, .inl l5), (6, .inr (.inr (some 87))), (8, .inr (.inr (some l8)))] [] S Q := by
  refine g_143_64_s_64 l5 l8 (by omega) (by omega) (zG_T hI) ?_
  have f1 := zG_s hI (0) (512) (c := 69) (k := 6) (by decide)
  refine sp_91_69_s (ab := (aS 88 S)) (R := R) (W := 88) (y := y) (I0 := I0) (L0 := L0) (u := l8) l8 (by omega) (by omega) (zB_dn_zS hI) th_l8 (show (mI S 69 6).toInt ≤ 511 from by omega) (show xB S R from by first | (exact (xC_o (W := 75) hpre1).2)) (show aS 88 S = (aS 88 S) from by first | (exact rfl)) (show xW 88 from by first | (exact xW88)) (show mI S l8 = I0 from by first | (exact rfl) | (exact hpre3)) (show mL S l8 3 = L0 from by first | (exact rfl) | (exact hpre4)) (show I0 0 = y from by first | (exact rfl) | (exact hpre5)) (show (0 ≤ (I0 0).toInt ∧ (I0 0).toInt ≤ 511) ∧ (1 ≤ (I0 2).toInt ∧ (I0 2).toInt ≤ 61) ∧ 0 ≤ (I0 4).toInt ∧ (I0 4).toInt + (I0 2).toInt ≤ 4500 from by first | (exact hpre6) | (omega)) (show l8 = l8 from by first | (exact rfl)) (fun S1 hL_S1 rp0_S1 rp1_S1 => zv_n ⟨zG_T hL_S1, ?_⟩)
  have hI_S1 := zB_up_zS hI hL_S1
  have rp0_S1 : xB S1 (zRu R y.toNatClampNeg (some l8)) := by
    have z := rp0_S1
    (try rw [show mI S 65 = f 65 from funext (fun k => zG_z hI rfl)] at z)
    (try rw [show mI S 64 1 = f 64 1 from zG_z hI rfl] at z)
    exact z
  have rp1_S1 : aS 88 S1 = aAd (aS 88 S) y I0 L0 := by
    have z := rp1_S1
    (try rw [show mI S 65 = f 65 from funext (fun k => zG_z hI rfl)] at z)
    (try rw [show mI S 64 1 = f 64 1 from zG_z hI rfl] at z)
    exact z
  refine sp_73_87_s (ab := (aS 88 S1)) (R := (zRu R y.toNatClampNeg (some l8))) (y := (y)) l8 (by omega) (by omega) (zB_dn_zJ87 hI_S1) th_l8 (show xB S1 (zRu R y.toNatClampNeg (some l8)) from by first | (exact (xC_o (W := 75) rp0_S1).2)) (show aS 88 S1 = (aS 88 S1) from by first | (exact rfl)) (show zTa (zRu R y.toNatClampNeg (some l8)) (y) = some l8 from by first | (exact (zTa_u (R := R) (c := l8) hpre7.1 hpre7.2))) (fun S3 hL_S3 rp0_S3 rp1_S3 => zv_n ⟨zG_T hL_S3, ?_⟩)
  have hI_S3 := zB_up_zJ87 hI_S1 hL_S3
  have rp0_S3 : xB S3 (zRu R y.toNatClampNeg (some l8)) := by
    have z := rp0_S3
    (try rw [show mI S1 65 = f 65 from funext (fun k => zG_z hI_S1 rfl)] at z)
    (try rw [show mI S1 64 1 = f 64 1 from zG_z hI_S1 rfl] at z)
    exact z
  have rp1_S3 : aS 88 S3 = aMd (aS 88 S1) (y) := by
    have z := rp1_S3
    (try rw [show mI S1 65 = f 65 from funext (fun k => zG_z hI_S1 rfl)] at z)
    (try rw [show mI S1 64 1 = f 64 1 from zG_z hI_S1 rfl] at z)
    exact z
  have b2 := i_bd l5
  refine sp_145_64_87_s (ab := (aS 88 S3)) (R := (zRu R y.toNatClampNeg (some l8))) (y := (y)) (l5) ((some l8)) (by omega) (by omega) (zB_dn_zJ87 hI_S3) (fun _ z => by cases z; exact th_l8) (show xB S3 (zRu R y.toNatClampNeg (some l8)) from by first | (exact (xC_o (W := 75) rp0_S3).2)) (show aS 88 S3 = (aS 88 S3) from by first | (exact rfl)) (show (some l8) = zTa (zRu R y.toNatClampNeg (some l8)) (y) from by first | (exact (zTa_u (R := R) (c := l8) hpre7.1 hpre7.2).symm)) (by omega) (by omega) (fun v6 S5 hL_S5 hq_v6 rp0_S5 rp1_S5 rp2_S5 => zo_n ⟨zG_T hL_S5, ?_⟩)
  have hI_S5 := zB_up_zJ87 hI_S3 hL_S5
  have rp0_S5 : xB S5 (zRu R y.toNatClampNeg (some l8)) := by
    have z := rp0_S5
    (try rw [show mI S3 65 = f 65 from funext (fun k => zG_z hI_S3 rfl)] at z)
    (try rw [show mI S3 64 1 = f 64 1 from zG_z hI_S3 rfl] at z)
    exact z
  have rp1_S5 : aS 88 S5 = aRt (aS 88 S3) l5 (y) := by
    have z := rp1_S5
    (try rw [show mI S3 65 = f 65 from funext (fun k => zG_z hI_S3 rfl)] at z)
    (try rw [show mI S3 64 1 = f 64 1 from zG_z hI_S3 rfl] at z)
    exact z
  have rp2_S5 : v6 = zTa (zRu R y.toNatClampNeg (some l8)) ((aS 88 S3) 72 l5.toNatClampNeg) := by
    have z := rp2_S5
    (try rw [show mI S3 65 = f 65 from funext (fun k => zG_z hI_S3 rfl)] at z)
    (try rw [show mI S3 64 1 = f 64 1 from zG_z hI_S3 rfl] at z)
    exact z
  refine ⟨zG_n hI_S5 th_l8, ?_⟩
  have f3 := zG_th hI_S5 th_l8
  exact K ((mI S5 l8 0)) _ hI_S5 trivial (show xB S5 (mR S5 70) from by first | (exact xB_x (xC_o (W := 75) rp0_S5).2)) (show aS 88 S5 = aRt (aMd (aAd ab y I0 L0) y) l5 y ∧ (mI S5 l8 0) = y from by first | (have ty := xB_th (W := 88) rp0_S5 (zTa_u (R := R) (c := l8) hpre7.1 hpre7.2); have st := rp1_S5; rw [rp1_S3, rp1_S1, hpre2] at st; exact ⟨st, ty.2.2.1⟩))

/-! from 95.g38 -/
/-! the heap by numbers, the class (written by wip/tools/gen18.py) -/
theorem g_143_64_s_p87_0 {X : Nat × (Nat → Int32)} {d w : Nat} {S : ma_S} {Q : Option ma_V ⊕ Nat → ma_S → Prop} (kd : Int32) (wd : Int32) (rf : Int64) (rt : Int32) (hd : 7 ≤ d) (hw : 182 ≤ w) (hS : zT S) (h : mR S 64 11 = some 87 ∧ (mR S 64 11 = some 87 ∧ (if (512 : Int32) ≤ (mI S 69 6) then (Q (.inl (some (.inl (-1 : Int32)))) S) else (ma_wp X (d - 1) (w - 23) 71 0 [(0, .inr (.inr (some 87))), (1, .inl (wd + (1 : Int32)))] [] S (zi (fun v2 S1 => zT S1 ∧ (if v2 = (-1 : Int32) then (Q (.inl (some (.inl (-1 : Int32)))) S1) else (ma_wp X d w 143 41 [(0, .inr (.inr (some 64))), (1, .inl kd), (2, .inl wd), (3, .inr (.inl rf)), (5, .inl rt), (6, .inr (.inr (some 87))), (7, .inl v2)] [] S1 Q))) (fun _ _ => False)))))) : ma_wp X d w 143 0 [(0, .inr (.inr (some 64))), (1, .inl kd), (2, .inl wd), (3, .inr (.inl rf)), (5, .inl rt)] [] S Q := by
  refine zw_push hm_143 dX11_addObject_0 (v := .inr (.inr (some 64))) rfl ?_
  refine zw_cv hm_143 dX11_addObject_1 v_11_119_11 hm_144 [] [] rfl (zT_rt hS s_64 rfl) ⟨by omega, by omega⟩ rfl ?_
  show ma_wp X (d - 1) (w - 20) 144 0 [(0, .inr (.inr (some 64)))] [] S _
  refine zw_push hm_144 dX11_needCollector_0 (v := .inr (.inr (some 64))) rfl ?_
  obtain ⟨hg, h⟩ := h
  refine zw_gf hm_144 dX11_needCollector_1 (v := .inr (.inr (some 87))) (zT_is hS s_64) (zT_t hS s_64) rfl f_11_98_11 (congrArg (fun z => Sum.inr (Sum.inr z)) hg) ?_
  refine zw_ifnonnull hm_144 dX11_needCollector_4 (t := 15) rfl (fun z => by cases z) (fun _ _ => ?_)
  refine zw_push hm_144 dX11_needCollector_15 (v := .inr (.inr (some 64))) rfl ?_
  obtain ⟨hg, h⟩ := h
  refine zw_gf hm_144 dX11_needCollector_16 (v := .inr (.inr (some 87))) (zT_is hS s_64) (zT_t hS s_64) rfl f_11_98_11 (congrArg (fun z => Sum.inr (Sum.inr z)) hg) ?_
  refine zw_aret hm_144 dX11_needCollector_19 ?_
  show ma_wp X d w 143 4 [(0, .inr (.inr (some 64))), (1, .inl kd), (2, .inl wd), (3, .inr (.inl rf)), (5, .inl rt)] [.inr (.inr (some 87))] S _
  refine zw_sto hm_143 dX11_addObject_4 [(6, .inr (.inr (some 87))), (0, .inr (.inr (some 64))), (1, .inl kd), (2, .inl wd), (3, .inr (.inl rf)), (5, .inl rt)] rfl rfl rfl ?_
  refine zw_push hm_143 dX11_addObject_6 (v := .inr (.inr (some 64))) rfl ?_
  refine zw_gf hm_143 dX11_addObject_7 (v := .inr (.inr (some 69))) (zT_is hS s_64) (zT_t hS s_64) rfl f_11_26_11 (zT_f hS r_64_8) ?_
  refine zw_gf hm_143 dX11_addObject_10 (v := .inl (mI S 69 6)) (zT_is hS s_69) (zT_t hS s_69) rfl f_11_244_7 rfl ?_
  refine zw_push hm_143 dX11_addObject_13 (v := .inl (512 : Int32)) rfl ?_
  refine zw_if2 hm_143 dX11_addObject_16 (t := 30) rfl zc2_ge ?_ ?_
  · intro hc
    rw [if_pos hc] at h
    refine zw_push hm_143 dX11_addObject_30 (v := .inl (-1 : Int32)) rfl ?_
    refine zw_sto hm_143 dX11_addObject_31 [(7, .inl (-1 : Int32)), (6, .inr (.inr (some 87))), (0, .inr (.inr (some 64))), (1, .inl kd), (2, .inl wd), (3, .inr (.inl rf)), (5, .inl rt)] rfl rfl rfl ?_
    refine zw_push hm_143 dX11_addObject_33 (v := .inl (-1 : Int32)) rfl ?_
    refine zw_push hm_143 dX11_addObject_35 (v := .inl (-1 : Int32)) rfl ?_
    refine zw_if2 hm_143 dX11_addObject_36 (t := 41) rfl zc2_ne (fun hc => absurd hc (by decide)) (fun _ => ?_)
    refine zw_push hm_143 dX11_addObject_39 (v := .inl (-1 : Int32)) rfl ?_
    exact zw_iret hm_143 dX11_addObject_40 h
  · intro hc
    rw [if_neg hc] at h
    refine zw_push hm_143 dX11_addObject_19 (v := .inr (.inr (some 87))) rfl ?_
    refine zw_push hm_143 dX11_addObject_21 (v := .inl wd) rfl ?_
    refine zw_push hm_143 dX11_addObject_22 (v := .inl (1 : Int32)) rfl ?_
    refine zw_stk hm_143 dX11_addObject_23 (st₉ := [.inl (wd + (1 : Int32)), .inr (.inr (some 87))]) rfl rfl ?_
    refine zw_cv hm_143 dX11_addObject_24 v_11_367_6 hm_71 [.inl (wd + (1 : Int32))] [] rfl (zT_rt hS s_87 rfl) ⟨by omega, by omega⟩ rfl (zw_mono h (zi_go ?_ ?_))
    · intro v2 S1 hv
      obtain ⟨hS1, h⟩ := hv
      refine zw_goto hm_143 dX11_addObject_27 (t := 31) rfl ?_
      refine zw_sto hm_143 dX11_addObject_31 [(7, .inl v2), (6, .inr (.inr (some 87))), (0, .inr (.inr (some 64))), (1, .inl kd), (2, .inl wd), (3, .inr (.inl rf)), (5, .inl rt)] rfl rfl rfl ?_
      refine zw_push hm_143 dX11_addObject_33 (v := .inl v2) rfl ?_
      refine zw_push hm_143 dX11_addObject_35 (v := .inl (-1 : Int32)) rfl ?_
      refine zw_if2 hm_143 dX11_addObject_36 (t := 41) rfl zc2_ne ?_ ?_
      · intro hc
        rw [if_neg hc] at h
        exact zw_sub (ma_nd_of (ks := [0, 1, 2, 3, 5, 6, 7]) rfl (by decide)) (ma_nd_of (ks := [7, 6, 0, 1, 2, 3, 5]) rfl (by decide)) (ma_le_cons rfl (ma_le_cons rfl (ma_le_cons rfl (ma_le_cons rfl (ma_le_cons rfl (ma_le_cons rfl (ma_le_cons rfl (ma_le_nil _)))))))) h
      · intro hc
        rw [if_pos (Classical.not_not.mp hc)] at h
        refine zw_push hm_143 dX11_addObject_39 (v := .inl (-1 : Int32)) rfl ?_
        exact zw_iret hm_143 dX11_addObject_40 h
    · intro x S9 hx
      exact hx.elim
theorem sp_143_64_s_p87 {X : Nat × (Nat → Int32)} {d w : Nat} {f : Nat → Nat → Int32} {r : Nat → Nat → Option Nat} {C Z N : Nat} {Q : Option ma_V ⊕ Nat → ma_S → Prop} {ab : Nat→Nat→Int32} {S : ma_S} (kd : Int32) (wd : Int32) (rf : Int64) (rt : Int32) (hd : 7 ≤ d) (hw : 182 ≤ w) (hI : zB f r C Z N S) (hr : r 64 11 = some 87) (hpre0 : 0 ≤ wd.toInt) (hpre1 : wd.toInt ≤ 60) (hpre2 : 0 ≤ rt.toInt) (hpre3 : rt.toInt ≤ 15) (hpre4 : xB S (mR S 70)) (hpre5 : aS 88 S = ab) (hpre6 : 0 ≤ (ab 87 6).toInt) (K : ∀ v S₉ r₉ C₉ Z₉ N₉, (∀ c k, c < 126 → r₉ c k = r c k) → C₉ ≤ C + 1 → Z₉ ≤ Z + 9 → (N ≤ N₉) → zB f r₉ C₉ Z₉ N₉ S₉ → (True) → (xB S₉ (mR S₉ 70)) → (aS 88 S₉ = aMk ab kd wd rf rt ∧ v = aMn ab wd) → Q (.inl (some (.inl v))) S₉) : ma_wp X d w 143 0 [(0, .inr (.inr (some 64))), (1, .inl kd), (2, .inl wd), (3, .inr (.inl rf)), (5, .inl rt)] [] S Q := by
  refine g_143_64_s_p87_0 kd wd rf rt (by omega) (by omega) (zG_T hI) ?_
  refine ⟨((zG_r hI (by decide)).trans hr), ?_⟩
  refine ⟨((zG_r hI (by decide)).trans hr), ?_⟩
  have li1 : (512 : Int32).toInt = 512 := rfl
  have f2 := zG_s hI (0) (512) (c := 69) (k := 6) (by decide)
  refine zd (fun h3 => ?_) (fun h3 => ?_)
  · skip
    have g4 := i_le h3
    have li5 : (-1 : Int32).toInt = -1 := rfl
    exact K ((-1 : Int32)) _ _ _ _ _ (fun _ _ _ => rfl) (by omega) (by omega) (Nat.le_refl _) hI trivial (show xB S (mR S 70) from by first | (exact xB_x (xC_o (W := 75) hpre4).2)) (show aS 88 S = aMk ab kd wd rf rt ∧ (-1 : Int32) = aMn ab wd from by first | (have z := aMk_0 (a := ab) (kd := kd) (wd := wd) (rt := rt) (L := rf) (by rw [← hpre5, (aS_I (W := 88) (S := S) (c := 69) (c₉ := 69) (k := 6) rfl rfl)]; omega); exact ⟨hpre5.trans z.1.symm, z.2.symm⟩))
  · skip
    have g6 := i_nle h3
    have b7 := i_bd wd
    first | have e8 : (wd + (1 : Int32)).toInt = wd.toInt + (1) := i_addk rfl (by omega) (by omega) | have b9 := i_bd (wd + (1 : Int32))
    refine sp_71_87_s (ab := (aS 88 S)) ((wd + (1 : Int32))) (by omega) (by omega) (zB_dn_zJ87 hI) (show xB S (mR S 70) from by first | (exact xB_x (xC_o (W := 75) hpre4).2)) (show aS 88 S = (aS 88 S) from by first | (exact rfl)) (show 0 ≤ ((aS 88 S) 87 6).toInt from by first | (exact hpre6) | (rw [hpre5]; exact hpre6)) (fun v2 S1 hL_S1 hp_v2 rp0_S1 rp1_S1 => zi_n ⟨zG_T hL_S1, ?_⟩)
    have hI_S1 := zB_up_zJ87 hI hL_S1
    have rp0_S1 : xB S1 (mR S1 70) := by
      have z := rp0_S1
      (try rw [show mI S 65 = f 65 from funext (fun k => zG_z hI rfl)] at z)
      (try rw [show mI S 64 1 = f 64 1 from zG_z hI rfl] at z)
      exact z
    have rp1_S1 : aS 88 S1 = aRs (aS 88 S) (wd + (1 : Int32)).toInt ∧ v2.toInt = aRp (aS 88 S) (wd + (1 : Int32)).toInt := by
      have z := rp1_S1
      (try rw [show mI S 65 = f 65 from funext (fun k => zG_z hI rfl)] at z)
      (try rw [show mI S 64 1 = f 64 1 from zG_z hI rfl] at z)
      exact z
    have b10 := i_bd v2
    have li11 : (-1 : Int32).toInt = -1 := rfl
    refine zd (fun h12 => ?_) (fun h12 => ?_)
    · skip
      have g13 := i_eq h12
      exact K ((-1 : Int32)) _ _ _ _ _ (fun _ _ _ => rfl) (by omega) (by omega) (Nat.le_refl _) hI_S1 trivial (show xB S1 (mR S1 70) from by first | (exact xB_x (xC_o (W := 75) rp0_S1).2)) (show aS 88 S1 = aMk ab kd wd rf rt ∧ (-1 : Int32) = aMn ab wd from by first | (have wd1 : (wd + (1 : Int32)).toInt = wd.toInt + 1 := i_addk rfl (by omega) (by omega); have rs := rp1_S1; rw [hpre5] at rs; have z := aMk_1 (a := ab) (kd := kd) (wd := wd) (rt := rt) (L := rf) (by rw [← hpre5, (aS_I (W := 88) (S := S) (c := 69) (c₉ := 69) (k := 6) rfl rfl)]; omega) (by omega); exact ⟨rs.1.trans z.1.symm, z.2.symm⟩))
    · skip
      have g14 := i_ne h12
      have b15 := i_bd rt
      have q16 : (mI S1 69 6).toInt = (mI S 69 6).toInt := zG_zi (f := mI S) hL_S1 rfl
      have f17 := zG_s hI_S1 (0) (512) (c := 69) (k := 6) (by decide)
      have hN2 : 126 ≤ mN S1 := (zG_T hI_S1).2.1
      have hr2 : ∀ n c, mR S1 70 n = some c → c < mN S1 := fun n c q => by have z := zG_70 hI_S1 (by decide) q; rw [zG_N hI_S1]; exact z.2
      have wd1 : (wd + (1 : Int32)).toInt = wd.toInt + 1 := i_addk rfl (by omega) (by omega)
      have hy : (mI S1 69 6) = aS 88 S1 69 6 := (aS_I (W := 88) (S := S1) (c := 69) (c₉ := 69) (k := 6) rfl rfl).symm
      have rs := rp1_S1
      have mk2 := aMk_2 (a := ab) (b := aS 88 S1) (kd := kd) (wd := wd) (rt := rt) (L := rf) (pl := v2) (y := (mI S1 69 6)) (by rw [← hpre5, (aS_I (W := 88) (S := S) (c := 69) (c₉ := 69) (k := 6) rfl rfl)]; omega) (by rw [← hpre5]; exact rs.1) (by rw [← hpre5]; exact rs.2) (by omega) hy
      exact mk_143s (p := 87) (by omega) (by omega) hI_S1 (by show 0 ≤ (mI S1 69 6).toInt; omega) (by show (mI S1 69 6).toInt ≤ 511; omega) (by omega) (by omega) (by omega) (by omega) (fun Sn hn hj => sg_143_64_s_64 (ab := aS 88 S1) (R := mR S1 70) (y := (mI S1 69 6)) (I0 := (zFn (mI S1 69 6) kd (wd + (1 : Int32)) v2)) (L0 := rf) (rt) N (by omega) (by omega) hn ⟨Nat.le_trans (zG_T hI_S1).2.1 (Nat.le_of_eq (zG_N hI_S1)), Nat.lt_succ_self _⟩ (by rw [hj, zTh_lo (by decide) hN2]; omega) (by rw [hj]; exact mk_B rp0_S1 hN2 hr2) (by rw [hj]; exact mk_a xW88 hN2 hr2) (by rw [hj]; have q := zTh_eq (S := S1) (nu := (mI S1 69 6)) (kd := kd) (sz := wd + (1 : Int32)) (rr := rf) (pl := v2); rw [zG_N hI_S1] at q; exact q) (by rw [hj]; have q := zTh_L3 (S := S1) (nu := (mI S1 69 6)) (kd := kd) (sz := wd + (1 : Int32)) (rr := rf) (pl := v2); rw [zG_N hI_S1] at q; exact q) rfl (show (0 ≤ (mI S1 69 6).toInt ∧ (mI S1 69 6).toInt ≤ 511) ∧ (1 ≤ (wd + (1 : Int32)).toInt ∧ (wd + (1 : Int32)).toInt ≤ 61) ∧ 0 ≤ v2.toInt ∧ v2.toInt + (wd + (1 : Int32)).toInt ≤ 4500 by omega) ⟨by omega, by omega⟩ (by omega) (by omega) (fun v9 S9 h9 h10 q0 q1 => K v9 S9 _ _ _ _ (zrN_lo (zG_T hI_S1) (zG_N hI_S1)) (by omega) (by omega) (by omega) h9 h10 q0 (by rw [mk2.1, mk2.2]; exact q1)))
theorem g_141_64_s_p87_0 {X : Nat × (Nat → Int32)} {d w : Nat} {S : ma_S} {Q : Option ma_V ⊕ Nat → ma_S → Prop} (ki : Int32) (rt : Int32) (hd : 8 ≤ d) (hw : 232 ≤ w) (hS : zT S) (h : if ki < 0 then (Q (.inr 2) (ma_bump S)) else (if (mI S 64 7) ≤ ki then (Q (.inr 2) (ma_bump S)) else (if rt < 0 then (Q (.inr 2) (ma_bump S)) else (if (16 : Int32) ≤ rt then (Q (.inr 2) (ma_bump S)) else ((0 ≤ ki ∧ ki.toNatClampNeg < 16) ∧ ((0 ≤ ki ∧ ki.toNatClampNeg < 16) ∧ (ma_wp X (d - 1) (w - 28) 143 0 [(0, .inr (.inr (some 64))), (1, .inl ki), (2, .inl (mI S 67 ki.toNatClampNeg)), (3, .inr (.inl ((mI S 68 ki.toNatClampNeg).toInt64))), (5, .inl rt)] [] S (zi (fun v2 S1 => zT S1 ∧ (Q (.inl (some (.inl v2))) S1)) (fun x S9 => Q (.inr x) S9))))))))) : ma_wp X d w 141 0 [(0, .inr (.inr (some 64))), (1, .inl ki), (2, .inl rt)] [] S Q := by
  refine zw_push hm_141 dX11_make_0 (v := .inl ki) rfl ?_
  refine zw_if0 hm_141 dX11_make_1 (t := 19) rfl zc0_lt ?_ ?_
  · intro hc
    rw [if_pos hc] at h
    exact zw_thr hm_141 dX11_make_19 dX11_make_22 dX11_make_23 dX11_make_26 x_11_79_81 n_11_79 (by omega) (by show 0 + 81 ≤ w; omega) h
  · intro hc
    rw [if_neg hc] at h
    refine zw_push hm_141 dX11_make_4 (v := .inl ki) rfl ?_
    refine zw_push hm_141 dX11_make_5 (v := .inr (.inr (some 64))) rfl ?_
    refine zw_gf hm_141 dX11_make_6 (v := .inl (mI S 64 7)) (zT_is hS s_64) (zT_t hS s_64) rfl f_11_82_11 rfl ?_
    refine zw_if2 hm_141 dX11_make_9 (t := 19) rfl zc2_ge ?_ ?_
    · intro hc
      rw [if_pos hc] at h
      exact zw_thr hm_141 dX11_make_19 dX11_make_22 dX11_make_23 dX11_make_26 x_11_79_81 n_11_79 (by omega) (by show 0 + 81 ≤ w; omega) h
    · intro hc
      rw [if_neg hc] at h
      refine zw_push hm_141 dX11_make_12 (v := .inl rt) rfl ?_
      refine zw_cs hm_141 dX11_make_13 pn_11_109 sl_11_109 hm_142 [.inl rt] [] rfl ⟨by omega, by omega⟩ rfl ?_
      show ma_wp X (d - 1) (w - 20) 142 0 [(0, .inl rt)] [] S _
      refine zw_push hm_142 dX11_isSlot_0 (v := .inl rt) rfl ?_
      refine zw_if0 hm_142 dX11_isSlot_1 (t := 14) rfl zc0_lt ?_ ?_
      · intro hc
        rw [if_pos hc] at h
        refine zw_push hm_142 dX11_isSlot_14 (v := .inl (0 : Int32)) rfl ?_
        refine zw_bret hm_142 dX11_isSlot_15 (by decide) ?_
        show ma_wp X d w 141 16 [(0, .inr (.inr (some 64))), (1, .inl ki), (2, .inl rt)] [.inl (0 : Int32)] S _
        refine zw_if0 hm_141 dX11_make_16 (t := 27) rfl zc0_ne (fun hc => absurd hc (by decide)) (fun _ => ?_)
        exact zw_thr hm_141 dX11_make_19 dX11_make_22 dX11_make_23 dX11_make_26 x_11_79_81 n_11_79 (by omega) (by show 0 + 81 ≤ w; omega) h
      · intro hc
        rw [if_neg hc] at h
        refine zw_push hm_142 dX11_isSlot_4 (v := .inl rt) rfl ?_
        refine zw_push hm_142 dX11_isSlot_5 (v := .inl (16 : Int32)) rfl ?_
        refine zw_if2 hm_142 dX11_isSlot_7 (t := 14) rfl zc2_ge ?_ ?_
        · intro hc
          rw [if_pos hc] at h
          refine zw_push hm_142 dX11_isSlot_14 (v := .inl (0 : Int32)) rfl ?_
          refine zw_bret hm_142 dX11_isSlot_15 (by decide) ?_
          show ma_wp X d w 141 16 [(0, .inr (.inr (some 64))), (1, .inl ki), (2, .inl rt)] [.inl (0 : Int32)] S _
          refine zw_if0 hm_141 dX11_make_16 (t := 27) rfl zc0_ne (fun hc => absurd hc (by decide)) (fun _ => ?_)
          exact zw_thr hm_141 dX11_make_19 dX11_make_22 dX11_make_23 dX11_make_26 x_11_79_81 n_11_79 (by omega) (by show 0 + 81 ≤ w; omega) h
        · intro hc
          rw [if_neg hc] at h
          refine zw_push hm_142 dX11_isSlot_10 (v := .inl (1 : Int32)) rfl ?_
          refine zw_goto hm_142 dX11_isSlot_11 (t := 15) rfl ?_
          refine zw_bret hm_142 dX11_isSlot_15 (by decide) ?_
          show ma_wp X d w 141 16 [(0, .inr (.inr (some 64))), (1, .inl ki), (2, .inl rt)] [.inl (1 : Int32)] S _
          refine zw_if0 hm_141 dX11_make_16 (t := 27) rfl zc0_ne (fun _ => ?_) (fun hc => absurd (by decide) hc)
          refine zw_push hm_141 dX11_make_27 (v := .inr (.inr (some 64))) rfl ?_
          refine zw_push hm_141 dX11_make_28 (v := .inl ki) rfl ?_
          refine zw_push hm_141 dX11_make_29 (v := .inr (.inr (some 64))) rfl ?_
          refine zw_gf hm_141 dX11_make_30 (v := .inr (.inr (some 67))) (zT_is hS s_64) (zT_t hS s_64) rfl f_11_17_11 (zT_f hS r_64_5) ?_
          refine zw_push hm_141 dX11_make_33 (v := .inl ki) rfl ?_
          obtain ⟨hg, h⟩ := h
          refine zw_ia hm_141 dX11_make_34 (zT_is hS s_67) (zT_h hS s_67) rfl hg ?_
          show ma_wp X d w 141 35 [(0, .inr (.inr (some 64))), (1, .inl ki), (2, .inl rt)] [.inl (mI S 67 ki.toNatClampNeg), .inl ki, .inr (.inr (some 64))] S _
          refine zw_push hm_141 dX11_make_35 (v := .inr (.inr (some 64))) rfl ?_
          refine zw_gf hm_141 dX11_make_36 (v := .inr (.inr (some 68))) (zT_is hS s_64) (zT_t hS s_64) rfl f_11_20_11 (zT_f hS r_64_6) ?_
          refine zw_push hm_141 dX11_make_39 (v := .inl ki) rfl ?_
          obtain ⟨hg, h⟩ := h
          refine zw_ia hm_141 dX11_make_40 (zT_is hS s_68) (zT_h hS s_68) rfl hg ?_
          show ma_wp X d w 141 41 [(0, .inr (.inr (some 64))), (1, .inl ki), (2, .inl rt)] [.inl (mI S 68 ki.toNatClampNeg), .inl (mI S 67 ki.toNatClampNeg), .inl ki, .inr (.inr (some 64))] S _
          refine zw_stk hm_141 dX11_make_41 (st₉ := [.inr (.inl ((mI S 68 ki.toNatClampNeg).toInt64)), .inl (mI S 67 ki.toNatClampNeg), .inl ki, .inr (.inr (some 64))]) rfl rfl ?_
          refine zw_push hm_141 dX11_make_42 (v := .inl rt) rfl ?_
          refine zw_cv hm_141 dX11_make_43 v_11_113_11 hm_143 [.inl rt, .inr (.inl ((mI S 68 ki.toNatClampNeg).toInt64)), .inl (mI S 67 ki.toNatClampNeg), .inl ki] [] rfl (zT_rt hS s_64 rfl) ⟨by omega, by omega⟩ rfl (zw_mono h (zi_go ?_ ?_))
          · intro v2 S1 hv
            obtain ⟨hS1, h⟩ := hv
            exact zw_iret hm_141 dX11_make_46 h
          · intro x S9 hx
            exact ⟨by decide, hx⟩
theorem sp_141_64_s_p87 {X : Nat × (Nat → Int32)} {d w : Nat} {f : Nat → Nat → Int32} {r : Nat → Nat → Option Nat} {C Z N : Nat} {Q : Option ma_V ⊕ Nat → ma_S → Prop} {ab : Nat→Nat→Int32} {S : ma_S} (ki : Int32) (rt : Int32) (hd : 8 ≤ d) (hw : 232 ≤ w) (hI : zB f r C Z N S) (hr : r 64 11 = some 87) (hpre0 : xB S (mR S 70)) (hpre1 : aS 88 S = ab) (hpre2 : 0 ≤ (ab 87 6).toInt) (K : ∀ v S₉ r₉ C₉ Z₉ N₉, (∀ c k, c < 126 → r₉ c k = r c k) → C₉ ≤ C + 1 → Z₉ ≤ Z + 9 → (N ≤ N₉) → zB f r₉ C₉ Z₉ N₉ S₉ → (True) → (xB S₉ (mR S₉ 70)) → ((0 ≤ ki.toInt ∧ ki.toInt < (f 64 7).toInt ∧ 0 ≤ rt.toInt ∧ rt.toInt ≤ 15) ∧ aS 88 S₉ = aMk ab ki (f 67 ki.toNatClampNeg) (f 68 ki.toNatClampNeg).toInt64 rt ∧ v = aMn ab (f 67 ki.toNatClampNeg)) → Q (.inl (some (.inl v))) S₉) (KX : ∀ x S₉, (x = 2) → zB f r C Z N S₉ → (xB S₉ (mR S₉ 70)) → (aS 88 S₉ = ab) → (x = 2 ∧ ¬ (0 ≤ ki.toInt ∧ ki.toInt < (f 64 7).toInt ∧ 0 ≤ rt.toInt ∧ rt.toInt ≤ 15)) → Q (.inr x) (ma_bump S₉)) : ma_wp X d w 141 0 [(0, .inr (.inr (some 64))), (1, .inl ki), (2, .inl rt)] [] S Q := by
  refine g_141_64_s_p87_0 ki rt (by omega) (by omega) (zG_T hI) ?_
  have b1 := i_bd ki
  have li2 : (0 : Int32).toInt = 0 := rfl
  refine zd (fun h3 => ?_) (fun h3 => ?_)
  · skip
    have g4 := i_lt h3
    exact KX 2 _ (by decide) hI (show xB S (mR S 70) from by first | (exact xB_x (xC_o (W := 75) hpre0).2)) (show aS 88 S = ab from by first | (exact (xC_o (W := 88) hpre0).1.trans hpre1)) (show 2 = 2 ∧ ¬ (0 ≤ ki.toInt ∧ ki.toInt < (f 64 7).toInt ∧ 0 ≤ rt.toInt ∧ rt.toInt ≤ 15) from by first | (have f7 : (mI S 64 7).toInt = (f 64 7).toInt := zG_zi hI rfl; exact ⟨rfl, by omega⟩))
  · skip
    have g5 := i_nlt h3
    have f6 := zG_s hI (0) (16) (c := 64) (k := 7) (by decide)
    refine zd (fun h7 => ?_) (fun h7 => ?_)
    · skip
      have g8 := i_le h7
      exact KX 2 _ (by decide) hI (show xB S (mR S 70) from by first | (exact xB_x (xC_o (W := 75) hpre0).2)) (show aS 88 S = ab from by first | (exact (xC_o (W := 88) hpre0).1.trans hpre1)) (show 2 = 2 ∧ ¬ (0 ≤ ki.toInt ∧ ki.toInt < (f 64 7).toInt ∧ 0 ≤ rt.toInt ∧ rt.toInt ≤ 15) from by first | (have f7 : (mI S 64 7).toInt = (f 64 7).toInt := zG_zi hI rfl; exact ⟨rfl, by omega⟩))
    · skip
      have g9 := i_nle h7
      have b10 := i_bd rt
      refine zd (fun h11 => ?_) (fun h11 => ?_)
      · skip
        have g12 := i_lt h11
        exact KX 2 _ (by decide) hI (show xB S (mR S 70) from by first | (exact xB_x (xC_o (W := 75) hpre0).2)) (show aS 88 S = ab from by first | (exact (xC_o (W := 88) hpre0).1.trans hpre1)) (show 2 = 2 ∧ ¬ (0 ≤ ki.toInt ∧ ki.toInt < (f 64 7).toInt ∧ 0 ≤ rt.toInt ∧ rt.toInt ≤ 15) from by first | (have f7 : (mI S 64 7).toInt = (f 64 7).toInt := zG_zi hI rfl; exact ⟨rfl, by omega⟩))
      · skip
        have g13 := i_nlt h11
        have li14 : (16 : Int32).toInt = 16 := rfl
        refine zd (fun h15 => ?_) (fun h15 => ?_)
        · skip
          have g16 := i_le h15
          exact KX 2 _ (by decide) hI (show xB S (mR S 70) from by first | (exact xB_x (xC_o (W := 75) hpre0).2)) (show aS 88 S = ab from by first | (exact (xC_o (W := 88) hpre0).1.trans hpre1)) (show 2 = 2 ∧ ¬ (0 ≤ ki.toInt ∧ ki.toInt < (f 64 7).toInt ∧ 0 ≤ rt.toInt ∧ rt.toInt ≤ 15) from by first | (have f7 : (mI S 64 7).toInt = (f 64 7).toInt := zG_zi hI rfl; exact ⟨rfl, by omega⟩))
        · skip
          have g17 := i_nle h15
          refine ⟨i_ix (by omega) (by omega), ?_⟩
          refine ⟨i_ix (by omega) (by omega), ?_⟩
          first | have f18 := zG_a hI 16 (0) (8) (c := 67) (k := ki.toNatClampNeg) (by decide) (i_ix (n := 16) (by omega) (by omega)).2 | have b19 := i_bd (mI S 67 ki.toNatClampNeg)
          refine sp_143_64_s_p87 (ab := (aS 88 S)) (ki) ((mI S 67 ki.toNatClampNeg)) (((mI S 68 ki.toNatClampNeg).toInt64)) (rt) (by omega) (by omega) hI hr (by omega) (by omega) (by omega) (by omega) (show xB S (mR S 70) from by first | (exact xB_x (xC_o (W := 75) hpre0).2)) (show aS 88 S = (aS 88 S) from by first | (exact rfl)) (show 0 ≤ ((aS 88 S) 87 6).toInt from by first | (exact hpre2) | (rw [hpre1]; exact hpre2)) (fun v2 S1 r₉ C₉ Z₉ N₉ sl1 sl2 sl3 sl4 hI_S1 hp_v2 rp0_S1 rp1_S1 => zi_n ⟨zG_T hI_S1, ?_⟩)
          have rp0_S1 : xB S1 (mR S1 70) := rp0_S1
          have rp1_S1 : aS 88 S1 = aMk (aS 88 S) ki (mI S 67 ki.toNatClampNeg) (((mI S 68 ki.toNatClampNeg).toInt64)) rt ∧ v2 = aMn (aS 88 S) (mI S 67 ki.toNatClampNeg) := rp1_S1
          have b20 := i_bd v2
          exact K (v2) _ _ _ _ _ sl1 sl2 sl3 sl4 hI_S1 trivial (show xB S1 (mR S1 70) from by first | (exact xB_x (xC_o (W := 75) rp0_S1).2)) (show (0 ≤ ki.toInt ∧ ki.toInt < (f 64 7).toInt ∧ 0 ≤ rt.toInt ∧ rt.toInt ≤ 15) ∧ aS 88 S1 = aMk ab ki (f 67 ki.toNatClampNeg) (f 68 ki.toNatClampNeg).toInt64 rt ∧ v2 = aMn ab (f 67 ki.toNatClampNeg) from by first | (exfalso; omega) | (have f7 : (mI S 64 7).toInt = (f 64 7).toInt := zG_zi hI rfl; have q := rp1_S1; rw [hpre1, show mI S 67 ki.toNatClampNeg = f 67 ki.toNatClampNeg from zG_z hI rfl, show mI S 68 ki.toNatClampNeg = f 68 ki.toNatClampNeg from zG_z hI rfl] at q; exact ⟨⟨by omega, by omega, by omega, by omega⟩, q⟩))

