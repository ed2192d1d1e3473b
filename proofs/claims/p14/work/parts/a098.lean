/-! from 95.g35 -/
/-! the heap by numbers, the class (written by wip/tools/gen18.py) -/
theorem g_158_64_s_p87_0 {X : Nat × (Nat → Int32)} {d w : Nat} {S : ma_S} {Q : Option ma_V ⊕ Nat → ma_S → Prop} (rt : Int32) (hd : 7 ≤ d) (hw : 134 ≤ w) (hS : zT S) (h : if rt < 0 then (Q (.inr 2) (ma_bump S)) else (if (16 : Int32) ≤ rt then (Q (.inr 2) (ma_bump S)) else (mR S 64 11 = some 87 ∧ (mR S 64 11 = some 87 ∧ (ma_wp X (d - 1) (w - 22) 98 0 [(0, .inr (.inr (some 69)))] [] S (zo (fun v2 S1 => zT S1 ∧ ((v2 = none → Q (.inl (some (.inl (-1 : Int32)))) S1) ∧ (∀ c3, v2 = some c3 → ma_wp X (d - 1) (w - 24) 145 0 [(0, .inr (.inr (some 64))), (1, .inr (.inr (some 87))), (2, .inl rt), (3, .inr (.inr (some c3)))] [] S1 (zo (fun v5 S4 => zT S4 ∧ ((126 ≤ c3 ∧ c3 < mN S4) ∧ (Q (.inl (some (.inl (mI S4 c3 0)))) S4))) (fun x S9 => Q (.inr x) S9))))) (fun x S9 => Q (.inr x) S9))))))) : ma_wp X d w 158 0 [(0, .inr (.inr (some 64))), (1, .inl rt)] [] S Q := by
  refine zw_push hm_158 dX11_granted_0 (v := .inl rt) rfl ?_
  refine zw_cs hm_158 dX11_granted_1 pn_11_109 sl_11_109 hm_142 [.inl rt] [] rfl ⟨by omega, by omega⟩ rfl ?_
  show ma_wp X (d - 1) (w - 20) 142 0 [(0, .inl rt)] [] S _
  refine zw_push hm_142 dX11_isSlot_0 (v := .inl rt) rfl ?_
  refine zw_if0 hm_142 dX11_isSlot_1 (t := 14) rfl zc0_lt ?_ ?_
  · intro hc
    rw [if_pos hc] at h
    refine zw_push hm_142 dX11_isSlot_14 (v := .inl (0 : Int32)) rfl ?_
    refine zw_bret hm_142 dX11_isSlot_15 (by decide) ?_
    show ma_wp X d w 158 4 [(0, .inr (.inr (some 64))), (1, .inl rt)] [.inl (0 : Int32)] S _
    refine zw_if0 hm_158 dX11_granted_4 (t := 15) rfl zc0_ne (fun hc => absurd hc (by decide)) (fun _ => ?_)
    exact zw_thr hm_158 dX11_granted_7 dX11_granted_10 dX11_granted_11 dX11_granted_14 x_11_79_81 n_11_79 (by omega) (by show 0 + 81 ≤ w; omega) h
  · intro hc
    rw [if_neg hc] at h
    refine zw_push hm_142 dX11_isSlot_4 (v := .inl rt) rfl ?_
    refine zw_push hm_142 dX11_isSlot_5 (v := .inl (16 : Int32)) rfl ?_
    refine zw_if2 hm_142 dX11_isSlot_7 (t := 14) rfl zc2_ge ?_ ?_
    · intro hc
      rw [if_pos hc] at h
      refine zw_push hm_142 dX11_isSlot_14 (v := .inl (0 : Int32)) rfl ?_
      refine zw_bret hm_142 dX11_isSlot_15 (by decide) ?_
      show ma_wp X d w 158 4 [(0, .inr (.inr (some 64))), (1, .inl rt)] [.inl (0 : Int32)] S _
      refine zw_if0 hm_158 dX11_granted_4 (t := 15) rfl zc0_ne (fun hc => absurd hc (by decide)) (fun _ => ?_)
      exact zw_thr hm_158 dX11_granted_7 dX11_granted_10 dX11_granted_11 dX11_granted_14 x_11_79_81 n_11_79 (by omega) (by show 0 + 81 ≤ w; omega) h
    · intro hc
      rw [if_neg hc] at h
      refine zw_push hm_142 dX11_isSlot_10 (v := .inl (1 : Int32)) rfl ?_
      refine zw_goto hm_142 dX11_isSlot_11 (t := 15) rfl ?_
      refine zw_bret hm_142 dX11_isSlot_15 (by decide) ?_
      show ma_wp X d w 158 4 [(0, .inr (.inr (some 64))), (1, .inl rt)] [.inl (1 : Int32)] S _
      refine zw_if0 hm_158 dX11_granted_4 (t := 15) rfl zc0_ne (fun _ => ?_) (fun hc => absurd (by decide) hc)
      refine zw_push hm_158 dX11_granted_15 (v := .inr (.inr (some 64))) rfl ?_
      refine zw_cv hm_158 dX11_granted_16 v_11_119_11 hm_144 [] [] rfl (zT_rt hS s_64 rfl) ⟨by omega, by omega⟩ rfl ?_
      show ma_wp X (d - 1) (w - 20) 144 0 [(0, .inr (.inr (some 64)))] [] S _
      refine zw_push hm_144 dX11_needCollector_0 (v := .inr (.inr (some 64))) rfl ?_
      obtain ⟨hg, h⟩ := h
      refine zw_gf hm_144 dX11_needCollector_1 (v := .inr (.inr (some 87))) (zT_is hS s_64) (zT_t hS s_64) rfl f_11_98_11 (congrArg (fun z => Sum.inr (Sum.inr z)) hg) ?_
      refine zw_ifnonnull hm_144 dX11_needCollector_4 (t := 15) rfl (fun z => by cases z) (fun _ _ => ?_)
      refine zw_push hm_144 dX11_needCollector_15 (v := .inr (.inr (some 64))) rfl ?_
      obtain ⟨hg, h⟩ := h
      refine zw_gf hm_144 dX11_needCollector_16 (v := .inr (.inr (some 87))) (zT_is hS s_64) (zT_t hS s_64) rfl f_11_98_11 (congrArg (fun z => Sum.inr (Sum.inr z)) hg) ?_
      refine zw_aret hm_144 dX11_needCollector_19 ?_
      show ma_wp X d w 158 19 [(0, .inr (.inr (some 64))), (1, .inl rt)] [.inr (.inr (some 87))] S _
      refine zw_sto hm_158 dX11_granted_19 [(2, .inr (.inr (some 87))), (0, .inr (.inr (some 64))), (1, .inl rt)] rfl rfl rfl ?_
      refine zw_push hm_158 dX11_granted_20 (v := .inr (.inr (some 64))) rfl ?_
      refine zw_gf hm_158 dX11_granted_21 (v := .inr (.inr (some 69))) (zT_is hS s_64) (zT_t hS s_64) rfl f_11_26_11 (zT_f hS r_64_8) ?_
      refine zw_cv hm_158 dX11_granted_24 v_11_203_7 hm_98 [] [] rfl (zT_rt hS s_69 rfl) ⟨by omega, by omega⟩ rfl (zw_mono h (zo_go ?_ ?_))
      · intro v2 S1 hv
        obtain ⟨hS1, h⟩ := hv
        refine zw_sto hm_158 dX11_granted_27 [(3, .inr (.inr v2)), (2, .inr (.inr (some 87))), (0, .inr (.inr (some 64))), (1, .inl rt)] rfl rfl rfl ?_
        refine zw_push hm_158 dX11_granted_28 (v := .inr (.inr v2)) rfl ?_
        refine zw_ifnonnull hm_158 dX11_granted_29 (t := 34) rfl ?_ ?_
        · intro hc
          have h := h.1 hc
          (try rw [hc])
          show ma_wp X d w 158 32 [(3, .inr (.inr none)), (2, .inr (.inr (some 87))), (0, .inr (.inr (some 64))), (1, .inl rt)] [] S1 _
          refine zw_push hm_158 dX11_granted_32 (v := .inl (-1 : Int32)) rfl ?_
          exact zw_iret hm_158 dX11_granted_33 h
        · intro c3 hc
          have h := h.2 c3 hc
          (try rw [hc])
          show ma_wp X d w 158 34 [(3, .inr (.inr (some c3))), (2, .inr (.inr (some 87))), (0, .inr (.inr (some 64))), (1, .inl rt)] [] S1 _
          refine zw_push hm_158 dX11_granted_34 (v := .inr (.inr (some 64))) rfl ?_
          refine zw_push hm_158 dX11_granted_35 (v := .inr (.inr (some 87))) rfl ?_
          refine zw_push hm_158 dX11_granted_36 (v := .inl rt) rfl ?_
          refine zw_push hm_158 dX11_granted_37 (v := .inr (.inr (some c3))) rfl ?_
          refine zw_cv hm_158 dX11_granted_38 v_11_169_11 hm_145 [.inr (.inr (some c3)), .inl rt, .inr (.inr (some 87))] [] rfl (zT_rt hS1 s_64 rfl) ⟨by omega, by omega⟩ rfl (zw_mono h (zo_go ?_ ?_))
          · intro v5 S4 hv
            obtain ⟨hS4, h⟩ := hv
            refine zw_stk hm_158 dX11_granted_41 (st₉ := []) rfl rfl ?_
            refine zw_push hm_158 dX11_granted_42 (v := .inr (.inr (some c3))) rfl ?_
            obtain ⟨hg, h⟩ := h
            refine zw_gf hm_158 dX11_granted_43 (v := .inl (mI S4 c3 0)) (zT_tis hS4 hg) (zT_tt hS4 hg) rfl f_11_182_9 rfl ?_
            exact zw_iret hm_158 dX11_granted_46 h
          · intro x S9 hx
            exact ⟨by decide, hx⟩
      · intro x S9 hx
        exact ⟨by decide, hx⟩
theorem sp_158_64_s_p87 {X : Nat × (Nat → Int32)} {d w : Nat} {f : Nat → Nat → Int32} {r : Nat → Nat → Option Nat} {C Z N : Nat} {Q : Option ma_V ⊕ Nat → ma_S → Prop} {ab : Nat→Nat→Int32} {S : ma_S} (rt : Int32) (hd : 7 ≤ d) (hw : 134 ≤ w) (hI : zB f r C Z N S) (hr : r 64 11 = some 87) (hpre0 : xB S (mR S 70)) (hpre1 : aS 88 S = ab) (K : ∀ v S₉, zB f r C Z N S₉ → (True) → (xB S₉ (mR S₉ 70)) → ((0 ≤ rt.toInt ∧ rt.toInt ≤ 15) ∧ ((aNm ab (aTy ab) = -1 ∧ aS 88 S₉ = aTw ab ∧ v = -1) ∨ (aNm ab (aTy ab) = aTy ab ∧ 0 ≤ (aTy ab).toInt ∧ aS 88 S₉ = aRt (aTw ab) rt (aTy ab) ∧ v = aTy ab))) → Q (.inl (some (.inl v))) S₉) (KX : ∀ x S₉, (x = 2) → zB f r C Z N S₉ → (xB S₉ (mR S₉ 70)) → (aS 88 S₉ = ab) → (x = 2 ∧ ¬ (0 ≤ rt.toInt ∧ rt.toInt ≤ 15)) → Q (.inr x) (ma_bump S₉)) : ma_wp X d w 158 0 [(0, .inr (.inr (some 64))), (1, .inl rt)] [] S Q := by
  refine g_158_64_s_p87_0 rt (by omega) (by omega) (zG_T hI) ?_
  have b1 := i_bd rt
  have li2 : (0 : Int32).toInt = 0 := rfl
  refine zd (fun h3 => ?_) (fun h3 => ?_)
  · skip
    have g4 := i_lt h3
    exact KX 2 _ (by decide) hI (show xB S (mR S 70) from by first | (exact xB_x (xC_o (W := 75) hpre0).2)) (show aS 88 S = ab from by first | (exact (xC_o (W := 88) hpre0).1.trans hpre1)) (show 2 = 2 ∧ ¬ (0 ≤ rt.toInt ∧ rt.toInt ≤ 15) from by first | (exact ⟨rfl, by omega⟩))
  · skip
    have g5 := i_nlt h3
    have li6 : (16 : Int32).toInt = 16 := rfl
    refine zd (fun h7 => ?_) (fun h7 => ?_)
    · skip
      have g8 := i_le h7
      exact KX 2 _ (by decide) hI (show xB S (mR S 70) from by first | (exact xB_x (xC_o (W := 75) hpre0).2)) (show aS 88 S = ab from by first | (exact (xC_o (W := 88) hpre0).1.trans hpre1)) (show 2 = 2 ∧ ¬ (0 ≤ rt.toInt ∧ rt.toInt ≤ 15) from by first | (exact ⟨rfl, by omega⟩))
    · skip
      have g9 := i_nle h7
      refine ⟨((zG_r hI (by decide)).trans hr), ?_⟩
      refine ⟨((zG_r hI (by decide)).trans hr), ?_⟩
      refine sp_98_69_s (ab := (aS 88 S)) (R := (mR S 70)) (W := 88) (by omega) (by omega) (zB_dn_zI hI) (show xB S (mR S 70) from by first | (exact (xC_o (W := 75) hpre0).2)) (show aS 88 S = (aS 88 S) from by first | (exact rfl)) (show xW 88 from by first | (exact xW88)) (fun v2 S1 hL_S1 hq_v2 rp0_S1 rp1_S1 => zo_n ⟨zG_T hL_S1, ?_⟩)
      have hI_S1 := zB_up_zI hI hL_S1
      have rp0_S1 : xB S1 (mR S 70) := by
        have z := rp0_S1
        (try rw [show mI S 65 = f 65 from funext (fun k => zG_z hI rfl)] at z)
        (try rw [show mI S 64 1 = f 64 1 from zG_z hI rfl] at z)
        exact z
      have rp1_S1 : v2 = zTa (mR S 70) (aTy (aS 88 S)) ∧ aS 88 S1 = aTw (aS 88 S) := by
        have z := rp1_S1
        (try rw [show mI S 65 = f 65 from funext (fun k => zG_z hI rfl)] at z)
        (try rw [show mI S 64 1 = f 64 1 from zG_z hI rfl] at z)
        exact z
      refine ⟨fun hc => ?_, fun c3 hc => ?_⟩
      · skip
        have rn_c3 : zTa (mR S 70) (aTy (aS 88 S)) = none := rp1_S1.1.symm.trans hc
        have li10 : (-1 : Int32).toInt = -1 := rfl
        exact K ((-1 : Int32)) _ hI_S1 trivial (show xB S1 (mR S1 70) from by first | (exact xB_x (xC_o (W := 75) rp0_S1).2)) (show (0 ≤ rt.toInt ∧ rt.toInt ≤ 15) ∧ ((aNm ab (aTy ab) = -1 ∧ aS 88 S1 = aTw ab ∧ (-1 : Int32) = -1) ∨ (aNm ab (aTy ab) = aTy ab ∧ 0 ≤ (aTy ab).toInt ∧ aS 88 S1 = aRt (aTw ab) rt (aTy ab) ∧ (-1 : Int32) = aTy ab)) from by first | (have tw := rp1_S1; rw [hpre1] at tw; have nn := nm_n (W := 88) hpre0 rn_c3; rw [hpre1] at nn; refine ⟨⟨by omega, by omega⟩, Or.inl ⟨nn, tw.2, rfl⟩⟩))
      · skip
        have th_c3 := hq_v2 c3 hc
        have rg_c3 : zTa (mR S 70) (aTy (aS 88 S)) = some c3 := rp1_S1.1.symm.trans hc
        subst hc
        refine sp_145_64_87_s (ab := (aS 88 S1)) (R := (mR S 70)) (y := ((aTy (aS 88 S)))) (rt) ((some c3)) (by omega) (by omega) (zB_dn_zJ87 hI_S1) (fun _ z => by cases z; exact th_c3) (show xB S1 (mR S 70) from by first | (exact (xC_o (W := 75) rp0_S1).2)) (show aS 88 S1 = (aS 88 S1) from by first | (exact rfl)) (show (some c3) = zTa (mR S 70) ((aTy (aS 88 S))) from by first | (exact rg_c3.symm)) (by omega) (by omega) (fun v5 S4 hL_S4 hq_v5 rp0_S4 rp1_S4 rp2_S4 => zo_n ⟨zG_T hL_S4, ?_⟩)
        have hI_S4 := zB_up_zJ87 hI_S1 hL_S4
        have rp0_S4 : xB S4 (mR S 70) := by
          have z := rp0_S4
          (try rw [show mI S1 65 = f 65 from funext (fun k => zG_z hI_S1 rfl)] at z)
          (try rw [show mI S1 64 1 = f 64 1 from zG_z hI_S1 rfl] at z)
          exact z
        have rp1_S4 : aS 88 S4 = aRt (aS 88 S1) rt ((aTy (aS 88 S))) := by
          have z := rp1_S4
          (try rw [show mI S1 65 = f 65 from funext (fun k => zG_z hI_S1 rfl)] at z)
          (try rw [show mI S1 64 1 = f 64 1 from zG_z hI_S1 rfl] at z)
          exact z
        have rp2_S4 : v5 = zTa (mR S 70) ((aS 88 S1) 72 rt.toNatClampNeg) := by
          have z := rp2_S4
          (try rw [show mI S1 65 = f 65 from funext (fun k => zG_z hI_S1 rfl)] at z)
          (try rw [show mI S1 64 1 = f 64 1 from zG_z hI_S1 rfl] at z)
          exact z
        refine ⟨zG_n hI_S4 th_c3, ?_⟩
        have f11 := zG_th hI_S4 th_c3
        exact K ((mI S4 c3 0)) _ hI_S4 trivial (show xB S4 (mR S4 70) from by first | (exact xB_x (xC_o (W := 75) rp0_S4).2)) (show (0 ≤ rt.toInt ∧ rt.toInt ≤ 15) ∧ ((aNm ab (aTy ab) = -1 ∧ aS 88 S4 = aTw ab ∧ (mI S4 c3 0) = -1) ∨ (aNm ab (aTy ab) = aTy ab ∧ 0 ≤ (aTy ab).toInt ∧ aS 88 S4 = aRt (aTw ab) rt (aTy ab) ∧ (mI S4 c3 0) = aTy ab)) from by first | (have tw := rp1_S1; rw [hpre1] at tw; have nn := nm_y (W := 88) hpre0 rg_c3; rw [hpre1] at nn; have w0 := (zTa_p rg_c3).1; rw [hpre1] at w0; have st := rp1_S4; rw [tw.2, hpre1] at st; have tn := (xB_th (W := 88) rp0_S4 rg_c3).2.2.1; rw [hpre1] at tn; refine ⟨⟨by omega, by omega⟩, Or.inr ⟨nn, w0, st, tn⟩⟩))
/-! A NEW ONE -/
def zNw (a : Nat → Nat → Int32) (n : Nat) (F : Nat → Int32) (L : Int64) : Nat → Nat → Int32 := fun c k => if c = 126 ∧ k = n then 1 else if 126 < c ∧ c < 1000 ∧ k = n then (if zfd (c - 126) = true then F (c - 126) else 0) else if c = 1000 + n then zbit L (Int32.ofNat k) else a c k
def zIw (a : Nat → Nat → Int32) (p : Int) (L : Int64) (j : Int) : Nat → Nat → Int32 := fun c k => if c = 71 ∧ p + 1 ≤ (k : Int) ∧ (k : Int) < p + 1 + j then (if zbit L (Int32.ofNat ((k : Int) - p - 1).toNat) = 0 then 0 else -1) else a c k
def aAd (a : Nat → Nat → Int32) (y : Int32) (F : Nat → Int32) (L : Int64) : Nat → Nat → Int32 := ma_u (ma_u (zIw (ma_u (zNw a y.toNatClampNeg F L) 71 (F 4).toNatClampNeg y) (F 4).toInt L ((F 2).toInt - 1)) 69 6 (a 69 6 + 1)) 69 8 (a 69 8 + F 2)
def aMd (a : Nat → Nat → Int32) (y : Int32) : Nat → Nat → Int32 := if a 87 8 = 0 then ma_u a 87 2 (a 130 y.toNatClampNeg + a 128 y.toNatClampNeg) else ma_u (ma_u a 87 2 (a 130 y.toNatClampNeg + a 128 y.toNatClampNeg)) 77 y.toNatClampNeg 2
section B11
variable {W c n k : Nat} {I : Nat → Nat → Int32} {R : zRT} {L : Nat → Nat → Int64} {a ab : Nat → Nat → Int32} {S : ma_S} {y x i : Int32} {F : Nat → Int32} {l : Int64} {p j : Int}
theorem aF_Rs (hn : n < 512) : aF W I (zRu R n (some c)) L = zNw (aF W I R L) n (I c) (L c 3) := by
  funext c1 k1
  unfold zNw
  by_cases b : c1 < 126
  · rw [if_neg (by omega), if_neg (by omega), if_neg (by omega)]
    unfold aF
    rw [if_pos b, if_pos b]
  · by_cases a1 : c1 = 126
    · by_cases a3 : k1 = n
      · rw [if_pos ⟨a1, a3⟩]
        unfold aF aTn zRu
        rw [if_neg b, if_pos a1, if_pos (by omega), if_pos a3]
      · rw [if_neg (fun w => a3 w.2), if_neg (by omega), if_neg (by omega)]
        unfold aF aTn zRu
        rw [if_neg b, if_pos a1, if_neg b, if_pos a1, if_neg a3]
    · by_cases a2 : c1 < 1000
      · by_cases a3 : k1 = n
        · rw [if_neg (fun w => a1 w.1), if_pos ⟨by omega, a2, a3⟩]
          unfold aF aTf zRu
          rw [if_neg b, if_neg a1, if_pos a2]
          simp only [if_pos a3]
          rw [if_pos (show k1 < 512 by omega)]
        · rw [if_neg (fun w => a1 w.1), if_neg (fun w => a3 w.2.2), if_neg (by omega)]
          unfold aF aTf zRu
          rw [if_neg b, if_neg a1, if_pos a2, if_neg b, if_neg a1, if_pos a2]
          simp only [if_neg a3]
      · rw [if_neg (fun w => a1 w.1), if_neg (by omega)]
        by_cases a3 : c1 = 1000 + n
        · rw [if_pos a3]
          unfold aF aTr zRu
          rw [if_neg b, if_neg a1, if_neg a2, if_pos (by omega), if_pos (show c1 - 1000 = n by omega)]
        · rw [if_neg a3]
          unfold aF aTr zRu
          rw [if_neg b, if_neg a1, if_neg a2, if_neg b, if_neg a1, if_neg a2, if_neg (show ¬ c1 - 1000 = n by omega)]
theorem xC_s (h : xC W S ab R) (hc : 126 ≤ c) (hn : n < 512) (hnum : mI S c 0 = Int32.ofNat n) : xC W (ma_put S 70 n (.inr (.inr (some c)))) (zNw ab n (mI S c) (mL S c 3)) (zRu R n (some c)) := by
  have e : mR (ma_put S 70 n (.inr (.inr (some c)))) 70 = zRu R n (some c) := by
    funext k₉
    show (if 70 = 70 ∧ k₉ = n then some c else mR S 70 k₉) = if k₉ = n then some c else R k₉
    rw [← h.2.1]
    by_cases z : k₉ = n
    · rw [if_pos ⟨rfl, z⟩, if_pos z]
    · rw [if_neg (fun q => z q.2), if_neg z]
  refine ⟨?_, e, fun n₉ t hn₉ q => ?_⟩
  · have z := aF_Rs (W := W) (I := mI S) (R := R) (L := mL S) (c := c) hn
    unfold aS
    rw [e, ← h.1]
    unfold aS
    rw [h.2.1]
    exact z
  · unfold zRu at q
    split at q
    · next w =>
      cases q
      rw [w]
      exact ⟨hc, hnum⟩
    · exact h.2.2 n₉ t hn₉ q
theorem zp_row {c₉ k₉ : Nat} (hc : 126 ≤ c) (h : c₉ < 126) : mI (ma_put S c₉ k₉ (.inl x)) c = mI S c := by
  funext k
  exact zp_e hc h
theorem zIw_0 : zIw a p l 0 = a := by
  funext c₉ k₉
  exact if_neg (by omega)
theorem zIw_s (h0 : 0 ≤ i.toInt) (h1 : i.toInt < 1000) (hk : (k : Int) = p + 1 + i.toInt) (hx : x = if zbit l i = 0 then 0 else -1) : ma_u (zIw a p l i.toInt) 71 k x = zIw a p l (i + 1).toInt := by
  have e := i_p1 (i := i) (by omega)
  funext c₉ k₉
  show (if c₉ = 71 ∧ k₉ = k then x else if c₉ = 71 ∧ p + 1 ≤ (k₉ : Int) ∧ (k₉ : Int) < p + 1 + i.toInt then (if zbit l (Int32.ofNat ((k₉ : Int) - p - 1).toNat) = 0 then 0 else -1) else a c₉ k₉) = if c₉ = 71 ∧ p + 1 ≤ (k₉ : Int) ∧ (k₉ : Int) < p + 1 + (i + 1).toInt then (if zbit l (Int32.ofNat ((k₉ : Int) - p - 1).toNat) = 0 then 0 else -1) else a c₉ k₉
  by_cases h2 : c₉ = 71 ∧ k₉ = k
  · rw [if_pos h2, if_pos ⟨h2.1, by omega, by omega⟩, hx]
    have e2 : ((k₉ : Int) - p - 1).toNat = i.toNatClampNeg := by
      have := tn_cast h0
      omega
    rw [e2, ofN_tn h0]
  · rw [if_neg h2]
    by_cases h3 : c₉ = 71 ∧ p + 1 ≤ (k₉ : Int) ∧ (k₉ : Int) < p + 1 + i.toInt
    · rw [if_pos h3, if_pos (show c₉ = 71 ∧ p + 1 ≤ (k₉ : Int) ∧ (k₉ : Int) < p + 1 + (i + 1).toInt from ⟨h3.1, h3.2.1, by omega⟩)]
    · rw [if_neg h3, if_neg (fun z => h3 ⟨z.1, z.2.1, by
        have z1 := z.2.2
        by_cases q : k₉ = k
        · exact absurd ⟨z.1, q⟩ h2
        · omega⟩)]
theorem zb_y (hb : ¬ lg_cmp ((l.toUInt64 >>> (i.toInt64.toUInt64 &&& Int64.toUInt64 63)).toInt64 &&& (1 : Int64)) (0 : Int64) = 0) : (-1 : Int32) = if zbit l i = 0 then 0 else -1 := by
  unfold zbit
  rw [if_neg hb]
  rfl
theorem zb_n (hb : lg_cmp ((l.toUInt64 >>> (i.toInt64.toUInt64 &&& Int64.toUInt64 63)).toInt64 &&& (1 : Int64)) (0 : Int64) = 0) : (0 : Int32) = if zbit l i = 0 then 0 else -1 := by
  unfold zbit
  rw [if_pos hb]
  rfl
theorem zIw_o (h : c ≠ 71) : zIw a p l j c k = a c k := if_neg (fun w => h w.1)
theorem zNw_o (h : c < 126) : zNw a n F l c k = a c k := by
  unfold zNw
  rw [if_neg (by omega), if_neg (by omega), if_neg (by omega)]
theorem zTa_u (hn : 0 ≤ y.toInt) (h5 : y.toInt < 512) : zTa (zRu R y.toNatClampNeg (some c)) y = some c := by
  unfold zTa zRu
  rw [if_pos ⟨hn, h5⟩, if_pos rfl]
end B11

