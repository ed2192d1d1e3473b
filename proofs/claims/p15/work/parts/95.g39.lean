/-! the heap by numbers, the class (written by wip/tools/gen18.py) -/
theorem g_147_64_s_p87_0 {X : Nat × (Nat → Int32)} {d w : Nat} {S : ma_S} {Q : Option ma_V ⊕ Nat → ma_S → Prop} (b : Int32) (n : Int32) (rt : Int32) (hd : 8 ≤ d) (hw : 232 ≤ w) (hS : zT S) (h : if n < 0 then (Q (.inr 2) (ma_bump S)) else (if (60 : Int32) < n then (Q (.inr 2) (ma_bump S)) else (if rt < 0 then (Q (.inr 2) (ma_bump S)) else (if (16 : Int32) ≤ rt then (Q (.inr 2) (ma_bump S)) else (if b = 0 then (ma_wp X (d - 1) (w - 28) 143 0 [(0, .inr (.inr (some 64))), (1, .inl (17 : Int32)), (2, .inl n), (3, .inr (.inl (0 : Int64))), (5, .inl rt)] [] S (zi (fun v2 S1 => zT S1 ∧ (Q (.inl (some (.inl v2))) S1)) (fun x S9 => Q (.inr x) S9))) else (ma_wp X (d - 1) (w - 28) 143 0 [(0, .inr (.inr (some 64))), (1, .inl (16 : Int32)), (2, .inl n), (3, .inr (.inl (-1 : Int64))), (5, .inl rt)] [] S (zi (fun v4 S3 => zT S3 ∧ (Q (.inl (some (.inl v4))) S3)) (fun x S9 => Q (.inr x) S9)))))))) : ma_wp X d w 147 0 [(0, .inr (.inr (some 64))), (1, .inl b), (2, .inl n), (3, .inl rt)] [] S Q := by
  refine zw_push hm_147 dX11_row_0 (v := .inl n) rfl ?_
  refine zw_if0 hm_147 dX11_row_1 (t := 17) rfl zc0_lt ?_ ?_
  · intro hc
    rw [if_pos hc] at h
    exact zw_thr hm_147 dX11_row_17 dX11_row_20 dX11_row_21 dX11_row_24 x_11_79_81 n_11_79 (by omega) (by show 0 + 81 ≤ w; omega) h
  · intro hc
    rw [if_neg hc] at h
    refine zw_push hm_147 dX11_row_4 (v := .inl n) rfl ?_
    refine zw_push hm_147 dX11_row_5 (v := .inl (60 : Int32)) rfl ?_
    refine zw_if2 hm_147 dX11_row_7 (t := 17) rfl zc2_gt ?_ ?_
    · intro hc
      rw [if_pos hc] at h
      exact zw_thr hm_147 dX11_row_17 dX11_row_20 dX11_row_21 dX11_row_24 x_11_79_81 n_11_79 (by omega) (by show 0 + 81 ≤ w; omega) h
    · intro hc
      rw [if_neg hc] at h
      refine zw_push hm_147 dX11_row_10 (v := .inl rt) rfl ?_
      refine zw_cs hm_147 dX11_row_11 pn_11_109 sl_11_109 hm_142 [.inl rt] [] rfl ⟨by omega, by omega⟩ rfl ?_
      show ma_wp X (d - 1) (w - 20) 142 0 [(0, .inl rt)] [] S _
      refine zw_push hm_142 dX11_isSlot_0 (v := .inl rt) rfl ?_
      refine zw_if0 hm_142 dX11_isSlot_1 (t := 14) rfl zc0_lt ?_ ?_
      · intro hc
        rw [if_pos hc] at h
        refine zw_push hm_142 dX11_isSlot_14 (v := .inl (0 : Int32)) rfl ?_
        refine zw_bret hm_142 dX11_isSlot_15 (by decide) ?_
        show ma_wp X d w 147 14 [(0, .inr (.inr (some 64))), (1, .inl b), (2, .inl n), (3, .inl rt)] [.inl (0 : Int32)] S _
        refine zw_if0 hm_147 dX11_row_14 (t := 25) rfl zc0_ne (fun hc => absurd hc (by decide)) (fun _ => ?_)
        exact zw_thr hm_147 dX11_row_17 dX11_row_20 dX11_row_21 dX11_row_24 x_11_79_81 n_11_79 (by omega) (by show 0 + 81 ≤ w; omega) h
      · intro hc
        rw [if_neg hc] at h
        refine zw_push hm_142 dX11_isSlot_4 (v := .inl rt) rfl ?_
        refine zw_push hm_142 dX11_isSlot_5 (v := .inl (16 : Int32)) rfl ?_
        refine zw_if2 hm_142 dX11_isSlot_7 (t := 14) rfl zc2_ge ?_ ?_
        · intro hc
          rw [if_pos hc] at h
          refine zw_push hm_142 dX11_isSlot_14 (v := .inl (0 : Int32)) rfl ?_
          refine zw_bret hm_142 dX11_isSlot_15 (by decide) ?_
          show ma_wp X d w 147 14 [(0, .inr (.inr (some 64))), (1, .inl b), (2, .inl n), (3, .inl rt)] [.inl (0 : Int32)] S _
          refine zw_if0 hm_147 dX11_row_14 (t := 25) rfl zc0_ne (fun hc => absurd hc (by decide)) (fun _ => ?_)
          exact zw_thr hm_147 dX11_row_17 dX11_row_20 dX11_row_21 dX11_row_24 x_11_79_81 n_11_79 (by omega) (by show 0 + 81 ≤ w; omega) h
        · intro hc
          rw [if_neg hc] at h
          refine zw_push hm_142 dX11_isSlot_10 (v := .inl (1 : Int32)) rfl ?_
          refine zw_goto hm_142 dX11_isSlot_11 (t := 15) rfl ?_
          refine zw_bret hm_142 dX11_isSlot_15 (by decide) ?_
          show ma_wp X d w 147 14 [(0, .inr (.inr (some 64))), (1, .inl b), (2, .inl n), (3, .inl rt)] [.inl (1 : Int32)] S _
          refine zw_if0 hm_147 dX11_row_14 (t := 25) rfl zc0_ne (fun _ => ?_) (fun hc => absurd (by decide) hc)
          refine zw_push hm_147 dX11_row_25 (v := .inl b) rfl ?_
          refine zw_if0 hm_147 dX11_row_26 (t := 43) rfl zc0_eq ?_ ?_
          · intro hc
            rw [if_pos hc] at h
            refine zw_push hm_147 dX11_row_43 (v := .inr (.inr (some 64))) rfl ?_
            refine zw_push hm_147 dX11_row_44 (v := .inl (17 : Int32)) rfl ?_
            refine zw_push hm_147 dX11_row_46 (v := .inl n) rfl ?_
            refine zw_push hm_147 dX11_row_47 (v := .inr (.inl (0 : Int64))) rfl ?_
            refine zw_push hm_147 dX11_row_48 (v := .inl rt) rfl ?_
            refine zw_cv hm_147 dX11_row_49 v_11_113_11 hm_143 [.inl rt, .inr (.inl (0 : Int64)), .inl n, .inl (17 : Int32)] [] rfl (zT_rt hS s_64 rfl) ⟨by omega, by omega⟩ rfl (zw_mono h (zi_go ?_ ?_))
            · intro v2 S1 hv
              obtain ⟨hS1, h⟩ := hv
              exact zw_iret hm_147 dX11_row_52 h
            · intro x S9 hx
              exact ⟨by decide, hx⟩
          · intro hc
            rw [if_neg hc] at h
            refine zw_push hm_147 dX11_row_29 (v := .inr (.inr (some 64))) rfl ?_
            refine zw_push hm_147 dX11_row_30 (v := .inl (16 : Int32)) rfl ?_
            refine zw_push hm_147 dX11_row_32 (v := .inl n) rfl ?_
            refine zw_l2 hm_147 dX11_row_33 l2_11_117 ?_
            refine zw_push hm_147 dX11_row_36 (v := .inl rt) rfl ?_
            refine zw_cv hm_147 dX11_row_37 v_11_113_11 hm_143 [.inl rt, .inr (.inl (-1 : Int64)), .inl n, .inl (16 : Int32)] [] rfl (zT_rt hS s_64 rfl) ⟨by omega, by omega⟩ rfl (zw_mono h (zi_go ?_ ?_))
            · intro v4 S3 hv
              obtain ⟨hS3, h⟩ := hv
              refine zw_goto hm_147 dX11_row_40 (t := 52) rfl ?_
              exact zw_iret hm_147 dX11_row_52 h
            · intro x S9 hx
              exact ⟨by decide, hx⟩
theorem sp_147_64_s_p87 {X : Nat × (Nat → Int32)} {d w : Nat} {f : Nat → Nat → Int32} {r : Nat → Nat → Option Nat} {C Z N : Nat} {Q : Option ma_V ⊕ Nat → ma_S → Prop} {ab : Nat→Nat→Int32} {S : ma_S} (b : Int32) (n : Int32) (rt : Int32) (hd : 8 ≤ d) (hw : 232 ≤ w) (hI : zB f r C Z N S) (hr : r 64 11 = some 87) (hpre0 : 0 ≤ b.toInt) (hpre1 : b.toInt ≤ 1) (hpre2 : xB S (mR S 70)) (hpre3 : aS 88 S = ab) (hpre4 : 0 ≤ (ab 87 6).toInt) (K : ∀ v S' r' C' Z' N', (∀ c k, c < 126 → r' c k = r c k) → C' ≤ C + 1 → Z' ≤ Z + 9 → (N ≤ N') → zB f r' C' Z' N' S' → (True) → (xB S' (mR S' 70)) → ((0 ≤ n.toInt ∧ n.toInt ≤ 60 ∧ 0 ≤ rt.toInt ∧ rt.toInt ≤ 15) ∧ aS 88 S' = (if b = 0 then aMk ab 17 n 0 rt else aMk ab 16 n (-1) rt) ∧ v = aMn ab n) → Q (.inl (some (.inl v))) S') (KX : ∀ x S', (x = 2) → zB f r C Z N S' → (xB S' (mR S' 70)) → (aS 88 S' = ab) → (x = 2 ∧ ¬ (0 ≤ n.toInt ∧ n.toInt ≤ 60 ∧ 0 ≤ rt.toInt ∧ rt.toInt ≤ 15)) → Q (.inr x) (ma_bump S')) : ma_wp X d w 147 0 [(0, .inr (.inr (some 64))), (1, .inl b), (2, .inl n), (3, .inl rt)] [] S Q := by
  refine g_147_64_s_p87_0 b n rt (by omega) (by omega) (zG_T hI) ?_
  have b1 := i_bd n
  have li2 : (0 : Int32).toInt = 0 := rfl
  refine zd (fun h3 => ?_) (fun h3 => ?_)
  · skip
    have g4 := i_lt h3
    exact KX 2 _ (by decide) hI (show xB S (mR S 70) from by first | (exact xB_x (xC_o (W := 75) hpre2).2)) (show aS 88 S = ab from by first | (exact (xC_o (W := 88) hpre2).1.trans hpre3)) (show 2 = 2 ∧ ¬ (0 ≤ n.toInt ∧ n.toInt ≤ 60 ∧ 0 ≤ rt.toInt ∧ rt.toInt ≤ 15) from by first | (exact ⟨rfl, by omega⟩))
  · skip
    have g5 := i_nlt h3
    have li6 : (60 : Int32).toInt = 60 := rfl
    refine zd (fun h7 => ?_) (fun h7 => ?_)
    · skip
      have g8 := i_lt h7
      exact KX 2 _ (by decide) hI (show xB S (mR S 70) from by first | (exact xB_x (xC_o (W := 75) hpre2).2)) (show aS 88 S = ab from by first | (exact (xC_o (W := 88) hpre2).1.trans hpre3)) (show 2 = 2 ∧ ¬ (0 ≤ n.toInt ∧ n.toInt ≤ 60 ∧ 0 ≤ rt.toInt ∧ rt.toInt ≤ 15) from by first | (exact ⟨rfl, by omega⟩))
    · skip
      have g9 := i_nlt h7
      have b10 := i_bd rt
      refine zd (fun h11 => ?_) (fun h11 => ?_)
      · skip
        have g12 := i_lt h11
        exact KX 2 _ (by decide) hI (show xB S (mR S 70) from by first | (exact xB_x (xC_o (W := 75) hpre2).2)) (show aS 88 S = ab from by first | (exact (xC_o (W := 88) hpre2).1.trans hpre3)) (show 2 = 2 ∧ ¬ (0 ≤ n.toInt ∧ n.toInt ≤ 60 ∧ 0 ≤ rt.toInt ∧ rt.toInt ≤ 15) from by first | (exact ⟨rfl, by omega⟩))
      · skip
        have g13 := i_nlt h11
        have li14 : (16 : Int32).toInt = 16 := rfl
        refine zd (fun h15 => ?_) (fun h15 => ?_)
        · skip
          have g16 := i_le h15
          exact KX 2 _ (by decide) hI (show xB S (mR S 70) from by first | (exact xB_x (xC_o (W := 75) hpre2).2)) (show aS 88 S = ab from by first | (exact (xC_o (W := 88) hpre2).1.trans hpre3)) (show 2 = 2 ∧ ¬ (0 ≤ n.toInt ∧ n.toInt ≤ 60 ∧ 0 ≤ rt.toInt ∧ rt.toInt ≤ 15) from by first | (exact ⟨rfl, by omega⟩))
        · skip
          have g17 := i_nle h15
          have b18 := i_bd b
          refine zd (fun h19 => ?_) (fun h19 => ?_)
          · skip
            have g20 := i_eq h19
            have li21 : (17 : Int32).toInt = 17 := rfl
            refine sp_143_64_s_p87 (ab := (aS 88 S)) ((17 : Int32)) (n) ((0 : Int64)) (rt) (by omega) (by omega) hI hr (by omega) (by omega) (by omega) (by omega) (show xB S (mR S 70) from by first | (exact xB_x (xC_o (W := 75) hpre2).2)) (show aS 88 S = (aS 88 S) from by first | (exact rfl)) (show 0 ≤ ((aS 88 S) 87 6).toInt from by first | (exact hpre4) | (rw [hpre3]; exact hpre4)) (fun v2 S1 r' C' Z' N' sl1 sl2 sl3 sl4 hI_S1 hp_v2 rp0_S1 rp1_S1 => zi_n ⟨zG_T hI_S1, ?_⟩)
            have rp0_S1 : xB S1 (mR S1 70) := rp0_S1
            have rp1_S1 : aS 88 S1 = aMk (aS 88 S) (17 : Int32) n (0 : Int64) rt ∧ v2 = aMn (aS 88 S) n := rp1_S1
            have b22 := i_bd v2
            exact K (v2) _ _ _ _ _ sl1 sl2 sl3 sl4 hI_S1 trivial (show xB S1 (mR S1 70) from by first | (exact xB_x (xC_o (W := 75) rp0_S1).2)) (show (0 ≤ n.toInt ∧ n.toInt ≤ 60 ∧ 0 ≤ rt.toInt ∧ rt.toInt ≤ 15) ∧ aS 88 S1 = (if b = 0 then aMk ab 17 n 0 rt else aMk ab 16 n (-1) rt) ∧ v2 = aMn ab n from by first | (exfalso; omega) | (have q := rp1_S1; rw [hpre3] at q; refine ⟨⟨by omega, by omega, by omega, by omega⟩, ?_⟩; rw [if_pos (by assumption)]; exact q) | (have q := rp1_S1; rw [hpre3] at q; refine ⟨⟨by omega, by omega, by omega, by omega⟩, ?_⟩; rw [if_neg (by assumption)]; exact q))
          · skip
            have g23 := i_ne h19
            refine sp_143_64_s_p87 (ab := (aS 88 S)) ((16 : Int32)) (n) ((-1 : Int64)) (rt) (by omega) (by omega) hI hr (by omega) (by omega) (by omega) (by omega) (show xB S (mR S 70) from by first | (exact xB_x (xC_o (W := 75) hpre2).2)) (show aS 88 S = (aS 88 S) from by first | (exact rfl)) (show 0 ≤ ((aS 88 S) 87 6).toInt from by first | (exact hpre4) | (rw [hpre3]; exact hpre4)) (fun v4 S3 r' C' Z' N' sl1 sl2 sl3 sl4 hI_S3 hp_v4 rp0_S3 rp1_S3 => zi_n ⟨zG_T hI_S3, ?_⟩)
            have rp0_S3 : xB S3 (mR S3 70) := rp0_S3
            have rp1_S3 : aS 88 S3 = aMk (aS 88 S) (16 : Int32) n (-1 : Int64) rt ∧ v4 = aMn (aS 88 S) n := rp1_S3
            have b24 := i_bd v4
            exact K (v4) _ _ _ _ _ sl1 sl2 sl3 sl4 hI_S3 trivial (show xB S3 (mR S3 70) from by first | (exact xB_x (xC_o (W := 75) rp0_S3).2)) (show (0 ≤ n.toInt ∧ n.toInt ≤ 60 ∧ 0 ≤ rt.toInt ∧ rt.toInt ≤ 15) ∧ aS 88 S3 = (if b = 0 then aMk ab 17 n 0 rt else aMk ab 16 n (-1) rt) ∧ v4 = aMn ab n from by first | (exfalso; omega) | (have q := rp1_S3; rw [hpre3] at q; refine ⟨⟨by omega, by omega, by omega, by omega⟩, ?_⟩; rw [if_pos (by assumption)]; exact q) | (have q := rp1_S3; rw [hpre3] at q; refine ⟨⟨by omega, by omega, by omega, by omega⟩, ?_⟩; rw [if_neg (by assumption)]; exact q))
/-! SETS THAT A WALK FINDS: N those come to, D those done, E who refers to whom; never by order -/
def zM (N D : Nat → Prop) (E : Nat → Nat → Prop) (x : Nat) : Prop := ∀ P : Nat → Prop, (∀ g, N g → P g) → (∀ u y, P u → ¬ D u → E u y → P y) → P x
section ZM
variable {N N' D D' R : Nat → Prop} {E E' : Nat → Nat → Prop} {u x y : Nat}
theorem zM_in (h : N x) : zM N D E x := fun _ h1 _ => h1 x h
theorem zM_cl (h : zM N D E u) (hd : ¬ D u) (e : E u y) : zM N D E y := fun P h1 h2 => h2 u y (h P h1 h2) hd e
/-- more come to, all of whom would have come -/
theorem zM_add (h1 : ∀ u, N u → N' u) (h2 : ∀ u, N' u → zM N D E u) : zM N' D E x ↔ zM N D E x := ⟨fun h => h _ h2 (fun _ _ hu hd e => zM_cl hu hd e), fun h => h _ (fun g hg => zM_in (h1 g hg)) (fun _ _ hu hd e => zM_cl hu hd e)⟩
/-- more done, whose words have all come -/
theorem zM_dn (h1 : ∀ u, D u → D' u) (h2 : ∀ u y, D' u → ¬ D u → E u y → N y) : zM N D' E x ↔ zM N D E x := by
  refine ⟨fun h => h _ (fun g hg => zM_in hg) (fun u y hu hd e => zM_cl hu (fun z => hd (h1 u z)) e), fun h => h _ (fun g hg => zM_in hg) (fun u y hu hd e => ?_)⟩
  by_cases z : D' u
  · exact zM_in (h2 u y z hd e)
  · exact zM_cl hu z e
theorem zM_end (h : ∀ u, N u → D u) : zM N D E x ↔ N x := ⟨fun z => z _ (fun _ q => q) (fun u _ hu hd _ => absurd (h u hu) hd), zM_in⟩
/-- words change: what is no longer referred to has come, what is referred to now would have come -/
theorem zM_ed (h1 : ∀ u y, E u y → E' u y ∨ N y) (h2 : ∀ u y, ¬ D u → zM N D E u → E' u y → zM N D E y) : zM N D E' x ↔ zM N D E x := by
  refine ⟨fun h => h _ (fun g hg => zM_in hg) (fun u y hu hd e => h2 u y hd hu e), fun h => h _ (fun g hg => zM_in hg) (fun u y hu hd e => ?_)⟩
  rcases h1 u y e with z | z
  · exact zM_cl hu hd z
  · exact zM_in z
/-- what is reached would come, if the roots would and it is closed -/
theorem zM_rch (hr : ∀ r, R r → zM N D E r) (hc : ∀ u y, zM N D E u → E u y → zM N D E y) (h : zM R (fun _ => False) E x) : zM N D E x := h _ hr (fun u y hu _ e => hc u y hu e)
/-- a set within what is reached, that holds the roots and is closed, is it -/
theorem zM_is {X : Nat → Prop} (h1 : ∀ u, X u → zM R (fun _ => False) E u) (h2 : ∀ r, R r → X r) (h3 : ∀ u y, X u → E u y → X y) : X x ↔ zM R (fun _ => False) E x := ⟨h1 x, fun h => h _ h2 (fun u y hu _ e => h3 u y hu e)⟩
end ZM
/-! A WALK'S QUEUE: the GREY ones stand in it, once each -/
def zNn (a : Nat → Nat → Int32) (x : Nat) : Prop := x < 512 ∧ a 77 x ≠ 0
def zDn (a : Nat → Nat → Int32) (x : Nat) : Prop := x < 512 ∧ a 77 x = 2
def xAl (a : Nat → Nat → Int32) (x : Nat) : Prop := x < 512 ∧ a 126 x ≠ 0
def zEd (a : Nat → Nat → Int32) (u y : Nat) : Prop := xAl a y ∧ ∃ i : Int32, 0 ≤ i.toInt ∧ i.toInt < (a 128 u).toInt - 1 ∧ aRef a u i = Int32.ofNat y
def zMk (a : Nat → Nat → Int32) (x : Nat) : Prop := zM (zNn a) (zDn a) (zEd a) x
def zQ1 (a : Nat → Nat → Int32) : Prop := 0 ≤ (a 75 3).toInt ∧ (a 75 3).toInt ≤ (a 75 4).toInt ∧ (a 75 4).toInt ≤ (cnt (a 77) 512 : Int)
def zQ2 (a : Nat → Nat → Int32) : Prop := ∀ j : Nat, (a 75 3).toInt ≤ (j : Int) → (j : Int) < (a 75 4).toInt → 0 ≤ (a 76 j).toInt ∧ (a 76 j).toInt < 512 ∧ a 126 (a 76 j).toNatClampNeg ≠ 0 ∧ a 77 (a 76 j).toNatClampNeg = 1
def zQ3 (a : Nat → Nat → Int32) : Prop := ∀ j j' : Nat, (a 75 3).toInt ≤ (j : Int) → j < j' → (j' : Int) < (a 75 4).toInt → a 76 j ≠ a 76 j'
def zQ4 (a : Nat → Nat → Int32) : Prop := ∀ x : Nat, x < 512 → a 77 x = 1 → ∃ j : Nat, (a 75 3).toInt ≤ (j : Int) ∧ (j : Int) < (a 75 4).toInt ∧ a 76 j = Int32.ofNat x
def zQ5 (a : Nat → Nat → Int32) : Prop := ∀ x : Nat, x < 512 → a 77 x = 0 ∨ a 77 x = 1 ∨ a 77 x = 2
def xFp (a : Nat → Nat → Int32) : Prop := (a 75 5).toInt ≤ 0 ∧ ∀ x, xAl a x → 0 ≤ (a 130 x).toInt
def zWQ (a : Nat → Nat → Int32) : Prop := zQ1 a ∧ zQ2 a ∧ zQ3 a ∧ zQ4 a ∧ zQ5 a ∧ xFp a
section WQ
variable {a b : Nat → Nat → Int32} {y i : Int32} {m k u x : Nat}
theorem tn_of (h : x < 512) : (Int32.ofNat x).toNatClampNeg = x := by
  have e : (Int32.ofNat x).toInt = (x : Int) := Int32.toInt_ofNat_of_lt (by omega)
  have := tn_cast (x := Int32.ofNat x) (by omega)
  omega
theorem ofN_i (h : x < 512) : (Int32.ofNat x).toInt = (x : Int) := Int32.toInt_ofNat_of_lt (by omega)
/-- who may come comes, if WHITE -/
theorem cc_of (h : zWQ a) (h0 : 0 ≤ y.toInt) (h1 : y.toInt < 512) (ha : a 126 y.toNatClampNeg ≠ 0) (hw : a 77 y.toNatClampNeg = 0) : aCc a y := by
  have hn : y.toNatClampNeg < 512 := by
    have := tn_cast h0
    omega
  have c := cnt_lt (r := a 77) hn hw
  have q := h.1.2.2
  have p := h.2.2.2.2.2.2 _ ⟨hn, ha⟩
  have f := h.2.2.2.2.2.1
  exact ⟨h0, h1, ha, by omega, by omega, hw⟩
theorem cm_of : zOf a (aCm a y) := fun c k h1 h2 h3 => (aCm_o ⟨h1, h2, h3⟩).symm
theorem Of_tr {c : Nat → Nat → Int32} (h : zOf a b) (h2 : zOf b c) : zOf a c := fun c k q1 q2 q3 => (h c k q1 q2 q3).trans (h2 c k q1 q2 q3)
theorem Of_rf : zOf a a := fun _ _ _ _ _ => rfl
theorem Of_al (h : zOf a b) : xAl b x ↔ xAl a x := by
  unfold xAl
  rw [h 126 x (by decide) (by decide) (by decide)]
theorem Of_ed (h : zOf a b) : zEd b u x ↔ zEd a u x := by
  unfold zEd
  rw [Of_al h]
  constructor
  · rintro ⟨h1, i, h2, h3, h4⟩
    refine ⟨h1, i, h2, ?_, ?_⟩
    · rw [h 128 u (by decide) (by decide) (by decide)]
      exact h3
    · rw [Of_ref h]
      exact h4
  · rintro ⟨h1, i, h2, h3, h4⟩
    refine ⟨h1, i, h2, ?_, ?_⟩
    · rw [← h 128 u (by decide) (by decide) (by decide)]
      exact h3
    · rw [← Of_ref h]
      exact h4
theorem WQ_cm (h : zWQ a) : zWQ (aCm a y) := by
  by_cases hc : aCc a y
  · rw [aCm_y hc]
    obtain ⟨q1, q2, q3, q4, q5, q6, q7⟩ := h
    obtain ⟨c0, c1, c2, c3, c4, c5⟩ := hc
    have cy := tn_cast c0
    have hn : y.toNatClampNeg < 512 := by omega
    have e1 : (a 75 4 + 1).toInt = (a 75 4).toInt + 1 := i_p1 (by omega)
    have t0 : 0 ≤ (a 75 4).toInt := by
      have := q1.1
      have := q1.2.1
      omega
    have et := tn_cast t0
    generalize ht : (a 75 4).toNatClampNeg = t at *
    generalize hv : a 75 4 + 1 = v at *
    have r3 : (ma_u (ma_u (ma_u a 77 y.toNatClampNeg 1) 76 t y) 75 4 v) 75 3 = a 75 3 := by rw [xu_o (by omega), xu_o (by omega), xu_o (by omega)]
    have r4 : (ma_u (ma_u (ma_u a 77 y.toNatClampNeg 1) 76 t y) 75 4 v) 75 4 = v := xu_s
    have r5 : (ma_u (ma_u (ma_u a 77 y.toNatClampNeg 1) 76 t y) 75 4 v) 75 5 = a 75 5 := by rw [xu_o (by omega), xu_o (by omega), xu_o (by omega)]
    have r6 : ∀ j, j ≠ t → (ma_u (ma_u (ma_u a 77 y.toNatClampNeg 1) 76 t y) 75 4 v) 76 j = a 76 j := fun j w => by rw [xu_o (by omega), xu_o (fun z => w z.2), xu_o (by omega)]
    have r6t : (ma_u (ma_u (ma_u a 77 y.toNatClampNeg 1) 76 t y) 75 4 v) 76 t = y := by rw [xu_o (by omega), xu_s]
    have r7 : ∀ j, j ≠ y.toNatClampNeg → (ma_u (ma_u (ma_u a 77 y.toNatClampNeg 1) 76 t y) 75 4 v) 77 j = a 77 j := fun j w => by rw [xu_o (by omega), xu_o (by omega), xu_o (fun z => w z.2)]
    have r7t : (ma_u (ma_u (ma_u a 77 y.toNatClampNeg 1) 76 t y) 75 4 v) 77 y.toNatClampNeg = 1 := by rw [xu_o (by omega), xu_o (by omega), xu_s]
    have rr : (ma_u (ma_u (ma_u a 77 y.toNatClampNeg 1) 76 t y) 75 4 v) 77 = (ma_u a 77 y.toNatClampNeg 1) 77 := by
      funext j
      rw [xu_o (by omega), xu_o (by omega)]
    have ro : ∀ c k, c ≠ 75 → c ≠ 76 → c ≠ 77 → (ma_u (ma_u (ma_u a 77 y.toNatClampNeg 1) 76 t y) 75 4 v) c k = a c k := fun c k w1 w2 w3 => by rw [xu_o (fun z => w1 z.1), xu_o (fun z => w2 z.1), xu_o (fun z => w3 z.1)]
    generalize hb : ma_u (ma_u (ma_u a 77 y.toNatClampNeg 1) 76 t y) 75 4 v = b at *
    refine ⟨⟨?_, ?_, ?_⟩, ?_, ?_, ?_, ?_, ?_, ?_⟩
    · rw [r3]
      exact q1.1
    · rw [r3, r4, e1]
      have := q1.2.1
      omega
    · rw [r4, e1, rr, cnt_up hn c5 (by decide)]
      have := q1.2.2
      omega
    · intro j j1 j2
      rw [r3] at j1
      rw [r4, e1] at j2
      by_cases w : j = t
      · rw [w, r6t, r7t, ro _ _ (by decide) (by decide) (by decide)]
        exact ⟨c0, c1, c2, rfl⟩
      · rw [r6 j w, ro _ _ (by decide) (by decide) (by decide)]
        have p := q2 j j1 (by omega)
        refine ⟨p.1, p.2.1, p.2.2.1, ?_⟩
        by_cases w2 : (a 76 j).toNatClampNeg = y.toNatClampNeg
        · rw [w2]
          exact r7t
        · rw [r7 _ w2]
          exact p.2.2.2
    · intro j j' j1 j2 j3
      rw [r3] at j1
      rw [r4, e1] at j3
      by_cases w : j' = t
      · rw [w, r6t, r6 j (by omega)]
        intro z
        have p := q2 j j1 (by omega)
        rw [z, c5] at p
        exact absurd p.2.2.2 (by decide)
      · rw [r6 j (by omega), r6 j' w]
        exact q3 j j' j1 j2 (by omega)
    · intro x hx hx1
      rw [r3, r4, e1]
      by_cases w : x = y.toNatClampNeg
      · refine ⟨t, by have := q1.2.1; omega, by omega, ?_⟩
        rw [r6t, w, ofN_tn c0]
      · rw [r7 x w] at hx1
        obtain ⟨j, j1, j2, j3⟩ := q4 x hx hx1
        refine ⟨j, j1, by omega, ?_⟩
        rw [r6 j (by omega)]
        exact j3
    · intro x hx
      by_cases w : x = y.toNatClampNeg
      · rw [w, r7t]
        exact Or.inr (Or.inl rfl)
      · rw [r7 x w]
        exact q5 x hx
    · rw [r5]
      exact q6
    · intro x hx
      unfold xAl at hx
      rw [ro _ _ (by decide) (by decide) (by decide)] at hx ⊢
      exact q7 x hx
  · rw [aCm_n hc]
    exact h
theorem Nn_cm (h : zWQ a) : zNn (aCm a y) u ↔ zNn a u ∨ (0 ≤ y.toInt ∧ y.toInt < 512 ∧ u = y.toNatClampNeg ∧ xAl a u) := by
  by_cases hc : aCc a y
  · have cy := tn_cast hc.1
    have hn : y.toNatClampNeg < 512 := by
      have := hc.2.1
      omega
    rw [aCm_y hc]
    unfold zNn
    rw [xu_o (by omega), xu_o (by omega)]
    by_cases w : u = y.toNatClampNeg
    · rw [w, xu_s]
      exact ⟨fun _ => Or.inr ⟨hc.1, hc.2.1, rfl, hn, hc.2.2.1⟩, fun _ => ⟨hn, by decide⟩⟩
    · rw [xu_o (fun z => w z.2)]
      exact ⟨fun z => Or.inl z, fun z => z.elim id (fun q => absurd q.2.2.1 w)⟩
  · rw [aCm_n hc]
    refine ⟨Or.inl, fun z => z.elim id (fun q => ⟨q.2.2.2.1, fun w => hc ?_⟩)⟩
    rw [q.2.2.1] at w
    have al := q.2.2.2.2
    rw [q.2.2.1] at al
    exact cc_of h q.1 q.2.1 al w
theorem Dn_cm : zDn (aCm a y) u ↔ zDn a u := by
  by_cases hc : aCc a y
  · rw [aCm_y hc]
    unfold zDn
    rw [xu_o (by omega), xu_o (by omega)]
    by_cases w : u = y.toNatClampNeg
    · rw [w, xu_s, hc.2.2.2.2.2]
      exact ⟨fun z => absurd z.2 (by decide), fun z => absurd z.2 (by decide)⟩
    · rw [xu_o (fun z => w z.2)]
  · rw [aCm_n hc]
end WQ
