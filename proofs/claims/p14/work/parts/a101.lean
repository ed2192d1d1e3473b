/-! from 95.g39 -/
/-! the heap by numbers, the class (written by wip/tools/gen18.py) -/
theorem g_147_64_s_p87_0 {X : Nat × (Nat → Int32)} {d w : Nat} {S : ma_S} {Q : Option ma_V ⊕ Nat → ma_S → Prop} (b : Int32) (n : Int32) (rt : Int32) (hd : 8 ≤ d) (hw : 232 ≤ w) (hS : zT S) (h : if n < 0 then (Q (.inr 2) (ma_bump S)) else (if (60 : Int32) < n then (Q (.inr 2) (ma_bump S)) else (if rt < 0 then (Q (.inr 2) (ma_bump S)) else (if (16 : Int32) ≤ rt then (Q (.inr 2) (ma_bump S)) else (if b = 0 then (ma_wp X (d - 1) (w - 28) 143 0 [(0, .inr (.inr (some 64))), (1, .inl (17 : Int32)), (2, .inl n), (3, .inr (.inl (0 : Int64))), (5, .inl rt)] [] S (zi (fun v2 S1 => zT S1 ∧ (Q (.inl (some (.inl v2))) S1)) (fun x S9 => Q (.inr x) S9))) else (ma_wp X (d - 1) (w - 28) 143 0 [(0, .inr (.inr (some 64))), (1, .inl (16 : Int32)), (2, .inl n), (3, .inr (.inl (-1 : Int64))), (5, .inl rt)] [] S (zi (fun v4 S3 => zT S3 ∧ (Q (.inl (some (.inl v4))) S3)) (fun x S9 => Q (.inr x) S9)))))))) : ma_wp X d w 147 0 [(0, .inr (.inr (some 64))), (1, .inl b), (2, .inl n), (3, .inl rt)] [] S Q := by
  refine zw_push hm_147 dX11_row_0 (v := .inl n) rfl ?_
  refine zw_if0 hm_147 dX11_row_1 (t := 17) rfl zc0_lt ?_ ?_
  · intro hc
    rw [if_pos hc] at h
    exact zw_thr hm_147 dX11_row_17 dX11_row_20 dX11_row_21 dX11_row_24 x_11_79_81 n_11_79 (by omega) (by show 0 + 81 ≤ w; omega) h
  · intro hc
    rw [if_neg hc] at h
    refine zw_push hm_147 dX11_row_4 (v := .inl n) rfl ?_
    refine zw_push hm_147 dX11_row_5 (v := .inl (60 : Int32)) rfl ?_
    refine zw_if2 hm_147 dX11_row_7 (t := 17) rfl zc2_gt ?_ ?_
    · intro hc
      rw [if_pos hc] at h
      exact zw_thr hm_147 dX11_row_17 dX11_row_20 dX11_row_21 dX11_row_24 x_11_79_81 n_11_79 (by omega) (by show 0 + 81 ≤ w; omega) h
    · intro hc
      rw [if_neg hc] at h
      refine zw_push hm_147 dX11_row_10 (v := .inl rt) rfl ?_
      refine zw_cs hm_147 dX11_row_11 pn_11_109 sl_11_109 hm_142 [.inl rt] [] rfl ⟨by omega, by omega⟩ rfl ?_
      show ma_wp X (d - 1) (w - 20) 142 0 [(0, .inl rt)] [] S _
      refine zw_push hm_142 dX11_isSlot_0 (v := .inl rt) rfl ?_
      refine zw_if0 hm_142 dX11_isSlot_1 (t := 14) rfl zc0_lt ?_ ?_
      · intro hc
        rw [if_pos hc] at h
        refine zw_push hm_142 dX11_isSlot_14 (v := .inl (0 : Int32)) rfl ?_
        refine zw_bret hm_142 dX11_isSlot_15 (by decide) ?_
        show ma_wp X d w 147 14 [(0, .inr (.inr (some 64))), (1, .inl b), (2, .inl n), (3, .inl rt)] [.inl (0 : Int32)] S _
        refine zw_if0 hm_147 dX11_row_14 (t := 25) rfl zc0_ne (fun hc => absurd hc (by decide)) (fun _ => ?_)
        exact zw_thr hm_147 dX11_row_17 dX11_row_20 dX11_row_21 dX11_row_24 x_11_79_81 n_11_79 (by omega) (by show 0 + 81 ≤ w; omega) h
      · intro hc
        rw [if_neg hc] at h
        refine zw_push hm_142 dX11_isSlot_4 (v := .inl rt) rfl ?_
        refine zw_push hm_142 dX11_isSlot_5 (v := .inl (16 : Int32)) rfl ?_
        refine zw_if2 hm_142 dX11_isSlot_7 (t := 14) rfl zc2_ge ?_ ?_
        · intro hc
          rw [if_pos hc] at h
          refine zw_push hm_142 dX11_isSlot_14 (v := .inl (0 : Int32)) rfl ?_
          refine zw_bret hm_142 dX11_isSlot_15 (by decide) ?_
          show ma_wp X d w 147 14 [(0, .inr (.inr (some 64))), (1, .inl b), (2, .inl n), (3, .inl rt)] [.inl (0 : Int32)] S _
          refine zw_if0 hm_147 dX11_row_14 (t := 25) rfl zc0_ne (fun hc => absurd hc (by decide)) (fun _ => ?_)
          exact zw_thr hm_147 dX11_row_17 dX11_row_20 dX11_row_21 dX11_row_24 x_11_79_81 n_11_79 (by omega) (by show 0 + 81 ≤ w; omega) h
        · intro hc
          rw [if_neg hc] at h
          refine zw_push hm_142 dX11_isSlot_10 (v := .inl (1 : Int32)) rfl ?_
          refine zw_goto hm_142 dX11_isSlot_11 (t := 15) rfl ?_
          refine zw_bret hm_142 dX11_isSlot_15 (by decide) ?_
          show ma_wp X d w 147 14 [(0, .inr (.inr (some 64))), (1, .inl b), (2, .inl n), (3, .inl rt)] [.inl (1 : Int32)] S _
          refine zw_if0 hm_147 dX11_row_14 (t := 25) rfl zc0_ne (fun _ => ?_) (fun hc => absurd (by decide) hc)
          refine zw_push hm_147 dX11_row_25 (v := .inl b) rfl ?_
          refine zw_if0 hm_147 dX11_row_26 (t := 43) rfl zc0_eq ?_ ?_
          · intro hc
            rw [if_pos hc] at h
            refine zw_push hm_147 dX11_row_43 (v := .inr (.inr (some 64))) rfl ?_
            refine zw_push hm_147 dX11_row_44 (v := .inl (17 : Int32)) rfl ?_
            refine zw_push hm_147 dX11_row_46 (v := .inl n) rfl ?_
            refine zw_push hm_147 dX11_row_47 (v := .inr (.inl (0 : Int64))) rfl ?_
            refine zw_push hm_147 dX11_row_48 (v := .inl rt) rfl ?_
            refine zw_cv hm_147 dX11_row_49 v_11_113_11 hm_143 [.inl rt, .inr (.inl (0 : Int64)), .inl n, .inl (17 : Int32)] [] rfl (zT_rt hS s_64 rfl) ⟨by omega, by omega⟩ rfl (zw_mono h (zi_go ?_ ?_))
            · intro v2 S1 hv
              obtain ⟨hS1, h⟩ := hv
              exact zw_iret hm_147 dX11_row_52 h
            · intro x S9 hx
              exact ⟨by decide, hx⟩
          · intro hc
            rw [if_neg hc] at h
            refine zw_push hm_147 dX11_row_29 (v := .inr (.inr (some 64))) rfl ?_
            refine zw_push hm_147 dX11_row_30 (v := .inl (16 : Int32)) rfl ?_
            refine zw_push hm_147 dX11_row_32 (v := .inl n) rfl ?_
            refine zw_l2 hm_147 dX11_row_33 l2_11_117 ?_
            refine zw_push hm_147 dX11_row_36 (v := .inl rt) rfl ?_
            refine zw_cv hm_147 dX11_row_37 v_11_113_11 hm_143 [.inl rt, .inr (.inl (-1 : Int64)), .inl n, .inl (16 : Int32)] [] rfl (zT_rt hS s_64 rfl) ⟨by omega, by omega⟩ rfl (zw_mono h (zi_go ?_ ?_))
            · intro v4 S3 hv
              obtain ⟨hS3, h⟩ := hv
              refine zw_goto hm_147 dX11_row_40 (t := 52) rfl ?_
              exact zw_iret hm_147 dX11_row_52 h
            · intro x S9 hx
              exact ⟨by decide, hx⟩
theorem sp_147_64_s_p87 {X : Nat × (Nat → Int32)} {d w : Nat} {f : Nat → Nat → Int32} {r : Nat → Nat → Option Nat} {C Z N : Nat} {Q : Option ma_V ⊕ Nat → ma_S → Prop} {ab : Nat→Nat→Int32} {S : ma_S} (b : Int32) (n : Int32) (rt : Int32) (hd : 8 ≤ d) (hw : 232 ≤ w) (hI : zB f r C Z N S) (hr : r 64 11 = some 87) (hpre0 : 0 ≤ b.toInt) (hpre1 : b.toInt ≤ 1) (hpre2 : xB S (mR S 70)) (hpre3 : aS 88 S = ab) (hpre4 : 0 ≤ (ab 87 6).toInt) (K : ∀ v S₉ r₉ C₉ Z₉ N₉, (∀ c k, c < 126 → r₉ c k = r c k) → C₉ ≤ C + 1 → Z₉ ≤ Z + 9 → (N ≤ N₉) → zB f r₉ C₉ Z₉ N₉ S₉ → (True) → (xB S₉ (mR S₉ 70)) → ((0 ≤ n.toInt ∧ n.toInt ≤ 60 ∧ 0 ≤ rt.toInt ∧ rt.toInt ≤ 15) ∧ aS 88 S₉ = (if b = 0 then aMk ab 17 n 0 rt else aMk ab 16 n (-1) rt) ∧ v = aMn ab n) → Q (.inl (some (.inl v))) S₉) (KX : ∀ x S₉, (x = 2) → zB f r C Z N S₉ → (xB S₉ (mR S₉ 70)) → (aS 88 S₉ = ab) → (x = 2 ∧ ¬ (0 ≤ n.toInt ∧ n.toInt ≤ 60 ∧ 0 ≤ rt.toInt ∧ rt.toInt ≤ 15)) → Q (.inr x) (ma_bump S₉)) : ma_wp X d w 147 0 [(0, .inr (.inr (some 64))), (1, .inl b), (2, .inl n), (3, .inl rt)] [] S Q := by
  refine g_147_64_s_p87_0 b n rt (by omega) (by omega) (zG_T hI) ?_
  have b1 := i_bd n
  have li2 : (0 : Int32).toInt = 0 := rfl
  refine zd (fun h3 => ?_) (fun h3 => ?_)
  · skip
    have g4 := i_lt h3
    exact KX 2 _ (by decide) hI (show xB S (mR S 70) from by first | (exact xB_x (xC_o (W := 75) hpre2).2)) (show aS 88 S = ab from by first | (exact (xC_o (W := 88) hpre2).1.trans hpre3)) (show 2 = 2 ∧ ¬ (0 ≤ n.toInt ∧ n.toInt ≤ 60 ∧ 0 ≤ rt.toInt ∧ rt.toInt ≤ 15) from by first | (exact ⟨rfl, by omega⟩))
  · skip
    have g5 := i_nlt h3
    have li6 : (60 : Int32).toInt = 60 := rfl
    refine zd (fun h7 => ?_) (fun h7 => ?_)
    · skip
      have g8 := i_lt h7
      exact KX 2 _ (by decide) hI (show xB S (mR S 70) from by first | (exact xB_x (xC_o (W := 75) hpre2).2)) (show aS 88 S = ab from by first | (exact (xC_o (W := 88) hpre2).1.trans hpre3)) (show 2 = 2 ∧ ¬ (0 ≤ n.toInt ∧ n.toInt ≤ 60 ∧ 0 ≤ rt.toInt ∧ rt.toInt ≤ 15) from by first | (exact ⟨rfl, by omega⟩))
    · skip
      have g9 := i_nlt h7
      have b10 := i_bd rt
      refine zd (fun h11 => ?_) (fun h11 => ?_)
      · skip
        have g12 := i_lt h11
        exact KX 2 _ (by decide) hI (show xB S (mR S 70) from by first | (exact xB_x (xC_o (W := 75) hpre2).2)) (show aS 88 S = ab from by first | (exact (xC_o (W := 88) hpre2).1.trans hpre3)) (show 2 = 2 ∧ ¬ (0 ≤ n.toInt ∧ n.toInt ≤ 60 ∧ 0 ≤ rt.toInt ∧ rt.toInt ≤ 15) from by first | (exact ⟨rfl, by omega⟩))
      · skip
        have g13 := i_nlt h11
        have li14 : (16 : Int32).toInt = 16 := rfl
        refine zd (fun h15 => ?_) (fun h15 => ?_)
        · skip
          have g16 := i_le h15
          exact KX 2 _ (by decide) hI (show xB S (mR S 70) from by first | (exact xB_x (xC_o (W := 75) hpre2).2)) (show aS 88 S = ab from by first | (exact (xC_o (W := 88) hpre2).1.trans hpre3)) (show 2 = 2 ∧ ¬ (0 ≤ n.toInt ∧ n.toInt ≤ 60 ∧ 0 ≤ rt.toInt ∧ rt.toInt ≤ 15) from by first | (exact ⟨rfl, by omega⟩))
        · skip
          have g17 := i_nle h15
          have b18 := i_bd b
          refine zd (fun h19 => ?_) (fun h19 => ?_)
          · skip
            have g20 := i_eq h19
            have li21 : (17 : Int32).toInt = 17 := rfl
            refine sp_143_64_s_p87 (ab := (aS 88 S)) ((17 : Int32)) (n) ((0 : Int64)) (rt) (by omega) (by omega) hI hr (by omega) (by omega) (by omega) (by omega) (show xB S (mR S 70) from by first | (exact xB_x (xC_o (W := 75) hpre2).2)) (show aS 88 S = (aS 88 S) from by first | (exact rfl)) (show 0 ≤ ((aS 88 S) 87 6).toInt from by first | (exact hpre4) | (rw [hpre3]; exact hpre4)) (fun v2 S1 r₉ C₉ Z₉ N₉ sl1 sl2 sl3 sl4 hI_S1 hp_v2 rp0_S1 rp1_S1 => zi_n ⟨zG_T hI_S1, ?_⟩)
            have rp0_S1 : xB S1 (mR S1 70) := rp0_S1
            have rp1_S1 : aS 88 S1 = aMk (aS 88 S) (17 : Int32) n (0 : Int64) rt ∧ v2 = aMn (aS 88 S) n := rp1_S1
            have b22 := i_bd v2
            exact K (v2) _ _ _ _ _ sl1 sl2 sl3 sl4 hI_S1 trivial (show xB S1 (mR S1 70) from by first | (exact xB_x (xC_o (W := 75) rp0_S1).2)) (show (0 ≤ n.toInt ∧ n.toInt ≤ 60 ∧ 0 ≤ rt.toInt ∧ rt.toInt ≤ 15) ∧ aS 88 S1 = (if b = 0 then aMk ab 17 n 0 rt else aMk ab 16 n (-1) rt) ∧ v2 = aMn ab n from by first | (exfalso; omega) | (have q := rp1_S1; rw [hpre3] at q; refine ⟨⟨by omega, by omega, by omega, by omega⟩, ?_⟩; rw [if_pos (by assumption)]; exact q) | (have q := rp1_S1; rw [hpre3] at q; refine ⟨⟨by omega, by omega, by omega, by omega⟩, ?_⟩; rw [if_neg (by assumption)]; exact q))
          · skip
            have g23 := i_ne h19
            refine sp_143_64_s_p87 (ab := (aS 88 S)) ((16 : Int32)) (n) ((-1 : Int64)) (rt) (by omega) (by omega) hI hr (by omega) (by omega) (by omega) (by omega) (show xB S (mR S 70) from by first | (exact xB_x (xC_o (W := 75) hpre2).2)) (show aS 88 S = (aS 88 S) from by first | (exact rfl)) (show 0 ≤ ((aS 88 S) 87 6).toInt from by first | (exact hpre4) | (rw [hpre3]; exact hpre4)) (fun v4 S3 r₉ C₉ Z₉ N₉ sl1 sl2 sl3 sl4 hI_S3 hp_v4 rp0_S3 rp1_S3 => zi_n ⟨zG_T hI_S3, ?_⟩)
            have rp0_S3 : xB S3 (mR S3 70) := rp0_S3
            have rp1_S3 : aS 88 S3 = aMk (aS 88 S) (16 : Int32) n (-1 : Int64) rt ∧ v4 = aMn (aS 88 S) n := rp1_S3
            have b24 := i_bd v4
            exact K (v4) _ _ _ _ _ sl1 sl2 sl3 sl4 hI_S3 trivial (show xB S3 (mR S3 70) from by first | (exact xB_x (xC_o (W := 75) rp0_S3).2)) (show (0 ≤ n.toInt ∧ n.toInt ≤ 60 ∧ 0 ≤ rt.toInt ∧ rt.toInt ≤ 15) ∧ aS 88 S3 = (if b = 0 then aMk ab 17 n 0 rt else aMk ab 16 n (-1) rt) ∧ v4 = aMn ab n from by first | (exfalso; omega) | (have q := rp1_S3; rw [hpre3] at q; refine ⟨⟨by omega, by omega, by omega, by omega⟩, ?_⟩; rw [if_pos (by assumption)]; exact q) | (have q := rp1_S3; rw [hpre3] at q; refine ⟨⟨by omega, by omega, by omega, by omega⟩, ?_⟩; rw [if_neg (by assumption)]; exact q))
/-! SETS THAT A WALK FINDS: N those come to, D those done, E who refers to whom; never by order -/
def zM (N D : Nat → Prop) (E : Nat → Nat → Prop) (x : Nat) : Prop := ∀ P : Nat → Prop, (∀ g, N g → P g) → (∀ u y, P u → ¬ D u → E u y → P y) → P x
section ZM
variable {N N₉ D D₉ R : Nat → Prop} {E E₉ : Nat → Nat → Prop} {u x y : Nat}
theorem zM_in (h : N x) : zM N D E x := fun _ h1 _ => h1 x h
theorem zM_cl (h : zM N D E u) (hd : ¬ D u) (e : E u y) : zM N D E y := fun P h1 h2 => h2 u y (h P h1 h2) hd e
/-- more come to, all of whom would have come -/
theorem zM_add (h1 : ∀ u, N u → N₉ u) (h2 : ∀ u, N₉ u → zM N D E u) : zM N₉ D E x ↔ zM N D E x := ⟨fun h => h _ h2 (fun _ _ hu hd e => zM_cl hu hd e), fun h => h _ (fun g hg => zM_in (h1 g hg)) (fun _ _ hu hd e => zM_cl hu hd e)⟩
/-- more done, whose words have all come -/
theorem zM_dn (h1 : ∀ u, D u → D₉ u) (h2 : ∀ u y, D₉ u → ¬ D u → E u y → N y) : zM N D₉ E x ↔ zM N D E x := by
  refine ⟨fun h => h _ (fun g hg => zM_in hg) (fun u y hu hd e => zM_cl hu (fun z => hd (h1 u z)) e), fun h => h _ (fun g hg => zM_in hg) (fun u y hu hd e => ?_)⟩
  by_cases z : D₉ u
  · exact zM_in (h2 u y z hd e)
  · exact zM_cl hu z e
theorem zM_end (h : ∀ u, N u → D u) : zM N D E x ↔ N x := ⟨fun z => z _ (fun _ q => q) (fun u _ hu hd _ => absurd (h u hu) hd), zM_in⟩
/-- words change: what is no longer referred to has come, what is referred to now would have come -/
theorem zM_ed (h1 : ∀ u y, E u y → E₉ u y ∨ N y) (h2 : ∀ u y, ¬ D u → zM N D E u → E₉ u y → zM N D E y) : zM N D E₉ x ↔ zM N D E x := by
  refine ⟨fun h => h _ (fun g hg => zM_in hg) (fun u y hu hd e => h2 u y hd hu e), fun h => h _ (fun g hg => zM_in hg) (fun u y hu hd e => ?_)⟩
  rcases h1 u y e with z | z
  · exact zM_cl hu hd z
  · exact zM_in z
/-- what is reached would come, if the roots would and it is closed -/
theorem zM_rch (hr : ∀ r, R r → zM N D E r) (hc : ∀ u y, zM N D E u → E u y → zM N D E y) (h : zM R (fun _ => False) E x) : zM N D E x := h _ hr (fun u y hu _ e => hc u y hu e)
end ZM
/-! A WALK'S QUEUE: the GREY ones stand in it, once each -/
def zNn (a : Nat → Nat → Int32) (x : Nat) : Prop := x < 512 ∧ a 77 x ≠ 0
def zDn (a : Nat → Nat → Int32) (x : Nat) : Prop := x < 512 ∧ a 77 x = 2
def xAl (a : Nat → Nat → Int32) (x : Nat) : Prop := x < 512 ∧ a 126 x ≠ 0
def zEd (a : Nat → Nat → Int32) (u y : Nat) : Prop := xAl a y ∧ ∃ i : Int32, 0 ≤ i.toInt ∧ i.toInt < (a 128 u).toInt - 1 ∧ aRef a u i = Int32.ofNat y
def zMk (a : Nat → Nat → Int32) (x : Nat) : Prop := zM (zNn a) (zDn a) (zEd a) x
def zQ1 (a : Nat → Nat → Int32) : Prop := 0 ≤ (a 75 3).toInt ∧ (a 75 3).toInt ≤ (a 75 4).toInt ∧ (a 75 4).toInt ≤ (cnt (a 77) 512 : Int)
def zQ2 (a : Nat → Nat → Int32) : Prop := ∀ j : Nat, (a 75 3).toInt ≤ (j : Int) → (j : Int) < (a 75 4).toInt → 0 ≤ (a 76 j).toInt ∧ (a 76 j).toInt < 512 ∧ a 126 (a 76 j).toNatClampNeg ≠ 0 ∧ a 77 (a 76 j).toNatClampNeg = 1
def zQ3 (a : Nat → Nat → Int32) : Prop := ∀ j j₉ : Nat, (a 75 3).toInt ≤ (j : Int) → j < j₉ → (j₉ : Int) < (a 75 4).toInt → a 76 j ≠ a 76 j₉
def zQ4 (a : Nat → Nat → Int32) : Prop := ∀ x : Nat, x < 512 → a 77 x = 1 → ∃ j : Nat, (a 75 3).toInt ≤ (j : Int) ∧ (j : Int) < (a 75 4).toInt ∧ a 76 j = Int32.ofNat x
def zQ5 (a : Nat → Nat → Int32) : Prop := ∀ x : Nat, x < 512 → a 77 x = 0 ∨ a 77 x = 1 ∨ a 77 x = 2
def xFp (a : Nat → Nat → Int32) : Prop := (a 75 5).toInt ≤ 0 ∧ ∀ x, xAl a x → 0 ≤ (a 130 x).toInt
def zWQ (a : Nat → Nat → Int32) : Prop := zQ1 a ∧ zQ2 a ∧ zQ3 a ∧ zQ4 a ∧ zQ5 a ∧ xFp a
section WQ
variable {a b : Nat → Nat → Int32} {y i : Int32} {m k u x : Nat}
theorem tn_of (h : x < 512) : (Int32.ofNat x).toNatClampNeg = x := by
  have e : (Int32.ofNat x).toInt = (x : Int) := Int32.toInt_ofNat_of_lt (by omega)
  have := tn_cast (x := Int32.ofNat x) (by omega)
  omega
theorem ofN_i (h : x < 512) : (Int32.ofNat x).toInt = (x : Int) := Int32.toInt_ofNat_of_lt (by omega)
/-- who may come comes, if WHITE -/
theorem cc_of (h : zWQ a) (h0 : 0 ≤ y.toInt) (h1 : y.toInt < 512) (ha : a 126 y.toNatClampNeg ≠ 0) (hw : a 77 y.toNatClampNeg = 0) : aCc a y := by
  have hn : y.toNatClampNeg < 512 := by
    have := tn_cast h0
    omega
  have c := cnt_lt (r := a 77) hn hw
  have q := h.1.2.2
  have p := h.2.2.2.2.2.2 _ ⟨hn, ha⟩
  have f := h.2.2.2.2.2.1
  exact ⟨h0, h1, ha, by omega, by omega, hw⟩
theorem cm_of : zOf a (aCm a y) := fun c k h1 h2 h3 => (aCm_o ⟨h1, h2, h3⟩).symm
theorem Of_tr {c : Nat → Nat → Int32} (h : zOf a b) (h2 : zOf b c) : zOf a c := fun c k q1 q2 q3 => (h c k q1 q2 q3).trans (h2 c k q1 q2 q3)
theorem Of_rf : zOf a a := fun _ _ _ _ _ => rfl
theorem Of_al (h : zOf a b) : xAl b x ↔ xAl a x := by
  unfold xAl
  rw [h 126 x (by decide) (by decide) (by decide)]
theorem Of_ed (h : zOf a b) : zEd b u x ↔ zEd a u x := by
  unfold zEd
  rw [Of_al h]
  constructor
  · rintro ⟨h1, i, h2, h3, h4⟩
    refine ⟨h1, i, h2, ?_, ?_⟩
    · rw [h 128 u (by decide) (by decide) (by decide)]
      exact h3
    · rw [Of_ref h]
      exact h4
  · rintro ⟨h1, i, h2, h3, h4⟩
    refine ⟨h1, i, h2, ?_, ?_⟩
    · rw [← h 128 u (by decide) (by decide) (by decide)]
      exact h3
    · rw [← Of_ref h]
      exact h4
theorem WQ_cm (h : zWQ a) : zWQ (aCm a y) := by
  by_cases hc : aCc a y
  · rw [aCm_y hc]
    obtain ⟨q1, q2, q3, q4, q5, q6, q7⟩ := h
    obtain ⟨c0, c1, c2, c3, c4, c5⟩ := hc
    have cy := tn_cast c0
    have hn : y.toNatClampNeg < 512 := by omega
    have e1 : (a 75 4 + 1).toInt = (a 75 4).toInt + 1 := i_p1 (by omega)
    have t0 : 0 ≤ (a 75 4).toInt := by
      have := q1.1
      have := q1.2.1
      omega
    have et := tn_cast t0
    generalize ht : (a 75 4).toNatClampNeg = t at *
    generalize hv : a 75 4 + 1 = v at *
    have r3 : (ma_u (ma_u (ma_u a 77 y.toNatClampNeg 1) 76 t y) 75 4 v) 75 3 = a 75 3 := by rw [xu_o (by omega), xu_o (by omega), xu_o (by omega)]
    have r4 : (ma_u (ma_u (ma_u a 77 y.toNatClampNeg 1) 76 t y) 75 4 v) 75 4 = v := xu_s
    have r5 : (ma_u (ma_u (ma_u a 77 y.toNatClampNeg 1) 76 t y) 75 4 v) 75 5 = a 75 5 := by rw [xu_o (by omega), xu_o (by omega), xu_o (by omega)]
    have r6 : ∀ j, j ≠ t → (ma_u (ma_u (ma_u a 77 y.toNatClampNeg 1) 76 t y) 75 4 v) 76 j = a 76 j := fun j w => by rw [xu_o (by omega), xu_o (fun z => w z.2), xu_o (by omega)]
    have r6t : (ma_u (ma_u (ma_u a 77 y.toNatClampNeg 1) 76 t y) 75 4 v) 76 t = y := by rw [xu_o (by omega), xu_s]
    have r7 : ∀ j, j ≠ y.toNatClampNeg → (ma_u (ma_u (ma_u a 77 y.toNatClampNeg 1) 76 t y) 75 4 v) 77 j = a 77 j := fun j w => by rw [xu_o (by omega), xu_o (by omega), xu_o (fun z => w z.2)]
    have r7t : (ma_u (ma_u (ma_u a 77 y.toNatClampNeg 1) 76 t y) 75 4 v) 77 y.toNatClampNeg = 1 := by rw [xu_o (by omega), xu_o (by omega), xu_s]
    have rr : (ma_u (ma_u (ma_u a 77 y.toNatClampNeg 1) 76 t y) 75 4 v) 77 = (ma_u a 77 y.toNatClampNeg 1) 77 := by
      funext j
      rw [xu_o (by omega), xu_o (by omega)]
    have ro : ∀ c k, c ≠ 75 → c ≠ 76 → c ≠ 77 → (ma_u (ma_u (ma_u a 77 y.toNatClampNeg 1) 76 t y) 75 4 v) c k = a c k := fun c k w1 w2 w3 => by rw [xu_o (fun z => w1 z.1), xu_o (fun z => w2 z.1), xu_o (fun z => w3 z.1)]
    generalize hb : ma_u (ma_u (ma_u a 77 y.toNatClampNeg 1) 76 t y) 75 4 v = b at *
    refine ⟨⟨?_, ?_, ?_⟩, ?_, ?_, ?_, ?_, ?_, ?_⟩
    · rw [r3]
      exact q1.1
    · rw [r3, r4, e1]
      have := q1.2.1
      omega
    · rw [r4, e1, rr, cnt_up hn c5 (by decide)]
      have := q1.2.2
      omega
    · intro j j1 j2
      rw [r3] at j1
      rw [r4, e1] at j2
      by_cases w : j = t
      · rw [w, r6t, r7t, ro _ _ (by decide) (by decide) (by decide)]
        exact ⟨c0, c1, c2, rfl⟩
      · rw [r6 j w, ro _ _ (by decide) (by decide) (by decide)]
        have p := q2 j j1 (by omega)
        refine ⟨p.1, p.2.1, p.2.2.1, ?_⟩
        by_cases w2 : (a 76 j).toNatClampNeg = y.toNatClampNeg
        · rw [w2]
          exact r7t
        · rw [r7 _ w2]
          exact p.2.2.2
    · intro j j₉ j1 j2 j3
      rw [r3] at j1
      rw [r4, e1] at j3
      by_cases w : j₉ = t
      · rw [w, r6t, r6 j (by omega)]
        intro z
        have p := q2 j j1 (by omega)
        rw [z, c5] at p
        exact absurd p.2.2.2 (by decide)
      · rw [r6 j (by omega), r6 j₉ w]
        exact q3 j j₉ j1 j2 (by omega)
    · intro x hx hx1
      rw [r3, r4, e1]
      by_cases w : x = y.toNatClampNeg
      · refine ⟨t, by have := q1.2.1; omega, by omega, ?_⟩
        rw [r6t, w, ofN_tn c0]
      · rw [r7 x w] at hx1
        obtain ⟨j, j1, j2, j3⟩ := q4 x hx hx1
        refine ⟨j, j1, by omega, ?_⟩
        rw [r6 j (by omega)]
        exact j3
    · intro x hx
      by_cases w : x = y.toNatClampNeg
      · rw [w, r7t]
        exact Or.inr (Or.inl rfl)
      · rw [r7 x w]
        exact q5 x hx
    · rw [r5]
      exact q6
    · intro x hx
      unfold xAl at hx
      rw [ro _ _ (by decide) (by decide) (by decide)] at hx ⊢
      exact q7 x hx
  · rw [aCm_n hc]
    exact h
theorem Nn_cm (h : zWQ a) : zNn (aCm a y) u ↔ zNn a u ∨ (0 ≤ y.toInt ∧ y.toInt < 512 ∧ u = y.toNatClampNeg ∧ xAl a u) := by
  by_cases hc : aCc a y
  · have cy := tn_cast hc.1
    have hn : y.toNatClampNeg < 512 := by
      have := hc.2.1
      omega
    rw [aCm_y hc]
    unfold zNn
    rw [xu_o (by omega), xu_o (by omega)]
    by_cases w : u = y.toNatClampNeg
    · rw [w, xu_s]
      exact ⟨fun _ => Or.inr ⟨hc.1, hc.2.1, rfl, hn, hc.2.2.1⟩, fun _ => ⟨hn, by decide⟩⟩
    · rw [xu_o (fun z => w z.2)]
      exact ⟨fun z => Or.inl z, fun z => z.elim id (fun q => absurd q.2.2.1 w)⟩
  · rw [aCm_n hc]
    refine ⟨Or.inl, fun z => z.elim id (fun q => ⟨q.2.2.2.1, fun w => hc ?_⟩)⟩
    rw [q.2.2.1] at w
    have al := q.2.2.2.2
    rw [q.2.2.1] at al
    exact cc_of h q.1 q.2.1 al w
theorem Dn_cm : zDn (aCm a y) u ↔ zDn a u := by
  by_cases hc : aCc a y
  · rw [aCm_y hc]
    unfold zDn
    rw [xu_o (by omega), xu_o (by omega)]
    by_cases w : u = y.toNatClampNeg
    · rw [w, xu_s, hc.2.2.2.2.2]
      exact ⟨fun z => absurd z.2 (by decide), fun z => absurd z.2 (by decide)⟩
    · rw [xu_o (fun z => w z.2)]
  · rw [aCm_n hc]
end WQ

/-! from 95.g40 -/
/-! the heap by numbers, the class (written by wip/tools/gen18.py) -/
/-! what a walk finds -/
def zGr (a b : Nat → Nat → Int32) (T : Nat → Prop) : Prop := zWQ b ∧ zOf a b ∧ (∀ u, zDn b u ↔ zDn a u) ∧ (∀ u, zNn b u ↔ zNn a u ∨ (xAl a u ∧ T u)) ∧ b 75 3 = a 75 3
section GR
variable {a b c : Nat → Nat → Int32} {T T₉ : Nat → Prop} {y i n : Int32} {m k u x : Nat}
theorem cm_3 : aCm a y 75 3 = a 75 3 := by
  by_cases h : aCc a y
  · rw [aCm_y h, xu_o (by omega), xu_o (by omega), xu_o (by omega)]
  · rw [aCm_n h]
theorem gr_rf (h : zWQ a) : zGr a a (fun _ => False) := ⟨h, Of_rf, fun _ => Iff.rfl, fun _ => ⟨Or.inl, fun z => z.elim id (fun q => q.2.elim)⟩, rfl⟩
theorem gr_cm (h : zWQ a) : zGr a (aCm a y) (fun u => y = Int32.ofNat u) := by
  refine ⟨WQ_cm h, cm_of, fun _ => Dn_cm, fun u => ?_, cm_3⟩
  rw [Nn_cm h]
  constructor
  · rintro (z | ⟨z1, z2, z3, z4⟩)
    · exact Or.inl z
    · refine Or.inr ⟨z4, ?_⟩
      show y = Int32.ofNat u
      rw [z3, ofN_tn z1]
  · rintro (z | ⟨z1, z2⟩)
    · exact Or.inl z
    · have e := ofN_i z1.1
      refine Or.inr ⟨?_, ?_, ?_, z1⟩
      · rw [z2]
        omega
      · have := z1.1
        rw [z2]
        omega
      · rw [z2, tn_of z1.1]
theorem gr_tr (h : zGr a b T) (h2 : zGr b c T₉) : zGr a c (fun u => T u ∨ T₉ u) := by
  refine ⟨h2.1, Of_tr h.2.1 h2.2.1, fun u => (h2.2.2.1 u).trans (h.2.2.1 u), fun u => ?_, h2.2.2.2.2.trans h.2.2.2.2⟩
  rw [h2.2.2.2.1 u, h.2.2.2.1 u, Of_al h.2.1]
  constructor
  · rintro ((z | z) | z)
    · exact Or.inl z
    · exact Or.inr ⟨z.1, Or.inl z.2⟩
    · exact Or.inr ⟨z.1, Or.inr z.2⟩
  · rintro (z | ⟨z1, z2 | z2⟩)
    · exact Or.inl (Or.inl z)
    · exact Or.inl (Or.inr ⟨z1, z2⟩)
    · exact Or.inr ⟨z1, z2⟩
theorem gr_im (h : zGr a b T) (e : ∀ u, xAl a u → (T u ↔ T₉ u)) : zGr a b T₉ := by
  refine ⟨h.1, h.2.1, h.2.2.1, fun u => ?_, h.2.2.2.2⟩
  rw [h.2.2.2.1 u]
  constructor
  · rintro (z | z)
    · exact Or.inl z
    · exact Or.inr ⟨z.1, (e u z.1).mp z.2⟩
  · rintro (z | z)
    · exact Or.inl z
    · exact Or.inr ⟨z.1, (e u z.1).mpr z.2⟩
theorem gr_cwf : ∀ (f : Nat) (i : Int32) (a : Nat → Nat → Int32), i.toInt + f ≤ 2147483646 → zWQ a → zGr a (aCwf m f i a) (fun u => ∃ k : Int32, i.toInt ≤ k.toInt ∧ k.toInt < i.toInt + f ∧ aRef a m k = Int32.ofNat u) := by
  intro f
  induction f with
  | zero =>
    intro i a _ h
    exact gr_im (gr_rf h) (fun u _ => ⟨fun z => z.elim, fun ⟨k, k1, k2, _⟩ => by omega⟩)
  | succ f ih =>
    intro i a hb h
    have e := i_p1 (i := i) (by omega)
    have g1 := gr_cm (y := aRef a m i) h
    have g2 := ih (i + 1) (aCm a (aRef a m i)) (by omega) g1.1
    refine gr_im (gr_tr g1 g2) (fun u _ => ?_)
    constructor
    · rintro (z | ⟨k, k1, k2, k3⟩)
      · exact ⟨i, by omega, by omega, z⟩
      · rw [← Of_ref cm_of] at k3
        exact ⟨k, by omega, by omega, k3⟩
    · rintro ⟨k, k1, k2, k3⟩
      by_cases w : k = i
      · exact Or.inl (by rw [← w]; exact k3)
      · refine Or.inr ⟨k, ?_, by omega, ?_⟩
        · have : k.toInt ≠ i.toInt := fun z => w (Int32.toInt_inj.mp z)
          omega
        · rw [← Of_ref cm_of]
          exact k3
theorem zM_cg {N N₉ D D₉ : Nat → Prop} {E E₉ : Nat → Nat → Prop} (h1 : ∀ u, N u ↔ N₉ u) (h2 : ∀ u, D u ↔ D₉ u) (h3 : ∀ u y, E u y ↔ E₉ u y) : zM N D E x ↔ zM N₉ D₉ E₉ x := by
  have e1 : N = N₉ := funext (fun u => propext (h1 u))
  have e2 : D = D₉ := funext (fun u => propext (h2 u))
  have e3 : E = E₉ := funext (fun u => funext (fun y => propext (h3 u y)))
  rw [e1, e2, e3]
theorem pop_all (h : zWQ a) (hl : (a 75 3).toInt < (a 75 4).toInt) : zWQ (aPop a) ∧ zOf a (aPop a) ∧ (∀ x, zMk (aPop a) x ↔ zMk a x) ∧ (aPop a 75 3).toInt = (a 75 3).toInt + 1 ∧ ∃ z, z < 512 ∧ ¬ zDn a z ∧ ∀ u, zDn (aPop a) u ↔ zDn a u ∨ u = z := by
  have H := h
  obtain ⟨q1, q2, q3, q4, q5, q6, q7⟩ := h
  have cb : cnt (a 77) 512 ≤ 512 := cnt_le
  have q12 := q1.2.2
  have e1 : (a 75 3 + 1).toInt = (a 75 3).toInt + 1 := i_p1 (by omega)
  have ch := tn_cast q1.1
  have p := q2 (a 75 3).toNatClampNeg (by omega) (by omega)
  rw [aPop_y (a := a) (y := a 76 (a 75 3).toNatClampNeg) rfl p.1 p.2.1 p.2.2.1]
  have cq := tn_cast p.1
  generalize hq : a 76 (a 75 3).toNatClampNeg = q at *
  generalize hz : q.toNatClampNeg = z at *
  have hz5 : z < 512 := by omega
  generalize hv : a 75 3 + 1 = v at *
  have r3 : (ma_u (ma_u a 75 3 v) 77 z 2) 75 3 = v := by rw [xu_o (by omega), xu_s]
  have r4 : (ma_u (ma_u a 75 3 v) 77 z 2) 75 4 = a 75 4 := by rw [xu_o (by omega), xu_o (by omega)]
  have r5 : (ma_u (ma_u a 75 3 v) 77 z 2) 75 5 = a 75 5 := by rw [xu_o (by omega), xu_o (by omega)]
  have r6 : ∀ j, (ma_u (ma_u a 75 3 v) 77 z 2) 76 j = a 76 j := fun j => by rw [xu_o (by omega), xu_o (by omega)]
  have r7 : ∀ j, j ≠ z → (ma_u (ma_u a 75 3 v) 77 z 2) 77 j = a 77 j := fun j w => by rw [xu_o (fun y => w y.2), xu_o (by omega)]
  have r7t : (ma_u (ma_u a 75 3 v) 77 z 2) 77 z = 2 := xu_s
  have rc : (a 75 4).toInt ≤ (cnt ((ma_u (ma_u a 75 3 v) 77 z 2) 77) 512 : Int) := by
    have e : ma_u a 75 3 v 77 = a 77 := ma_u_ne _ _ _ (by decide)
    have w := cnt_u1 (m := ma_u a 75 3 v) (c := 77) (k := z) (x := (2 : Int32)) (n := 512) (by decide)
    rw [e] at w
    omega
  have ro : ∀ c k, c ≠ 75 → c ≠ 76 → c ≠ 77 → (ma_u (ma_u a 75 3 v) 77 z 2) c k = a c k := fun c k w1 w2 w3 => by rw [xu_o (fun y => w3 y.1), xu_o (fun y => w1 y.1)]
  generalize hb : ma_u (ma_u a 75 3 v) 77 z 2 = b at *
  have ob : zOf a b := fun c k w1 w2 w3 => (ro c k w1 w2 w3).symm
  have wb : zWQ b := by
    refine ⟨⟨?_, ?_, ?_⟩, ?_, ?_, ?_, ?_, ?_, ?_⟩
    · rw [r3, e1]
      omega
    · rw [r3, r4, e1]
      omega
    · rw [r4]
      exact rc
    · intro j j1 j2
      rw [r3, e1] at j1
      rw [r4] at j2
      rw [r6, ro _ _ (by decide) (by decide) (by decide)]
      have pj := q2 j (by omega) j2
      refine ⟨pj.1, pj.2.1, pj.2.2.1, ?_⟩
      rw [r7 _ ?_]
      · exact pj.2.2.2
      · intro w
        have n3 := q3 (a 75 3).toNatClampNeg j (by omega) (by omega) j2
        rw [hq] at n3
        apply n3
        have cj := tn_cast pj.1
        apply Int32.toInt_inj.mp
        omega
    · intro j j₉ j1 j2 j3
      rw [r3, e1] at j1
      rw [r4] at j3
      rw [r6, r6]
      exact q3 j j₉ (by omega) j2 j3
    · intro x hx hx1
      by_cases w : x = z
      · rw [w, r7t] at hx1
        exact absurd hx1 (by decide)
      · rw [r7 x w] at hx1
        obtain ⟨j, j1, j2, j3⟩ := q4 x hx hx1
        refine ⟨j, ?_, by rw [r4]; exact j2, by rw [r6]; exact j3⟩
        rw [r3, e1]
        by_cases w2 : j = (a 75 3).toNatClampNeg
        · rw [w2, hq] at j3
          exfalso
          apply w
          have := ofN_i hx
          rw [← j3] at this
          omega
        · omega
    · intro x hx
      by_cases w : x = z
      · rw [w, r7t]
        exact Or.inr (Or.inr rfl)
      · rw [r7 x w]
        exact q5 x hx
    · rw [r5]
      exact q6
    · intro x hx
      rw [Of_al ob] at hx
      rw [ro _ _ (by decide) (by decide) (by decide)]
      exact q7 x hx
  have nb : ∀ u, zNn b u ↔ zNn a u := by
    intro u
    unfold zNn
    by_cases w : u = z
    · rw [w, r7t, p.2.2.2]
      exact ⟨fun _ => ⟨hz5, by decide⟩, fun _ => ⟨hz5, by decide⟩⟩
    · rw [r7 u w]
  have db : ∀ u, zDn b u ↔ zDn a u ∨ u = z := by
    intro u
    unfold zDn
    by_cases w : u = z
    · rw [w, r7t]
      exact ⟨fun _ => Or.inr rfl, fun _ => ⟨hz5, rfl⟩⟩
    · rw [r7 u w]
      exact ⟨Or.inl, fun y => y.elim id (fun y2 => absurd y2 w)⟩
  have i0 : (0 : Int32).toInt = 0 := rfl
  have sb := i_bd (b 128 z)
  have g := gr_cwf (m := z) ((b 128 z).toInt - 1 - (0 : Int32).toInt).toNat 0 b (by omega) wb
  have dc : ∀ u, zDn (aCw b z 0) u ↔ zDn a u ∨ u = z := fun u => (g.2.2.1 u).trans (db u)
  have dz : ¬ zDn a z := fun w => by
    have := w.2
    rw [p.2.2.2] at this
    exact absurd this (by decide)
  refine ⟨g.1, Of_tr ob g.2.1, fun x => ?_, ?_, z, hz5, dz, dc⟩
  · have oc := Of_tr ob g.2.1
    have nc : ∀ u, zNn (aCw b z 0) u ↔ zNn a u ∨ zEd a z u := by
      intro u
      rw [show zNn (aCw b z 0) u ↔ _ from g.2.2.2.1 u, nb u, Of_al ob]
      have e : (xAl a u ∧ ∃ k : Int32, (0 : Int32).toInt ≤ k.toInt ∧ k.toInt < (0 : Int32).toInt + (((b 128 z).toInt - 1 - (0 : Int32).toInt).toNat : Int) ∧ aRef b z k = Int32.ofNat u) ↔ zEd a z u := by
        unfold zEd
        rw [← ob 128 z (by decide) (by decide) (by decide)]
        constructor
        · rintro ⟨w1, k, w2, w3, w4⟩
          rw [← Of_ref ob] at w4
          exact ⟨w1, k, by omega, by rw [ob 128 z (by decide) (by decide) (by decide)] at *; omega, w4⟩
        · rintro ⟨w1, k, w2, w3, w4⟩
          rw [Of_ref ob] at w4
          exact ⟨w1, k, by omega, by rw [ob 128 z (by decide) (by decide) (by decide)] at *; omega, w4⟩
      rw [e]
    have nz : zNn a z := ⟨hz5, by rw [p.2.2.2]; decide⟩
    refine (zM_cg nc dc (fun u y => Of_ed oc)).trans ?_
    refine (zM_dn (D := zDn a) (fun u w => Or.inl w) (fun u y w1 w2 w3 => ?_)).trans ?_
    · rcases w1 with w1 | w1
      · exact absurd w1 w2
      · rw [w1] at w3
        exact Or.inr w3
    · refine zM_add (fun u w => Or.inl w) (fun u w => ?_)
      rcases w with w | w
      · exact zM_in w
      · exact zM_cl (zM_in nz) dz w
  · have : aCw b z 0 75 3 = b 75 3 := g.2.2.2.2
    rw [this, r3, e1]
end GR
/-! a walk to its end, and from where it begins -/
section GR3
variable {a b : Nat → Nat → Int32} {y i n : Int32} {m k u x : Nat}
theorem sp_all : ∀ (k : Nat) (a : Nat → Nat → Int32), zWQ a → zWQ (aSp k a) ∧ zOf a (aSp k a) ∧ (∀ x, zMk (aSp k a) x ↔ zMk a x) ∧ ((aSp k a 75 3).toInt < (aSp k a 75 4).toInt → (aSp k a 75 3).toInt = (a 75 3).toInt + k) := by
  intro k
  induction k with
  | zero => intro a h; exact ⟨h, Of_rf, fun _ => Iff.rfl, fun _ => by show (a 75 3).toInt = _; omega⟩
  | succ k ih =>
    intro a h
    by_cases hl : (a 75 3).toInt < (a 75 4).toInt
    · rw [aSp_go hl]
      have p := pop_all h hl
      have q := ih _ p.1
      refine ⟨q.1, Of_tr p.2.1 q.2.1, fun x => (q.2.2.1 x).trans (p.2.2.1 x), fun w => ?_⟩
      rw [q.2.2.2 w, p.2.2.2.1]
      omega
    · rw [aSp_st (Or.inr hl)]
      exact ⟨h, Of_rf, fun _ => Iff.rfl, fun w => absurd w hl⟩
theorem sp_end (h : zWQ a) : ¬ (aSp 512 a 75 3).toInt < (aSp 512 a 75 4).toInt := by
  intro w
  have q := sp_all 512 a h
  have e := q.2.2.2 w
  have c : cnt (aSp 512 a 77) 512 ≤ 512 := cnt_le
  have c2 := q.1.1.2.2
  have c3 := h.1.1
  omega
theorem Nn_end (h : zWQ a) (he : ¬ (a 75 3).toInt < (a 75 4).toInt) : zMk a x ↔ zNn a x := by
  refine zM_end (fun u w => ⟨w.1, ?_⟩)
  rcases h.2.2.2.2.1 u w.1 with z | z | z
  · exact absurd z w.2
  · obtain ⟨j, j1, j2, _⟩ := h.2.2.2.1 u w.1 z
    omega
  · exact z
/-- all that come would come: to the end -/
theorem sp_Nn (h : zWQ a) : zNn (aSp 512 a) x ↔ zMk a x := (Nn_end (sp_all 512 a h).1 (sp_end h)).symm.trans ((sp_all 512 a h).2.2.1 x)
theorem gr_hf : ∀ (f : Nat) (n : Int32) (a : Nat → Nat → Int32), 0 ≤ n.toInt → n.toInt + f ≤ 2147483646 → zWQ a → zGr a (aHf f n a) (fun u => n.toInt ≤ (u : Int) ∧ (u : Int) < n.toInt + f ∧ 0 < (a 133 u).toInt) := by
  intro f
  induction f with
  | zero =>
    intro n a _ _ h
    exact gr_im (gr_rf h) (fun u _ => ⟨fun z => z.elim, fun z => by omega⟩)
  | succ f ih =>
    intro n a h0 hb h
    have e := i_p1 (i := n) (by omega)
    have cn := tn_cast h0
    show zGr a (aHf f (n + 1) (if 0 ≤ n.toInt ∧ n.toInt < 512 ∧ a 126 n.toNatClampNeg ≠ 0 ∧ 0 < (a 133 n.toNatClampNeg).toInt then aCm a n else a)) _
    by_cases hc : 0 ≤ n.toInt ∧ n.toInt < 512 ∧ a 126 n.toNatClampNeg ≠ 0 ∧ 0 < (a 133 n.toNatClampNeg).toInt
    · rw [if_pos hc]
      have g1 := gr_cm (y := n) h
      have g2 := ih (n + 1) (aCm a n) (by omega) (by omega) g1.1
      refine gr_im (gr_tr g1 g2) (fun u hu => ?_)
      have e3 : aCm a n 133 u = a 133 u := aCm_o ⟨by decide, by decide, by decide⟩
      have eu := ofN_i hu.1
      rw [e3]
      constructor
      · rintro (w | w)
        · have w2 : n.toNatClampNeg = u := by
            have := congrArg Int32.toInt w
            omega
          refine ⟨by omega, by omega, ?_⟩
          rw [← w2]
          exact hc.2.2.2
        · exact ⟨by omega, by omega, w.2.2⟩
      · rintro ⟨w1, w2, w3⟩
        by_cases w4 : (u : Int) = n.toInt
        · exact Or.inl (Int32.toInt_inj.mp (by omega))
        · exact Or.inr ⟨by omega, by omega, w3⟩
    · rw [if_neg hc]
      have g2 := ih (n + 1) a (by omega) (by omega) h
      refine gr_im g2 (fun u hu => ?_)
      constructor
      · rintro ⟨w1, w2, w3⟩
        exact ⟨by omega, by omega, w3⟩
      · rintro ⟨w1, w2, w3⟩
        refine ⟨?_, by omega, w3⟩
        by_cases w4 : (u : Int) = n.toInt
        · exfalso
          apply hc
          have w5 : n.toNatClampNeg = u := by omega
          rw [w5]
          exact ⟨h0, by have := hu.1; omega, hu.2, w3⟩
        · omega
/-- held -/
def zHl (a : Nat → Nat → Int32) (u : Nat) : Prop := (u : Int) < (a 69 6).toInt ∧ 0 < (a 133 u).toInt
def zWl (a : Nat → Nat → Int32) (u : Nat) : Prop := ∃ j : Nat, (j : Int) < (a 69 5).toInt ∧ a 74 j = Int32.ofNat u
def zRl (a : Nat → Nat → Int32) (u : Nat) : Prop := ∃ j : Nat, j < 16 ∧ a 72 j = Int32.ofNat u
theorem gr_ho (h : zWQ a) (w : (a 69 6).toInt ≤ 512) : zGr a (aHo a 0) (zHl a) := by
  have i0 : (0 : Int32).toInt = 0 := rfl
  refine gr_im (gr_hf ((a 69 6).toInt - (0 : Int32).toInt).toNat 0 a (by omega) (by omega) h) (fun u _ => ?_)
  unfold zHl
  constructor
  · rintro ⟨w1, w2, w3⟩
    exact ⟨by omega, w3⟩
  · rintro ⟨w1, w2⟩
    exact ⟨by omega, by omega, w2⟩
theorem gr_wf : ∀ (f : Nat) (i : Int32) (a : Nat → Nat → Int32), 0 ≤ i.toInt → i.toInt + f ≤ 2147483646 → (a 69 6).toInt ≤ 512 → zWQ a → zGr a (aWf f i a) (fun u => (∃ j : Nat, i.toInt ≤ (j : Int) ∧ (j : Int) < i.toInt + f ∧ a 74 j = Int32.ofNat u) ∨ zHl a u) := by
  intro f
  induction f with
  | zero =>
    intro i a _ _ hg h
    refine gr_im (gr_ho h hg) (fun u _ => ⟨Or.inr, fun z => z.elim (fun ⟨j, j1, j2, _⟩ => by omega) id⟩)
  | succ f ih =>
    intro i a h0 hb hg h
    have e := i_p1 (i := i) (by omega)
    have ci := tn_cast h0
    have g1 := gr_cm (y := a 74 i.toNatClampNeg) h
    have o : zOf a (aCm a (a 74 i.toNatClampNeg)) := cm_of
    have g2 := ih (i + 1) (aCm a (a 74 i.toNatClampNeg)) (by omega) (by omega) (by rw [← o 69 6 (by decide) (by decide) (by decide)]; exact hg) g1.1
    refine gr_im (gr_tr g1 g2) (fun u hu => ?_)
    have eh : zHl (aCm a (a 74 i.toNatClampNeg)) u ↔ zHl a u := by
      unfold zHl
      rw [o 69 6 (by decide) (by decide) (by decide), o 133 u (by decide) (by decide) (by decide)]
    rw [eh]
    constructor
    · rintro (w | ⟨j, j1, j2, j3⟩ | w)
      · exact Or.inl ⟨i.toNatClampNeg, by omega, by omega, w⟩
      · rw [← o 74 j (by decide) (by decide) (by decide)] at j3
        exact Or.inl ⟨j, by omega, by omega, j3⟩
      · exact Or.inr w
    · rintro (⟨j, j1, j2, j3⟩ | w)
      · by_cases w : j = i.toNatClampNeg
        · exact Or.inl (by rw [← w]; exact j3)
        · exact Or.inr (Or.inl ⟨j, by omega, by omega, by rw [← o 74 j (by decide) (by decide) (by decide)]; exact j3⟩)
      · exact Or.inr (Or.inr w)
theorem gr_wi (h : zWQ a) (w : (a 69 6).toInt ≤ 512) (w5 : (a 69 5).toInt ≤ 512) : zGr a (aWi a 0) (fun u => zWl a u ∨ zHl a u) := by
  have i0 : (0 : Int32).toInt = 0 := rfl
  refine gr_im (gr_wf ((a 69 5).toInt - (0 : Int32).toInt).toNat 0 a (by omega) (by omega) w h) (fun u _ => ?_)
  unfold zWl
  constructor
  · rintro (⟨j, j1, j2, j3⟩ | z)
    · exact Or.inl ⟨j, by omega, j3⟩
    · exact Or.inr z
  · rintro (⟨j, j1, j2⟩ | z)
    · exact Or.inl ⟨j, by omega, by omega, j2⟩
    · exact Or.inr z
theorem gr_rof : ∀ (f : Nat) (i : Int32) (a : Nat → Nat → Int32), 0 ≤ i.toInt → i.toInt + f ≤ 16 → (a 69 6).toInt ≤ 512 → (a 69 5).toInt ≤ 512 → zWQ a → zGr a (aRf f i a) (fun u => (∃ j : Nat, i.toInt ≤ (j : Int) ∧ (j : Int) < i.toInt + f ∧ a 72 j = Int32.ofNat u) ∨ zWl a u ∨ zHl a u) := by
  intro f
  induction f with
  | zero =>
    intro i a _ _ hg hw h
    refine gr_im (gr_wi h hg hw) (fun u _ => ⟨Or.inr, fun z => z.elim (fun ⟨j, j1, j2, _⟩ => by omega) id⟩)
  | succ f ih =>
    intro i a h0 hb hg hw h
    have e := i_p1 (i := i) (by omega)
    have ci := tn_cast h0
    have g1 := gr_cm (y := a 72 i.toNatClampNeg) h
    have o : zOf a (aCm a (a 72 i.toNatClampNeg)) := cm_of
    have g2 := ih (i + 1) (aCm a (a 72 i.toNatClampNeg)) (by omega) (by omega) (by rw [← o 69 6 (by decide) (by decide) (by decide)]; exact hg) (by rw [← o 69 5 (by decide) (by decide) (by decide)]; exact hw) g1.1
    refine gr_im (gr_tr g1 g2) (fun u hu => ?_)
    have eh : zHl (aCm a (a 72 i.toNatClampNeg)) u ↔ zHl a u := by
      unfold zHl
      rw [o 69 6 (by decide) (by decide) (by decide), o 133 u (by decide) (by decide) (by decide)]
    have ew : zWl (aCm a (a 72 i.toNatClampNeg)) u ↔ zWl a u := by
      unfold zWl
      rw [o 69 5 (by decide) (by decide) (by decide)]
      constructor
      · rintro ⟨j, j1, j2⟩
        exact ⟨j, j1, by rw [o 74 j (by decide) (by decide) (by decide)]; exact j2⟩
      · rintro ⟨j, j1, j2⟩
        exact ⟨j, j1, by rw [← o 74 j (by decide) (by decide) (by decide)]; exact j2⟩
    rw [eh, ew]
    constructor
    · rintro (w | ⟨j, j1, j2, j3⟩ | w)
      · exact Or.inl ⟨i.toNatClampNeg, by omega, by omega, w⟩
      · rw [← o 72 j (by decide) (by decide) (by decide)] at j3
        exact Or.inl ⟨j, by omega, by omega, j3⟩
      · exact Or.inr w
    · rintro (⟨j, j1, j2, j3⟩ | w)
      · by_cases w : j = i.toNatClampNeg
        · exact Or.inl (by rw [← w]; exact j3)
        · exact Or.inr (Or.inl ⟨j, by omega, by omega, by rw [← o 72 j (by decide) (by decide) (by decide)]; exact j3⟩)
      · exact Or.inr (Or.inr w)
/-- ROOTS, WISHES, held ones -/
def zRt (a : Nat → Nat → Int32) (u : Nat) : Prop := xAl a u ∧ (zRl a u ∨ zWl a u ∨ zHl a u)
theorem gr_ro (h : zWQ a) (w : (a 69 6).toInt ≤ 512) (w5 : (a 69 5).toInt ≤ 512) : zGr a (aRo a 0) (fun u => zRl a u ∨ zWl a u ∨ zHl a u) := by
  have i0 : (0 : Int32).toInt = 0 := rfl
  refine gr_im (gr_rof (16 - (0 : Int32).toInt).toNat 0 a (by omega) (by omega) w w5 h) (fun u _ => ?_)
  unfold zRl
  constructor
  · rintro (⟨j, j1, j2, j3⟩ | z)
    · exact Or.inl ⟨j, by omega, j3⟩
    · exact Or.inr z
  · rintro (⟨j, j1, j2⟩ | z)
    · exact Or.inl ⟨j, by omega, by omega, j2⟩
    · exact Or.inr z
theorem WQ_wh (hp : ∀ x, xAl a x → 0 ≤ (a 130 x).toInt) : zWQ (aWh a 0) ∧ zOf a (aWh a 0) ∧ (∀ u, ¬ zNn (aWh a 0) u) := by
  have r3 : aWh a 0 75 3 = 0 := by
    unfold aWh
    rw [xu_o (by omega), xu_o (by omega), xu_s]
  have r4 : aWh a 0 75 4 = 0 := by
    unfold aWh
    rw [xu_o (by omega), xu_s]
  have r5 : aWh a 0 75 5 = 0 := by
    unfold aWh
    rw [xu_s]
  have ro : ∀ c k, c ≠ 75 → aWh a 0 c k = zFl a 77 0 512 c k := fun c k w => by
    unfold aWh
    rw [xu_o (fun z => w z.1), xu_o (fun z => w z.1), xu_o (fun z => w z.1)]
  have r7 : ∀ k, k < 512 → aWh a 0 77 k = 0 := fun k hk => by
    rw [ro _ _ (by decide)]
    unfold zFl
    rw [if_pos ⟨rfl, by omega⟩]
  have of : zOf a (aWh a 0) := fun c k q1 q2 q3 => by
    rw [ro _ _ q1]
    unfold zFl
    rw [if_neg (fun z => q3 z.1)]
  have i0 : (0 : Int32).toInt = 0 := rfl
  refine ⟨⟨⟨?_, ?_, ?_⟩, ?_, ?_, ?_, ?_, ?_, ?_⟩, of, fun u w => w.2 (r7 u w.1)⟩
  · rw [r3]
    decide
  · rw [r3, r4]
    decide
  · rw [r4]
    omega
  · intro j j1 j2
    rw [r4] at j2
    omega
  · intro j j₉ j1 j2 j3
    rw [r4] at j3
    omega
  · intro x hx hx1
    rw [r7 x hx] at hx1
    exact absurd hx1 (by decide)
  · intro x hx
    exact Or.inl (r7 x hx)
  · rw [r5]
    decide
  · intro x hx
    rw [Of_al of] at hx
    rw [← of 130 x (by decide) (by decide) (by decide)]
    exact hp x hx
/-- REACHED: a set, by who refers to whom -/
def zRch (a : Nat → Nat → Int32) (x : Nat) : Prop := zM (zRt a) (fun _ => False) (zEd a) x
theorem RA_set (hp : ∀ x, xAl a x → 0 ≤ (a 130 x).toInt) (w : (a 69 6).toInt ≤ 512) (w5 : (a 69 5).toInt ≤ 512) : zNn (aRA a) x ↔ zRch a x := by
  have h := WQ_wh hp
  have o := h.2.1
  have g := gr_ro h.1 (by rw [← o 69 6 (by decide) (by decide) (by decide)]; exact w) (by rw [← o 69 5 (by decide) (by decide) (by decide)]; exact w5)
  refine (sp_Nn g.1).trans ?_
  have o2 := Of_tr o g.2.1
  refine zM_cg (fun u => ?_) (fun u => ?_) (fun u y => Of_ed o2)
  · rw [g.2.2.2.1 u, Of_al o]
    show zNn (aWh a 0) u ∨ xAl a u ∧ (zRl (aWh a 0) u ∨ zWl (aWh a 0) u ∨ zHl (aWh a 0) u) ↔ zRt a u
    unfold zRt zRl zWl zHl
    rw [← o 69 6 (by decide) (by decide) (by decide), ← o 69 5 (by decide) (by decide) (by decide), ← o 133 u (by decide) (by decide) (by decide)]
    have e7 : aWh a 0 72 = a 72 := funext (fun k => (o 72 k (by decide) (by decide) (by decide)).symm)
    have e4 : aWh a 0 74 = a 74 := funext (fun k => (o 74 k (by decide) (by decide) (by decide)).symm)
    rw [e7, e4]
    exact ⟨fun z => z.elim (fun q => absurd q (h.2.2 u)) id, Or.inr⟩
  · rw [g.2.2.1 u]
    exact ⟨fun z => h.2.2 u ⟨z.1, by rw [z.2]; decide⟩, fun z => z.elim⟩
end GR3
/-! block i -/
def aBk (a : Nat → Nat → Int32) : Nat → Int → Int
  | 0, p => if p < (a 87 0).toInt then p else -1
  | k + 1, p => if p < (a 87 0).toInt then aBk a k (aN a (aE a p)) else -1
section BK
variable {a : Nat → Nat → Int32} {p : Int} {k : Nat}
theorem aBk_0 (h : p < (a 87 0).toInt) : aBk a 0 p = p := if_pos h
theorem aBk_s (h : p < (a 87 0).toInt) : aBk a (k + 1) p = aBk a k (aN a (aE a p)) := if_pos h
theorem aBk_n (h : ¬ p < (a 87 0).toInt) : aBk a k p = -1 := by
  cases k with
  | zero => exact if_neg h
  | succ k => exact if_neg h
theorem bk_s {x : Int32} (h0 : 0 ≤ x.toInt) (h1 : ¬ x = 0) : ¬ (x + (-1 : Int32)).toInt < 0 ∧ x.toInt.toNat = (x + (-1 : Int32)).toInt.toNat + 1 := by
  have b := i_bd x
  have e : (x + (-1 : Int32)).toInt = x.toInt + (-1) := i_addk rfl (by omega) (by omega)
  have z := i_ne h1
  have z2 : (0 : Int32).toInt = 0 := rfl
  omega
theorem bk_go {x : Int32} {T v2 : Int} (h0 : 0 ≤ x.toInt) (h1 : ¬ x = 0) (hp : p < (a 87 0).toInt) (q : (if x.toInt < 0 then -1 else aBk a x.toInt.toNat p) = T) (e2 : v2 = aN a (aE a p)) : (if (x + (-1 : Int32)).toInt < 0 then -1 else aBk a (x + (-1 : Int32)).toInt.toNat v2) = T := by
  have b := bk_s h0 h1
  rw [if_neg (by omega), b.2, aBk_s hp] at q
  rw [if_neg b.1, e2]
  exact q
theorem bk_e1 {x : Int32} {T v : Int} (h0 : x.toInt < 0) (q : (if x.toInt < 0 then -1 else aBk a x.toInt.toNat p) = T) (e : v = -1) : v = T := by
  rw [if_pos h0] at q
  rw [e]
  exact q
theorem bk_e2 {x : Int32} {T v : Int} (h0 : x = 0) (hp : p < (a 87 0).toInt) (q : (if x.toInt < 0 then -1 else aBk a x.toInt.toNat p) = T) (e : v = p) : v = T := by
  rw [h0] at q
  rw [e]
  exact (aBk_0 hp).symm.trans q
theorem bk_e3 {x : Int32} {T v : Int} (hp : ¬ p < (a 87 0).toInt) (q : (if x.toInt < 0 then -1 else aBk a x.toInt.toNat p) = T) (e : v = -1) : v = T := by
  rw [e, ← q]
  by_cases h : x.toInt < 0
  · rw [if_pos h]
  · rw [if_neg h, aBk_n hp]
end BK
theorem g_76_87_s_0 {X : Nat × (Nat → Int32)} {d w : Nat} {S : ma_S} {Q : Option ma_V ⊕ Nat → ma_S → Prop} (a : Nat) (hd : 1 ≤ d) (hw : 21 ≤ w) (hS : zT S) (h : if (mI S 87 8) = 0 then (Q (.inl (some (.inl (0 : Int32)))) S) else ((126 ≤ a ∧ a < mN S) ∧ (if (512 : Int32) ≤ (mI S a 0) then (Q (.inl (some (.inl (0 : Int32)))) S) else ((126 ≤ a ∧ a < mN S) ∧ ((0 ≤ (mI S a 0) ∧ (mI S a 0).toNatClampNeg < 512) ∧ (Q (.inl (some (.inl (mI S 90 (mI S a 0).toNatClampNeg)))) S)))))) : ma_wp X d w 76 0 [(0, .inr (.inr (some 87))), (1, .inr (.inr (some a)))] [] S Q := by
  refine zw_push hm_76 dX6_colourOf_0 (v := .inr (.inr (some 87))) rfl ?_
  refine zw_gf hm_76 dX6_colourOf_1 (v := .inl (mI S 87 8)) (zT_is hS s_87) (zT_t hS s_87) rfl f_6_31_6 rfl ?_
  refine zw_if0 hm_76 dX6_colourOf_4 (t := 18) rfl zc0_eq ?_ ?_
  · intro hc
    rw [if_pos hc] at h
    refine zw_push hm_76 dX6_colourOf_18 (v := .inl (0 : Int32)) rfl ?_
    exact zw_iret hm_76 dX6_colourOf_19 h
  · intro hc
    rw [if_neg hc] at h
    refine zw_push hm_76 dX6_colourOf_7 (v := .inr (.inr (some 87))) rfl ?_
    refine zw_gf hm_76 dX6_colourOf_8 (v := .inr (.inr (some 88))) (zT_is hS s_87) (zT_t hS s_87) rfl f_6_14_6 (zT_f hS r_87_5) ?_
    refine zw_push hm_76 dX6_colourOf_11 (v := .inr (.inr (some a))) rfl ?_
    refine zw_cv hm_76 dX6_colourOf_12 v_6_100_10 hm_123 [.inr (.inr (some a))] [] rfl (zT_rt hS s_88 rfl) ⟨by omega, by omega⟩ rfl ?_
    show ma_wp X (d - 1) (w - 21) 123 0 [(0, .inr (.inr (some 88))), (1, .inr (.inr (some a)))] [] S _
    refine zw_push hm_123 dX10_colourOf_0 (v := .inr (.inr (some a))) rfl ?_
    obtain ⟨hg, h⟩ := h
    refine zw_gf hm_123 dX10_colourOf_1 (v := .inl (mI S a 0)) (zT_tis hS hg) (zT_tt hS hg) rfl f_10_58_9 rfl ?_
    refine zw_push hm_123 dX10_colourOf_4 (v := .inl (512 : Int32)) rfl ?_
    refine zw_if2 hm_123 dX10_colourOf_7 (t := 22) rfl zc2_ge ?_ ?_
    · intro hc
      rw [if_pos hc] at h
      refine zw_push hm_123 dX10_colourOf_22 (v := .inl (0 : Int32)) rfl ?_
      refine zw_iret hm_123 dX10_colourOf_23 ?_
      show ma_wp X d w 76 15 [(0, .inr (.inr (some 87))), (1, .inr (.inr (some a)))] [.inl (0 : Int32)] S _
      refine zw_goto hm_76 dX6_colourOf_15 (t := 19) rfl ?_
      exact zw_iret hm_76 dX6_colourOf_19 h
    · intro hc
      rw [if_neg hc] at h
      refine zw_push hm_123 dX10_colourOf_10 (v := .inr (.inr (some 88))) rfl ?_
      refine zw_gf hm_123 dX10_colourOf_11 (v := .inr (.inr (some 90))) (zT_is hS s_88) (zT_t hS s_88) rfl f_10_15_10 (zT_f hS r_88_2) ?_
      refine zw_push hm_123 dX10_colourOf_14 (v := .inr (.inr (some a))) rfl ?_
      obtain ⟨hg, h⟩ := h
      refine zw_gf hm_123 dX10_colourOf_15 (v := .inl (mI S a 0)) (zT_tis hS hg) (zT_tt hS hg) rfl f_10_58_9 rfl ?_
      obtain ⟨hg, h⟩ := h
      refine zw_ia hm_123 dX10_colourOf_18 (zT_is hS s_90) (zT_h hS s_90) rfl hg ?_
      show ma_wp X (d - 1) (w - 21) 123 19 [(0, .inr (.inr (some 88))), (1, .inr (.inr (some a)))] [.inl (mI S 90 (mI S a 0).toNatClampNeg)] S _
      refine zw_goto hm_123 dX10_colourOf_19 (t := 23) rfl ?_
      refine zw_iret hm_123 dX10_colourOf_23 ?_
      show ma_wp X d w 76 15 [(0, .inr (.inr (some 87))), (1, .inr (.inr (some a)))] [.inl (mI S 90 (mI S a 0).toNatClampNeg)] S _
      refine zw_goto hm_76 dX6_colourOf_15 (t := 19) rfl ?_
      exact zw_iret hm_76 dX6_colourOf_19 h
theorem sp_76_87_s {X : Nat × (Nat → Int32)} {d w : Nat} {f : Nat → Nat → Int32} {r : Nat → Nat → Option Nat} {C Z N : Nat} {Q : Option ma_V ⊕ Nat → ma_S → Prop} {S : ma_S} (a : Nat) (hd : 1 ≤ d) (hw : 21 ≤ w) (hI : zJ87 f r C Z N S) (th_a : 126 ≤ a ∧ a < N) (K : ∀ v S₉, S₉ = S → (True) → Q (.inl (some (.inl v))) S₉) : ma_wp X d w 76 0 [(0, .inr (.inr (some 87))), (1, .inr (.inr (some a)))] [] S Q := by
  refine g_76_87_s_0 a (by omega) (by omega) (zG_T hI) ?_
  have f1 := zG_s hI (0) (1) (c := 87) (k := 8) (by decide)
  have li2 : (0 : Int32).toInt = 0 := rfl
  refine zd (fun h3 => ?_) (fun h3 => ?_)
  · skip
    have g4 := i_eq h3
    exact K ((0 : Int32)) _ rfl trivial
  · skip
    have g5 := i_ne h3
    refine ⟨zG_n hI th_a, ?_⟩
    have li6 : (512 : Int32).toInt = 512 := rfl
    have f7 := zG_th hI th_a
    refine zd (fun h8 => ?_) (fun h8 => ?_)
    · skip
      have g9 := i_le h8
      exact K ((0 : Int32)) _ rfl trivial
    · skip
      have g10 := i_nle h8
      refine ⟨zG_n hI th_a, ?_⟩
      refine ⟨i_ix (by omega) (by omega), ?_⟩
      have b11 := i_bd (mI S 90 (mI S a 0).toNatClampNeg)
      exact K ((mI S 90 (mI S a 0).toNatClampNeg)) _ rfl trivial
theorem g_77_87_s_0 {X : Nat × (Nat → Int32)} {d w : Nat} {S : ma_S} {Q : Option ma_V ⊕ Nat → ma_S → Prop}  (hd : 0 ≤ d) (hw : 0 ≤ w) (hS : zT S) (h : if (mI S 87 8) = 0 then (Q (.inl (some (.inl (0 : Int32)))) S) else (Q (.inl (some (.inl ((mI S 88 4) - (mI S 88 3))))) S)) : ma_wp X d w 77 0 [(0, .inr (.inr (some 87)))] [] S Q := by
  refine zw_push hm_77 dX6_specials_0 (v := .inr (.inr (some 87))) rfl ?_
  refine zw_gf hm_77 dX6_specials_1 (v := .inl (mI S 87 8)) (zT_is hS s_87) (zT_t hS s_87) rfl f_6_31_6 rfl ?_
  refine zw_if0 hm_77 dX6_specials_4 (t := 25) rfl zc0_eq ?_ ?_
  · intro hc
    rw [if_pos hc] at h
    refine zw_push hm_77 dX6_specials_25 (v := .inl (0 : Int32)) rfl ?_
    exact zw_iret hm_77 dX6_specials_26 h
  · intro hc
    rw [if_neg hc] at h
    refine zw_push hm_77 dX6_specials_7 (v := .inr (.inr (some 87))) rfl ?_
    refine zw_gf hm_77 dX6_specials_8 (v := .inr (.inr (some 88))) (zT_is hS s_87) (zT_t hS s_87) rfl f_6_14_6 (zT_f hS r_87_5) ?_
    refine zw_gf hm_77 dX6_specials_11 (v := .inl (mI S 88 4)) (zT_is hS s_88) (zT_t hS s_88) rfl f_6_104_10 rfl ?_
    refine zw_push hm_77 dX6_specials_14 (v := .inr (.inr (some 87))) rfl ?_
    refine zw_gf hm_77 dX6_specials_15 (v := .inr (.inr (some 88))) (zT_is hS s_87) (zT_t hS s_87) rfl f_6_14_6 (zT_f hS r_87_5) ?_
    refine zw_gf hm_77 dX6_specials_18 (v := .inl (mI S 88 3)) (zT_is hS s_88) (zT_t hS s_88) rfl f_6_107_10 rfl ?_
    refine zw_stk hm_77 dX6_specials_21 (st₉ := [.inl ((mI S 88 4) - (mI S 88 3))]) rfl rfl ?_
    refine zw_goto hm_77 dX6_specials_22 (t := 26) rfl ?_
    exact zw_iret hm_77 dX6_specials_26 h
theorem sp_77_87_s {X : Nat × (Nat → Int32)} {d w : Nat} {f : Nat → Nat → Int32} {r : Nat → Nat → Option Nat} {C Z N : Nat} {Q : Option ma_V ⊕ Nat → ma_S → Prop} {S : ma_S}  (hd : 0 ≤ d) (hw : 0 ≤ w) (hI : zJ87 f r C Z N S)  (K : ∀ v S₉, S₉ = S → (True) → Q (.inl (some (.inl v))) S₉) : ma_wp X d w 77 0 [(0, .inr (.inr (some 87)))] [] S Q := by
  refine g_77_87_s_0  (by omega) (by omega) (zG_T hI) ?_
  have f1 := zG_s hI (0) (1) (c := 87) (k := 8) (by decide)
  have li2 : (0 : Int32).toInt = 0 := rfl
  refine zd (fun h3 => ?_) (fun h3 => ?_)
  · skip
    have g4 := i_eq h3
    exact K ((0 : Int32)) _ rfl trivial
  · skip
    have g5 := i_ne h3
    have f6 := zG_s hI (0) (512) (c := 88) (k := 4) (by decide)
    have f7 := zG_s hI (0) (512) (c := 88) (k := 3) (by decide)
    first | have e8 : ((mI S 88 4) - (mI S 88 3)).toInt = (mI S 88 4).toInt - (mI S 88 3).toInt := i_sub (by omega) (by omega) | have b9 := i_bd ((mI S 88 4) - (mI S 88 3))
    exact K (((mI S 88 4) - (mI S 88 3))) _ rfl trivial

