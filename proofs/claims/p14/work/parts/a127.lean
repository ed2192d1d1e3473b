/-! from 95.i00 -/
/-! A TEXT IS READ: all but the house's own cells stays -/
def zFm (I : Nat → Nat → Int32) (L : Nat → Nat → Int64) (R : Nat → Option Nat) (S : ma_S) : Prop := mR S 70 = R ∧ mL S = L ∧ ∀ c k, 69 ≤ c → mI S c k = I c k
section FM
variable {I : Nat → Nat → Int32} {L : Nat → Nat → Int64} {R : Nat → Option Nat} {S S0 : ma_S} {c k n W : Nat} {x : Int32} {ab : Nat → Nat → Int32}
theorem fn9_0 : zFm (mI S) (mL S) (mR S 70) S := ⟨rfl, rfl, fun _ _ _ => rfl⟩
theorem fn9_p (h : zFm I L R S) (hc : c < 69) : zFm I L R (ma_put S c k (.inl x)) := ⟨h.1, h.2.1, fun c₉ k₉ h1 => by
  show (if c₉ = c ∧ k₉ = k then x else mI S c₉ k₉) = I c₉ k₉
  rw [if_neg (by omega)]
  exact h.2.2 c₉ k₉ h1⟩
theorem fn9_aS (h : zFm (mI S0) (mL S0) (mR S0 70) S) (hR : ∀ n b, mR S0 70 n = some b → 126 ≤ b) : aS 88 S = aS 88 S0 := by
  unfold aS
  rw [h.1, h.2.1]
  funext c1 k1
  by_cases b : zrl c1 k1 = true
  · have w := zcw_lt (W := 88) (Or.inr rfl) b
    have p := zrl_p b
    rw [aF_I b, aF_I b]
    refine h.2.2 _ _ ?_
    unfold zcw
    split <;> omega
  · unfold aF
    rw [if_neg b, if_neg b]
    split
    · rfl
    · split
      · rfl
      · split
        · split
          · unfold aTf
            split
            · cases e : mR S0 70 k1 with
              | none => rfl
              | some q =>
                have := hR _ _ e
                exact h.2.2 q _ (by omega)
            · rfl
          · rfl
        · rfl
theorem fn9_xB (h : zFm (mI S0) (mL S0) (mR S0 70) S) (hB : xB S0 (mR S0 70)) : xB S (mR S 70) := ⟨rfl, fun n t hn e => by
  rw [h.1] at e
  have q := hB.2 n t hn e
  exact ⟨q.1, by rw [h.2.2 t 0 (by omega)]; exact q.2⟩⟩
theorem aS_64 {q : Option Nat} : aS W (ma_put S 64 11 (.inr (.inr q))) = aS W S := rfl
theorem xB_64 {q : Option Nat} (h : xB S (mR S 70)) : xB (ma_put S 64 11 (.inr (.inr q))) (mR (ma_put S 64 11 (.inr (.inr q))) 70) := h
theorem aS_n0 : aS W (ma_put S 70 n (.inr (.inr none))) = zNo (aS W S) n := by
  have e : mR (ma_put S 70 n (.inr (.inr none))) 70 = zRu (mR S 70) n none := by
    funext k₉
    show (if 70 = 70 ∧ k₉ = n then none else mR S 70 k₉) = if k₉ = n then none else mR S 70 k₉
    by_cases z : k₉ = n
    · rw [if_pos ⟨rfl, z⟩, if_pos z]
    · rw [if_neg (fun q => z q.2), if_neg z]
  unfold aS
  rw [e]
  exact aF_R (W := W) (I := mI S) (R := mR S 70) (L := mL S) (n := n)
def zNt (S : ma_S) (p : Int) : Prop := ∀ n : Nat, (n : Int) < p → mR S 70 n = none
theorem Nt_0 : zNt S 0 := fun n h => by omega
theorem Nt_s {j : Int32} (h : zNt S j.toInt) (h0 : 0 ≤ j.toInt) (h1 : j.toInt < 2147483647) : zNt (ma_put S 70 j.toNatClampNeg (.inr (.inr none))) (j + 1).toInt := fun n hn => by
  have e := i_p1 h1
  have e2 := tn_cast h0
  show (if 70 = 70 ∧ n = j.toNatClampNeg then none else mR S 70 n) = none
  by_cases z : n = j.toNatClampNeg
  · rw [if_pos ⟨rfl, z⟩]
  · rw [if_neg (fun q => z q.2)]
    exact h n (by omega)
theorem Nt_e (h : zNt S 512) : xB S (mR S 70) := ⟨rfl, fun n t hn e => by
  rw [h n (by omega)] at e
  cases e⟩
end FM

/-! from 95.i10 -/
/-! the class opens a heap (written by wip/tools/gen18c.py) -/
theorem g_129_64_sq_0 {X : Nat × (Nat → Int32)} {d w : Nat} {S : ma_S} {Q : Option ma_V ⊕ Nat → ma_S → Prop}  (hd : 0 ≤ d) (hw : 0 ≤ w) (hS : zT S) (h : ma_wp X d w 129 5 [(0, .inr (.inr (some 64))), (1, .inl (mI S 64 3))] [] S Q) : ma_wp X d w 129 0 [(0, .inr (.inr (some 64)))] [] S Q := by
  refine zw_push hm_129 dX11_nextToken_0 (v := .inr (.inr (some 64))) rfl ?_
  refine zw_gf hm_129 dX11_nextToken_1 (v := .inl (mI S 64 3)) (zT_is hS s_64) (zT_t hS s_64) rfl f_11_275_11 rfl ?_
  refine zw_sto hm_129 dX11_nextToken_4 [(1, .inl (mI S 64 3)), (0, .inr (.inr (some 64)))] rfl rfl rfl ?_
  exact zw_sub (ma_nd_of (ks := [0, 1]) rfl (by decide)) (ma_nd_of (ks := [1, 0]) rfl (by decide)) (ma_le_cons rfl (ma_le_cons rfl (ma_le_nil _))) h
theorem g_129_64_sq_5 {X : Nat × (Nat → Int32)} {d w : Nat} {S : ma_S} {Q : Option ma_V ⊕ Nat → ma_S → Prop} (l1 : Int32) (hd : 0 ≤ d) (hw : 0 ≤ w) (hS : zT S) (h : if (mI S 64 1) ≤ l1 then (ma_wp X d w 129 35 [(0, .inr (.inr (some 64))), (1, .inl l1)] [] (ma_put S 64 2 (.inl l1)) Q) else ((0 ≤ l1 ∧ l1.toNatClampNeg < 100) ∧ (if (mI S 65 l1.toNatClampNeg) = (32 : Int32) then (ma_wp X d w 129 5 [(0, .inr (.inr (some 64))), (1, .inl (l1 + (1 : Int32)))] [] S Q) else (ma_wp X d w 129 35 [(0, .inr (.inr (some 64))), (1, .inl l1)] [] (ma_put S 64 2 (.inl l1)) Q)))) : ma_wp X d w 129 5 [(0, .inr (.inr (some 64))), (1, .inl l1)] [] S Q := by
  refine zw_push hm_129 dX11_nextToken_5 (v := .inl l1) rfl ?_
  refine zw_push hm_129 dX11_nextToken_6 (v := .inr (.inr (some 64))) rfl ?_
  refine zw_gf hm_129 dX11_nextToken_7 (v := .inl (mI S 64 1)) (zT_is hS s_64) (zT_t hS s_64) rfl f_11_68_11 rfl ?_
  refine zw_if2 hm_129 dX11_nextToken_10 (t := 30) rfl zc2_ge ?_ ?_
  · intro hc
    rw [if_pos hc] at h
    refine zw_push hm_129 dX11_nextToken_30 (v := .inr (.inr (some 64))) rfl ?_
    refine zw_push hm_129 dX11_nextToken_31 (v := .inl l1) rfl ?_
    refine zw_pf hm_129 dX11_nextToken_32 (zT_is hS s_64) (zT_t hS s_64) p_11_92_11 zk_int ?_
    exact h
  · intro hc
    rw [if_neg hc] at h
    refine zw_push hm_129 dX11_nextToken_13 (v := .inr (.inr (some 64))) rfl ?_
    refine zw_gf hm_129 dX11_nextToken_14 (v := .inr (.inr (some 65))) (zT_is hS s_64) (zT_t hS s_64) rfl f_11_9_11 (zT_f hS r_64_0) ?_
    refine zw_push hm_129 dX11_nextToken_17 (v := .inl l1) rfl ?_
    obtain ⟨hg, h⟩ := h
    refine zw_ba hm_129 dX11_nextToken_18 (zT_is hS s_65) (zT_h hS s_65) rfl rfl hg ?_
    show ma_wp X d w 129 19 [(0, .inr (.inr (some 64))), (1, .inl l1)] [.inl (mI S 65 l1.toNatClampNeg)] S _
    refine zw_push hm_129 dX11_nextToken_19 (v := .inl (32 : Int32)) rfl ?_
    refine zw_if2 hm_129 dX11_nextToken_21 (t := 30) rfl zc2_ne ?_ ?_
    · intro hc
      rw [if_neg hc] at h
      refine zw_push hm_129 dX11_nextToken_30 (v := .inr (.inr (some 64))) rfl ?_
      refine zw_push hm_129 dX11_nextToken_31 (v := .inl l1) rfl ?_
      refine zw_pf hm_129 dX11_nextToken_32 (zT_is hS s_64) (zT_t hS s_64) p_11_92_11 zk_int ?_
      exact h
    · intro hc
      rw [if_pos (Classical.not_not.mp hc)] at h
      refine zw_sto hm_129 dX11_nextToken_24 [(1, .inl (l1 + (1 : Int32))), (0, .inr (.inr (some 64)))] rfl rfl rfl ?_
      refine zw_goto hm_129 dX11_nextToken_27 (t := 5) rfl ?_
      exact zw_sub (ma_nd_of (ks := [0, 1]) rfl (by decide)) (ma_nd_of (ks := [1, 0]) rfl (by decide)) (ma_le_cons rfl (ma_le_cons rfl (ma_le_nil _))) h
theorem g_129_64_sq_35 {X : Nat × (Nat → Int32)} {d w : Nat} {S : ma_S} {Q : Option ma_V ⊕ Nat → ma_S → Prop} (l1 : Int32) (hd : 0 ≤ d) (hw : 0 ≤ w) (hS : zT S) (h : if (mI S 64 1) ≤ l1 then (if l1 ≤ (mI S 64 2) then (Q (.inl (some (.inl (0 : Int32)))) (ma_put S 64 3 (.inl l1))) else (Q (.inl (some (.inl (1 : Int32)))) (ma_put S 64 3 (.inl l1)))) else ((0 ≤ l1 ∧ l1.toNatClampNeg < 100) ∧ (if (mI S 65 l1.toNatClampNeg) = (32 : Int32) then (if l1 ≤ (mI S 64 2) then (Q (.inl (some (.inl (0 : Int32)))) (ma_put S 64 3 (.inl l1))) else (Q (.inl (some (.inl (1 : Int32)))) (ma_put S 64 3 (.inl l1)))) else (ma_wp X d w 129 35 [(0, .inr (.inr (some 64))), (1, .inl (l1 + (1 : Int32)))] [] S Q)))) : ma_wp X d w 129 35 [(0, .inr (.inr (some 64))), (1, .inl l1)] [] S Q := by
  refine zw_push hm_129 dX11_nextToken_35 (v := .inl l1) rfl ?_
  refine zw_push hm_129 dX11_nextToken_36 (v := .inr (.inr (some 64))) rfl ?_
  refine zw_gf hm_129 dX11_nextToken_37 (v := .inl (mI S 64 1)) (zT_is hS s_64) (zT_t hS s_64) rfl f_11_68_11 rfl ?_
  refine zw_if2 hm_129 dX11_nextToken_40 (t := 60) rfl zc2_ge ?_ ?_
  · intro hc
    rw [if_pos hc] at h
    refine zw_push hm_129 dX11_nextToken_60 (v := .inr (.inr (some 64))) rfl ?_
    refine zw_push hm_129 dX11_nextToken_61 (v := .inl l1) rfl ?_
    refine zw_pf hm_129 dX11_nextToken_62 (zT_is hS s_64) (zT_t hS s_64) p_11_275_11 zk_int ?_
    refine zw_push hm_129 dX11_nextToken_65 (v := .inr (.inr (some 64))) rfl ?_
    refine zw_gf hm_129 dX11_nextToken_66 (v := .inl (mI S 64 2)) (zT_is (zT_pi hS) s_64) (zT_t (zT_pi hS) s_64) rfl f_11_92_11 rfl ?_
    refine zw_push hm_129 dX11_nextToken_69 (v := .inr (.inr (some 64))) rfl ?_
    refine zw_gf hm_129 dX11_nextToken_70 (v := .inl l1) (zT_is (zT_pi hS) s_64) (zT_t (zT_pi hS) s_64) rfl f_11_275_11 rfl ?_
    refine zw_if2 hm_129 dX11_nextToken_73 (t := 80) rfl zc2_ge ?_ ?_
    · intro hc
      rw [if_pos hc] at h
      refine zw_push hm_129 dX11_nextToken_80 (v := .inl (0 : Int32)) rfl ?_
      exact zw_bret hm_129 dX11_nextToken_81 (by decide) h
    · intro hc
      rw [if_neg hc] at h
      refine zw_push hm_129 dX11_nextToken_76 (v := .inl (1 : Int32)) rfl ?_
      refine zw_goto hm_129 dX11_nextToken_77 (t := 81) rfl ?_
      exact zw_bret hm_129 dX11_nextToken_81 (by decide) h
  · intro hc
    rw [if_neg hc] at h
    refine zw_push hm_129 dX11_nextToken_43 (v := .inr (.inr (some 64))) rfl ?_
    refine zw_gf hm_129 dX11_nextToken_44 (v := .inr (.inr (some 65))) (zT_is hS s_64) (zT_t hS s_64) rfl f_11_9_11 (zT_f hS r_64_0) ?_
    refine zw_push hm_129 dX11_nextToken_47 (v := .inl l1) rfl ?_
    obtain ⟨hg, h⟩ := h
    refine zw_ba hm_129 dX11_nextToken_48 (zT_is hS s_65) (zT_h hS s_65) rfl rfl hg ?_
    show ma_wp X d w 129 49 [(0, .inr (.inr (some 64))), (1, .inl l1)] [.inl (mI S 65 l1.toNatClampNeg)] S _
    refine zw_push hm_129 dX11_nextToken_49 (v := .inl (32 : Int32)) rfl ?_
    refine zw_if2 hm_129 dX11_nextToken_51 (t := 60) rfl zc2_eq ?_ ?_
    · intro hc
      rw [if_pos hc] at h
      refine zw_push hm_129 dX11_nextToken_60 (v := .inr (.inr (some 64))) rfl ?_
      refine zw_push hm_129 dX11_nextToken_61 (v := .inl l1) rfl ?_
      refine zw_pf hm_129 dX11_nextToken_62 (zT_is hS s_64) (zT_t hS s_64) p_11_275_11 zk_int ?_
      refine zw_push hm_129 dX11_nextToken_65 (v := .inr (.inr (some 64))) rfl ?_
      refine zw_gf hm_129 dX11_nextToken_66 (v := .inl (mI S 64 2)) (zT_is (zT_pi hS) s_64) (zT_t (zT_pi hS) s_64) rfl f_11_92_11 rfl ?_
      refine zw_push hm_129 dX11_nextToken_69 (v := .inr (.inr (some 64))) rfl ?_
      refine zw_gf hm_129 dX11_nextToken_70 (v := .inl l1) (zT_is (zT_pi hS) s_64) (zT_t (zT_pi hS) s_64) rfl f_11_275_11 rfl ?_
      refine zw_if2 hm_129 dX11_nextToken_73 (t := 80) rfl zc2_ge ?_ ?_
      · intro hc
        rw [if_pos hc] at h
        refine zw_push hm_129 dX11_nextToken_80 (v := .inl (0 : Int32)) rfl ?_
        exact zw_bret hm_129 dX11_nextToken_81 (by decide) h
      · intro hc
        rw [if_neg hc] at h
        refine zw_push hm_129 dX11_nextToken_76 (v := .inl (1 : Int32)) rfl ?_
        refine zw_goto hm_129 dX11_nextToken_77 (t := 81) rfl ?_
        exact zw_bret hm_129 dX11_nextToken_81 (by decide) h
    · intro hc
      rw [if_neg hc] at h
      refine zw_sto hm_129 dX11_nextToken_54 [(1, .inl (l1 + (1 : Int32))), (0, .inr (.inr (some 64)))] rfl rfl rfl ?_
      refine zw_goto hm_129 dX11_nextToken_57 (t := 35) rfl ?_
      exact zw_sub (ma_nd_of (ks := [0, 1]) rfl (by decide)) (ma_nd_of (ks := [1, 0]) rfl (by decide)) (ma_le_cons rfl (ma_le_cons rfl (ma_le_nil _))) h
theorem lp_129_64_sq_35 {X : Nat × (Nat → Int32)} {d w : Nat} {f : Nat → Nat → Int32} {r : Nat → Nat → Option Nat} {C Z N : Nat} {Q : Option ma_V ⊕ Nat → ma_S → Prop} {p0 : Int} {I0 : Nat→Nat→Int32} {L0 : Nat→Nat→Int64} {R0 : zRT} (hd : 0 ≤ d) (hw : 0 ≤ w) (K : ∀ v S₉, zY f r C Z N S₉ → (v = 0 ∨ v = 1) → ((mI S₉ 64 2).toInt = tk true (f 65) (f 64 1).toInt p0) → ((mI S₉ 64 3).toInt = tk false (f 65) (f 64 1).toInt (mI S₉ 64 2).toInt) → ((v.toInt = 1 ∧ (mI S₉ 64 2).toInt < (mI S₉ 64 3).toInt) ∨ (v.toInt = 0 ∧ (mI S₉ 64 3).toInt ≤ (mI S₉ 64 2).toInt)) → ((mI S₉ 64 2).toInt ≤ (mI S₉ 64 3).toInt) → (zFm I0 L0 R0 S₉) → Q (.inl (some (.inl v))) S₉) : ∀ (n : Nat) (S : ma_S) (l1 : Int32), (100 - l1.toInt).toNat = n → zY f r C Z N S → (0 ≤ l1.toInt) → (l1.toInt ≤ 100) → ((mI S 64 2).toInt ≤ l1.toInt) → ((mI S 64 2).toInt = tk true (f 65) (f 64 1).toInt p0) → (tk false (f 65) (f 64 1).toInt l1.toInt = tk false (f 65) (f 64 1).toInt (mI S 64 2).toInt) → (zFm I0 L0 R0 S) → ma_wp X d w 129 35 [(0, .inr (.inr (some 64))), (1, .inl l1)] [] S Q := by
  intro n
  induction n using Nat.strongRecOn with
  | _ n IH =>
    intro S l1 hmu hI  hi0 hi1 hi2 hi3 hi4 hi5
    refine g_129_64_sq_35 l1 (by omega) (by omega) (zG_T hI) ?_
    have f1 := zG_s hI (0) (100) (c := 64) (k := 2) (by decide)
    have q2 : (mI S 64 1).toInt = (f 64 1).toInt := zG_zi hI rfl
    have f3 := zG_s hI (0) (100) (c := 64) (k := 1) (by decide)
    have b4 := i_bd l1
    refine zd (fun h5 => ?_) (fun h5 => ?_)
    · skip
      have g6 := i_le h5
      refine zd (fun h7 => ?_) (fun h7 => ?_)
      · skip
        have g8 := i_le h7
        have hI9 : zY f r C Z N (ma_put S 64 3 (.inl l1)) := zG_sp hI (0) (100) rfl (by decide) (by decide) (by decide) trivial (by omega) (by omega)
        have li10 : (0 : Int32).toInt = 0 := rfl
        exact K ((0 : Int32)) _ hI9 (by decide) (show (mI S 64 2).toInt = tk true (f 65) (f 64 1).toInt p0 from by first | (exact hi3) | (omega) | (exfalso; omega)) (show l1.toInt = tk false (f 65) (f 64 1).toInt (mI S 64 2).toInt from by first | (exact ((tk_e (by omega)).symm.trans hi4)) | (exact ((tk_w0 (x := mI S 65 l1.toNatClampNeg) (zG_z hI rfl) (by assumption)).symm.trans hi4)) | (omega) | (exfalso; omega)) (show ((0 : Int32).toInt = 1 ∧ (mI S 64 2).toInt < l1.toInt) ∨ ((0 : Int32).toInt = 0 ∧ l1.toInt ≤ (mI S 64 2).toInt) from by first | (omega) | (exfalso; omega)) (show (mI S 64 2).toInt ≤ l1.toInt from by first | (omega) | (exfalso; omega)) (show zFm I0 L0 R0 (ma_put S 64 3 (.inl l1)) from by first | (exact (fn9_p hi5 (by decide))))
      · skip
        have g11 := i_nle h7
        have hI12 : zY f r C Z N (ma_put S 64 3 (.inl l1)) := zG_sp hI (0) (100) rfl (by decide) (by decide) (by decide) trivial (by omega) (by omega)
        have li13 : (1 : Int32).toInt = 1 := rfl
        exact K ((1 : Int32)) _ hI12 (by decide) (show (mI S 64 2).toInt = tk true (f 65) (f 64 1).toInt p0 from by first | (exact hi3) | (omega) | (exfalso; omega)) (show l1.toInt = tk false (f 65) (f 64 1).toInt (mI S 64 2).toInt from by first | (exact ((tk_e (by omega)).symm.trans hi4)) | (exact ((tk_w0 (x := mI S 65 l1.toNatClampNeg) (zG_z hI rfl) (by assumption)).symm.trans hi4)) | (omega) | (exfalso; omega)) (show ((1 : Int32).toInt = 1 ∧ (mI S 64 2).toInt < l1.toInt) ∨ ((1 : Int32).toInt = 0 ∧ l1.toInt ≤ (mI S 64 2).toInt) from by first | (omega) | (exfalso; omega)) (show (mI S 64 2).toInt ≤ l1.toInt from by first | (omega) | (exfalso; omega)) (show zFm I0 L0 R0 (ma_put S 64 3 (.inl l1)) from by first | (exact (fn9_p hi5 (by decide))))
    · skip
      have g14 := i_nle h5
      refine ⟨i_ix (by omega) (by omega), ?_⟩
      have q15 : (mI S 65 l1.toNatClampNeg).toInt = (f 65 l1.toNatClampNeg).toInt := zG_zi hI rfl
      have b16 := i_bd (mI S 65 l1.toNatClampNeg)
      have li17 : (32 : Int32).toInt = 32 := rfl
      refine zd (fun h18 => ?_) (fun h18 => ?_)
      · skip
        have g19 := i_eq h18
        refine zd (fun h20 => ?_) (fun h20 => ?_)
        · skip
          have g21 := i_le h20
          have hI22 : zY f r C Z N (ma_put S 64 3 (.inl l1)) := zG_sp hI (0) (100) rfl (by decide) (by decide) (by decide) trivial (by omega) (by omega)
          have li23 : (0 : Int32).toInt = 0 := rfl
          exact K ((0 : Int32)) _ hI22 (by decide) (show (mI S 64 2).toInt = tk true (f 65) (f 64 1).toInt p0 from by first | (exact hi3) | (omega) | (exfalso; omega)) (show l1.toInt = tk false (f 65) (f 64 1).toInt (mI S 64 2).toInt from by first | (exact ((tk_e (by omega)).symm.trans hi4)) | (exact ((tk_w0 (x := mI S 65 l1.toNatClampNeg) (zG_z hI rfl) (by assumption)).symm.trans hi4)) | (omega) | (exfalso; omega)) (show ((0 : Int32).toInt = 1 ∧ (mI S 64 2).toInt < l1.toInt) ∨ ((0 : Int32).toInt = 0 ∧ l1.toInt ≤ (mI S 64 2).toInt) from by first | (omega) | (exfalso; omega)) (show (mI S 64 2).toInt ≤ l1.toInt from by first | (omega) | (exfalso; omega)) (show zFm I0 L0 R0 (ma_put S 64 3 (.inl l1)) from by first | (exact (fn9_p hi5 (by decide))))
        · skip
          have g24 := i_nle h20
          have hI25 : zY f r C Z N (ma_put S 64 3 (.inl l1)) := zG_sp hI (0) (100) rfl (by decide) (by decide) (by decide) trivial (by omega) (by omega)
          have li26 : (1 : Int32).toInt = 1 := rfl
          exact K ((1 : Int32)) _ hI25 (by decide) (show (mI S 64 2).toInt = tk true (f 65) (f 64 1).toInt p0 from by first | (exact hi3) | (omega) | (exfalso; omega)) (show l1.toInt = tk false (f 65) (f 64 1).toInt (mI S 64 2).toInt from by first | (exact ((tk_e (by omega)).symm.trans hi4)) | (exact ((tk_w0 (x := mI S 65 l1.toNatClampNeg) (zG_z hI rfl) (by assumption)).symm.trans hi4)) | (omega) | (exfalso; omega)) (show ((1 : Int32).toInt = 1 ∧ (mI S 64 2).toInt < l1.toInt) ∨ ((1 : Int32).toInt = 0 ∧ l1.toInt ≤ (mI S 64 2).toInt) from by first | (omega) | (exfalso; omega)) (show (mI S 64 2).toInt ≤ l1.toInt from by first | (omega) | (exfalso; omega)) (show zFm I0 L0 R0 (ma_put S 64 3 (.inl l1)) from by first | (exact (fn9_p hi5 (by decide))))
      · skip
        have g27 := i_ne h18
        first | have e28 : (l1 + (1 : Int32)).toInt = l1.toInt + (1) := i_addk rfl (by omega) (by omega) | have b29 := i_bd (l1 + (1 : Int32))
        exact IH _ (by omega) _ ((l1 + (1 : Int32))) rfl hI (by omega) (by omega) (show (mI S 64 2).toInt ≤ ((l1 + (1 : Int32))).toInt from by omega) (show (mI S 64 2).toInt = tk true (f 65) (f 64 1).toInt p0 from by first | (exact hi3) | (omega) | (exfalso; omega)) (show tk false (f 65) (f 64 1).toInt ((l1 + (1 : Int32))).toInt = tk false (f 65) (f 64 1).toInt (mI S 64 2).toInt from by first | (exact rfl) | (exact (tk_w1 (p := l1.toInt) (x := mI S 65 l1.toNatClampNeg) (by omega) (zG_z hI rfl) (by assumption) (by omega)).symm.trans hi4) | (omega) | (exfalso; omega)) (show zFm I0 L0 R0 S from by first | (exact hi5))
theorem lp_129_64_sq_5 {X : Nat × (Nat → Int32)} {d w : Nat} {f : Nat → Nat → Int32} {r : Nat → Nat → Option Nat} {C Z N : Nat} {Q : Option ma_V ⊕ Nat → ma_S → Prop} {p0 : Int} {I0 : Nat→Nat→Int32} {L0 : Nat→Nat→Int64} {R0 : zRT} (hd : 0 ≤ d) (hw : 0 ≤ w) (K : ∀ v S₉, zY f r C Z N S₉ → (v = 0 ∨ v = 1) → ((mI S₉ 64 2).toInt = tk true (f 65) (f 64 1).toInt p0) → ((mI S₉ 64 3).toInt = tk false (f 65) (f 64 1).toInt (mI S₉ 64 2).toInt) → ((v.toInt = 1 ∧ (mI S₉ 64 2).toInt < (mI S₉ 64 3).toInt) ∨ (v.toInt = 0 ∧ (mI S₉ 64 3).toInt ≤ (mI S₉ 64 2).toInt)) → ((mI S₉ 64 2).toInt ≤ (mI S₉ 64 3).toInt) → (zFm I0 L0 R0 S₉) → Q (.inl (some (.inl v))) S₉) : ∀ (n : Nat) (S : ma_S) (l1 : Int32), (100 - l1.toInt).toNat = n → zY f r C Z N S → (0 ≤ l1.toInt) → (l1.toInt ≤ 100) → (tk true (f 65) (f 64 1).toInt l1.toInt = tk true (f 65) (f 64 1).toInt p0) → (zFm I0 L0 R0 S) → ma_wp X d w 129 5 [(0, .inr (.inr (some 64))), (1, .inl l1)] [] S Q := by
  intro n
  induction n using Nat.strongRecOn with
  | _ n IH =>
    intro S l1 hmu hI  hi0 hi1 hi2 hi3
    refine g_129_64_sq_5 l1 (by omega) (by omega) (zG_T hI) ?_
    have q1 : (mI S 64 1).toInt = (f 64 1).toInt := zG_zi hI rfl
    have f2 := zG_s hI (0) (100) (c := 64) (k := 1) (by decide)
    have b3 := i_bd l1
    refine zd (fun h4 => ?_) (fun h4 => ?_)
    · skip
      have g5 := i_le h4
      have hI6 : zY f r C Z N (ma_put S 64 2 (.inl l1)) := zG_sp hI (0) (100) rfl (by decide) (by decide) (by decide) trivial (by omega) (by omega)
      exact lp_129_64_sq_35 (by omega) (by omega) K _ _ (l1) rfl hI6 (by omega) (by omega) (show l1.toInt ≤ (l1).toInt from by omega) (show l1.toInt = tk true (f 65) (f 64 1).toInt p0 from by first | (exact ((tk_e (by omega)).symm.trans hi2)) | (exact ((tk_b0 (x := mI S 65 l1.toNatClampNeg) (zG_z hI rfl) (by assumption)).symm.trans hi2)) | (omega) | (exfalso; omega)) (show tk false (f 65) (f 64 1).toInt (l1).toInt = tk false (f 65) (f 64 1).toInt l1.toInt from by first | (exact rfl) | (omega) | (exfalso; omega)) (show zFm I0 L0 R0 (ma_put S 64 2 (.inl l1)) from by first | (exact (fn9_p hi3 (by decide))))
    · skip
      have g7 := i_nle h4
      refine ⟨i_ix (by omega) (by omega), ?_⟩
      have q8 : (mI S 65 l1.toNatClampNeg).toInt = (f 65 l1.toNatClampNeg).toInt := zG_zi hI rfl
      have b9 := i_bd (mI S 65 l1.toNatClampNeg)
      have li10 : (32 : Int32).toInt = 32 := rfl
      refine zd (fun h11 => ?_) (fun h11 => ?_)
      · skip
        have g12 := i_eq h11
        first | have e13 : (l1 + (1 : Int32)).toInt = l1.toInt + (1) := i_addk rfl (by omega) (by omega) | have b14 := i_bd (l1 + (1 : Int32))
        exact IH _ (by omega) _ ((l1 + (1 : Int32))) rfl hI (by omega) (by omega) (show tk true (f 65) (f 64 1).toInt ((l1 + (1 : Int32))).toInt = tk true (f 65) (f 64 1).toInt p0 from by first | (exact congrArg (tk true _ _) (by omega)) | (exact (tk_b1 (p := l1.toInt) (x := mI S 65 l1.toNatClampNeg) (by omega) (zG_z hI rfl) (by assumption) (by omega)).symm.trans hi2) | (omega) | (exfalso; omega)) (show zFm I0 L0 R0 S from by first | (exact hi3))
      · skip
        have g15 := i_ne h11
        have hI16 : zY f r C Z N (ma_put S 64 2 (.inl l1)) := zG_sp hI (0) (100) rfl (by decide) (by decide) (by decide) trivial (by omega) (by omega)
        exact lp_129_64_sq_35 (by omega) (by omega) K _ _ (l1) rfl hI16 (by omega) (by omega) (show l1.toInt ≤ (l1).toInt from by omega) (show l1.toInt = tk true (f 65) (f 64 1).toInt p0 from by first | (exact ((tk_e (by omega)).symm.trans hi2)) | (exact ((tk_b0 (x := mI S 65 l1.toNatClampNeg) (zG_z hI rfl) (by assumption)).symm.trans hi2)) | (omega) | (exfalso; omega)) (show tk false (f 65) (f 64 1).toInt (l1).toInt = tk false (f 65) (f 64 1).toInt l1.toInt from by first | (exact rfl) | (omega) | (exfalso; omega)) (show zFm I0 L0 R0 (ma_put S 64 2 (.inl l1)) from by first | (exact (fn9_p hi3 (by decide))))
theorem sp_129_64_sq {X : Nat × (Nat → Int32)} {d w : Nat} {f : Nat → Nat → Int32} {r : Nat → Nat → Option Nat} {C Z N : Nat} {Q : Option ma_V ⊕ Nat → ma_S → Prop} {p0 : Int} {I0 : Nat→Nat→Int32} {L0 : Nat→Nat→Int64} {R0 : zRT} {S : ma_S}  (hd : 0 ≤ d) (hw : 0 ≤ w) (hI : zY f r C Z N S) (hpre0 : (mI S 64 3).toInt = p0) (hpre1 : zFm I0 L0 R0 S) (K : ∀ v S₉, zY f r C Z N S₉ → (v = 0 ∨ v = 1) → ((mI S₉ 64 2).toInt = tk true (f 65) (f 64 1).toInt p0) → ((mI S₉ 64 3).toInt = tk false (f 65) (f 64 1).toInt (mI S₉ 64 2).toInt) → ((v.toInt = 1 ∧ (mI S₉ 64 2).toInt < (mI S₉ 64 3).toInt) ∨ (v.toInt = 0 ∧ (mI S₉ 64 3).toInt ≤ (mI S₉ 64 2).toInt)) → ((mI S₉ 64 2).toInt ≤ (mI S₉ 64 3).toInt) → (zFm I0 L0 R0 S₉) → Q (.inl (some (.inl v))) S₉) : ma_wp X d w 129 0 [(0, .inr (.inr (some 64)))] [] S Q := by
  refine g_129_64_sq_0  (by omega) (by omega) (zG_T hI) ?_
  have f1 := zG_s hI (0) (100) (c := 64) (k := 3) (by decide)
  exact lp_129_64_sq_5 (by omega) (by omega) K _ _ ((mI S 64 3)) rfl hI (by omega) (by omega) (show tk true (f 65) (f 64 1).toInt ((mI S 64 3)).toInt = tk true (f 65) (f 64 1).toInt p0 from by first | (exact congrArg (tk true _ _) (by omega)) | (omega) | (exfalso; omega)) (show zFm I0 L0 R0 S from by first | (exact hpre1))

