/-! WHAT A CALL OF THE CLASS MAKES OF THE HEAP, whether it answers or throws -/
section KX
variable {ab d : Nat → Nat → Int32} {o i x v w t rt n b ki kw kn : Int32} {e : Nat} {L : Int64}
theorem kpu_y (h : zRq ab o ∧ zHw ab o i ∧ ¬ zIr ab o i ∧ d = aCi ab o.toNatClampNeg i x ∧ v = w) : d = xPu ab o i x := h.2.2.2.1.trans (qIf_y ⟨h.1, h.2.1, h.2.2.1⟩).symm
theorem kpu_x (hd : d = ab) (h : (e = 4 ∧ ¬ zRq ab o) ∨ (e = 1 ∧ zRq ab o ∧ ¬ zHw ab o i) ∨ (e = 5 ∧ zRq ab o ∧ zHw ab o i ∧ zIr ab o i)) : d = xPu ab o i x := hd.trans (qIf_n (fun q => by
  rcases h with h | h | h
  · exact h.2 q.1
  · exact h.2.2 q.2.1
  · exact q.2.2 h.2.2.2)).symm
theorem kli_y (h : zRq ab o ∧ (t = -1 ∨ zRq ab t) ∧ zHw ab o i ∧ zIr ab o i ∧ d = aLn ab o.toNatClampNeg i t ∧ v = w) : d = xLi ab o i t := h.2.2.2.2.1.trans (qIf_y ⟨h.1, h.2.1, h.2.2.1, h.2.2.2.1⟩).symm
theorem kli_x (hd : d = ab) (h : (e = 4 ∧ (¬ zRq ab o ∨ (zRq ab o ∧ t ≠ -1 ∧ ¬ zRq ab t))) ∨ (e = 1 ∧ zRq ab o ∧ (t = -1 ∨ zRq ab t) ∧ ¬ zHw ab o i) ∨ (e = 5 ∧ zRq ab o ∧ (t = -1 ∨ zRq ab t) ∧ zHw ab o i ∧ ¬ zIr ab o i)) : d = xLi ab o i t := hd.trans (qIf_n (fun q => by
  rcases h with h | h | h
  · rcases h.2 with h2 | h2
    · exact h2 q.1
    · exact q.2.1.elim h2.2.1 h2.2.2
  · exact h.2.2.2 q.2.2.1
  · exact h.2.2.2.2 q.2.2.2)).symm
theorem kro_y (h : (0 ≤ i.toInt ∧ i.toInt ≤ 15) ∧ (o = -1 ∨ zRq ab o) ∧ d = aRt ab i o ∧ v = w) : d = xRo ab i o := h.2.2.1.trans (qIf_y ⟨h.1, h.2.1⟩).symm
theorem kwe_n (h : (e = 2 ∧ ¬ (0 ≤ i.toInt ∧ i.toInt ≤ 15)) ∨ ((0 ≤ i.toInt ∧ i.toInt ≤ 15) ∧ e = 4 ∧ o ≠ -1 ∧ ¬ zRq ab o)) : ¬ (zSl i ∧ (o = -1 ∨ zRq ab o)) := fun q => by
  rcases h with h | h
  · exact h.2 q.1
  · exact q.2.elim h.2.2.1 h.2.2.2
theorem kro_x (hd : d = ab) (h : (e = 2 ∧ ¬ (0 ≤ i.toInt ∧ i.toInt ≤ 15)) ∨ ((0 ≤ i.toInt ∧ i.toInt ≤ 15) ∧ e = 4 ∧ o ≠ -1 ∧ ¬ zRq ab o)) : d = xRo ab i o := hd.trans (qIf_n (kwe_n h)).symm
theorem kwe_y (h : (0 ≤ i.toInt ∧ i.toInt ≤ 15) ∧ (o = -1 ∨ zRq ab o) ∧ d = ma_u ab 73 i.toNatClampNeg (aNm ab o) ∧ v = w) : d = xWe ab i o := h.2.2.1.trans (qIf_y ⟨h.1, h.2.1⟩).symm
theorem kwe_x (hd : d = ab) (h : (e = 2 ∧ ¬ (0 ≤ i.toInt ∧ i.toInt ≤ 15)) ∨ ((0 ≤ i.toInt ∧ i.toInt ≤ 15) ∧ e = 4 ∧ o ≠ -1 ∧ ¬ zRq ab o)) : d = xWe ab i o := hd.trans (qIf_n (kwe_n h)).symm
theorem kho_y (h : zRq ab o ∧ (¬ b = 0 ∨ ¬ ab 133 o.toNatClampNeg = 0) ∧ d = ma_u ab 133 o.toNatClampNeg (ab 133 o.toNatClampNeg + (if b = 0 then -1 else 1)) ∧ v = w) : d = xHo ab o b := h.2.2.1.trans (qIf_y ⟨h.1, h.2.1⟩).symm
theorem kho_x (hd : d = ab) (h : (e = 4 ∧ ¬ zRq ab o) ∨ (e = 6 ∧ zRq ab o ∧ b = 0 ∧ ab 133 o.toNatClampNeg = 0)) : d = xHo ab o b := hd.trans (qIf_n (fun q => by
  rcases h with h | h
  · exact h.2 q.1
  · exact q.2.elim (fun z => z h.2.2.1) (fun z => z h.2.2.2))).symm
theorem kwi_y (h : zRq ab o ∧ d = ma_u ab 134 o.toNatClampNeg 1 ∧ v = w) : d = xWi ab o := h.2.1.trans (qIf_y h.1).symm
theorem kwi_x (hd : d = ab) (h : e = 4 ∧ ¬ zRq ab o) : d = xWi ab o := hd.trans (qIf_n h.2).symm
theorem ksg_y (h : (0 ≤ i.toInt ∧ i.toInt ≤ 15) ∧ (0 ≤ rt.toInt ∧ rt.toInt ≤ 15) ∧ ((aNm ab (ab 73 i.toNatClampNeg) = -1 ∧ d = ab ∧ v = -1) ∨ (aNm ab (ab 73 i.toNatClampNeg) = ab 73 i.toNatClampNeg ∧ 0 ≤ (ab 73 i.toNatClampNeg).toInt ∧ d = aSt (aRt ab rt (ab 73 i.toNatClampNeg)) (ab 73 i.toNatClampNeg) ∧ v = ab 73 i.toNatClampNeg))) : d = xSg ab i rt := by
  rcases h.2.2 with q | q
  · exact q.2.1.trans (qIf_n (fun z => z.2.2 q.1)).symm
  · refine q.2.2.1.trans (qIf_y ⟨h.1, h.2.1, fun z => ?_⟩).symm
    have q2 := q.2.1
    rw [← q.1, z] at q2
    exact absurd q2 (by decide)
theorem ksg_x (hd : d = ab) (h : e = 2 ∧ ¬ ((0 ≤ i.toInt ∧ i.toInt ≤ 15) ∧ (0 ≤ rt.toInt ∧ rt.toInt ≤ 15))) : d = xSg ab i rt := hd.trans (qIf_n (fun q => h.2 ⟨q.1, q.2.1⟩)).symm
theorem kgr_y (h : (0 ≤ rt.toInt ∧ rt.toInt ≤ 15) ∧ ((aNm ab (aTy ab) = -1 ∧ d = aTw ab ∧ v = -1) ∨ (aNm ab (aTy ab) = aTy ab ∧ 0 ≤ (aTy ab).toInt ∧ d = aRt (aTw ab) rt (aTy ab) ∧ v = aTy ab))) : d = xGr ab rt := by
  unfold xGr
  rw [qIf_y (show zSl rt from h.1)]
  rcases h.2 with q | q
  · rw [qIf_y q.1]
    exact q.2.1
  · refine q.2.2.1.trans (qIf_n (fun z => ?_)).symm
    have q2 := q.2.1
    rw [← q.1, z] at q2
    exact absurd q2 (by decide)
theorem kgr_x (hd : d = ab) (h : e = 2 ∧ ¬ (0 ≤ rt.toInt ∧ rt.toInt ≤ 15)) : d = xGr ab rt := hd.trans (qIf_n h.2).symm
theorem kcl_y (h : d = aCl ab ∧ v = w) : d = aCl ab := h.1
theorem kge_y (h : zRq ab o ∧ zHw ab o i ∧ d = ab ∧ v = w) : d = ab := h.2.2.1
theorem kmk_y (h : (0 ≤ ki.toInt ∧ ki.toInt < kn.toInt ∧ 0 ≤ rt.toInt ∧ rt.toInt ≤ 15) ∧ d = aMk ab ki kw L rt ∧ v = w) : d = qIf (0 ≤ ki.toInt ∧ ki.toInt < kn.toInt ∧ zSl rt) (aMk ab ki kw L rt) ab := h.2.1.trans (qIf_y h.1).symm
theorem kmk_x (hd : d = ab) (h : e = 2 ∧ ¬ (0 ≤ ki.toInt ∧ ki.toInt < kn.toInt ∧ 0 ≤ rt.toInt ∧ rt.toInt ≤ 15)) : d = qIf (0 ≤ ki.toInt ∧ ki.toInt < kn.toInt ∧ zSl rt) (aMk ab ki kw L rt) ab := hd.trans (qIf_n h.2).symm
theorem krw_y (h : (0 ≤ n.toInt ∧ n.toInt ≤ 60 ∧ 0 ≤ rt.toInt ∧ rt.toInt ≤ 15) ∧ d = (if b = 0 then aMk ab 17 n 0 rt else aMk ab 16 n (-1) rt) ∧ v = w) : d = qIf (0 ≤ n.toInt ∧ n.toInt ≤ 60 ∧ zSl rt) (if b = 0 then aMk ab 17 n 0 rt else aMk ab 16 n (-1) rt) ab := h.2.1.trans (qIf_y h.1).symm
theorem krw_x (hd : d = ab) (h : e = 2 ∧ ¬ (0 ≤ n.toInt ∧ n.toInt ≤ 60 ∧ 0 ≤ rt.toInt ∧ rt.toInt ≤ 15)) : d = qIf (0 ≤ n.toInt ∧ n.toInt ≤ 60 ∧ zSl rt) (if b = 0 then aMk ab 17 n 0 rt else aMk ab 16 n (-1) rt) ab := hd.trans (qIf_n h.2).symm
end KX
section KS
variable {S : ma_S} {f : Nat → Nat → Int32} {r : Nat → Nat → Option Nat} {C Z N : Nat} {m' : Nat → Nat → Int32}
theorem aF_cg {I I' : Nat → Nat → Int32} {R : Nat → Option Nat} {L L' : Nat → Nat → Int64} (h : ∀ c k, c < 94 ∨ 124 < c → I c k = I' c k) (hL : ∀ c, 126 ≤ c → L c 3 = L' c 3) (hR : ∀ n b, R n = some b → 126 ≤ b) : aF 88 I R L = aF 88 I' R L' := by
  funext c1 k1
  by_cases b : zrl c1 k1 = true
  · have p := zrl_p b
    rw [aF_I b, aF_I b]
    refine h _ _ (Or.inl ?_)
    unfold zcw
    split <;> omega
  · unfold aF
    rw [if_neg b, if_neg b]
    split
    · rfl
    · split
      · rfl
      · split
        · split
          · unfold aTf
            split
            · cases e : R k1 with
              | none => rfl
              | some q =>
                have := hR _ _ e
                exact h q _ (Or.inr (by omega))
            · rfl
          · rfl
        · unfold aTr
          split
          · cases e : R (c1 - 1000) with
            | none => rfl
            | some q =>
              show zbit (L q 3) _ = zbit (L' q 3) _
              rw [hL q (hR _ _ e)]
          · rfl
theorem h70 (h : zA f r C Z N S) : ∀ n b, mR S 70 n = some b → 126 ≤ b := fun _ _ e => (zG_70 h (c := 70) (by decide) e).1
theorem aS_o (h : zA f r C Z N S) {x : Int64} : aS 88 (ma_put S 125 0 (.inr (.inl x))) = aS 88 S := aF_cg (fun _ _ _ => rfl) (fun c hc => by
  show (if c = 125 ∧ 3 = 0 then x else mL S c 3) = mL S c 3
  rw [if_neg (by omega)]) (h70 h)
theorem aS_b : aS 88 (ma_bump S) = aS 88 S := rfl
theorem aS_zst (h : zA f r C Z N S) (ho : ∀ c k, c < 94 ∨ 124 < c → m' c k = mI S c k) : aS 88 (zst S m') = aS 88 S := aF_cg ho (fun _ _ => rfl) (fun n b e => h70 (S := S) h n b e)
theorem xB_zst (h : xB S (mR S 70)) (ho : ∀ c k, c < 94 ∨ 124 < c → m' c k = mI S c k) : xB (zst S m') (mR (zst S m') 70) := ⟨rfl, fun n t hn e => by
  have q := h.2 n t hn e
  exact ⟨q.1, (ho t 0 (Or.inr (by omega))).trans q.2⟩⟩
end KS
theorem zb_k0 : ∀ n, n < 256 → ∀ j, j < 8 → (zbit (Int32.ofNat n).toInt64 (Int32.ofNat j) ≠ 0 ↔ ((Int32.ofNat n >>> (Int32.ofNat j &&& 31)) &&& 1) = 1) := by decide +kernel
theorem zb_k {x : Int32} {j : Nat} (h0 : 0 ≤ x.toInt) (h1 : x.toInt ≤ 255) (hj : j < 8) : zbit x.toInt64 (Int32.ofNat j) ≠ 0 ↔ ((x >>> (Int32.ofNat j &&& 31)) &&& 1) = 1 := by
  have c := tn_cast h0
  have e := zb_k0 x.toNatClampNeg (by omega) j hj
  rw [ofN_tn h0] at e
  exact e
