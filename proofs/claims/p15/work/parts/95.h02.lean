/-! the reference by numbers (written by wip/tools/gen18r.py) -/
def qPl (us nr : Nat → Int32) (x v : Int32) : Prop := (v = -1 ∧ ∀ t, t < 3100 → us t ≠ 0 → nr t ≠ x) ∨ (0 ≤ v.toInt ∧ v.toInt ≤ 3099 ∧ us v.toNatClampNeg ≠ 0 ∧ nr v.toNatClampNeg = x)
theorem pl_s {us nr : Nat → Int32} {x i j : Int32} (h : ∀ t : Nat, (t : Int) < i.toInt → us t ≠ 0 → nr t ≠ x) (e : j.toInt = i.toInt + 1) (h0 : 0 ≤ i.toInt) (hc : us i.toNatClampNeg = 0 ∨ nr i.toNatClampNeg ≠ x) : ∀ t : Nat, (t : Int) < j.toInt → us t ≠ 0 → nr t ≠ x := by
  intro t ht hu
  have c := tn_cast h0
  by_cases z : t = i.toNatClampNeg
  · rw [z] at hu ⊢
    exact hc.elim (fun w => absurd w hu) id
  · exact h t (by omega) hu
theorem lp_246r_2 {X : Nat × (Nat → Int32)} {P : Option ma_V → (Nat → Nat → Int32) → Prop} {nu : Int32} {m0 : Nat → Nat → Int32} (h0 : zV m0) (K : ∀ v m', zF wr_246 m0 m' → zV m' → (-1 ≤ v.toInt ∧ v.toInt ≤ 3099) → (qPl (m' 99) (m' 100) nu v) → P (some (.inl v)) m') : ∀ (n : Nat) (m : Nat → Nat → Int32) (l1 : Int32) (l2 : Int32), (3100 - l2.toInt).toNat = n → zF wr_246 m0 m → zV m → (0 ≤ l2.toInt) → (l1 = nu) → (∀ t : Nat, (t : Int) < l2.toInt → (m 99) t ≠ 0 → (m 100) t ≠ nu) → zm X 0 0 246 2 [(0, .inr (.inr (some 94))), (1, .inl l1), (2, .inl l2)] m P := by
  intro n
  induction n using Nat.strongRecOn with
  | _ n IH =>
    intro m l1 l2 hmu hF hV hi0 r_LN r_PLl
    refine g_246_2 l1 l2 ?_
    have li1 : (3100 : Int32).toInt = 3100 := rfl
    have b2 := i_bd l2
    refine zd (fun (h3 : (3100 : Int32) ≤ l2) => ?_) (fun (h3 : ¬ (3100 : Int32) ≤ l2) => ?_)
    · skip
      have g4 := i_le h3
      have li5 : (-1 : Int32).toInt = -1 := rfl
      exact K ((-1 : Int32)) _ hF hV (show -1 ≤ (-1 : Int32).toInt ∧ (-1 : Int32).toInt ≤ 3099 from by omega) (show qPl (m 99) (m 100) nu (-1 : Int32) from by first | (exact Or.inr ⟨by omega, by omega, by assumption, by rw [← r_LN]; assumption⟩) | (exact Or.inl ⟨rfl, fun t ht => r_PLl t (by omega)⟩) | (exfalso; omega; done) | (exfalso; contradiction; done))
    · skip
      have g6 := i_nle h3
      have hg7 : (0 ≤ l2 ∧ l2.toNatClampNeg < 3100) := i_ix (by omega) (by omega)
      refine ⟨hg7, ?_⟩
      first | have f8 : 0 ≤ (m 99 l2.toNatClampNeg).toInt ∧ (m 99 l2.toNatClampNeg).toInt ≤ 1 := ra_99 (m := m) hV (k := l2.toNatClampNeg) (i_ix (n := 3100) (by omega) (by omega)).2 | have b9 := i_bd (m 99 l2.toNatClampNeg)
      have li10 : (0 : Int32).toInt = 0 := rfl
      refine zd (fun (h11 : (m 99 l2.toNatClampNeg) = (0 : Int32)) => ?_) (fun (h11 : ¬ (m 99 l2.toNatClampNeg) = (0 : Int32)) => ?_)
      · skip
        have g12 := i_eq h11
        have b13 := i_bd l1
        first | have e14 : (l2 + (1 : Int32)).toInt = l2.toInt + (1) := i_addk rfl (by omega) (by omega) | have b15 := i_bd (l2 + (1 : Int32))
        exact IH (3100 - (l2 + (1 : Int32)).toInt).toNat (by omega) _ (l1) ((l2 + (1 : Int32))) rfl hF hV (by omega) r_LN (show ∀ t : Nat, (t : Int) < (l2 + (1 : Int32)).toInt → (m 99) t ≠ 0 → (m 100) t ≠ nu from by first | (intro t ht; omega; done) | (exact pl_s r_PLl (by omega) (by omega) (Or.inl (by assumption))) | (exact pl_s r_PLl (by omega) (by omega) (Or.inr (by rw [← r_LN]; assumption))) | (exfalso; omega; done) | (exfalso; contradiction; done))
      · skip
        have g16 := i_ne h11
        have hg17 : (0 ≤ l2 ∧ l2.toNatClampNeg < 3100) := i_ix (by omega) (by omega)
        refine ⟨hg17, ?_⟩
        first | have f18 : 0 ≤ (m 100 l2.toNatClampNeg).toInt ∧ (m 100 l2.toNatClampNeg).toInt ≤ 100000 := ra_100 (m := m) hV (k := l2.toNatClampNeg) (i_ix (n := 3100) (by omega) (by omega)).2 | have b19 := i_bd (m 100 l2.toNatClampNeg)
        have b20 := i_bd l1
        refine zd (fun (h21 : (m 100 l2.toNatClampNeg) = l1) => ?_) (fun (h21 : ¬ (m 100 l2.toNatClampNeg) = l1) => ?_)
        · skip
          have g22 := i_eq h21
          exact K (l2) _ hF hV (show -1 ≤ l2.toInt ∧ l2.toInt ≤ 3099 from by omega) (show qPl (m 99) (m 100) nu l2 from by first | (exact Or.inr ⟨by omega, by omega, by assumption, by rw [← r_LN]; assumption⟩) | (exact Or.inl ⟨rfl, fun t ht => r_PLl t (by omega)⟩) | (exfalso; omega; done) | (exfalso; contradiction; done))
        · skip
          have g23 := i_ne h21
          first | have e24 : (l2 + (1 : Int32)).toInt = l2.toInt + (1) := i_addk rfl (by omega) (by omega) | have b25 := i_bd (l2 + (1 : Int32))
          exact IH (3100 - (l2 + (1 : Int32)).toInt).toNat (by omega) _ (l1) ((l2 + (1 : Int32))) rfl hF hV (by omega) r_LN (show ∀ t : Nat, (t : Int) < (l2 + (1 : Int32)).toInt → (m 99) t ≠ 0 → (m 100) t ≠ nu from by first | (intro t ht; omega; done) | (exact pl_s r_PLl (by omega) (by omega) (Or.inl (by assumption))) | (exact pl_s r_PLl (by omega) (by omega) (Or.inr (by rw [← r_LN]; assumption))) | (exfalso; omega; done) | (exfalso; contradiction; done))
theorem sp_246r {X : Nat × (Nat → Int32)} {P : Option ma_V → (Nat → Nat → Int32) → Prop} {m : Nat → Nat → Int32} (nu : Int32) (hV : zV m)  (KZ : ∀ v m', zV (zov wr_246 m m') → (-1 ≤ v.toInt ∧ v.toInt ≤ 3099) → (qPl (m 99) (m 100) nu v) → P (some (.inl v)) (zov wr_246 m m')) : zm X 0 0 246 0 [(0, .inr (.inr (some 94))), (1, .inl nu)] m P := by
  have K : ∀ v m', zF wr_246 m m' → zV m' → (-1 ≤ v.toInt ∧ v.toInt ≤ 3099) → (qPl (m' 99) (m' 100) nu v) → P (some (.inl v)) m' := by
    intro v m' hf z q0 q1
    have e := zov_eq hf
    rw [e] at z ⊢
    try rw [e] at q0
    try rw [e] at q1
    exact KZ v m' z q0 q1
  refine g_246_0 nu ?_
  have b1 := i_bd nu
  have li2 : (0 : Int32).toInt = 0 := rfl
  exact lp_246r_2 (nu := nu) hV K _ _ (nu) ((0 : Int32)) rfl zF_rfl hV (by omega) (show nu = nu from by first | (exact rfl) | (exfalso; omega; done) | (exfalso; contradiction; done)) (show ∀ t : Nat, (t : Int) < (0 : Int32).toInt → (m 99) t ≠ 0 → (m 100) t ≠ nu from by first | (intro t ht; omega; done) | (exfalso; omega; done) | (exfalso; contradiction; done))
