/-! the reference by numbers (written by wip/tools/gen18r.py) -/
/-! A FREE PLACE THAT IS LONG ENOUGH -/
def qFs (b : Nat → Nat → Int32) (z p : Int) : Prop := 0 ≤ p ∧ p + z ≤ (b 87 0).toInt ∧ ∀ n, xAl b n → (b 130 n).toInt + (b 128 n).toInt ≤ p ∨ p + z ≤ (b 130 n).toInt
section QF
variable {b : Nat → Nat → Int32} {p q z bb v l : Int} {s : Int32} {k : Nat}
theorem Un_g (hI : qI b) (g : qGd b q) (h0 : 0 ≤ q) (h5 : q < 4500) (hf : (zOb b q).toInt < 0) : ∀ n, xAl b n → ¬ ((b 130 n).toInt ≤ q ∧ q < (b 130 n).toInt + (b 128 n).toInt) := by
  intro n hn w
  have gg := g n hn
  have i := hI.1 n hn
  have ep : (b 130 n).toInt = q := by omega
  have z := i.2.2.2
  rw [tn_i i.1.2 ep] at z
  have e := ofN_i hn.1
  have : zOb b q = Int32.ofNat n := by
    unfold zOb
    rw [z, if_pos ⟨h0, h5, by omega, by have := hn.1; omega, by rw [tn_of hn.1]; exact hn.2⟩]
  rw [this] at hf
  omega
theorem E_un (hI : qI b) : ∀ (f : Nat) (p : Int), ((b 87 0).toInt - p).toNat = f → qGd b p → 0 ≤ p → ∀ q, p ≤ q → q < aE b p → ∀ n, xAl b n → ¬ ((b 130 n).toInt ≤ q ∧ q < (b 130 n).toInt + (b 128 n).toInt) := by
  intro f
  have r5 := hI.2.2.2.1.2.2.1
  induction f using Nat.strongRecOn with
  | _ f IH =>
    intro p hf g h0 q h1 h2
    by_cases c : p < (b 87 0).toInt ∧ (zOb b p).toInt < 0
    · by_cases e : q = p
      · rw [e]
        exact Un_g hI g h0 (by omega) c.2
      · rw [aE_go c.1 c.2] at h2
        exact IH _ (by omega) (p + 1) rfl (Gd_s hI g c.2 h0 (by omega)) (by omega) q (by omega) h2
    · rw [aE_st c] at h2
      omega
theorem Gd_ro (hI : qI b) : qGd b (b 87 0).toInt := by
  intro n hn w
  have := (hI.1 n hn).2.2.1
  omega
theorem Gd_N (hI : qI b) : ∀ (f : Nat) (p : Int), ((b 87 0).toInt - p).toNat = f → qGd b p → qGd b (aN b p) := by
  intro f
  induction f using Nat.strongRecOn with
  | _ f IH =>
    intro p hf g
    by_cases c : p < (b 87 0).toInt
    · by_cases d : (zOb b p).toInt < 0
      · rw [aN_fr c d]
        exact g
      · have nx := Gd_nx hI g (by omega)
        rw [aN_ob (Sz_I hI) c (by omega)]
        exact IH _ (by omega) _ rfl nx.1
    · rw [aN_ro (by omega)]
      exact Gd_ro hI
theorem Gd_E (hI : qI b) : ∀ (f : Nat) (p : Int), ((b 87 0).toInt - p).toNat = f → 0 ≤ p → qGd b p → qGd b (aE b p) := by
  intro f
  have r5 := hI.2.2.2.1.2.2.1
  induction f using Nat.strongRecOn with
  | _ f IH =>
    intro p hf h0 g
    by_cases c : p < (b 87 0).toInt ∧ (zOb b p).toInt < 0
    · rw [aE_go c.1 c.2]
      exact IH _ (by omega) (p + 1) rfl (by omega) (Gd_s hI g c.2 h0 (by omega))
    · rw [aE_st c]
      exact g
theorem FS_of (hI : qI b) (g : qGd b p) (h0 : 0 ≤ p) (h1 : p ≤ (b 87 0).toInt) (hz : z ≤ aE b p - p) (hz1 : 1 ≤ z) : qFs b z p := by
  have ge := aE_ge (a := b) _ p rfl
  have g2 := ge.2.2 h1
  refine ⟨h0, by omega, fun n hn => ?_⟩
  by_cases c : (b 130 n).toInt + (b 128 n).toInt ≤ p
  · exact Or.inl c
  · by_cases d : p + z ≤ (b 130 n).toInt
    · exact Or.inr d
    · exfalso
      have sz := (hI.1 n hn).2.1.1
      by_cases e : p ≤ (b 130 n).toInt
      · exact E_un hI _ p rfl g h0 (b 130 n).toInt e (by omega) n hn (by omega)
      · exact E_un hI _ p rfl g h0 p (by omega) (by omega) n hn (by omega)
theorem nx_ok (hI : qI b) (g : qGd b p) (h0 : 0 ≤ p) (h1 : p ≤ (b 87 0).toInt) : qGd b (aN b (aE b p)) ∧ 0 ≤ aN b (aE b p) ∧ aN b (aE b p) ≤ (b 87 0).toInt := by
  have ge := aE_ge (a := b) _ p rfl
  have g2 := ge.2.2 h1
  have gn := aN_ge (Sz_I hI) _ (aE b p) rfl g2
  exact ⟨Gd_N hI _ _ rfl (Gd_E hI _ _ rfl h0 g), by omega, gn.2.1⟩
theorem Ff_fs (hI : qI b) (hz1 : 1 ≤ z) (hb : bb ≤ (b 87 0).toInt) : ∀ (k : Nat) (p : Int), qGd b p → 0 ≤ p → p ≤ (b 87 0).toInt → aFf b z bb k p ≠ -1 → qFs b z (aFf b z bb k p) := by
  intro k
  induction k with
  | zero => intro p _ _ _ h; exact absurd rfl h
  | succ k ih =>
    intro p g h0 h1 h
    by_cases c : p < bb
    · by_cases d : z ≤ aE b p - p
      · rw [aFf_y c d]
        exact FS_of hI g h0 h1 d hz1
      · rw [aFf_n c d] at h ⊢
        have n := nx_ok hI g h0 h1
        exact ih _ n.1 n.2.1 n.2.2 h
    · rw [aFf_st (Or.inr c)] at h
      exact absurd rfl h
theorem Fl_fs (hI : qI b) (hz1 : 1 ≤ z) : ∀ (k : Nat) (p q l : Int), qGd b p → 0 ≤ p → p ≤ (b 87 0).toInt → (q ≠ -1 → qFs b z q) → aFl b z s k p q l ≠ -1 → qFs b z (aFl b z s k p q l) := by
  intro k
  induction k with
  | zero => intro p q l _ _ _ hq h; exact hq h
  | succ k ih =>
    intro p q l g h0 h1 hq h
    by_cases c : p < (b 87 0).toInt
    · have n := nx_ok hI g h0 h1
      by_cases d : z ≤ aE b p - p ∧ (q = -1 ∨ (if s = 0 then l < aE b p - p else aE b p - p < l))
      · have e : aFl b z s (k + 1) p q l = aFl b z s k (aN b (aE b p)) p (aE b p - p) := by
          show (if p < (b 87 0).toInt then (if _ then _ else _) else q) = _
          rw [if_pos c, if_pos d]
        rw [e] at h ⊢
        exact ih _ _ _ n.1 n.2.1 n.2.2 (fun _ => FS_of hI g h0 h1 d.1 hz1) h
      · have e : aFl b z s (k + 1) p q l = aFl b z s k (aN b (aE b p)) q l := by
          show (if p < (b 87 0).toInt then (if _ then _ else _) else q) = _
          rw [if_pos c, if_neg d]
        rw [e] at h ⊢
        exact ih _ _ _ n.1 n.2.1 n.2.2 hq h
    · rw [aFl_st (Or.inr c)] at h ⊢
      exact hq h
theorem Ft_fs (hI : qI b) (hz1 : 1 ≤ z) (h : aFt b z ≠ -1) : qFs b z (aFt b z) := by
  have i4 := hI.2.2.2.1
  have r0 := i4.2.2.1
  have sz := Sz_I hI
  have n0 := aN_ge sz _ 0 rfl (by omega)
  have g0 := Gd_N hI _ 0 rfl (Gd_0 hI)
  have nl := aN_ge sz _ (b 87 2).toInt rfl i4.2.2.2.1.2
  have gl := Gd_N hI _ (b 87 2).toInt rfl i4.2.2.2.2.1
  have l0 := i4.2.2.2.1
  unfold aFt at h ⊢
  by_cases c0 : b 87 1 = 0
  · rw [if_pos c0] at h ⊢
    exact Ff_fs hI hz1 (by omega) _ _ g0 n0.1 n0.2.1 h
  · rw [if_neg c0] at h ⊢
    by_cases c1 : b 87 1 = 1
    · rw [if_pos c1] at h ⊢
      unfold aFx at h ⊢
      by_cases c3 : aFf b z (b 87 0).toInt 4500 (aN b (b 87 2).toInt) = -1
      · rw [if_pos c3] at h ⊢
        exact Ff_fs hI hz1 l0.2 _ _ g0 n0.1 n0.2.1 h
      · rw [if_neg c3]
        exact Ff_fs hI hz1 (by omega) _ _ gl (by omega) nl.2.1 c3
    · rw [if_neg c1] at h ⊢
      by_cases c2 : b 87 1 = 2
      · rw [if_pos c2] at h ⊢
        exact Fl_fs hI hz1 _ _ _ _ g0 n0.1 n0.2.1 (fun w => absurd rfl w) h
      · rw [if_neg c2] at h ⊢
        exact Fl_fs hI hz1 _ _ _ _ g0 n0.1 n0.2.1 (fun w => absurd rfl w) h
end QF
