/-! the reference where it sweeps (written by wip/tools/gen20r.py) -/
/-! FREE BLOCK i of the reference -/
def qBk (a : Nat → Nat → Int32) (ro p bs : Int) (n : Nat) (T : Int) : Prop := (p = -1 ∧ qEq T (-1)) ∨ (0 ≤ p ∧ p < ro ∧ qEq (p + bs) (aE a p) ∧ p + bs ≤ ro ∧ qGd a (p + bs) ∧ qEq (aBk a n p) T)
def qBT (a : Nat → Nat → Int32) (i : Int32) : Int := if i.toInt < 0 then -1 else aBk a i.toInt.toNat (aN a 0)
/-- what block answers: th thrown, v the answer -/
def qBl (a : Nat → Nat → Int32) (i pa th v : Int32) : Prop := (¬ (0 ≤ pa.toInt ∧ pa.toInt ≤ 1) ∧ th.toInt = 1) ∨ ((0 ≤ pa.toInt ∧ pa.toInt ≤ 1) ∧ qEq (qBT a i) (-1) ∧ th.toInt = 4) ∨ ((0 ≤ pa.toInt ∧ pa.toInt ≤ 1) ∧ ¬ qEq (qBT a i) (-1) ∧ th.toInt = 0 ∧ ((pa.toInt = 0 ∧ qEq v.toInt (qBT a i)) ∨ (pa.toInt = 1 ∧ qEq v.toInt (aE a (qBT a i) - qBT a i))))
theorem ab_s {p b e : Int} (w : p + b = e) : b = e - p := by omega
section QBK
variable {a : Nat → Nat → Int32} {ro f v bs bs' p T : Int} {n : Nat} {i pa th x y : Int32}
theorem Bk_of (hro : (a 87 0).toInt = ro) (h : qBF a f ro v bs) (hT : qEq (aBk a n (aN a f)) T) : qBk a ro v bs n T := by
  rcases h with h | h
  · refine Or.inl ⟨h.1, ?_⟩
    have q := qE hT
    rw [h.2] at q
    have e : aBk a n ro = -1 := by
      cases n with
      | zero => exact if_neg (by rw [hro]; exact Int.lt_irrefl _)
      | succ n => exact if_neg (by rw [hro]; exact Int.lt_irrefl _)
    exact q.symm.trans e
  · refine Or.inr ⟨h.2.2.2.2.1, h.2.2.2.1, h.2.1, h.2.2.2.2.2, h.2.2.1, ?_⟩
    have q := qE hT
    rw [← h.1] at q
    exact q
theorem Bk_go (hro : (a 87 0).toInt = ro) (h : qBk a ro p bs (n + 1) T) (hp : 0 ≤ p) (hf : f = p + bs) (h2 : qBF a f ro v bs') : qBk a ro v bs' n T := by
  rcases h with h | h
  · rw [h.1] at hp
    exact absurd hp (by decide)
  · refine Bk_of hro h2 ?_
    have q := qE h.2.2.2.2.2
    have e : aBk a (n + 1) p = aBk a n (aN a (aE a p)) := if_pos (by rw [hro]; exact h.2.1)
    rw [hf, qE h.2.2.1, ← e]
    exact q
theorem Bk_gd (h : qBk a ro p bs n T) (hp : 0 ≤ p) : qGd a (p + bs) ∧ p < ro ∧ p + bs ≤ ro := by
  rcases h with h | h
  · rw [h.1] at hp
    exact absurd hp (by decide)
  · exact ⟨h.2.2.2.2.1, h.2.1, h.2.2.2.1⟩
theorem Bl_n (h : qBk a ro p bs n (aBk a i.toInt.toNat (aN a 0))) (hp : p < 0) : qEq (qBT a i) (-1) := by
  unfold qBT
  rcases h with h | h
  · split
    · rfl
    · exact qE h.2
  · exact absurd h.1 (Int.not_le.mpr hp)
theorem Bl_i (h : i.toInt < 0) : qEq (qBT a i) (-1) := if_pos h
theorem Bl_y (hro : (a 87 0).toInt = ro) (h : qBk a ro p bs n (aBk a i.toInt.toNat (aN a 0))) (hp : 0 ≤ p) (hn : n = 0) (hi : 0 ≤ i.toInt) : qEq (qBT a i) p ∧ qEq bs (aE a p - p) := by
  rcases h with h | h
  · rw [h.1] at hp
    exact absurd hp (by decide)
  · have q := qE h.2.2.2.2.2
    rw [hn] at q
    have e : aBk a 0 p = p := if_pos (by rw [hro]; exact h.2.1)
    refine ⟨?_, ?_⟩
    · unfold qBT
      rw [if_neg (Int.not_lt.mpr hi)]
      exact q.symm.trans e
    · have w := qE h.2.2.1
      exact ab_s w
theorem Bl_3 (h : qEq (qBT a i) p ∧ qEq bs (aE a p - p)) (hp : 0 ≤ p) (h0 : 0 ≤ pa.toInt) (h1 : pa.toInt ≤ 1) (ht : th.toInt = 0) (hv : (pa.toInt = 0 ∧ v = p) ∨ (pa.toInt = 1 ∧ v = bs)) (e : y.toInt = v) : qBl a i pa th y := by
  have q := qE h.1
  refine Or.inr (Or.inr ⟨⟨h0, h1⟩, fun w => ?_, ht, ?_⟩)
  · have w2 := qE w
    rw [q] at w2
    rw [w2] at hp
    exact absurd hp (by decide)
  · rw [q, e]
    exact hv.imp (fun z => ⟨z.1, z.2⟩) (fun z => ⟨z.1, z.2.trans (qE h.2)⟩)
end QBK
theorem lp_259rb_85 {X : Nat × (Nat → Int32)} {P : Option ma_V → (Nat → Nat → Int32) → Prop} {T : Nat} {aa : Nat→Nat→Int32} {ix : Int32} {pa : Int32} {m0 : Nat → Nat → Int32} (h0 : zV m0) (K : ∀ v m', zF wr_259 m0 m' → zV m' → (zW (m' 94 7) (m' 98) (m' 101) (m' 102) (m' 108)) → (zGW T (m' 94 55) (m' 109)) → (zGU T (m' 94 46) (m' 99)) → (zOw (m' 99) (m' 103) (m' 111)) → (zDX (m' 94 10) (m' 99) (m' 112) (m' 113) (m' 114) (m' 94 55) (m' 98) (m' 101) (m' 102) (m' 108)) → (zGG (m' 94 58) (m' 94 56) (m' 94 57) (m' 106)) → (zHA (m' 94 10) (m' 94 11) (m' 94 13) (m' 94 14) (m' 94 16) (m' 94 61) (m' 94 59) (m' 94 60) (m' 99) (m' 102) (m' 103) (m' 111) (m' 117) (m' 98) (m' 101) (m' 108)) → (zRG (m' 94 10) (m' 94 18) (m' 94 64) (m' 94 63) (m' 99) (m' 103) (m' 102) (m' 116)) → ((m' 94 58).toInt = 0 ∨ (m' 94 10).toInt = 5) → (qBl aa ix pa (m' 94 0) v) → P (some (.inl v)) m') : ∀ (n : Nat) (m : Nat → Nat → Int32) (l1 : Int32) (l2 : Int32) (l4 : Int32) (l5 : Int32), (2147483647 - l5.toInt).toNat = n → zF wr_259 m0 m → zV m → (0 ≤ l5.toInt) → (l1.toInt = ix.toInt) → (l2.toInt = pa.toInt) → (0 ≤ pa.toInt) → (pa.toInt ≤ 1) → ((m 94 8).toInt = 1) → (l4.toInt = -1 ∨ (0 ≤ l4.toInt ∧ l4.toInt < (m 94 11).toInt ∧ 1 ≤ (m 94 84).toInt ∧ l4.toInt + (m 94 84).toInt ≤ (m 94 11).toInt)) → (zW (m 94 7) (m 98) (m 101) (m 102) (m 108)) → (zGW T (m 94 55) (m 109)) → (zGU T (m 94 46) (m 99)) → (zOw (m 99) (m 103) (m 111)) → (zDX (m 94 10) (m 99) (m 112) (m 113) (m 114) (m 94 55) (m 98) (m 101) (m 102) (m 108)) → (zGG (m 94 58) (m 94 56) (m 94 57) (m 106)) → (zHA (m 94 10) (m 94 11) (m 94 13) (m 94 14) (m 94 16) (m 94 61) (m 94 59) (m 94 60) (m 99) (m 102) (m 103) (m 111) (m 117) (m 98) (m 101) (m 108)) → (zRG (m 94 10) (m 94 18) (m 94 64) (m 94 63) (m 99) (m 103) (m 102) (m 116)) → ((m 94 58).toInt = 0 ∨ (m 94 10).toInt = 5) → (qRB (m 99) (m 100) (m 98) (m 101) (m 102) (m 103) (m 107) (m 108) (m 109) (m 111) (m 112) (m 113) (m 114) (m 94 55) (m 94 46) (m 94 11) (m 94 12) (m 94 62) (m 94 17) (m 94 9) aa) → (qI aa) → (qBk aa (m 94 11).toInt l4.toInt (m 94 84).toInt (ix.toInt - l5.toInt).toNat (aBk aa ix.toInt.toNat (aN aa 0))) → zm X 2 45 259 85 [(0, .inr (.inr (some 94))), (1, .inl l1), (2, .inl l2), (4, .inl l4), (5, .inl l5)] m P := by
  intro n
  induction n using Nat.strongRecOn with
  | _ n IH =>
    intro m l1 l2 l4 l5 hmu hF hV hi0 hi1 hi2 hi3 hi4 hi5 hi6 r_W r_GW r_GU r_OW r_DX r_GG r_HA r_RGc hi15 r_RB r_QI r_BKi
    refine g_259_85 l1 l2 l4 l5 ?_
    have f1 : 0 ≤ (m 94 8).toInt ∧ (m 94 8).toInt ≤ 1 := rs_94_8 (m := m) hV
    have f2 : 0 ≤ (m 94 11).toInt ∧ (m 94 11).toInt ≤ 1500 := rs_94_11 (m := m) hV
    have f3 : 0 ≤ (m 94 84).toInt ∧ (m 94 84).toInt ≤ 4600 := rs_94_84 (m := m) hV
    have f4 : 0 ≤ (m 94 58).toInt ∧ (m 94 58).toInt ≤ 1 := rs_94_58 (m := m) hV
    have f5 : 0 ≤ (m 94 10).toInt ∧ (m 94 10).toInt ≤ 6 := rs_94_10 (m := m) hV
    have b6 := i_bd l1
    have b7 := i_bd l5
    refine zd (fun (h8 : l1 ≤ l5) => ?_) (fun (h8 : ¬ l1 ≤ l5) => ?_)
    · skip
      have g9 := i_le h8
      have li10 : (0 : Int32).toInt = 0 := rfl
      refine zd (fun (h11 : l1 < (0 : Int32)) => ?_) (fun (h11 : ¬ l1 < (0 : Int32)) => ?_)
      · skip
        have g12 := i_lt h11
        try have bg := Bk_gd r_BKi (by omega)
        have hV13 : zV (ma_u m 94 0 (4 : Int32)) := uf_94_0 hV
        exact K ((0 : Int32)) _ (zF_u hF rfl) hV13 r_W r_GW r_GU r_OW r_DX r_GG r_HA r_RGc (show (m 94 58).toInt = 0 ∨ (m 94 10).toInt = 5 from by omega) (show qBl aa ix pa (4 : Int32) (0 : Int32) from by first | (exact Or.inr (Or.inl ⟨⟨by omega, by omega⟩, Bl_n r_BKi (by omega), (by first | omega | rfl)⟩)) | (exact Or.inr (Or.inl ⟨⟨by omega, by omega⟩, Bl_i (by omega), (by first | omega | rfl)⟩)) | (exact Bl_3 (Bl_y (congrArg Int32.toInt r_RB.2.2.2.2.2.2.2.2.1) r_BKi (by omega) (by omega) (by omega)) (by omega) (by omega) (by omega) (by first | omega | rfl) (Or.inl ⟨by omega, rfl⟩) rfl) | (exact Bl_3 (Bl_y (congrArg Int32.toInt r_RB.2.2.2.2.2.2.2.2.1) r_BKi (by omega) (by omega) (by omega)) (by omega) (by omega) (by omega) (by first | omega | rfl) (Or.inr ⟨by omega, rfl⟩) rfl) | (exfalso; omega; done) | (exfalso; contradiction; done))
      · skip
        have g14 := i_nlt h11
        have b15 := i_bd l4
        refine zd (fun (h16 : (0 : Int32) ≤ l4) => ?_) (fun (h16 : ¬ (0 : Int32) ≤ l4) => ?_)
        · skip
          have g17 := i_le h16
          have b18 := i_bd l2
          refine zd (fun (h19 : l2 = (0 : Int32)) => ?_) (fun (h19 : ¬ l2 = (0 : Int32)) => ?_)
          · skip
            have g20 := i_eq h19
            try have bg := Bk_gd r_BKi (by omega)
            have hV21 : zV (ma_u m 94 0 (0 : Int32)) := uf_94_0 hV
            exact K (l4) _ (zF_u hF rfl) hV21 r_W r_GW r_GU r_OW r_DX r_GG r_HA r_RGc (show (m 94 58).toInt = 0 ∨ (m 94 10).toInt = 5 from by omega) (show qBl aa ix pa (0 : Int32) l4 from by first | (exact Or.inr (Or.inl ⟨⟨by omega, by omega⟩, Bl_n r_BKi (by omega), (by first | omega | rfl)⟩)) | (exact Or.inr (Or.inl ⟨⟨by omega, by omega⟩, Bl_i (by omega), (by first | omega | rfl)⟩)) | (exact Bl_3 (Bl_y (congrArg Int32.toInt r_RB.2.2.2.2.2.2.2.2.1) r_BKi (by omega) (by omega) (by omega)) (by omega) (by omega) (by omega) (by first | omega | rfl) (Or.inl ⟨by omega, rfl⟩) rfl) | (exact Bl_3 (Bl_y (congrArg Int32.toInt r_RB.2.2.2.2.2.2.2.2.1) r_BKi (by omega) (by omega) (by omega)) (by omega) (by omega) (by omega) (by first | omega | rfl) (Or.inr ⟨by omega, rfl⟩) rfl) | (exfalso; omega; done) | (exfalso; contradiction; done))
          · skip
            have g22 := i_ne h19
            try have bg := Bk_gd r_BKi (by omega)
            have hV23 : zV (ma_u m 94 0 (0 : Int32)) := uf_94_0 hV
            exact K ((m 94 84)) _ (zF_u hF rfl) hV23 r_W r_GW r_GU r_OW r_DX r_GG r_HA r_RGc (show (m 94 58).toInt = 0 ∨ (m 94 10).toInt = 5 from by omega) (show qBl aa ix pa (0 : Int32) (m 94 84) from by first | (exact Or.inr (Or.inl ⟨⟨by omega, by omega⟩, Bl_n r_BKi (by omega), (by first | omega | rfl)⟩)) | (exact Or.inr (Or.inl ⟨⟨by omega, by omega⟩, Bl_i (by omega), (by first | omega | rfl)⟩)) | (exact Bl_3 (Bl_y (congrArg Int32.toInt r_RB.2.2.2.2.2.2.2.2.1) r_BKi (by omega) (by omega) (by omega)) (by omega) (by omega) (by omega) (by first | omega | rfl) (Or.inl ⟨by omega, rfl⟩) rfl) | (exact Bl_3 (Bl_y (congrArg Int32.toInt r_RB.2.2.2.2.2.2.2.2.1) r_BKi (by omega) (by omega) (by omega)) (by omega) (by omega) (by omega) (by first | omega | rfl) (Or.inr ⟨by omega, rfl⟩) rfl) | (exfalso; omega; done) | (exfalso; contradiction; done))
        · skip
          have g24 := i_nle h16
          try have bg := Bk_gd r_BKi (by omega)
          have hV25 : zV (ma_u m 94 0 (4 : Int32)) := uf_94_0 hV
          exact K ((0 : Int32)) _ (zF_u hF rfl) hV25 r_W r_GW r_GU r_OW r_DX r_GG r_HA r_RGc (show (m 94 58).toInt = 0 ∨ (m 94 10).toInt = 5 from by omega) (show qBl aa ix pa (4 : Int32) (0 : Int32) from by first | (exact Or.inr (Or.inl ⟨⟨by omega, by omega⟩, Bl_n r_BKi (by omega), (by first | omega | rfl)⟩)) | (exact Or.inr (Or.inl ⟨⟨by omega, by omega⟩, Bl_i (by omega), (by first | omega | rfl)⟩)) | (exact Bl_3 (Bl_y (congrArg Int32.toInt r_RB.2.2.2.2.2.2.2.2.1) r_BKi (by omega) (by omega) (by omega)) (by omega) (by omega) (by omega) (by first | omega | rfl) (Or.inl ⟨by omega, rfl⟩) rfl) | (exact Bl_3 (Bl_y (congrArg Int32.toInt r_RB.2.2.2.2.2.2.2.2.1) r_BKi (by omega) (by omega) (by omega)) (by omega) (by omega) (by omega) (by first | omega | rfl) (Or.inr ⟨by omega, rfl⟩) rfl) | (exfalso; omega; done) | (exfalso; contradiction; done))
    · skip
      have g26 := i_nle h8
      have b27 := i_bd l4
      have li28 : (0 : Int32).toInt = 0 := rfl
      refine zd (fun (h29 : l4 < (0 : Int32)) => ?_) (fun (h29 : ¬ l4 < (0 : Int32)) => ?_)
      · skip
        have g30 := i_lt h29
        refine zd (fun (h31 : l1 < (0 : Int32)) => ?_) (fun (h31 : ¬ l1 < (0 : Int32)) => ?_)
        · skip
          have g32 := i_lt h31
          try have bg := Bk_gd r_BKi (by omega)
          have hV33 : zV (ma_u m 94 0 (4 : Int32)) := uf_94_0 hV
          exact K ((0 : Int32)) _ (zF_u hF rfl) hV33 r_W r_GW r_GU r_OW r_DX r_GG r_HA r_RGc (show (m 94 58).toInt = 0 ∨ (m 94 10).toInt = 5 from by omega) (show qBl aa ix pa (4 : Int32) (0 : Int32) from by first | (exact Or.inr (Or.inl ⟨⟨by omega, by omega⟩, Bl_n r_BKi (by omega), (by first | omega | rfl)⟩)) | (exact Or.inr (Or.inl ⟨⟨by omega, by omega⟩, Bl_i (by omega), (by first | omega | rfl)⟩)) | (exact Bl_3 (Bl_y (congrArg Int32.toInt r_RB.2.2.2.2.2.2.2.2.1) r_BKi (by omega) (by omega) (by omega)) (by omega) (by omega) (by omega) (by first | omega | rfl) (Or.inl ⟨by omega, rfl⟩) rfl) | (exact Bl_3 (Bl_y (congrArg Int32.toInt r_RB.2.2.2.2.2.2.2.2.1) r_BKi (by omega) (by omega) (by omega)) (by omega) (by omega) (by omega) (by first | omega | rfl) (Or.inr ⟨by omega, rfl⟩) rfl) | (exfalso; omega; done) | (exfalso; contradiction; done))
        · skip
          have g34 := i_nlt h31
          refine zd (fun (h35 : (0 : Int32) ≤ l4) => ?_) (fun (h35 : ¬ (0 : Int32) ≤ l4) => ?_)
          · skip
            have g36 := i_le h35
            have b37 := i_bd l2
            refine zd (fun (h38 : l2 = (0 : Int32)) => ?_) (fun (h38 : ¬ l2 = (0 : Int32)) => ?_)
            · skip
              have g39 := i_eq h38
              try have bg := Bk_gd r_BKi (by omega)
              have hV40 : zV (ma_u m 94 0 (0 : Int32)) := uf_94_0 hV
              exact K (l4) _ (zF_u hF rfl) hV40 r_W r_GW r_GU r_OW r_DX r_GG r_HA r_RGc (show (m 94 58).toInt = 0 ∨ (m 94 10).toInt = 5 from by omega) (show qBl aa ix pa (0 : Int32) l4 from by first | (exact Or.inr (Or.inl ⟨⟨by omega, by omega⟩, Bl_n r_BKi (by omega), (by first | omega | rfl)⟩)) | (exact Or.inr (Or.inl ⟨⟨by omega, by omega⟩, Bl_i (by omega), (by first | omega | rfl)⟩)) | (exact Bl_3 (Bl_y (congrArg Int32.toInt r_RB.2.2.2.2.2.2.2.2.1) r_BKi (by omega) (by omega) (by omega)) (by omega) (by omega) (by omega) (by first | omega | rfl) (Or.inl ⟨by omega, rfl⟩) rfl) | (exact Bl_3 (Bl_y (congrArg Int32.toInt r_RB.2.2.2.2.2.2.2.2.1) r_BKi (by omega) (by omega) (by omega)) (by omega) (by omega) (by omega) (by first | omega | rfl) (Or.inr ⟨by omega, rfl⟩) rfl) | (exfalso; omega; done) | (exfalso; contradiction; done))
            · skip
              have g41 := i_ne h38
              try have bg := Bk_gd r_BKi (by omega)
              have hV42 : zV (ma_u m 94 0 (0 : Int32)) := uf_94_0 hV
              exact K ((m 94 84)) _ (zF_u hF rfl) hV42 r_W r_GW r_GU r_OW r_DX r_GG r_HA r_RGc (show (m 94 58).toInt = 0 ∨ (m 94 10).toInt = 5 from by omega) (show qBl aa ix pa (0 : Int32) (m 94 84) from by first | (exact Or.inr (Or.inl ⟨⟨by omega, by omega⟩, Bl_n r_BKi (by omega), (by first | omega | rfl)⟩)) | (exact Or.inr (Or.inl ⟨⟨by omega, by omega⟩, Bl_i (by omega), (by first | omega | rfl)⟩)) | (exact Bl_3 (Bl_y (congrArg Int32.toInt r_RB.2.2.2.2.2.2.2.2.1) r_BKi (by omega) (by omega) (by omega)) (by omega) (by omega) (by omega) (by first | omega | rfl) (Or.inl ⟨by omega, rfl⟩) rfl) | (exact Bl_3 (Bl_y (congrArg Int32.toInt r_RB.2.2.2.2.2.2.2.2.1) r_BKi (by omega) (by omega) (by omega)) (by omega) (by omega) (by omega) (by first | omega | rfl) (Or.inr ⟨by omega, rfl⟩) rfl) | (exfalso; omega; done) | (exfalso; contradiction; done))
          · skip
            have g43 := i_nle h35
            try have bg := Bk_gd r_BKi (by omega)
            have hV44 : zV (ma_u m 94 0 (4 : Int32)) := uf_94_0 hV
            exact K ((0 : Int32)) _ (zF_u hF rfl) hV44 r_W r_GW r_GU r_OW r_DX r_GG r_HA r_RGc (show (m 94 58).toInt = 0 ∨ (m 94 10).toInt = 5 from by omega) (show qBl aa ix pa (4 : Int32) (0 : Int32) from by first | (exact Or.inr (Or.inl ⟨⟨by omega, by omega⟩, Bl_n r_BKi (by omega), (by first | omega | rfl)⟩)) | (exact Or.inr (Or.inl ⟨⟨by omega, by omega⟩, Bl_i (by omega), (by first | omega | rfl)⟩)) | (exact Bl_3 (Bl_y (congrArg Int32.toInt r_RB.2.2.2.2.2.2.2.2.1) r_BKi (by omega) (by omega) (by omega)) (by omega) (by omega) (by omega) (by first | omega | rfl) (Or.inl ⟨by omega, rfl⟩) rfl) | (exact Bl_3 (Bl_y (congrArg Int32.toInt r_RB.2.2.2.2.2.2.2.2.1) r_BKi (by omega) (by omega) (by omega)) (by omega) (by omega) (by omega) (by first | omega | rfl) (Or.inr ⟨by omega, rfl⟩) rfl) | (exfalso; omega; done) | (exfalso; contradiction; done))
      · skip
        have g45 := i_nlt h29
        first | have e46 : (l4 + (m 94 84)).toInt = l4.toInt + (m 94 84).toInt := i_add (by omega) (by omega) | have b47 := i_bd (l4 + (m 94 84))
        try have bg := Bk_gd r_BKi (by omega)
        refine sp_226r (aa := aa) ((l4 + (m 94 84))) ((m 94 11)) hV (show 0 ≤ (l4 + (m 94 84)).toInt ∧ (l4 + (m 94 84)).toInt ≤ (m 94 11).toInt from by omega) (show (m 94 11).toInt = (m 94 11).toInt from by omega) (show qGd aa (l4 + (m 94 84)).toInt from by first | (exact Gd_0 r_QI) | (exact Gd_c (Bk_gd r_BKi (by omega)).1 (by omega)) | (exfalso; omega; done) | (exfalso; contradiction; done)) r_RB r_QI r_OW (fun v2 m1 hV_m1 p0_m1 p1_m1 => zmi_n ?_)
        have p0_m1 : v2.toInt = -1 ∨ ((l4 + (m 94 84)).toInt ≤ v2.toInt ∧ v2.toInt < (m 94 11).toInt ∧ 1 ≤ (m1 94 84).toInt ∧ v2.toInt + (m1 94 84).toInt ≤ (m 94 11).toInt) := p0_m1
        have p1_m1 : qBF aa (l4 + (m 94 84)).toInt (m 94 11).toInt v2.toInt (m1 94 84).toInt := p1_m1
        have f48 : 0 ≤ (m1 94 84).toInt ∧ (m1 94 84).toInt ≤ 4600 := rs_94_84 (m := (zov wr_226 m m1)) hV_m1
        try have bg := Bk_gd r_BKi (by omega)
        have b49 := i_bd l2
        have b50 := i_bd v2
        first | have e51 : (l5 + (1 : Int32)).toInt = l5.toInt + (1) := i_addk rfl (by omega) (by omega) | have b52 := i_bd (l5 + (1 : Int32))
        exact IH (2147483647 - (l5 + (1 : Int32)).toInt).toNat (by omega) _ (l1) (l2) (v2) ((l5 + (1 : Int32))) rfl (zF_zov hF ws_226_259) hV_m1 (by omega) (by omega) (by omega) (by omega) (by omega) (show (m 94 8).toInt = 1 from by omega) (show v2.toInt = -1 ∨ (0 ≤ v2.toInt ∧ v2.toInt < (m 94 11).toInt ∧ 1 ≤ (m1 94 84).toInt ∧ v2.toInt + (m1 94 84).toInt ≤ (m 94 11).toInt) from by omega) r_W r_GW r_GU r_OW r_DX r_GG r_HA r_RGc (show (m 94 58).toInt = 0 ∨ (m 94 10).toInt = 5 from by omega) r_RB r_QI (show qBk aa (m 94 11).toInt v2.toInt (m1 94 84).toInt (ix.toInt - (l5 + (1 : Int32)).toInt).toNat (aBk aa ix.toInt.toNat (aN aa 0)) from by first | (exact Bk_of (congrArg Int32.toInt r_RB.2.2.2.2.2.2.2.2.1) p1_m1 (by rw [show (ix.toInt - (0 : Int32).toInt).toNat = ix.toInt.toNat from by omega]; rfl)) | (have q := r_BKi; rw [show (ix.toInt - l5.toInt).toNat = (ix.toInt - (l5 + (1 : Int32)).toInt).toNat + 1 from by omega] at q; exact Bk_go (congrArg Int32.toInt r_RB.2.2.2.2.2.2.2.2.1) q (by omega) (by omega) p1_m1; done) | (exfalso; omega; done) | (exfalso; contradiction; done))
theorem sp_259rb {X : Nat × (Nat → Int32)} {P : Option ma_V → (Nat → Nat → Int32) → Prop} {T : Nat} {aa : Nat→Nat→Int32} {m : Nat → Nat → Int32} (ix : Int32) (pa : Int32) (hV : zV m) (r_W : zW (m 94 7) (m 98) (m 101) (m 102) (m 108)) (r_GW : zGW T (m 94 55) (m 109)) (r_GU : zGU T (m 94 46) (m 99)) (r_OW : zOw (m 99) (m 103) (m 111)) (r_DX : zDX (m 94 10) (m 99) (m 112) (m 113) (m 114) (m 94 55) (m 98) (m 101) (m 102) (m 108)) (r_GG : zGG (m 94 58) (m 94 56) (m 94 57) (m 106)) (r_HA : zHA (m 94 10) (m 94 11) (m 94 13) (m 94 14) (m 94 16) (m 94 61) (m 94 59) (m 94 60) (m 99) (m 102) (m 103) (m 111) (m 117) (m 98) (m 101) (m 108)) (r_RGc : zRG (m 94 10) (m 94 18) (m 94 64) (m 94 63) (m 99) (m 103) (m 102) (m 116)) (hpre8 : (m 94 58).toInt = 0 ∨ (m 94 10).toInt = 5) (hpre9 : (m 94 8).toInt = 1) (hpre10 : ((m 94 10).toInt = 0 ∨ (m 94 10).toInt = 4 ∨ (m 94 10).toInt = 5)) (r_RB : qRB (m 99) (m 100) (m 98) (m 101) (m 102) (m 103) (m 107) (m 108) (m 109) (m 111) (m 112) (m 113) (m 114) (m 94 55) (m 94 46) (m 94 11) (m 94 12) (m 94 62) (m 94 17) (m 94 9) aa) (r_QI : qI aa) (KZ : ∀ v m', zV (zov wr_259 m m') → (zW (m 94 7) (m 98) (m 101) (m 102) (m 108)) → (zGW T (m 94 55) (m 109)) → (zGU T (m 94 46) (m 99)) → (zOw (m 99) (m 103) (m 111)) → (zDX (m 94 10) (m 99) (m 112) (m 113) (m 114) (m 94 55) (m 98) (m 101) (m 102) (m 108)) → (zGG (m 94 58) (m 94 56) (m 94 57) (m 106)) → (zHA (m 94 10) (m 94 11) (m 94 13) (m 94 14) (m 94 16) (m 94 61) (m 94 59) (m 94 60) (m 99) (m 102) (m 103) (m 111) (m 117) (m 98) (m 101) (m 108)) → (zRG (m 94 10) (m 94 18) (m 94 64) (m 94 63) (m 99) (m 103) (m 102) (m 116)) → ((m 94 58).toInt = 0 ∨ (m 94 10).toInt = 5) → (qBl aa ix pa (m' 94 0) v) → P (some (.inl v)) (zov wr_259 m m')) : zm X 2 45 259 0 [(0, .inr (.inr (some 94))), (1, .inl ix), (2, .inl pa)] m P := by
  have K : ∀ v m', zF wr_259 m m' → zV m' → (zW (m' 94 7) (m' 98) (m' 101) (m' 102) (m' 108)) → (zGW T (m' 94 55) (m' 109)) → (zGU T (m' 94 46) (m' 99)) → (zOw (m' 99) (m' 103) (m' 111)) → (zDX (m' 94 10) (m' 99) (m' 112) (m' 113) (m' 114) (m' 94 55) (m' 98) (m' 101) (m' 102) (m' 108)) → (zGG (m' 94 58) (m' 94 56) (m' 94 57) (m' 106)) → (zHA (m' 94 10) (m' 94 11) (m' 94 13) (m' 94 14) (m' 94 16) (m' 94 61) (m' 94 59) (m' 94 60) (m' 99) (m' 102) (m' 103) (m' 111) (m' 117) (m' 98) (m' 101) (m' 108)) → (zRG (m' 94 10) (m' 94 18) (m' 94 64) (m' 94 63) (m' 99) (m' 103) (m' 102) (m' 116)) → ((m' 94 58).toInt = 0 ∨ (m' 94 10).toInt = 5) → (qBl aa ix pa (m' 94 0) v) → P (some (.inl v)) m' := by
    intro v m' hf z q0 q1 q2 q3 q4 q5 q6 q7 q8 q9
    have e := zov_eq hf
    rw [e] at z ⊢
    try rw [e] at q0
    try rw [e] at q1
    try rw [e] at q2
    try rw [e] at q3
    try rw [e] at q4
    try rw [e] at q5
    try rw [e] at q6
    try rw [e] at q7
    try rw [e] at q8
    try rw [e] at q9
    exact KZ v m' z q0 q1 q2 q3 q4 q5 q6 q7 q8 q9
  refine g_259_0 ix pa ?_
  have f1 : 0 ≤ (m 94 58).toInt ∧ (m 94 58).toInt ≤ 1 := rs_94_58 (m := m) hV
  have f2 : 0 ≤ (m 94 10).toInt ∧ (m 94 10).toInt ≤ 6 := rs_94_10 (m := m) hV
  have f3 : 0 ≤ (m 94 8).toInt ∧ (m 94 8).toInt ≤ 1 := rs_94_8 (m := m) hV
  have li4 : (0 : Int32).toInt = 0 := rfl
  refine zd (fun (h5 : (m 94 10) = (0 : Int32)) => ?_) (fun (h5 : ¬ (m 94 10) = (0 : Int32)) => ?_)
  · skip
    have g6 := i_eq h5
    have b7 := i_bd pa
    refine zd (fun (h8 : pa < (0 : Int32)) => ?_) (fun (h8 : ¬ pa < (0 : Int32)) => ?_)
    · skip
      have g9 := i_lt h8
      have hV10 : zV (ma_u m 94 0 (1 : Int32)) := uf_94_0 hV
      exact K ((0 : Int32)) _ (zF_u zF_rfl rfl) hV10 r_W r_GW r_GU r_OW r_DX r_GG r_HA r_RGc (show (m 94 58).toInt = 0 ∨ (m 94 10).toInt = 5 from by omega) (show qBl aa ix pa (1 : Int32) (0 : Int32) from by first | (exact Or.inl ⟨by omega, (by first | omega | rfl)⟩) | (exfalso; omega; done) | (exfalso; contradiction; done))
    · skip
      have g11 := i_nlt h8
      have li12 : (1 : Int32).toInt = 1 := rfl
      refine zd (fun (h13 : pa ≤ (1 : Int32)) => ?_) (fun (h13 : ¬ pa ≤ (1 : Int32)) => ?_)
      · skip
        have g14 := i_le h13
        refine zd (fun (h15 : (m 94 8) = (0 : Int32)) => ?_) (fun (h15 : ¬ (m 94 8) = (0 : Int32)) => ?_)
        · skip
          have g16 := i_eq h15
          have hV17 : zV (ma_u m 94 0 (2 : Int32)) := uf_94_0 hV
          exact K ((0 : Int32)) _ (zF_u zF_rfl rfl) hV17 r_W r_GW r_GU r_OW r_DX r_GG r_HA r_RGc (show (m 94 58).toInt = 0 ∨ (m 94 10).toInt = 5 from by omega) (show qBl aa ix pa (2 : Int32) (0 : Int32) from by first | (exact Or.inl ⟨by omega, (by first | omega | rfl)⟩) | (exfalso; omega; done) | (exfalso; contradiction; done))
        · skip
          have g18 := i_ne h15
          have f19 : 0 ≤ (m 94 11).toInt ∧ (m 94 11).toInt ≤ 1500 := rs_94_11 (m := m) hV
          have hV20 : zV (ma_u m 94 0 (0 : Int32)) := uf_94_0 hV
          refine sp_226r (aa := aa) ((0 : Int32)) ((m 94 11)) hV20 (show 0 ≤ (0 : Int32).toInt ∧ (0 : Int32).toInt ≤ (m 94 11).toInt from by omega) (show (m 94 11).toInt = (m 94 11).toInt from by omega) (show qGd aa (0 : Int32).toInt from by first | (exact Gd_0 r_QI) | (exfalso; omega; done) | (exfalso; contradiction; done)) r_RB r_QI r_OW (fun v2 m1 hV_m1 p0_m1 p1_m1 => zmi_n ?_)
          have p0_m1 : v2.toInt = -1 ∨ ((0 : Int32).toInt ≤ v2.toInt ∧ v2.toInt < (m 94 11).toInt ∧ 1 ≤ (m1 94 84).toInt ∧ v2.toInt + (m1 94 84).toInt ≤ (m 94 11).toInt) := p0_m1
          have p1_m1 : qBF aa (0 : Int32).toInt (m 94 11).toInt v2.toInt (m1 94 84).toInt := p1_m1
          have f21 : 0 ≤ (m1 94 84).toInt ∧ (m1 94 84).toInt ≤ 4600 := rs_94_84 (m := (zov wr_226 (ma_u m 94 0 (0 : Int32)) m1)) hV_m1
          have b22 := i_bd ix
          have b23 := i_bd v2
          exact lp_259rb_85 (ix := ix) (pa := pa) hV K _ _ (ix) (pa) (v2) ((0 : Int32)) rfl (zF_zov (zF_u zF_rfl rfl) ws_226_259) hV_m1 (by omega) (by omega) (by omega) (by omega) (by omega) (show (m 94 8).toInt = 1 from by omega) (show v2.toInt = -1 ∨ (0 ≤ v2.toInt ∧ v2.toInt < (m 94 11).toInt ∧ 1 ≤ (m1 94 84).toInt ∧ v2.toInt + (m1 94 84).toInt ≤ (m 94 11).toInt) from by omega) r_W r_GW r_GU r_OW r_DX r_GG r_HA r_RGc (show (m 94 58).toInt = 0 ∨ (m 94 10).toInt = 5 from by omega) r_RB r_QI (show qBk aa (m 94 11).toInt v2.toInt (m1 94 84).toInt (ix.toInt - (0 : Int32).toInt).toNat (aBk aa ix.toInt.toNat (aN aa 0)) from by first | (exact Bk_of (congrArg Int32.toInt r_RB.2.2.2.2.2.2.2.2.1) p1_m1 (by rw [show (ix.toInt - (0 : Int32).toInt).toNat = ix.toInt.toNat from by omega]; rfl)) | (have q := r_BKi; rw [show (ix.toInt - l5.toInt).toNat = (ix.toInt - (l5 + (1 : Int32)).toInt).toNat + 1 from by omega] at q; exact Bk_go (congrArg Int32.toInt r_RB.2.2.2.2.2.2.2.2.1) q (by omega) (by omega) p1_m1; done) | (exfalso; omega; done) | (exfalso; contradiction; done))
      · skip
        have g24 := i_nle h13
        have hV25 : zV (ma_u m 94 0 (1 : Int32)) := uf_94_0 hV
        exact K ((0 : Int32)) _ (zF_u zF_rfl rfl) hV25 r_W r_GW r_GU r_OW r_DX r_GG r_HA r_RGc (show (m 94 58).toInt = 0 ∨ (m 94 10).toInt = 5 from by omega) (show qBl aa ix pa (1 : Int32) (0 : Int32) from by first | (exact Or.inl ⟨by omega, (by first | omega | rfl)⟩) | (exfalso; omega; done) | (exfalso; contradiction; done))
  · skip
    have g26 := i_ne h5
    have li27 : (4 : Int32).toInt = 4 := rfl
    refine zd (fun (h28 : (m 94 10) = (4 : Int32)) => ?_) (fun (h28 : ¬ (m 94 10) = (4 : Int32)) => ?_)
    · skip
      have g29 := i_eq h28
      have b30 := i_bd pa
      refine zd (fun (h31 : pa < (0 : Int32)) => ?_) (fun (h31 : ¬ pa < (0 : Int32)) => ?_)
      · skip
        have g32 := i_lt h31
        have hV33 : zV (ma_u m 94 0 (1 : Int32)) := uf_94_0 hV
        exact K ((0 : Int32)) _ (zF_u zF_rfl rfl) hV33 r_W r_GW r_GU r_OW r_DX r_GG r_HA r_RGc (show (m 94 58).toInt = 0 ∨ (m 94 10).toInt = 5 from by omega) (show qBl aa ix pa (1 : Int32) (0 : Int32) from by first | (exact Or.inl ⟨by omega, (by first | omega | rfl)⟩) | (exfalso; omega; done) | (exfalso; contradiction; done))
      · skip
        have g34 := i_nlt h31
        have li35 : (1 : Int32).toInt = 1 := rfl
        refine zd (fun (h36 : pa ≤ (1 : Int32)) => ?_) (fun (h36 : ¬ pa ≤ (1 : Int32)) => ?_)
        · skip
          have g37 := i_le h36
          refine zd (fun (h38 : (m 94 8) = (0 : Int32)) => ?_) (fun (h38 : ¬ (m 94 8) = (0 : Int32)) => ?_)
          · skip
            have g39 := i_eq h38
            have hV40 : zV (ma_u m 94 0 (2 : Int32)) := uf_94_0 hV
            exact K ((0 : Int32)) _ (zF_u zF_rfl rfl) hV40 r_W r_GW r_GU r_OW r_DX r_GG r_HA r_RGc (show (m 94 58).toInt = 0 ∨ (m 94 10).toInt = 5 from by omega) (show qBl aa ix pa (2 : Int32) (0 : Int32) from by first | (exact Or.inl ⟨by omega, (by first | omega | rfl)⟩) | (exfalso; omega; done) | (exfalso; contradiction; done))
          · skip
            have g41 := i_ne h38
            have f42 : 0 ≤ (m 94 11).toInt ∧ (m 94 11).toInt ≤ 1500 := rs_94_11 (m := m) hV
            have hV43 : zV (ma_u m 94 0 (0 : Int32)) := uf_94_0 hV
            refine sp_226r (aa := aa) ((0 : Int32)) ((m 94 11)) hV43 (show 0 ≤ (0 : Int32).toInt ∧ (0 : Int32).toInt ≤ (m 94 11).toInt from by omega) (show (m 94 11).toInt = (m 94 11).toInt from by omega) (show qGd aa (0 : Int32).toInt from by first | (exact Gd_0 r_QI) | (exfalso; omega; done) | (exfalso; contradiction; done)) r_RB r_QI r_OW (fun v4 m3 hV_m3 p0_m3 p1_m3 => zmi_n ?_)
            have p0_m3 : v4.toInt = -1 ∨ ((0 : Int32).toInt ≤ v4.toInt ∧ v4.toInt < (m 94 11).toInt ∧ 1 ≤ (m3 94 84).toInt ∧ v4.toInt + (m3 94 84).toInt ≤ (m 94 11).toInt) := p0_m3
            have p1_m3 : qBF aa (0 : Int32).toInt (m 94 11).toInt v4.toInt (m3 94 84).toInt := p1_m3
            have f44 : 0 ≤ (m3 94 84).toInt ∧ (m3 94 84).toInt ≤ 4600 := rs_94_84 (m := (zov wr_226 (ma_u m 94 0 (0 : Int32)) m3)) hV_m3
            have b45 := i_bd ix
            have b46 := i_bd v4
            exact lp_259rb_85 (ix := ix) (pa := pa) hV K _ _ (ix) (pa) (v4) ((0 : Int32)) rfl (zF_zov (zF_u zF_rfl rfl) ws_226_259) hV_m3 (by omega) (by omega) (by omega) (by omega) (by omega) (show (m 94 8).toInt = 1 from by omega) (show v4.toInt = -1 ∨ (0 ≤ v4.toInt ∧ v4.toInt < (m 94 11).toInt ∧ 1 ≤ (m3 94 84).toInt ∧ v4.toInt + (m3 94 84).toInt ≤ (m 94 11).toInt) from by omega) r_W r_GW r_GU r_OW r_DX r_GG r_HA r_RGc (show (m 94 58).toInt = 0 ∨ (m 94 10).toInt = 5 from by omega) r_RB r_QI (show qBk aa (m 94 11).toInt v4.toInt (m3 94 84).toInt (ix.toInt - (0 : Int32).toInt).toNat (aBk aa ix.toInt.toNat (aN aa 0)) from by first | (exact Bk_of (congrArg Int32.toInt r_RB.2.2.2.2.2.2.2.2.1) p1_m3 (by rw [show (ix.toInt - (0 : Int32).toInt).toNat = ix.toInt.toNat from by omega]; rfl)) | (have q := r_BKi; rw [show (ix.toInt - l5.toInt).toNat = (ix.toInt - (l5 + (1 : Int32)).toInt).toNat + 1 from by omega] at q; exact Bk_go (congrArg Int32.toInt r_RB.2.2.2.2.2.2.2.2.1) q (by omega) (by omega) p1_m3; done) | (exfalso; omega; done) | (exfalso; contradiction; done))
        · skip
          have g47 := i_nle h36
          have hV48 : zV (ma_u m 94 0 (1 : Int32)) := uf_94_0 hV
          exact K ((0 : Int32)) _ (zF_u zF_rfl rfl) hV48 r_W r_GW r_GU r_OW r_DX r_GG r_HA r_RGc (show (m 94 58).toInt = 0 ∨ (m 94 10).toInt = 5 from by omega) (show qBl aa ix pa (1 : Int32) (0 : Int32) from by first | (exact Or.inl ⟨by omega, (by first | omega | rfl)⟩) | (exfalso; omega; done) | (exfalso; contradiction; done))
    · skip
      have g49 := i_ne h28
      have li50 : (5 : Int32).toInt = 5 := rfl
      refine zd (fun (h51 : (m 94 10) = (5 : Int32)) => ?_) (fun (h51 : ¬ (m 94 10) = (5 : Int32)) => ?_)
      · skip
        have g52 := i_eq h51
        have b53 := i_bd pa
        refine zd (fun (h54 : pa < (0 : Int32)) => ?_) (fun (h54 : ¬ pa < (0 : Int32)) => ?_)
        · skip
          have g55 := i_lt h54
          have hV56 : zV (ma_u m 94 0 (1 : Int32)) := uf_94_0 hV
          exact K ((0 : Int32)) _ (zF_u zF_rfl rfl) hV56 r_W r_GW r_GU r_OW r_DX r_GG r_HA r_RGc (show (m 94 58).toInt = 0 ∨ (m 94 10).toInt = 5 from by omega) (show qBl aa ix pa (1 : Int32) (0 : Int32) from by first | (exact Or.inl ⟨by omega, (by first | omega | rfl)⟩) | (exfalso; omega; done) | (exfalso; contradiction; done))
        · skip
          have g57 := i_nlt h54
          have li58 : (1 : Int32).toInt = 1 := rfl
          refine zd (fun (h59 : pa ≤ (1 : Int32)) => ?_) (fun (h59 : ¬ pa ≤ (1 : Int32)) => ?_)
          · skip
            have g60 := i_le h59
            refine zd (fun (h61 : (m 94 8) = (0 : Int32)) => ?_) (fun (h61 : ¬ (m 94 8) = (0 : Int32)) => ?_)
            · skip
              have g62 := i_eq h61
              have hV63 : zV (ma_u m 94 0 (2 : Int32)) := uf_94_0 hV
              exact K ((0 : Int32)) _ (zF_u zF_rfl rfl) hV63 r_W r_GW r_GU r_OW r_DX r_GG r_HA r_RGc (show (m 94 58).toInt = 0 ∨ (m 94 10).toInt = 5 from by omega) (show qBl aa ix pa (2 : Int32) (0 : Int32) from by first | (exact Or.inl ⟨by omega, (by first | omega | rfl)⟩) | (exfalso; omega; done) | (exfalso; contradiction; done))
            · skip
              have g64 := i_ne h61
              have f65 : 0 ≤ (m 94 11).toInt ∧ (m 94 11).toInt ≤ 1500 := rs_94_11 (m := m) hV
              have hV66 : zV (ma_u m 94 0 (0 : Int32)) := uf_94_0 hV
              refine sp_226r (aa := aa) ((0 : Int32)) ((m 94 11)) hV66 (show 0 ≤ (0 : Int32).toInt ∧ (0 : Int32).toInt ≤ (m 94 11).toInt from by omega) (show (m 94 11).toInt = (m 94 11).toInt from by omega) (show qGd aa (0 : Int32).toInt from by first | (exact Gd_0 r_QI) | (exfalso; omega; done) | (exfalso; contradiction; done)) r_RB r_QI r_OW (fun v6 m5 hV_m5 p0_m5 p1_m5 => zmi_n ?_)
              have p0_m5 : v6.toInt = -1 ∨ ((0 : Int32).toInt ≤ v6.toInt ∧ v6.toInt < (m 94 11).toInt ∧ 1 ≤ (m5 94 84).toInt ∧ v6.toInt + (m5 94 84).toInt ≤ (m 94 11).toInt) := p0_m5
              have p1_m5 : qBF aa (0 : Int32).toInt (m 94 11).toInt v6.toInt (m5 94 84).toInt := p1_m5
              have f67 : 0 ≤ (m5 94 84).toInt ∧ (m5 94 84).toInt ≤ 4600 := rs_94_84 (m := (zov wr_226 (ma_u m 94 0 (0 : Int32)) m5)) hV_m5
              have b68 := i_bd ix
              have b69 := i_bd v6
              exact lp_259rb_85 (ix := ix) (pa := pa) hV K _ _ (ix) (pa) (v6) ((0 : Int32)) rfl (zF_zov (zF_u zF_rfl rfl) ws_226_259) hV_m5 (by omega) (by omega) (by omega) (by omega) (by omega) (show (m 94 8).toInt = 1 from by omega) (show v6.toInt = -1 ∨ (0 ≤ v6.toInt ∧ v6.toInt < (m 94 11).toInt ∧ 1 ≤ (m5 94 84).toInt ∧ v6.toInt + (m5 94 84).toInt ≤ (m 94 11).toInt) from by omega) r_W r_GW r_GU r_OW r_DX r_GG r_HA r_RGc (show (m 94 58).toInt = 0 ∨ (m 94 10).toInt = 5 from by omega) r_RB r_QI (show qBk aa (m 94 11).toInt v6.toInt (m5 94 84).toInt (ix.toInt - (0 : Int32).toInt).toNat (aBk aa ix.toInt.toNat (aN aa 0)) from by first | (exact Bk_of (congrArg Int32.toInt r_RB.2.2.2.2.2.2.2.2.1) p1_m5 (by rw [show (ix.toInt - (0 : Int32).toInt).toNat = ix.toInt.toNat from by omega]; rfl)) | (have q := r_BKi; rw [show (ix.toInt - l5.toInt).toNat = (ix.toInt - (l5 + (1 : Int32)).toInt).toNat + 1 from by omega] at q; exact Bk_go (congrArg Int32.toInt r_RB.2.2.2.2.2.2.2.2.1) q (by omega) (by omega) p1_m5; done) | (exfalso; omega; done) | (exfalso; contradiction; done))
          · skip
            have g70 := i_nle h59
            have hV71 : zV (ma_u m 94 0 (1 : Int32)) := uf_94_0 hV
            exact K ((0 : Int32)) _ (zF_u zF_rfl rfl) hV71 r_W r_GW r_GU r_OW r_DX r_GG r_HA r_RGc (show (m 94 58).toInt = 0 ∨ (m 94 10).toInt = 5 from by omega) (show qBl aa ix pa (1 : Int32) (0 : Int32) from by first | (exact Or.inl ⟨by omega, (by first | omega | rfl)⟩) | (exfalso; omega; done) | (exfalso; contradiction; done))
      · skip
        have g72 := i_ne h51
        have b73 := i_bd pa
        refine zd (fun (h74 : pa < (0 : Int32)) => ?_) (fun (h74 : ¬ pa < (0 : Int32)) => ?_)
        · skip
          have g75 := i_lt h74
          have hV76 : zV (ma_u m 94 0 (1 : Int32)) := uf_94_0 hV
          exact K ((0 : Int32)) _ (zF_u zF_rfl rfl) hV76 r_W r_GW r_GU r_OW r_DX r_GG r_HA r_RGc (show (m 94 58).toInt = 0 ∨ (m 94 10).toInt = 5 from by omega) (show qBl aa ix pa (1 : Int32) (0 : Int32) from by first | (exact Or.inl ⟨by omega, (by first | omega | rfl)⟩) | (exfalso; omega; done) | (exfalso; contradiction; done))
        · skip
          have g77 := i_nlt h74
          have li78 : (1 : Int32).toInt = 1 := rfl
          refine zd (fun (h79 : pa ≤ (1 : Int32)) => ?_) (fun (h79 : ¬ pa ≤ (1 : Int32)) => ?_)
          · skip
            have g80 := i_le h79
            refine zd (fun (h81 : (m 94 8) = (0 : Int32)) => ?_) (fun (h81 : ¬ (m 94 8) = (0 : Int32)) => ?_)
            · skip
              have g82 := i_eq h81
              have hV83 : zV (ma_u m 94 0 (2 : Int32)) := uf_94_0 hV
              exact K ((0 : Int32)) _ (zF_u zF_rfl rfl) hV83 r_W r_GW r_GU r_OW r_DX r_GG r_HA r_RGc (show (m 94 58).toInt = 0 ∨ (m 94 10).toInt = 5 from by omega) (show qBl aa ix pa (2 : Int32) (0 : Int32) from by first | (exact Or.inl ⟨by omega, (by first | omega | rfl)⟩) | (exfalso; omega; done) | (exfalso; contradiction; done))
            · skip
              have g84 := i_ne h81
              have hV85 : zV (ma_u m 94 0 (3 : Int32)) := uf_94_0 hV
              exact K ((0 : Int32)) _ (zF_u zF_rfl rfl) hV85 r_W r_GW r_GU r_OW r_DX r_GG r_HA r_RGc (show (m 94 58).toInt = 0 ∨ (m 94 10).toInt = 5 from by omega) (show qBl aa ix pa (3 : Int32) (0 : Int32) from by first | (exact Or.inl ⟨by omega, (by first | omega | rfl)⟩) | (exfalso; omega; done) | (exfalso; contradiction; done))
          · skip
            have g86 := i_nle h79
            have hV87 : zV (ma_u m 94 0 (1 : Int32)) := uf_94_0 hV
            exact K ((0 : Int32)) _ (zF_u zF_rfl rfl) hV87 r_W r_GW r_GU r_OW r_DX r_GG r_HA r_RGc (show (m 94 58).toInt = 0 ∨ (m 94 10).toInt = 5 from by omega) (show qBl aa ix pa (1 : Int32) (0 : Int32) from by first | (exact Or.inl ⟨by omega, (by first | omega | rfl)⟩) | (exfalso; omega; done) | (exfalso; contradiction; done))
