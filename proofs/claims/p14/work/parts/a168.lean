/-! from 95.l22 -/
/-! the reference where it sweeps (written by wip/tools/gen20r.py) -/
/-! FREE BLOCK i of the reference -/
def qBk (a : Nat → Nat → Int32) (ro p bs : Int) (n : Nat) (T : Int) : Prop := (p = -1 ∧ qEq T (-1)) ∨ (0 ≤ p ∧ p < ro ∧ qEq (p + bs) (aE a p) ∧ p + bs ≤ ro ∧ qGd a (p + bs) ∧ qEq (aBk a n p) T)
def qBT (a : Nat → Nat → Int32) (i : Int32) : Int := if i.toInt < 0 then -1 else aBk a i.toInt.toNat (aN a 0)
/-- what block answers: th thrown, v the answer -/
def qBl (a : Nat → Nat → Int32) (i pa th v : Int32) : Prop := (¬ (0 ≤ pa.toInt ∧ pa.toInt ≤ 1) ∧ th.toInt = 1) ∨ ((0 ≤ pa.toInt ∧ pa.toInt ≤ 1) ∧ qEq (qBT a i) (-1) ∧ th.toInt = 4) ∨ ((0 ≤ pa.toInt ∧ pa.toInt ≤ 1) ∧ ¬ qEq (qBT a i) (-1) ∧ th.toInt = 0 ∧ ((pa.toInt = 0 ∧ qEq v.toInt (qBT a i)) ∨ (pa.toInt = 1 ∧ qEq v.toInt (aE a (qBT a i) - qBT a i))))
theorem ab_s {p b e : Int} (w : p + b = e) : b = e - p := by omega
section QBK
variable {a : Nat → Nat → Int32} {ro f v bs bs₉ p T : Int} {n : Nat} {i pa th x y : Int32}
theorem Bk_of (hro : (a 87 0).toInt = ro) (h : qBF a f ro v bs) (hT : qEq (aBk a n (aN a f)) T) : qBk a ro v bs n T := by
  rcases h with h | h
  · refine Or.inl ⟨h.1, ?_⟩
    have q := qE hT
    rw [h.2] at q
    have e : aBk a n ro = -1 := by
      cases n with
      | zero => exact if_neg (by rw [hro]; exact Int.lt_irrefl _)
      | succ n => exact if_neg (by rw [hro]; exact Int.lt_irrefl _)
    exact q.symm.trans e
  · refine Or.inr ⟨h.2.2.2.2.1, h.2.2.2.1, h.2.1, h.2.2.2.2.2, h.2.2.1, ?_⟩
    have q := qE hT
    rw [← h.1] at q
    exact q
theorem Bk_go (hro : (a 87 0).toInt = ro) (h : qBk a ro p bs (n + 1) T) (hp : 0 ≤ p) (hf : f = p + bs) (h2 : qBF a f ro v bs₉) : qBk a ro v bs₉ n T := by
  rcases h with h | h
  · rw [h.1] at hp
    exact absurd hp (by decide)
  · refine Bk_of hro h2 ?_
    have q := qE h.2.2.2.2.2
    have e : aBk a (n + 1) p = aBk a n (aN a (aE a p)) := if_pos (by rw [hro]; exact h.2.1)
    rw [hf, qE h.2.2.1, ← e]
    exact q
theorem Bk_gd (h : qBk a ro p bs n T) (hp : 0 ≤ p) : qGd a (p + bs) ∧ p < ro ∧ p + bs ≤ ro := by
  rcases h with h | h
  · rw [h.1] at hp
    exact absurd hp (by decide)
  · exact ⟨h.2.2.2.2.1, h.2.1, h.2.2.2.1⟩
theorem Bl_n (h : qBk a ro p bs n (aBk a i.toInt.toNat (aN a 0))) (hp : p < 0) : qEq (qBT a i) (-1) := by
  unfold qBT
  rcases h with h | h
  · split
    · rfl
    · exact qE h.2
  · exact absurd h.1 (Int.not_le.mpr hp)
theorem Bl_i (h : i.toInt < 0) : qEq (qBT a i) (-1) := if_pos h
theorem Bl_y (hro : (a 87 0).toInt = ro) (h : qBk a ro p bs n (aBk a i.toInt.toNat (aN a 0))) (hp : 0 ≤ p) (hn : n = 0) (hi : 0 ≤ i.toInt) : qEq (qBT a i) p ∧ qEq bs (aE a p - p) := by
  rcases h with h | h
  · rw [h.1] at hp
    exact absurd hp (by decide)
  · have q := qE h.2.2.2.2.2
    rw [hn] at q
    have e : aBk a 0 p = p := if_pos (by rw [hro]; exact h.2.1)
    refine ⟨?_, ?_⟩
    · unfold qBT
      rw [if_neg (Int.not_lt.mpr hi)]
      exact q.symm.trans e
    · have w := qE h.2.2.1
      exact ab_s w
theorem Bl_3 (h : qEq (qBT a i) p ∧ qEq bs (aE a p - p)) (hp : 0 ≤ p) (h0 : 0 ≤ pa.toInt) (h1 : pa.toInt ≤ 1) (ht : th.toInt = 0) (hv : (pa.toInt = 0 ∧ v = p) ∨ (pa.toInt = 1 ∧ v = bs)) (e : y.toInt = v) : qBl a i pa th y := by
  have q := qE h.1
  refine Or.inr (Or.inr ⟨⟨h0, h1⟩, fun w => ?_, ht, ?_⟩)
  · have w2 := qE w
    rw [q] at w2
    rw [w2] at hp
    exact absurd hp (by decide)
  · rw [q, e]
    exact hv.imp (fun z => ⟨z.1, z.2⟩) (fun z => ⟨z.1, z.2.trans (qE h.2)⟩)
end QBK
theorem lp_259rb_85 {X : Nat × (Nat → Int32)} {P : Option ma_V → (Nat → Nat → Int32) → Prop} {T : Nat} {aa : Nat→Nat→Int32} {ix : Int32} {pa : Int32} {m0 : Nat → Nat → Int32} (h0 : zV m0) (K : ∀ v m₉, zF wr_259 m0 m₉ → zV m₉ → (zW (m₉ 94 7) (m₉ 98) (m₉ 101) (m₉ 102) (m₉ 108)) → (zGW T (m₉ 94 55) (m₉ 109)) → (zGU T (m₉ 94 46) (m₉ 99)) → (zOw (m₉ 99) (m₉ 103) (m₉ 111)) → (zDX (m₉ 94 10) (m₉ 99) (m₉ 112) (m₉ 113) (m₉ 114) (m₉ 94 55) (m₉ 98) (m₉ 101) (m₉ 102) (m₉ 108)) → (zGG (m₉ 94 58) (m₉ 94 56) (m₉ 94 57) (m₉ 106)) → (zHA (m₉ 94 10) (m₉ 94 11) (m₉ 94 13) (m₉ 94 14) (m₉ 94 16) (m₉ 94 61) (m₉ 94 59) (m₉ 94 60) (m₉ 99) (m₉ 102) (m₉ 103) (m₉ 111) (m₉ 117) (m₉ 98) (m₉ 101) (m₉ 108)) → (zRG (m₉ 94 10) (m₉ 94 18) (m₉ 94 64) (m₉ 94 63) (m₉ 99) (m₉ 103) (m₉ 102) (m₉ 116)) → ((m₉ 94 58).toInt = 0 ∨ (m₉ 94 10).toInt = 5) → (qBl aa ix pa (m₉ 94 0) v) → P (some (.inl v)) m₉) : ∀ (n : Nat) (m : Nat → Nat → Int32) (l1 : Int32) (l2 : Int32) (l4 : Int32) (l5 : Int32), (2147483647 - l5.toInt).toNat = n → zF wr_259 m0 m → zV m → (0 ≤ l5.toInt) → (l1.toInt = ix.toInt) → (l2.toInt = pa.toInt) → (0 ≤ pa.toInt) → (pa.toInt ≤ 1) → ((m 94 8).toInt = 1) → (l4.toInt = -1 ∨ (0 ≤ l4.toInt ∧ l4.toInt < (m 94 11).toInt ∧ 1 ≤ (m 94 84).toInt ∧ l4.toInt + (m 94 84).toInt ≤ (m 94 11).toInt)) → (zW (m 94 7) (m 98) (m 101) (m 102) (m 108)) → (zGW T (m 94 55) (m 109)) → (zGU T (m 94 46) (m 99)) → (zOw (m 99) (m 103) (m 111)) → (zDX (m 94 10) (m 99) (m 112) (m 113) (m 114) (m 94 55) (m 98) (m 101) (m 102) (m 108)) → (zGG (m 94 58) (m 94 56) (m 94 57) (m 106)) → (zHA (m 94 10) (m 94 11) (m 94 13) (m 94 14) (m 94 16) (m 94 61) (m 94 59) (m 94 60) (m 99) (m 102) (m 103) (m 111) (m 117) (m 98) (m 101) (m 108)) → (zRG (m 94 10) (m 94 18) (m 94 64) (m 94 63) (m 99) (m 103) (m 102) (m 116)) → ((m 94 58).toInt = 0 ∨ (m 94 10).toInt = 5) → (qRB (m 99) (m 100) (m 98) (m 101) (m 102) (m 103) (m 107) (m 108) (m 109) (m 111) (m 112) (m 113) (m 114) (m 94 55) (m 94 46) (m 94 11) (m 94 12) (m 94 62) (m 94 17) (m 94 9) aa) → (qI aa) → (qBk aa (m 94 11).toInt l4.toInt (m 94 84).toInt (ix.toInt - l5.toInt).toNat (aBk aa ix.toInt.toNat (aN aa 0))) → zm X 2 45 259 85 [(0, .inr (.inr (some 94))), (1, .inl l1), (2, .inl l2), (4, .inl l4), (5, .inl l5)] m P := by
  intro n
  induction n using Nat.strongRecOn with
  | _ n IH =>
    intro m l1 l2 l4 l5 hmu hF hV hi0 hi1 hi2 hi3 hi4 hi5 hi6 r_W r_GW r_GU r_OW r_DX r_GG r_HA r_RGc hi15 r_RB r_QI r_BKi
    refine g_259_85 l1 l2 l4 l5 ?_
    have f1 : 0 ≤ (m 94 8).toInt ∧ (m 94 8).toInt ≤ 1 := rs_94_8 (m := m) hV
    have f2 : 0 ≤ (m 94 11).toInt ∧ (m 94 11).toInt ≤ 1500 := rs_94_11 (m := m) hV
    have f3 : 0 ≤ (m 94 84).toInt ∧ (m 94 84).toInt ≤ 4600 := rs_94_84 (m := m) hV
    have f4 : 0 ≤ (m 94 58).toInt ∧ (m 94 58).toInt ≤ 1 := rs_94_58 (m := m) hV
    have f5 : 0 ≤ (m 94 10).toInt ∧ (m 94 10).toInt ≤ 6 := rs_94_10 (m := m) hV
    have b6 := i_bd l1
    have b7 := i_bd l5
    refine zd (fun (h8 : l1 ≤ l5) => ?_) (fun (h8 : ¬ l1 ≤ l5) => ?_)
    · skip
      have g9 := i_le h8
      have li10 : (0 : Int32).toInt = 0 := rfl
      refine zd (fun (h11 : l1 < (0 : Int32)) => ?_) (fun (h11 : ¬ l1 < (0 : Int32)) => ?_)
      · skip
        have g12 := i_lt h11
        try have bg := Bk_gd r_BKi (by omega)
        have hV13 : zV (ma_u m 94 0 (4 : Int32)) := uf_94_0 hV
        exact K ((0 : Int32)) _ (zF_u hF rfl) hV13 r_W r_GW r_GU r_OW r_DX r_GG r_HA r_RGc (show (m 94 58).toInt = 0 ∨ (m 94 10).toInt = 5 from by omega) (show qBl aa ix pa (4 : Int32) (0 : Int32) from by first | (exact Or.inr (Or.inl ⟨⟨by omega, by omega⟩, Bl_n r_BKi (by omega), (by first | omega | rfl)⟩)) | (exact Or.inr (Or.inl ⟨⟨by omega, by omega⟩, Bl_i (by omega), (by first | omega | rfl)⟩)) | (exact Bl_3 (Bl_y (congrArg Int32.toInt r_RB.2.2.2.2.2.2.2.2.1) r_BKi (by omega) (by omega) (by omega)) (by omega) (by omega) (by omega) (by first | omega | rfl) (Or.inl ⟨by omega, rfl⟩) rfl) | (exact Bl_3 (Bl_y (congrArg Int32.toInt r_RB.2.2.2.2.2.2.2.2.1) r_BKi (by omega) (by omega) (by omega)) (by omega) (by omega) (by omega) (by first | omega | rfl) (Or.inr ⟨by omega, rfl⟩) rfl) | (exfalso; omega; done) | (exfalso; contradiction; done))
      · skip
        have g14 := i_nlt h11
        have b15 := i_bd l4
        refine zd (fun (h16 : (0 : Int32) ≤ l4) => ?_) (fun (h16 : ¬ (0 : Int32) ≤ l4) => ?_)
        · skip
          have g17 := i_le h16
          have b18 := i_bd l2
          refine zd (fun (h19 : l2 = (0 : Int32)) => ?_) (fun (h19 : ¬ l2 = (0 : Int32)) => ?_)
          · skip
            have g20 := i_eq h19
            try have bg := Bk_gd r_BKi (by omega)
            have hV21 : zV (ma_u m 94 0 (0 : Int32)) := uf_94_0 hV
            exact K (l4) _ (zF_u hF rfl) hV21 r_W r_GW r_GU r_OW r_DX r_GG r_HA r_RGc (show (m 94 58).toInt = 0 ∨ (m 94 10).toInt = 5 from by omega) (show qBl aa ix pa (0 : Int32) l4 from by first | (exact Or.inr (Or.inl ⟨⟨by omega, by omega⟩, Bl_n r_BKi (by omega), (by first | omega | rfl)⟩)) | (exact Or.inr (Or.inl ⟨⟨by omega, by omega⟩, Bl_i (by omega), (by first | omega | rfl)⟩)) | (exact Bl_3 (Bl_y (congrArg Int32.toInt r_RB.2.2.2.2.2.2.2.2.1) r_BKi (by omega) (by omega) (by omega)) (by omega) (by omega) (by omega) (by first | omega | rfl) (Or.inl ⟨by omega, rfl⟩) rfl) | (exact Bl_3 (Bl_y (congrArg Int32.toInt r_RB.2.2.2.2.2.2.2.2.1) r_BKi (by omega) (by omega) (by omega)) (by omega) (by omega) (by omega) (by first | omega | rfl) (Or.inr ⟨by omega, rfl⟩) rfl) | (exfalso; omega; done) | (exfalso; contradiction; done))
          · skip
            have g22 := i_ne h19
            try have bg := Bk_gd r_BKi (by omega)
            have hV23 : zV (ma_u m 94 0 (0 : Int32)) := uf_94_0 hV
            exact K ((m 94 84)) _ (zF_u hF rfl) hV23 r_W r_GW r_GU r_OW r_DX r_GG r_HA r_RGc (show (m 94 58).toInt = 0 ∨ (m 94 10).toInt = 5 from by omega) (show qBl aa ix pa (0 : Int32) (m 94 84) from by first | (exact Or.inr (Or.inl ⟨⟨by omega, by omega⟩, Bl_n r_BKi (by omega), (by first | omega | rfl)⟩)) | (exact Or.inr (Or.inl ⟨⟨by omega, by omega⟩, Bl_i (by omega), (by first | omega | rfl)⟩)) | (exact Bl_3 (Bl_y (congrArg Int32.toInt r_RB.2.2.2.2.2.2.2.2.1) r_BKi (by omega) (by omega) (by omega)) (by omega) (by omega) (by omega) (by first | omega | rfl) (Or.inl ⟨by omega, rfl⟩) rfl) | (exact Bl_3 (Bl_y (congrArg Int32.toInt r_RB.2.2.2.2.2.2.2.2.1) r_BKi (by omega) (by omega) (by omega)) (by omega) (by omega) (by omega) (by first | omega | rfl) (Or.inr ⟨by omega, rfl⟩) rfl) | (exfalso; omega; done) | (exfalso; contradiction; done))
        · skip
          have g24 := i_nle h16
          try have bg := Bk_gd r_BKi (by omega)
          have hV25 : zV (ma_u m 94 0 (4 : Int32)) := uf_94_0 hV
          exact K ((0 : Int32)) _ (zF_u hF rfl) hV25 r_W r_GW r_GU r_OW r_DX r_GG r_HA r_RGc (show (m 94 58).toInt = 0 ∨ (m 94 10).toInt = 5 from by omega) (show qBl aa ix pa (4 : Int32) (0 : Int32) from by first | (exact Or.inr (Or.inl ⟨⟨by omega, by omega⟩, Bl_n r_BKi (by omega), (by first | omega | rfl)⟩)) | (exact Or.inr (Or.inl ⟨⟨by omega, by omega⟩, Bl_i (by omega), (by first | omega | rfl)⟩)) | (exact Bl_3 (Bl_y (congrArg Int32.toInt r_RB.2.2.2.2.2.2.2.2.1) r_BKi (by omega) (by omega) (by omega)) (by omega) (by omega) (by omega) (by first | omega | rfl) (Or.inl ⟨by omega, rfl⟩) rfl) | (exact Bl_3 (Bl_y (congrArg Int32.toInt r_RB.2.2.2.2.2.2.2.2.1) r_BKi (by omega) (by omega) (by omega)) (by omega) (by omega) (by omega) (by first | omega | rfl) (Or.inr ⟨by omega, rfl⟩) rfl) | (exfalso; omega; done) | (exfalso; contradiction; done))
    · skip
      have g26 := i_nle h8
      have b27 := i_bd l4
      have li28 : (0 : Int32).toInt = 0 := rfl
      refine zd (fun (h29 : l4 < (0 : Int32)) => ?_) (fun (h29 : ¬ l4 < (0 : Int32)) => ?_)
      · skip
        have g30 := i_lt h29
        refine zd (fun (h31 : l1 < (0 : Int32)) => ?_) (fun (h31 : ¬ l1 < (0 : Int32)) => ?_)
        · skip
          have g32 := i_lt h31
          try have bg := Bk_gd r_BKi (by omega)
          have hV33 : zV (ma_u m 94 0 (4 : Int32)) := uf_94_0 hV
          exact K ((0 : Int32)) _ (zF_u hF rfl) hV33 r_W r_GW r_GU r_OW r_DX r_GG r_HA r_RGc (show (m 94 58).toInt = 0 ∨ (m 94 10).toInt = 5 from by omega) (show qBl aa ix pa (4 : Int32) (0 : Int32) from by first | (exact Or.inr (Or.inl ⟨⟨by omega, by omega⟩, Bl_n r_BKi (by omega), (by first | omega | rfl)⟩)) | (exact Or.inr (Or.inl ⟨⟨by omega, by omega⟩, Bl_i (by omega), (by first | omega | rfl)⟩)) | (exact Bl_3 (Bl_y (congrArg Int32.toInt r_RB.2.2.2.2.2.2.2.2.1) r_BKi (by omega) (by omega) (by omega)) (by omega) (by omega) (by omega) (by first | omega | rfl) (Or.inl ⟨by omega, rfl⟩) rfl) | (exact Bl_3 (Bl_y (congrArg Int32.toInt r_RB.2.2.2.2.2.2.2.2.1) r_BKi (by omega) (by omega) (by omega)) (by omega) (by omega) (by omega) (by first | omega | rfl) (Or.inr ⟨by omega, rfl⟩) rfl) | (exfalso; omega; done) | (exfalso; contradiction; done))
        · skip
          have g34 := i_nlt h31
          refine zd (fun (h35 : (0 : Int32) ≤ l4) => ?_) (fun (h35 : ¬ (0 : Int32) ≤ l4) => ?_)
          · skip
            have g36 := i_le h35
            have b37 := i_bd l2
            refine zd (fun (h38 : l2 = (0 : Int32)) => ?_) (fun (h38 : ¬ l2 = (0 : Int32)) => ?_)
            · skip
              have g39 := i_eq h38
              try have bg := Bk_gd r_BKi (by omega)
              have hV40 : zV (ma_u m 94 0 (0 : Int32)) := uf_94_0 hV
              exact K (l4) _ (zF_u hF rfl) hV40 r_W r_GW r_GU r_OW r_DX r_GG r_HA r_RGc (show (m 94 58).toInt = 0 ∨ (m 94 10).toInt = 5 from by omega) (show qBl aa ix pa (0 : Int32) l4 from by first | (exact Or.inr (Or.inl ⟨⟨by omega, by omega⟩, Bl_n r_BKi (by omega), (by first | omega | rfl)⟩)) | (exact Or.inr (Or.inl ⟨⟨by omega, by omega⟩, Bl_i (by omega), (by first | omega | rfl)⟩)) | (exact Bl_3 (Bl_y (congrArg Int32.toInt r_RB.2.2.2.2.2.2.2.2.1) r_BKi (by omega) (by omega) (by omega)) (by omega) (by omega) (by omega) (by first | omega | rfl) (Or.inl ⟨by omega, rfl⟩) rfl) | (exact Bl_3 (Bl_y (congrArg Int32.toInt r_RB.2.2.2.2.2.2.2.2.1) r_BKi (by omega) (by omega) (by omega)) (by omega) (by omega) (by omega) (by first | omega | rfl) (Or.inr ⟨by omega, rfl⟩) rfl) | (exfalso; omega; done) | (exfalso; contradiction; done))
            · skip
              have g41 := i_ne h38
              try have bg := Bk_gd r_BKi (by omega)
              have hV42 : zV (ma_u m 94 0 (0 : Int32)) := uf_94_0 hV
              exact K ((m 94 84)) _ (zF_u hF rfl) hV42 r_W r_GW r_GU r_OW r_DX r_GG r_HA r_RGc (show (m 94 58).toInt = 0 ∨ (m 94 10).toInt = 5 from by omega) (show qBl aa ix pa (0 : Int32) (m 94 84) from by first | (exact Or.inr (Or.inl ⟨⟨by omega, by omega⟩, Bl_n r_BKi (by omega), (by first | omega | rfl)⟩)) | (exact Or.inr (Or.inl ⟨⟨by omega, by omega⟩, Bl_i (by omega), (by first | omega | rfl)⟩)) | (exact Bl_3 (Bl_y (congrArg Int32.toInt r_RB.2.2.2.2.2.2.2.2.1) r_BKi (by omega) (by omega) (by omega)) (by omega) (by omega) (by omega) (by first | omega | rfl) (Or.inl ⟨by omega, rfl⟩) rfl) | (exact Bl_3 (Bl_y (congrArg Int32.toInt r_RB.2.2.2.2.2.2.2.2.1) r_BKi (by omega) (by omega) (by omega)) (by omega) (by omega) (by omega) (by first | omega | rfl) (Or.inr ⟨by omega, rfl⟩) rfl) | (exfalso; omega; done) | (exfalso; contradiction; done))
          · skip
            have g43 := i_nle h35
            try have bg := Bk_gd r_BKi (by omega)
            have hV44 : zV (ma_u m 94 0 (4 : Int32)) := uf_94_0 hV
            exact K ((0 : Int32)) _ (zF_u hF rfl) hV44 r_W r_GW r_GU r_OW r_DX r_GG r_HA r_RGc (show (m 94 58).toInt = 0 ∨ (m 94 10).toInt = 5 from by omega) (show qBl aa ix pa (4 : Int32) (0 : Int32) from by first | (exact Or.inr (Or.inl ⟨⟨by omega, by omega⟩, Bl_n r_BKi (by omega), (by first | omega | rfl)⟩)) | (exact Or.inr (Or.inl ⟨⟨by omega, by omega⟩, Bl_i (by omega), (by first | omega | rfl)⟩)) | (exact Bl_3 (Bl_y (congrArg Int32.toInt r_RB.2.2.2.2.2.2.2.2.1) r_BKi (by omega) (by omega) (by omega)) (by omega) (by omega) (by omega) (by first | omega | rfl) (Or.inl ⟨by omega, rfl⟩) rfl) | (exact Bl_3 (Bl_y (congrArg Int32.toInt r_RB.2.2.2.2.2.2.2.2.1) r_BKi (by omega) (by omega) (by omega)) (by omega) (by omega) (by omega) (by first | omega | rfl) (Or.inr ⟨by omega, rfl⟩) rfl) | (exfalso; omega; done) | (exfalso; contradiction; done))
      · skip
        have g45 := i_nlt h29
        first | have e46 : (l4 + (m 94 84)).toInt = l4.toInt + (m 94 84).toInt := i_add (by omega) (by omega) | have b47 := i_bd (l4 + (m 94 84))
        try have bg := Bk_gd r_BKi (by omega)
        refine sp_226r (aa := aa) ((l4 + (m 94 84))) ((m 94 11)) hV (show 0 ≤ (l4 + (m 94 84)).toInt ∧ (l4 + (m 94 84)).toInt ≤ (m 94 11).toInt from by omega) (show (m 94 11).toInt = (m 94 11).toInt from by omega) (show qGd aa (l4 + (m 94 84)).toInt from by first | (exact Gd_0 r_QI) | (exact Gd_c (Bk_gd r_BKi (by omega)).1 (by omega)) | (exfalso; omega; done) | (exfalso; contradiction; done)) r_RB r_QI r_OW (fun v2 m1 hV_m1 p0_m1 p1_m1 => zmi_n ?_)
        have p0_m1 : v2.toInt = -1 ∨ ((l4 + (m 94 84)).toInt ≤ v2.toInt ∧ v2.toInt < (m 94 11).toInt ∧ 1 ≤ (m1 94 84).toInt ∧ v2.toInt + (m1 94 84).toInt ≤ (m 94 11).toInt) := p0_m1
        have p1_m1 : qBF aa (l4 + (m 94 84)).toInt (m 94 11).toInt v2.toInt (m1 94 84).toInt := p1_m1
        have f48 : 0 ≤ (m1 94 84).toInt ∧ (m1 94 84).toInt ≤ 4600 := rs_94_84 (m := (zov wr_226 m m1)) hV_m1
        try have bg := Bk_gd r_BKi (by omega)
        have b49 := i_bd l2
        have b50 := i_bd v2
        first | have e51 : (l5 + (1 : Int32)).toInt = l5.toInt + (1) := i_addk rfl (by omega) (by omega) | have b52 := i_bd (l5 + (1 : Int32))
        exact IH (2147483647 - (l5 + (1 : Int32)).toInt).toNat (by omega) _ (l1) (l2) (v2) ((l5 + (1 : Int32))) rfl (zF_zov hF ws_226_259) hV_m1 (by omega) (by omega) (by omega) (by omega) (by omega) (show (m 94 8).toInt = 1 from by omega) (show v2.toInt = -1 ∨ (0 ≤ v2.toInt ∧ v2.toInt < (m 94 11).toInt ∧ 1 ≤ (m1 94 84).toInt ∧ v2.toInt + (m1 94 84).toInt ≤ (m 94 11).toInt) from by omega) r_W r_GW r_GU r_OW r_DX r_GG r_HA r_RGc (show (m 94 58).toInt = 0 ∨ (m 94 10).toInt = 5 from by omega) r_RB r_QI (show qBk aa (m 94 11).toInt v2.toInt (m1 94 84).toInt (ix.toInt - (l5 + (1 : Int32)).toInt).toNat (aBk aa ix.toInt.toNat (aN aa 0)) from by first | (exact Bk_of (congrArg Int32.toInt r_RB.2.2.2.2.2.2.2.2.1) p1_m1 (by rw [show (ix.toInt - (0 : Int32).toInt).toNat = ix.toInt.toNat from by omega]; rfl)) | (have q := r_BKi; rw [show (ix.toInt - l5.toInt).toNat = (ix.toInt - (l5 + (1 : Int32)).toInt).toNat + 1 from by omega] at q; exact Bk_go (congrArg Int32.toInt r_RB.2.2.2.2.2.2.2.2.1) q (by omega) (by omega) p1_m1; done) | (exfalso; omega; done) | (exfalso; contradiction; done))
theorem sp_259rb {X : Nat × (Nat → Int32)} {P : Option ma_V → (Nat → Nat → Int32) → Prop} {T : Nat} {aa : Nat→Nat→Int32} {m : Nat → Nat → Int32} (ix : Int32) (pa : Int32) (hV : zV m) (r_W : zW (m 94 7) (m 98) (m 101) (m 102) (m 108)) (r_GW : zGW T (m 94 55) (m 109)) (r_GU : zGU T (m 94 46) (m 99)) (r_OW : zOw (m 99) (m 103) (m 111)) (r_DX : zDX (m 94 10) (m 99) (m 112) (m 113) (m 114) (m 94 55) (m 98) (m 101) (m 102) (m 108)) (r_GG : zGG (m 94 58) (m 94 56) (m 94 57) (m 106)) (r_HA : zHA (m 94 10) (m 94 11) (m 94 13) (m 94 14) (m 94 16) (m 94 61) (m 94 59) (m 94 60) (m 99) (m 102) (m 103) (m 111) (m 117) (m 98) (m 101) (m 108)) (r_RGc : zRG (m 94 10) (m 94 18) (m 94 64) (m 94 63) (m 99) (m 103) (m 102) (m 116)) (hpre8 : (m 94 58).toInt = 0 ∨ (m 94 10).toInt = 5) (hpre9 : (m 94 8).toInt = 1) (hpre10 : ((m 94 10).toInt = 0 ∨ (m 94 10).toInt = 4 ∨ (m 94 10).toInt = 5)) (r_RB : qRB (m 99) (m 100) (m 98) (m 101) (m 102) (m 103) (m 107) (m 108) (m 109) (m 111) (m 112) (m 113) (m 114) (m 94 55) (m 94 46) (m 94 11) (m 94 12) (m 94 62) (m 94 17) (m 94 9) aa) (r_QI : qI aa) (KZ : ∀ v m₉, zV (zov wr_259 m m₉) → (zW (m 94 7) (m 98) (m 101) (m 102) (m 108)) → (zGW T (m 94 55) (m 109)) → (zGU T (m 94 46) (m 99)) → (zOw (m 99) (m 103) (m 111)) → (zDX (m 94 10) (m 99) (m 112) (m 113) (m 114) (m 94 55) (m 98) (m 101) (m 102) (m 108)) → (zGG (m 94 58) (m 94 56) (m 94 57) (m 106)) → (zHA (m 94 10) (m 94 11) (m 94 13) (m 94 14) (m 94 16) (m 94 61) (m 94 59) (m 94 60) (m 99) (m 102) (m 103) (m 111) (m 117) (m 98) (m 101) (m 108)) → (zRG (m 94 10) (m 94 18) (m 94 64) (m 94 63) (m 99) (m 103) (m 102) (m 116)) → ((m 94 58).toInt = 0 ∨ (m 94 10).toInt = 5) → (qBl aa ix pa (m₉ 94 0) v) → P (some (.inl v)) (zov wr_259 m m₉)) : zm X 2 45 259 0 [(0, .inr (.inr (some 94))), (1, .inl ix), (2, .inl pa)] m P := by
  have K : ∀ v m₉, zF wr_259 m m₉ → zV m₉ → (zW (m₉ 94 7) (m₉ 98) (m₉ 101) (m₉ 102) (m₉ 108)) → (zGW T (m₉ 94 55) (m₉ 109)) → (zGU T (m₉ 94 46) (m₉ 99)) → (zOw (m₉ 99) (m₉ 103) (m₉ 111)) → (zDX (m₉ 94 10) (m₉ 99) (m₉ 112) (m₉ 113) (m₉ 114) (m₉ 94 55) (m₉ 98) (m₉ 101) (m₉ 102) (m₉ 108)) → (zGG (m₉ 94 58) (m₉ 94 56) (m₉ 94 57) (m₉ 106)) → (zHA (m₉ 94 10) (m₉ 94 11) (m₉ 94 13) (m₉ 94 14) (m₉ 94 16) (m₉ 94 61) (m₉ 94 59) (m₉ 94 60) (m₉ 99) (m₉ 102) (m₉ 103) (m₉ 111) (m₉ 117) (m₉ 98) (m₉ 101) (m₉ 108)) → (zRG (m₉ 94 10) (m₉ 94 18) (m₉ 94 64) (m₉ 94 63) (m₉ 99) (m₉ 103) (m₉ 102) (m₉ 116)) → ((m₉ 94 58).toInt = 0 ∨ (m₉ 94 10).toInt = 5) → (qBl aa ix pa (m₉ 94 0) v) → P (some (.inl v)) m₉ := by
    intro v m₉ hf z q0 q1 q2 q3 q4 q5 q6 q7 q8 q9
    have e := zov_eq hf
    rw [e] at z ⊢
    try rw [e] at q0
    try rw [e] at q1
    try rw [e] at q2
    try rw [e] at q3
    try rw [e] at q4
    try rw [e] at q5
    try rw [e] at q6
    try rw [e] at q7
    try rw [e] at q8
    try rw [e] at q9
    exact KZ v m₉ z q0 q1 q2 q3 q4 q5 q6 q7 q8 q9
  refine g_259_0 ix pa ?_
  have f1 : 0 ≤ (m 94 58).toInt ∧ (m 94 58).toInt ≤ 1 := rs_94_58 (m := m) hV
  have f2 : 0 ≤ (m 94 10).toInt ∧ (m 94 10).toInt ≤ 6 := rs_94_10 (m := m) hV
  have f3 : 0 ≤ (m 94 8).toInt ∧ (m 94 8).toInt ≤ 1 := rs_94_8 (m := m) hV
  have li4 : (0 : Int32).toInt = 0 := rfl
  refine zd (fun (h5 : (m 94 10) = (0 : Int32)) => ?_) (fun (h5 : ¬ (m 94 10) = (0 : Int32)) => ?_)
  · skip
    have g6 := i_eq h5
    have b7 := i_bd pa
    refine zd (fun (h8 : pa < (0 : Int32)) => ?_) (fun (h8 : ¬ pa < (0 : Int32)) => ?_)
    · skip
      have g9 := i_lt h8
      have hV10 : zV (ma_u m 94 0 (1 : Int32)) := uf_94_0 hV
      exact K ((0 : Int32)) _ (zF_u zF_rfl rfl) hV10 r_W r_GW r_GU r_OW r_DX r_GG r_HA r_RGc (show (m 94 58).toInt = 0 ∨ (m 94 10).toInt = 5 from by omega) (show qBl aa ix pa (1 : Int32) (0 : Int32) from by first | (exact Or.inl ⟨by omega, (by first | omega | rfl)⟩) | (exfalso; omega; done) | (exfalso; contradiction; done))
    · skip
      have g11 := i_nlt h8
      have li12 : (1 : Int32).toInt = 1 := rfl
      refine zd (fun (h13 : pa ≤ (1 : Int32)) => ?_) (fun (h13 : ¬ pa ≤ (1 : Int32)) => ?_)
      · skip
        have g14 := i_le h13
        refine zd (fun (h15 : (m 94 8) = (0 : Int32)) => ?_) (fun (h15 : ¬ (m 94 8) = (0 : Int32)) => ?_)
        · skip
          have g16 := i_eq h15
          have hV17 : zV (ma_u m 94 0 (2 : Int32)) := uf_94_0 hV
          exact K ((0 : Int32)) _ (zF_u zF_rfl rfl) hV17 r_W r_GW r_GU r_OW r_DX r_GG r_HA r_RGc (show (m 94 58).toInt = 0 ∨ (m 94 10).toInt = 5 from by omega) (show qBl aa ix pa (2 : Int32) (0 : Int32) from by first | (exact Or.inl ⟨by omega, (by first | omega | rfl)⟩) | (exfalso; omega; done) | (exfalso; contradiction; done))
        · skip
          have g18 := i_ne h15
          have f19 : 0 ≤ (m 94 11).toInt ∧ (m 94 11).toInt ≤ 1500 := rs_94_11 (m := m) hV
          have hV20 : zV (ma_u m 94 0 (0 : Int32)) := uf_94_0 hV
          refine sp_226r (aa := aa) ((0 : Int32)) ((m 94 11)) hV20 (show 0 ≤ (0 : Int32).toInt ∧ (0 : Int32).toInt ≤ (m 94 11).toInt from by omega) (show (m 94 11).toInt = (m 94 11).toInt from by omega) (show qGd aa (0 : Int32).toInt from by first | (exact Gd_0 r_QI) | (exfalso; omega; done) | (exfalso; contradiction; done)) r_RB r_QI r_OW (fun v2 m1 hV_m1 p0_m1 p1_m1 => zmi_n ?_)
          have p0_m1 : v2.toInt = -1 ∨ ((0 : Int32).toInt ≤ v2.toInt ∧ v2.toInt < (m 94 11).toInt ∧ 1 ≤ (m1 94 84).toInt ∧ v2.toInt + (m1 94 84).toInt ≤ (m 94 11).toInt) := p0_m1
          have p1_m1 : qBF aa (0 : Int32).toInt (m 94 11).toInt v2.toInt (m1 94 84).toInt := p1_m1
          have f21 : 0 ≤ (m1 94 84).toInt ∧ (m1 94 84).toInt ≤ 4600 := rs_94_84 (m := (zov wr_226 (ma_u m 94 0 (0 : Int32)) m1)) hV_m1
          have b22 := i_bd ix
          have b23 := i_bd v2
          exact lp_259rb_85 (ix := ix) (pa := pa) hV K _ _ (ix) (pa) (v2) ((0 : Int32)) rfl (zF_zov (zF_u zF_rfl rfl) ws_226_259) hV_m1 (by omega) (by omega) (by omega) (by omega) (by omega) (show (m 94 8).toInt = 1 from by omega) (show v2.toInt = -1 ∨ (0 ≤ v2.toInt ∧ v2.toInt < (m 94 11).toInt ∧ 1 ≤ (m1 94 84).toInt ∧ v2.toInt + (m1 94 84).toInt ≤ (m 94 11).toInt) from by omega) r_W r_GW r_GU r_OW r_DX r_GG r_HA r_RGc (show (m 94 58).toInt = 0 ∨ (m 94 10).toInt = 5 from by omega) r_RB r_QI (show qBk aa (m 94 11).toInt v2.toInt (m1 94 84).toInt (ix.toInt - (0 : Int32).toInt).toNat (aBk aa ix.toInt.toNat (aN aa 0)) from by first | (exact Bk_of (congrArg Int32.toInt r_RB.2.2.2.2.2.2.2.2.1) p1_m1 (by rw [show (ix.toInt - (0 : Int32).toInt).toNat = ix.toInt.toNat from by omega]; rfl)) | (have q := r_BKi; rw [show (ix.toInt - l5.toInt).toNat = (ix.toInt - (l5 + (1 : Int32)).toInt).toNat + 1 from by omega] at q; exact Bk_go (congrArg Int32.toInt r_RB.2.2.2.2.2.2.2.2.1) q (by omega) (by omega) p1_m1; done) | (exfalso; omega; done) | (exfalso; contradiction; done))
      · skip
        have g24 := i_nle h13
        have hV25 : zV (ma_u m 94 0 (1 : Int32)) := uf_94_0 hV
        exact K ((0 : Int32)) _ (zF_u zF_rfl rfl) hV25 r_W r_GW r_GU r_OW r_DX r_GG r_HA r_RGc (show (m 94 58).toInt = 0 ∨ (m 94 10).toInt = 5 from by omega) (show qBl aa ix pa (1 : Int32) (0 : Int32) from by first | (exact Or.inl ⟨by omega, (by first | omega | rfl)⟩) | (exfalso; omega; done) | (exfalso; contradiction; done))
  · skip
    have g26 := i_ne h5
    have li27 : (4 : Int32).toInt = 4 := rfl
    refine zd (fun (h28 : (m 94 10) = (4 : Int32)) => ?_) (fun (h28 : ¬ (m 94 10) = (4 : Int32)) => ?_)
    · skip
      have g29 := i_eq h28
      have b30 := i_bd pa
      refine zd (fun (h31 : pa < (0 : Int32)) => ?_) (fun (h31 : ¬ pa < (0 : Int32)) => ?_)
      · skip
        have g32 := i_lt h31
        have hV33 : zV (ma_u m 94 0 (1 : Int32)) := uf_94_0 hV
        exact K ((0 : Int32)) _ (zF_u zF_rfl rfl) hV33 r_W r_GW r_GU r_OW r_DX r_GG r_HA r_RGc (show (m 94 58).toInt = 0 ∨ (m 94 10).toInt = 5 from by omega) (show qBl aa ix pa (1 : Int32) (0 : Int32) from by first | (exact Or.inl ⟨by omega, (by first | omega | rfl)⟩) | (exfalso; omega; done) | (exfalso; contradiction; done))
      · skip
        have g34 := i_nlt h31
        have li35 : (1 : Int32).toInt = 1 := rfl
        refine zd (fun (h36 : pa ≤ (1 : Int32)) => ?_) (fun (h36 : ¬ pa ≤ (1 : Int32)) => ?_)
        · skip
          have g37 := i_le h36
          refine zd (fun (h38 : (m 94 8) = (0 : Int32)) => ?_) (fun (h38 : ¬ (m 94 8) = (0 : Int32)) => ?_)
          · skip
            have g39 := i_eq h38
            have hV40 : zV (ma_u m 94 0 (2 : Int32)) := uf_94_0 hV
            exact K ((0 : Int32)) _ (zF_u zF_rfl rfl) hV40 r_W r_GW r_GU r_OW r_DX r_GG r_HA r_RGc (show (m 94 58).toInt = 0 ∨ (m 94 10).toInt = 5 from by omega) (show qBl aa ix pa (2 : Int32) (0 : Int32) from by first | (exact Or.inl ⟨by omega, (by first | omega | rfl)⟩) | (exfalso; omega; done) | (exfalso; contradiction; done))
          · skip
            have g41 := i_ne h38
            have f42 : 0 ≤ (m 94 11).toInt ∧ (m 94 11).toInt ≤ 1500 := rs_94_11 (m := m) hV
            have hV43 : zV (ma_u m 94 0 (0 : Int32)) := uf_94_0 hV
            refine sp_226r (aa := aa) ((0 : Int32)) ((m 94 11)) hV43 (show 0 ≤ (0 : Int32).toInt ∧ (0 : Int32).toInt ≤ (m 94 11).toInt from by omega) (show (m 94 11).toInt = (m 94 11).toInt from by omega) (show qGd aa (0 : Int32).toInt from by first | (exact Gd_0 r_QI) | (exfalso; omega; done) | (exfalso; contradiction; done)) r_RB r_QI r_OW (fun v4 m3 hV_m3 p0_m3 p1_m3 => zmi_n ?_)
            have p0_m3 : v4.toInt = -1 ∨ ((0 : Int32).toInt ≤ v4.toInt ∧ v4.toInt < (m 94 11).toInt ∧ 1 ≤ (m3 94 84).toInt ∧ v4.toInt + (m3 94 84).toInt ≤ (m 94 11).toInt) := p0_m3
            have p1_m3 : qBF aa (0 : Int32).toInt (m 94 11).toInt v4.toInt (m3 94 84).toInt := p1_m3
            have f44 : 0 ≤ (m3 94 84).toInt ∧ (m3 94 84).toInt ≤ 4600 := rs_94_84 (m := (zov wr_226 (ma_u m 94 0 (0 : Int32)) m3)) hV_m3
            have b45 := i_bd ix
            have b46 := i_bd v4
            exact lp_259rb_85 (ix := ix) (pa := pa) hV K _ _ (ix) (pa) (v4) ((0 : Int32)) rfl (zF_zov (zF_u zF_rfl rfl) ws_226_259) hV_m3 (by omega) (by omega) (by omega) (by omega) (by omega) (show (m 94 8).toInt = 1 from by omega) (show v4.toInt = -1 ∨ (0 ≤ v4.toInt ∧ v4.toInt < (m 94 11).toInt ∧ 1 ≤ (m3 94 84).toInt ∧ v4.toInt + (m3 94 84).toInt ≤ (m 94 11).toInt) from by omega) r_W r_GW r_GU r_OW r_DX r_GG r_HA r_RGc (show (m 94 58).toInt = 0 ∨ (m 94 10).toInt = 5 from by omega) r_RB r_QI (show qBk aa (m 94 11).toInt v4.toInt (m3 94 84).toInt (ix.toInt - (0 : Int32).toInt).toNat (aBk aa ix.toInt.toNat (aN aa 0)) from by first | (exact Bk_of (congrArg Int32.toInt r_RB.2.2.2.2.2.2.2.2.1) p1_m3 (by rw [show (ix.toInt - (0 : Int32).toInt).toNat = ix.toInt.toNat from by omega]; rfl)) | (have q := r_BKi; rw [show (ix.toInt - l5.toInt).toNat = (ix.toInt - (l5 + (1 : Int32)).toInt).toNat + 1 from by omega] at q; exact Bk_go (congrArg Int32.toInt r_RB.2.2.2.2.2.2.2.2.1) q (by omega) (by omega) p1_m3; done) | (exfalso; omega; done) | (exfalso; contradiction; done))
        · skip
          have g47 := i_nle h36
          have hV48 : zV (ma_u m 94 0 (1 : Int32)) := uf_94_0 hV
          exact K ((0 : Int32)) _ (zF_u zF_rfl rfl) hV48 r_W r_GW r_GU r_OW r_DX r_GG r_HA r_RGc (show (m 94 58).toInt = 0 ∨ (m 94 10).toInt = 5 from by omega) (show qBl aa ix pa (1 : Int32) (0 : Int32) from by first | (exact Or.inl ⟨by omega, (by first | omega | rfl)⟩) | (exfalso; omega; done) | (exfalso; contradiction; done))
    · skip
      have g49 := i_ne h28
      have li50 : (5 : Int32).toInt = 5 := rfl
      refine zd (fun (h51 : (m 94 10) = (5 : Int32)) => ?_) (fun (h51 : ¬ (m 94 10) = (5 : Int32)) => ?_)
      · skip
        have g52 := i_eq h51
        have b53 := i_bd pa
        refine zd (fun (h54 : pa < (0 : Int32)) => ?_) (fun (h54 : ¬ pa < (0 : Int32)) => ?_)
        · skip
          have g55 := i_lt h54
          have hV56 : zV (ma_u m 94 0 (1 : Int32)) := uf_94_0 hV
          exact K ((0 : Int32)) _ (zF_u zF_rfl rfl) hV56 r_W r_GW r_GU r_OW r_DX r_GG r_HA r_RGc (show (m 94 58).toInt = 0 ∨ (m 94 10).toInt = 5 from by omega) (show qBl aa ix pa (1 : Int32) (0 : Int32) from by first | (exact Or.inl ⟨by omega, (by first | omega | rfl)⟩) | (exfalso; omega; done) | (exfalso; contradiction; done))
        · skip
          have g57 := i_nlt h54
          have li58 : (1 : Int32).toInt = 1 := rfl
          refine zd (fun (h59 : pa ≤ (1 : Int32)) => ?_) (fun (h59 : ¬ pa ≤ (1 : Int32)) => ?_)
          · skip
            have g60 := i_le h59
            refine zd (fun (h61 : (m 94 8) = (0 : Int32)) => ?_) (fun (h61 : ¬ (m 94 8) = (0 : Int32)) => ?_)
            · skip
              have g62 := i_eq h61
              have hV63 : zV (ma_u m 94 0 (2 : Int32)) := uf_94_0 hV
              exact K ((0 : Int32)) _ (zF_u zF_rfl rfl) hV63 r_W r_GW r_GU r_OW r_DX r_GG r_HA r_RGc (show (m 94 58).toInt = 0 ∨ (m 94 10).toInt = 5 from by omega) (show qBl aa ix pa (2 : Int32) (0 : Int32) from by first | (exact Or.inl ⟨by omega, (by first | omega | rfl)⟩) | (exfalso; omega; done) | (exfalso; contradiction; done))
            · skip
              have g64 := i_ne h61
              have f65 : 0 ≤ (m 94 11).toInt ∧ (m 94 11).toInt ≤ 1500 := rs_94_11 (m := m) hV
              have hV66 : zV (ma_u m 94 0 (0 : Int32)) := uf_94_0 hV
              refine sp_226r (aa := aa) ((0 : Int32)) ((m 94 11)) hV66 (show 0 ≤ (0 : Int32).toInt ∧ (0 : Int32).toInt ≤ (m 94 11).toInt from by omega) (show (m 94 11).toInt = (m 94 11).toInt from by omega) (show qGd aa (0 : Int32).toInt from by first | (exact Gd_0 r_QI) | (exfalso; omega; done) | (exfalso; contradiction; done)) r_RB r_QI r_OW (fun v6 m5 hV_m5 p0_m5 p1_m5 => zmi_n ?_)
              have p0_m5 : v6.toInt = -1 ∨ ((0 : Int32).toInt ≤ v6.toInt ∧ v6.toInt < (m 94 11).toInt ∧ 1 ≤ (m5 94 84).toInt ∧ v6.toInt + (m5 94 84).toInt ≤ (m 94 11).toInt) := p0_m5
              have p1_m5 : qBF aa (0 : Int32).toInt (m 94 11).toInt v6.toInt (m5 94 84).toInt := p1_m5
              have f67 : 0 ≤ (m5 94 84).toInt ∧ (m5 94 84).toInt ≤ 4600 := rs_94_84 (m := (zov wr_226 (ma_u m 94 0 (0 : Int32)) m5)) hV_m5
              have b68 := i_bd ix
              have b69 := i_bd v6
              exact lp_259rb_85 (ix := ix) (pa := pa) hV K _ _ (ix) (pa) (v6) ((0 : Int32)) rfl (zF_zov (zF_u zF_rfl rfl) ws_226_259) hV_m5 (by omega) (by omega) (by omega) (by omega) (by omega) (show (m 94 8).toInt = 1 from by omega) (show v6.toInt = -1 ∨ (0 ≤ v6.toInt ∧ v6.toInt < (m 94 11).toInt ∧ 1 ≤ (m5 94 84).toInt ∧ v6.toInt + (m5 94 84).toInt ≤ (m 94 11).toInt) from by omega) r_W r_GW r_GU r_OW r_DX r_GG r_HA r_RGc (show (m 94 58).toInt = 0 ∨ (m 94 10).toInt = 5 from by omega) r_RB r_QI (show qBk aa (m 94 11).toInt v6.toInt (m5 94 84).toInt (ix.toInt - (0 : Int32).toInt).toNat (aBk aa ix.toInt.toNat (aN aa 0)) from by first | (exact Bk_of (congrArg Int32.toInt r_RB.2.2.2.2.2.2.2.2.1) p1_m5 (by rw [show (ix.toInt - (0 : Int32).toInt).toNat = ix.toInt.toNat from by omega]; rfl)) | (have q := r_BKi; rw [show (ix.toInt - l5.toInt).toNat = (ix.toInt - (l5 + (1 : Int32)).toInt).toNat + 1 from by omega] at q; exact Bk_go (congrArg Int32.toInt r_RB.2.2.2.2.2.2.2.2.1) q (by omega) (by omega) p1_m5; done) | (exfalso; omega; done) | (exfalso; contradiction; done))
          · skip
            have g70 := i_nle h59
            have hV71 : zV (ma_u m 94 0 (1 : Int32)) := uf_94_0 hV
            exact K ((0 : Int32)) _ (zF_u zF_rfl rfl) hV71 r_W r_GW r_GU r_OW r_DX r_GG r_HA r_RGc (show (m 94 58).toInt = 0 ∨ (m 94 10).toInt = 5 from by omega) (show qBl aa ix pa (1 : Int32) (0 : Int32) from by first | (exact Or.inl ⟨by omega, (by first | omega | rfl)⟩) | (exfalso; omega; done) | (exfalso; contradiction; done))
      · skip
        have g72 := i_ne h51
        have b73 := i_bd pa
        refine zd (fun (h74 : pa < (0 : Int32)) => ?_) (fun (h74 : ¬ pa < (0 : Int32)) => ?_)
        · skip
          have g75 := i_lt h74
          have hV76 : zV (ma_u m 94 0 (1 : Int32)) := uf_94_0 hV
          exact K ((0 : Int32)) _ (zF_u zF_rfl rfl) hV76 r_W r_GW r_GU r_OW r_DX r_GG r_HA r_RGc (show (m 94 58).toInt = 0 ∨ (m 94 10).toInt = 5 from by omega) (show qBl aa ix pa (1 : Int32) (0 : Int32) from by first | (exact Or.inl ⟨by omega, (by first | omega | rfl)⟩) | (exfalso; omega; done) | (exfalso; contradiction; done))
        · skip
          have g77 := i_nlt h74
          have li78 : (1 : Int32).toInt = 1 := rfl
          refine zd (fun (h79 : pa ≤ (1 : Int32)) => ?_) (fun (h79 : ¬ pa ≤ (1 : Int32)) => ?_)
          · skip
            have g80 := i_le h79
            refine zd (fun (h81 : (m 94 8) = (0 : Int32)) => ?_) (fun (h81 : ¬ (m 94 8) = (0 : Int32)) => ?_)
            · skip
              have g82 := i_eq h81
              have hV83 : zV (ma_u m 94 0 (2 : Int32)) := uf_94_0 hV
              exact K ((0 : Int32)) _ (zF_u zF_rfl rfl) hV83 r_W r_GW r_GU r_OW r_DX r_GG r_HA r_RGc (show (m 94 58).toInt = 0 ∨ (m 94 10).toInt = 5 from by omega) (show qBl aa ix pa (2 : Int32) (0 : Int32) from by first | (exact Or.inl ⟨by omega, (by first | omega | rfl)⟩) | (exfalso; omega; done) | (exfalso; contradiction; done))
            · skip
              have g84 := i_ne h81
              have hV85 : zV (ma_u m 94 0 (3 : Int32)) := uf_94_0 hV
              exact K ((0 : Int32)) _ (zF_u zF_rfl rfl) hV85 r_W r_GW r_GU r_OW r_DX r_GG r_HA r_RGc (show (m 94 58).toInt = 0 ∨ (m 94 10).toInt = 5 from by omega) (show qBl aa ix pa (3 : Int32) (0 : Int32) from by first | (exact Or.inl ⟨by omega, (by first | omega | rfl)⟩) | (exfalso; omega; done) | (exfalso; contradiction; done))
          · skip
            have g86 := i_nle h79
            have hV87 : zV (ma_u m 94 0 (1 : Int32)) := uf_94_0 hV
            exact K ((0 : Int32)) _ (zF_u zF_rfl rfl) hV87 r_W r_GW r_GU r_OW r_DX r_GG r_HA r_RGc (show (m 94 58).toInt = 0 ∨ (m 94 10).toInt = 5 from by omega) (show qBl aa ix pa (1 : Int32) (0 : Int32) from by first | (exact Or.inl ⟨by omega, (by first | omega | rfl)⟩) | (exfalso; omega; done) | (exfalso; contradiction; done))

/-! from 95.m10 -/
/-! COUNTS, the class (written by wip/tools/gen20k.py) -/
/-! COUNTS: how many refer to one -/
def cSu (f : Nat → Nat) : Nat → Nat
  | 0 => 0
  | n + 1 => cSu f n + f n
def cIs (x : Int32) (n : Nat) : Nat := if x = Int32.ofNat n then 1 else 0
def cRo (a : Nat → Nat → Int32) (n : Nat) : Nat := cSu (fun k => cIs (a 72 k) n) 16
def cWi (a : Nat → Nat → Int32) (n : Nat) : Nat := cSu (fun k => cIs (a 74 k) n) (a 69 5).toInt.toNat
def cOb (a : Nat → Nat → Int32) (m n : Nat) : Nat := cSu (fun i => cIs (aRef a m (Int32.ofNat i)) n) ((a 128 m).toInt - 1).toNat
def cTm (a : Nat → Nat → Int32) (n m : Nat) : Nat := if a 126 m = 0 then 0 else cOb a m n
def cTh (a : Nat → Nat → Int32) (n : Nat) : Nat := cSu (cTm a n) 512
def cRf (a : Nat → Nat → Int32) (n : Nat) : Int := (cRo a n : Int) + (cWi a n : Int) + (a 133 n).toInt + (cTh a n : Int)
/-- places, sizes, bits: what of the heap's shape counting wants -/
def cQI (a : Nat → Nat → Int32) : Prop := (∀ n, xAl a n → 0 ≤ (a 130 n).toInt ∧ (1 ≤ (a 128 n).toInt ∧ (a 128 n).toInt ≤ 61) ∧ (a 130 n).toInt + (a 128 n).toInt ≤ 4500) ∧ qI2 a ∧ qI6 a
/-- no matter of a walk, nor of the collector -/
def zO8 (a b : Nat → Nat → Int32) : Prop := ∀ c k, c ≠ 75 → c ≠ 76 → c ≠ 77 → c ≠ 87 → a c k = b c k
section CA
variable {a b : Nat → Nat → Int32} {x y i j : Int32} {n m k u c : Nat} {f g : Nat → Nat}
theorem cSu_cg : ∀ n, (∀ k, k < n → f k = g k) → cSu f n = cSu g n := by
  intro n
  induction n with
  | zero => intro _; rfl
  | succ n ih =>
    intro h
    show cSu f n + f n = cSu g n + g n
    rw [ih (fun k hk => h k (by omega)), h n (by omega)]
theorem cSu_up {j : Nat} : ∀ n, j < n → (∀ k, k < n → k ≠ j → g k = f k) → cSu g n + f j = cSu f n + g j := by
  intro n
  induction n with
  | zero => intro h; omega
  | succ n ih =>
    intro h e
    show cSu g n + g n + f j = cSu f n + f n + g j
    by_cases w : j = n
    · rw [w, cSu_cg (f := g) (g := f) n (fun k hk => e k (by omega) (by omega))]
      omega
    · have q := ih (by omega) (fun k hk => e k (by omega))
      rw [e n (by omega) (fun z => w z.symm)]
      omega
theorem cSu_le : ∀ n, k < n → f k ≤ cSu f n := by
  intro n
  induction n with
  | zero => intro h; omega
  | succ n ih =>
    intro h
    show f k ≤ cSu f n + f n
    by_cases w : k = n
    · rw [w]; omega
    · have q := ih (by omega)
      omega
theorem cSu_bd {B : Nat} : ∀ n, (∀ k, k < n → f k ≤ B) → cSu f n ≤ n * B := by
  intro n
  induction n with
  | zero => intro _; exact Nat.zero_le _
  | succ n ih =>
    intro h
    show cSu f n + f n ≤ (n + 1) * B
    have h1 := ih (fun k hk => h k (by omega))
    have h2 := h n (by omega)
    rw [Nat.succ_mul]
    omega
theorem cSu_z : ∀ n, (∀ k, k < n → f k = 0) → cSu f n = 0 := by
  intro n
  induction n with
  | zero => intro _; rfl
  | succ n ih =>
    intro h
    show cSu f n + f n = 0
    rw [ih (fun k hk => h k (by omega)), h n (by omega)]
theorem cSu_sh : ∀ n, cSu f (n + 1) = f 0 + cSu (fun k => f (k + 1)) n := by
  intro n
  induction n with
  | zero => show 0 + f 0 = f 0 + 0; omega
  | succ n ih =>
    show cSu f (n + 1) + f (n + 1) = f 0 + (cSu (fun k => f (k + 1)) n + f (n + 1))
    rw [ih]
    omega
theorem cIs_1 (h : x = Int32.ofNat n) : cIs x n = 1 := if_pos h
theorem cIs_0 (h : ¬ x = Int32.ofNat n) : cIs x n = 0 := if_neg h
theorem cIs_le : cIs x n ≤ 1 := by
  unfold cIs
  split <;> omega
theorem cIs_n (h : x.toInt < 0) (hn : n < 512) : cIs x n = 0 := cIs_0 (fun e => by have q := ofN_i hn; rw [e] at h; omega)
theorem cIs_r (h : x.toInt < 0 ∨ 512 ≤ x.toInt) (hn : n < 512) : cIs x n = 0 := cIs_0 (fun e => by have q := ofN_i hn; rw [e] at h; omega)
theorem cIs_y (h0 : 0 ≤ y.toInt) (hn : n < 512) (h : n ≠ y.toNatClampNeg) : cIs y n = 0 := cIs_0 (fun e => by
  have q := ofN_i hn
  have c := tn_cast h0
  rw [← e] at q
  omega)
theorem cIs_s (h0 : 0 ≤ y.toInt) : cIs y y.toNatClampNeg = 1 := cIs_1 (ofN_tn h0).symm
theorem Wi_cg (h2 : b 69 5 = a 69 5) (h3 : b 74 = a 74) : cWi b n = cWi a n := by
  unfold cWi
  rw [h2, h3]
theorem Ro_cg (h : b 72 = a 72) : cRo b n = cRo a n := by
  unfold cRo
  rw [h]
theorem Ob_cg (h : b 128 m = a 128 m) (h2 : ∀ i : Nat, (i : Int) < (a 128 m).toInt - 1 → aRef b m (Int32.ofNat i) = aRef a m (Int32.ofNat i)) : cOb b m n = cOb a m n := by
  unfold cOb
  rw [h]
  exact cSu_cg _ (fun k hk => by rw [h2 k (by omega)])
theorem Tm_cg (h1 : b 126 m = a 126 m) (h : b 128 m = a 128 m) (h2 : a 126 m ≠ 0 → ∀ i : Nat, (i : Int) < (a 128 m).toInt - 1 → aRef b m (Int32.ofNat i) = aRef a m (Int32.ofNat i)) : cTm b n m = cTm a n m := by
  unfold cTm
  rw [h1]
  by_cases z : a 126 m = 0
  · rw [if_pos z, if_pos z]
  · rw [if_neg z, if_neg z, Ob_cg h (h2 z)]
theorem Th_cg (h : ∀ m, m < 512 → cTm b n m = cTm a n m) : cTh b n = cTh a n := cSu_cg 512 h
theorem Rf_cg (h1 : cRo b n = cRo a n) (h2 : cWi b n = cWi a n) (h3 : b 133 n = a 133 n) (h4 : cTh b n = cTh a n) : cRf b n = cRf a n := by
  unfold cRf
  rw [h1, h2, h3, h4]
theorem Th_u (hc : c ≠ 126 ∧ c ≠ 128 ∧ c ≠ 130 ∧ c ≠ 71 ∧ c < 1000) : cTh (ma_u a c k x) n = cTh a n :=
  Th_cg (fun m _ => Tm_cg (congrFun (un (fun z => hc.1 z.symm)) m) (congrFun (un (fun z => hc.2.1 z.symm)) m) (fun _ i _ => rf_cg (un (by omega)) (un (fun z => hc.2.2.1 z.symm)) (un (fun z => hc.2.2.2.1 z.symm))))
theorem Rf_u (hc : c ≠ 126 ∧ c ≠ 128 ∧ c ≠ 130 ∧ c ≠ 71 ∧ c < 1000) (h2 : c ≠ 72 ∧ c ≠ 69 ∧ c ≠ 74 ∧ c ≠ 133) : cRf (ma_u a c k x) n = cRf a n :=
  Rf_cg (Ro_cg (un (by omega))) (Wi_cg (congrFun (un (by omega)) 5) (un (by omega))) (congrFun (un (by omega)) n) (Th_u hc)
theorem Rf_o8 (h : zO8 a b) : cRf a n = cRf b n := by
  have r : ∀ c, c ≠ 75 → c ≠ 76 → c ≠ 77 → c ≠ 87 → a c = b c := fun c h1 h2 h3 h4 => funext (fun k => h c k h1 h2 h3 h4)
  have e74 := r 74 (by decide) (by decide) (by decide) (by decide)
  have e72 := r 72 (by decide) (by decide) (by decide) (by decide)
  have e71 := r 71 (by decide) (by decide) (by decide) (by decide)
  have e69 := r 69 (by decide) (by decide) (by decide) (by decide)
  have e126 := r 126 (by decide) (by decide) (by decide) (by decide)
  have e128 := r 128 (by decide) (by decide) (by decide) (by decide)
  have e130 := r 130 (by decide) (by decide) (by decide) (by decide)
  have e133 := r 133 (by decide) (by decide) (by decide) (by decide)
  exact Rf_cg (Ro_cg e72) (Wi_cg (congrFun e69 5) e74) (congrFun e133 n) (Th_cg (fun m _ => Tm_cg (congrFun e126 m) (congrFun e128 m) (fun _ i _ => rf_cg (r (1000 + m) (by omega) (by omega) (by omega) (by omega)) e130 e71)))
theorem Rf_rt (hi : k < 16) : cRf (ma_u a 72 k x) n + (cIs (a 72 k) n : Int) = cRf a n + (cIs x n : Int) := by
  have e : cSu (fun j => cIs (ma_u a 72 k x 72 j) n) 16 + cIs (a 72 k) n = cSu (fun j => cIs (a 72 j) n) 16 + cIs (ma_u a 72 k x 72 k) n := cSu_up (f := fun j => cIs (a 72 j) n) (g := fun j => cIs (ma_u a 72 k x 72 j) n) 16 hi (fun j _ hj => congrArg (fun q => cIs q n) (mu_ne hj))
  rw [mu_self] at e
  have e1 : cRo (ma_u a 72 k x) n + cIs (a 72 k) n = cRo a n + cIs x n := e
  have e2 : cWi (ma_u a 72 k x) n = cWi a n := Wi_cg (congrFun (un (by decide)) 5) (un (by decide))
  have e3 : ma_u a 72 k x 133 n = a 133 n := congrFun (un (by decide)) n
  have e4 : cTh (ma_u a 72 k x) n = cTh a n := Th_u (by decide)
  unfold cRf
  rw [e2, e3, e4]
  omega
theorem Rf_ho : cRf (ma_u a 133 k x) n = cRf a n + (if n = k then x.toInt - (a 133 k).toInt else 0) := by
  have e1 : cRo (ma_u a 133 k x) n = cRo a n := Ro_cg (un (by decide))
  have e2 : cWi (ma_u a 133 k x) n = cWi a n := Wi_cg (congrFun (un (by decide)) 5) (un (by decide))
  have e4 : cTh (ma_u a 133 k x) n = cTh a n := Th_u (by decide)
  unfold cRf
  rw [e1, e2, e4]
  by_cases w : n = k
  · rw [w, mu_self, if_pos rfl]
    omega
  · rw [mu_ne w, if_neg w]
    omega
theorem Wi_gr (h0 : 0 ≤ (a 69 5).toInt) (h : (a 69 5).toInt < 512) : cWi (aGr a y) n = cWi a n + cIs y n := by
  obtain ⟨g1, g2, g3, _⟩ := gr_5 (y := y) h
  have e1 := i_p1 (i := a 69 5) (by omega)
  have c := tn_cast h0
  unfold cWi
  rw [g1, e1, show ((a 69 5).toInt + 1).toNat = (a 69 5).toNatClampNeg + 1 from by omega, show (a 69 5).toInt.toNat = (a 69 5).toNatClampNeg from by omega]
  show cSu (fun k => cIs (aGr a y 74 k) n) (a 69 5).toNatClampNeg + cIs (aGr a y 74 (a 69 5).toNatClampNeg) n = _
  rw [g2, cSu_cg (f := fun k => cIs (aGr a y 74 k) n) (g := fun k => cIs (a 74 k) n) _ (fun k hk => congrArg (fun q => cIs q n) (g3 k (by omega)))]
theorem Th_gr : cTh (aGr a y) n = cTh a n := Th_cg (fun m _ => Tm_cg (congrFun (gr_r (by decide) (by decide) (by decide) (by decide)) m) (congrFun (gr_r (by decide) (by decide) (by decide) (by decide)) m) (fun _ i _ => gr_ref))
theorem Rf_gr (h0 : 0 ≤ (a 69 5).toInt) (h : (a 69 5).toInt < 512) : cRf (aGr a y) n = cRf a n + (cIs y n : Int) := by
  have e1 : cRo (aGr a y) n = cRo a n := Ro_cg (gr_r (by decide) (by decide) (by decide) (by decide))
  have e2 := Wi_gr (y := y) (n := n) h0 h
  have e3 : aGr a y 133 n = a 133 n := congrFun (gr_r (by decide) (by decide) (by decide) (by decide)) n
  unfold cRf
  rw [e1, e2, e3, Th_gr]
  omega
theorem Rf_gn (h : ¬ (a 69 5).toInt < 512) : cRf (aGr a y) n = cRf a n := by
  have e : aGr a y = ma_u (zUw a y 16) 134 y.toNatClampNeg 0 := if_neg h
  rw [e, Rf_u (by decide) (by decide)]
  have z : ∀ c, c ≠ 73 → zUw a y 16 c = a c := fun c h => funext (fun k => zUw_o h)
  exact Rf_cg (Ro_cg (z 72 (by decide))) (Wi_cg (congrFun (z 69 (by decide)) 5) (z 74 (by decide))) (congrFun (z 133 (by decide)) n) (Th_cg (fun m _ => Tm_cg (congrFun (z 126 (by decide)) m) (congrFun (z 128 (by decide)) m) (fun _ i _ => rf_cg (z _ (by omega)) (z 130 (by decide)) (z 71 (by decide)))))
theorem Rf_tw (h : 0 < (a 69 5).toInt) (h5 : (a 69 5).toInt ≤ 512) : cRf (aTw a) n + (cIs (a 74 0) n : Int) = cRf a n := by
  have e : aTw a = zSh (ma_u a 69 5 (a 69 5 - 1)) ((a 69 5).toInt - 1) := aTw_y h
  have z : ∀ c, c ≠ 74 → c ≠ 69 → aTw a c = a c := fun c h1 h2 => funext (fun k => by
    rw [e]
    show (if c = 74 ∧ (k : Int) < _ then _ else ma_u a 69 5 (a 69 5 - 1) c k) = a c k
    rw [if_neg (fun w => h1 w.1), xu_o (fun w => h2 w.1)])
  have e5 : aTw a 69 5 = a 69 5 - 1 := by
    rw [e]
    show (if 69 = 74 ∧ _ then _ else ma_u a 69 5 (a 69 5 - 1) 69 5) = _
    rw [if_neg (fun w => absurd w.1 (by decide)), xu_s]
  have s5 : (a 69 5 - 1).toInt = (a 69 5).toInt - 1 := i_subk rfl (by omega) (by omega)
  have e74 : ∀ k : Nat, (k : Int) < (a 69 5).toInt - 1 → aTw a 74 k = a 74 (k + 1) := fun k hk => by
    rw [e]
    show (if 74 = 74 ∧ (k : Int) < _ then ma_u a 69 5 (a 69 5 - 1) 74 (k + 1) else _) = _
    rw [if_pos ⟨rfl, hk⟩, xu_o (fun w => absurd w.1 (by decide))]
  have w1 : cWi (aTw a) n + cIs (a 74 0) n = cWi a n := by
    unfold cWi
    rw [e5, s5, show (a 69 5).toInt.toNat = ((a 69 5).toInt - 1).toNat + 1 from by omega, cSu_sh, cSu_cg (f := fun k => cIs (aTw a 74 k) n) (g := fun k => cIs (a 74 (k + 1)) n) _ (fun k hk => congrArg (fun q => cIs q n) (e74 k (by omega)))]
    omega
  have e1 : cRo (aTw a) n = cRo a n := Ro_cg (z 72 (by decide) (by decide))
  have e3 : aTw a 133 n = a 133 n := congrFun (z 133 (by decide) (by decide)) n
  have e4 : cTh (aTw a) n = cTh a n := Th_cg (fun m _ => Tm_cg (congrFun (z 126 (by decide) (by decide)) m) (congrFun (z 128 (by decide) (by decide)) m) (fun _ i _ => rf_cg (z _ (by omega) (by omega)) (z 130 (by decide) (by decide)) (z 71 (by decide) (by decide))))
  unfold cRf
  rw [e1, e3, e4]
  omega
end CA
/-! words of things -/
section CB
variable {a b : Nat → Nat → Int32} {x y i j : Int32} {n m k u c : Nat}
theorem cQ_I (h : qI a) : cQI a := ⟨fun n hn => by
  have q := h.1 n hn
  have r := h.2.2.2.1.2.2.1
  exact ⟨q.1.2, q.2.1, by omega⟩, h.2.1, h.2.2.2.2.2⟩
theorem cwp_i (hI : cQI a) (h : qWp a n i) : (a 130 n + 1 + i).toInt = (a 130 n).toInt + 1 + i.toInt ∧ 0 ≤ (a 130 n + 1 + i).toInt ∧ (a 130 n + 1 + i).toInt < 4500 := by
  have q := hI.1 n h.1
  have w := h.2
  have e1 : (a 130 n + 1).toInt = (a 130 n).toInt + 1 := i_p1 (by omega)
  have e2 : (a 130 n + 1 + i).toInt = (a 130 n + 1).toInt + i.toInt := i_add (by omega) (by omega)
  omega
theorem cwp_ne (hI : cQI a) (h : qWp a n i) (h2 : qWp a u j) (hne : ¬ (u = n ∧ j = i)) : ¬ (a 130 u + 1 + j).toNatClampNeg = (a 130 n + 1 + i).toNatClampNeg := by
  have q := cwp_i hI h
  have q2 := cwp_i hI h2
  have c1 := tn_cast q.2.1
  have c2 := tn_cast q2.2.1
  intro e
  by_cases z : u = n
  · rw [z] at q2 c2 e
    exact hne ⟨z, Int32.toInt_inj.mp (by omega)⟩
  · have d := hI.2.1 u n h2.1 h.1 z
    have a1 := h.2
    have a2 := h2.2
    omega
theorem cwp_rf (hI : cQI a) (h : qWp a u j) : aRef a u j = if a (1000 + u) j.toNatClampNeg ≠ 0 then a 71 (a 130 u + 1 + j).toNatClampNeg else -1 := by
  have q := cwp_i hI h
  unfold aRef
  by_cases z : a (1000 + u) j.toNatClampNeg ≠ 0
  · rw [if_pos z, if_pos ⟨z, q.2.1, q.2.2⟩]
  · rw [if_neg z, if_neg (fun w => z w.1)]
theorem cQ_71 (hI : cQI a) : cQI (ma_u a 71 k x) := by
  obtain ⟨h1, h2, h3⟩ := hI
  refine ⟨?_, ?_, ?_⟩
  · rw [Al_71, un (n := 130) (by decide), un (n := 128) (by decide)]
    exact h1
  · unfold qI2
    rw [Al_71, un (n := 130) (by decide), un (n := 128) (by decide)]
    exact h2
  · intro n hn k₉
    rw [Al_71] at hn
    rw [un (by omega)]
    exact h3 n hn k₉
theorem crf_w (hI : cQI a) (h : qWp a n i) (h2 : qWp a u j) : aRef (ma_u a 71 (a 130 n + 1 + i).toNatClampNeg x) u j = if u = n ∧ j = i then (if a (1000 + n) i.toNatClampNeg ≠ 0 then x else -1) else aRef a u j := by
  rw [cwp_rf (cQ_71 hI) (Wp_71.mpr h2), un (n := 1000 + u) (by omega), un (n := 130) (by decide)]
  by_cases z : u = n ∧ j = i
  · rw [if_pos z, z.1, z.2, xu_s]
  · rw [if_neg z, xu_o (fun w => cwp_ne hI h h2 z w.2), cwp_rf hI h2]
theorem wp_N (hI : cQI a) (hn : xAl a n) (hk : (k : Int) < (a 128 n).toInt - 1) : qWp a n (Int32.ofNat k) := by
  have q := hI.1 n hn
  have e := ofN_s (s := k) (by omega)
  exact ⟨hn, by omega, by omega⟩
theorem ofN_k (h : 0 ≤ i.toInt) : Int32.ofNat i.toInt.toNat = i := by
  have c := tn_cast h
  rw [show i.toInt.toNat = i.toNatClampNeg from by omega]
  exact ofN_tn h
/-- a word that refers is changed -/
theorem Rf_w (hI : cQI a) (h : qWp a m i) (hm : m < 512) (hb : a (1000 + m) i.toNatClampNeg ≠ 0) : cRf (ma_u a 71 (a 130 m + 1 + i).toNatClampNeg x) n + (cIs (aRef a m i) n : Int) = cRf a n + (cIs x n : Int) := by
  have qm := hI.1 m h.1
  have hi := h.2
  have o : ∀ u, u < 512 → u ≠ m → cTm (ma_u a 71 (a 130 m + 1 + i).toNatClampNeg x) n u = cTm a n u := fun u hu w => Tm_cg (congrFun (un (by decide)) u) (congrFun (un (by decide)) u) (fun z k hk => by
    rw [crf_w hI h (wp_N hI ⟨hu, z⟩ hk), if_neg (fun q => w q.1)])
  have t := cSu_up (f := cTm a n) (g := cTm (ma_u a 71 (a 130 m + 1 + i).toNatClampNeg x) n) (j := m) 512 hm (fun u hu w => o u hu w)
  have s : cOb (ma_u a 71 (a 130 m + 1 + i).toNatClampNeg x) m n + cIs (aRef a m i) n = cOb a m n + cIs x n := by
    unfold cOb
    rw [un (n := 128) (by decide)]
    have e : cSu (fun k => cIs (aRef (ma_u a 71 (a 130 m + 1 + i).toNatClampNeg x) m (Int32.ofNat k)) n) ((a 128 m).toInt - 1).toNat + cIs (aRef a m (Int32.ofNat i.toInt.toNat)) n = cSu (fun k => cIs (aRef a m (Int32.ofNat k)) n) ((a 128 m).toInt - 1).toNat + cIs (aRef (ma_u a 71 (a 130 m + 1 + i).toNatClampNeg x) m (Int32.ofNat i.toInt.toNat)) n :=
      cSu_up (f := fun k => cIs (aRef a m (Int32.ofNat k)) n) (g := fun k => cIs (aRef (ma_u a 71 (a 130 m + 1 + i).toNatClampNeg x) m (Int32.ofNat k)) n) (j := i.toInt.toNat) _ (by omega) (fun k hk w => by
        show cIs (aRef (ma_u a 71 _ x) m (Int32.ofNat k)) n = cIs (aRef a m (Int32.ofNat k)) n
        rw [crf_w hI h (wp_N hI h.1 (by omega)), if_neg (fun q => ?_)]
        have e2 := congrArg Int32.toInt q.2
        rw [ofN_s (by omega)] at e2
        omega)
    rw [ofN_k hi.1, crf_w hI h h, if_pos ⟨rfl, rfl⟩, if_pos hb] at e
    exact e
  have t2 : cTm (ma_u a 71 (a 130 m + 1 + i).toNatClampNeg x) n m + cIs (aRef a m i) n = cTm a n m + cIs x n := by
    unfold cTm
    rw [un (n := 126) (by decide), if_neg h.1.2, if_neg h.1.2]
    exact s
  have e1 : cRo (ma_u a 71 (a 130 m + 1 + i).toNatClampNeg x) n = cRo a n := Ro_cg (un (by decide))
  have e2 : cWi (ma_u a 71 (a 130 m + 1 + i).toNatClampNeg x) n = cWi a n := Wi_cg (congrFun (un (by decide)) 5) (un (by decide))
  have e3 : ma_u a 71 (a 130 m + 1 + i).toNatClampNeg x 133 n = a 133 n := congrFun (un (by decide)) n
  unfold cRf
  rw [e1, e2, e3]
  unfold cTh
  omega
/-- a word that does not refer is changed -/
theorem Rf_p (hI : cQI a) (h : qWp a m i) (hb : a (1000 + m) i.toNatClampNeg = 0) : cRf (ma_u a 71 (a 130 m + 1 + i).toNatClampNeg x) n = cRf a n := by
  refine Rf_cg (Ro_cg (un (by decide))) (Wi_cg (congrFun (un (by decide)) 5) (un (by decide))) (congrFun (un (by decide)) n) (Th_cg (fun u hu => Tm_cg (congrFun (un (by decide)) u) (congrFun (un (by decide)) u) (fun z k hk => ?_)))
  rw [crf_w hI h (wp_N hI ⟨hu, z⟩ hk)]
  by_cases q : u = m ∧ Int32.ofNat k = i
  · rw [if_pos q, if_neg (fun w => w hb), q.1, q.2, cwp_rf hI h, if_neg (fun w => w hb)]
  · rw [if_neg q]
theorem rm_al (h0 : 0 ≤ y.toInt) : xAl (aRm a y) n ↔ xAl a n ∧ n ≠ y.toNatClampNeg := by
  unfold xAl
  rw [rm_f (by decide) (by decide)]
  by_cases z : n = y.toNatClampNeg
  · rw [if_pos z]
    exact ⟨fun w => absurd rfl w.2, fun w => absurd z w.2⟩
  · rw [if_neg z]
    exact ⟨fun w => ⟨w, z⟩, fun w => w.1⟩
theorem rm_bit (h : n ≠ y.toNatClampNeg) : aRm a y (1000 + n) k = a (1000 + n) k := by
  rw [rm_hi (by omega)]
  unfold zNo
  rw [if_neg (by omega)]
theorem rm_bt0 : aRm a y (1000 + y.toNatClampNeg) k = 0 := by
  rw [rm_hi (by omega)]
  unfold zNo
  rw [if_pos (Or.inr rfl)]
theorem rm_rw (h : 126 ≤ c) (h1 : c < 1000) (hn : n ≠ y.toNatClampNeg) : aRm a y c n = a c n := by
  rw [rm_f h h1, if_neg hn]
theorem cQ_rm (h0 : 0 ≤ y.toInt) (hI : cQI a) : cQI (aRm a y) := by
  obtain ⟨h1, h2, h3⟩ := hI
  refine ⟨fun n hn => ?_, fun n n₉ hn hn₉ w => ?_, fun n hn k => ?_⟩
  · have q := (rm_al h0).mp hn
    rw [rm_rw (by decide) (by decide) q.2, rm_rw (by decide) (by decide) q.2]
    exact h1 n q.1
  · have q := (rm_al h0).mp hn
    have q₉ := (rm_al h0).mp hn₉
    rw [rm_rw (c := 130) (by decide) (by decide) q.2, rm_rw (c := 128) (by decide) (by decide) q.2, rm_rw (c := 130) (by decide) (by decide) q₉.2, rm_rw (c := 128) (by decide) (by decide) q₉.2]
    exact h2 n n₉ q.1 q₉.1 w
  · by_cases z : n = y.toNatClampNeg
    · rw [z]; exact rm_bt0
    · rw [rm_bit z]
      exact h3 n (fun w => hn ((rm_al h0).mpr ⟨w, z⟩)) k
/-- what another refers to stays when one goes -/
theorem crf_rm (hI : cQI a) (h0 : 0 ≤ y.toInt) (hy : xAl a y.toNatClampNeg) (hu : u ≠ y.toNatClampNeg) (h : qWp a u j) : aRef (aRm a y) u j = aRef a u j := by
  have q := cwp_i hI h
  have cq := tn_cast q.2.1
  have hy1 := hI.1 _ hy
  have es : (a 130 y.toNatClampNeg + a 128 y.toNatClampNeg).toInt = (a 130 y.toNatClampNeg).toInt + (a 128 y.toNatClampNeg).toInt := i_add (by omega) (by omega)
  have em : zMin (a 130 y.toNatClampNeg + a 128 y.toNatClampNeg).toInt = (a 130 y.toNatClampNeg).toInt + (a 128 y.toNatClampNeg).toInt := by
    unfold zMin
    rw [es]
    split <;> omega
  have hp : qWp (aRm a y) u j := ⟨(rm_al h0).mpr ⟨h.1, hu⟩, h.2.1, by rw [rm_rw (by decide) (by decide) hu]; exact h.2.2⟩
  rw [cwp_rf (cQ_rm h0 hI) hp, cwp_rf hI h, rm_bit hu, rm_rw (by decide) (by decide) hu, rm_71, em]
  have d := hI.2.1 u _ h.1 hy hu
  have hj := h.2
  unfold zFr
  rw [if_neg (c := 71 = 71 ∧ (a 130 y.toNatClampNeg).toInt ≤ (((a 130 u + 1 + j).toNatClampNeg : Nat) : Int) ∧ (((a 130 u + 1 + j).toNatClampNeg : Nat) : Int) < (a 130 y.toNatClampNeg).toInt + (a 128 y.toNatClampNeg).toInt) (fun w => by omega)]
theorem Wp_rm (h0 : 0 ≤ y.toInt) : qWp (aRm a y) u j ↔ qWp a u j ∧ u ≠ y.toNatClampNeg := by
  unfold qWp
  rw [rm_al h0]
  constructor
  · rintro ⟨⟨w1, w2⟩, w3⟩
    rw [rm_rw (by decide) (by decide) w2] at w3
    exact ⟨⟨w1, w3⟩, w2⟩
  · rintro ⟨⟨w1, w3⟩, w2⟩
    rw [rm_rw (by decide) (by decide) w2]
    exact ⟨⟨w1, w2⟩, w3⟩
theorem Rf_rm (hI : cQI a) (h0 : 0 ≤ y.toInt) (hy : xAl a y.toNatClampNeg) (hn : n ≠ y.toNatClampNeg) : cRf (aRm a y) n + (cOb a y.toNatClampNeg n : Int) = cRf a n := by
  have o : ∀ u, u < 512 → u ≠ y.toNatClampNeg → cTm (aRm a y) n u = cTm a n u := fun u hu w => Tm_cg (rm_rw (by decide) (by decide) w) (rm_rw (by decide) (by decide) w) (fun z k hk => crf_rm hI h0 hy w (wp_N hI ⟨hu, z⟩ hk))
  have t := cSu_up (f := cTm a n) (g := cTm (aRm a y) n) (j := y.toNatClampNeg) 512 hy.1 (fun u hu w => o u hu w)
  have t1 : cTm (aRm a y) n y.toNatClampNeg = 0 := by
    unfold cTm
    rw [rm_f (by decide) (by decide), if_pos rfl, if_pos rfl]
  have t2 : cTm a n y.toNatClampNeg = cOb a y.toNatClampNeg n := by
    unfold cTm
    rw [if_neg hy.2]
  have e1 : cRo (aRm a y) n = cRo a n := Ro_cg (rm_126 (by decide) (by decide) (by decide) (by decide))
  have e2 : cWi (aRm a y) n = cWi a n := Wi_cg (aRm_o (by decide) ⟨by decide, by decide, by decide, by decide⟩) (rm_126 (by decide) (by decide) (by decide) (by decide))
  have e3 : aRm a y 133 n = a 133 n := rm_rw (by decide) (by decide) hn
  unfold cRf
  rw [e1, e2, e3]
  unfold cTh
  omega
end CB

