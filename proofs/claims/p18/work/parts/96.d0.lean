/-! A CALL OF EACH KIND, AND THE LOOP -/
theorem lg_refl (x : Int64) : lg_cmp x x = 0 := by
  unfold lg_cmp
  simp
section LWD
variable {C0 Z0 T : Nat} {S S2 : ma_S} {m' aa : Nat → Nat → Int32}
theorem lw_more (H : zLw C0 Z0 T S) (ht : T + 1 ≤ 512) : zLw C0 Z0 (T + 1) S := by
  obtain ⟨h1, ⟨hV, r_W, r_GW, h⟩, h3, h7, h4, h5, h6⟩ := H
  exact ⟨h1, ⟨hV, r_W, GW_up r_GW (by omega), h.imp id (fun z => ⟨GU_up z.1 (by omega), z.2⟩)⟩, h3, h7, by omega, by omega, h6⟩
theorem lw_q (H : zLw C0 Z0 T S) (hc : zCl S S2) (hpr : mR S2 64 11 = mR S 64 11) (hte : mI S2 64 1 = mI S 64 1) (hke : mI S2 64 7 = mI S 64 7) (h65 : mI S2 65 = mI S 65) (h67 : mI S2 67 = mI S 67 ∧ mI S2 68 = mI S 68) (hr : zRef (T + 1) m') (ho : ∀ c k, c < 94 ∨ 124 < c → m' c k = mI S2 c k) (h3 : m' 94 3 = mI S2 94 3) (h7 : m' 94 7 = mI S2 94 7) (h95 : m' 95 = mI S2 95) (e8 : m' 94 8 = mI S2 94 8) (e10 : m' 94 10 = mI S2 94 10) (e97 : m' 97 = mI S2 97) (e98 : m' 98 = mI S2 98) (h5 : mR S 64 11 = some 87 → zS5 (zst S2 m')) : zLw C0 Z0 (T + 1) (zst S2 m') := lw_step H hc hr ho (lw_te H hc hte ho h3) (lw_ke H hc hke ho h7) (lw_al H hc h65 ho (by rw [h3]; exact Int.le_refl _) h95) (lw_kr H hc h67 ho h7 e97 e98) (sim_st H.2.2.2.2.2.2.2.2 hc hpr e8 e10 h5)
theorem e5_of (H : zLw C0 Z0 T S) (hc : zCl S S2) (e : mR S 64 11 = some 87) : (mI S2 94 8).toInt = 1 ∧ (mI S2 94 10).toInt = 5 := by
  have q := H.2.2.2.2.2.2.2.2.2.1.mp e
  have b := rs_94_8 H.2.1.1
  rw [hc.2.1 94 8 (by decide) (by decide), hc.2.1 94 10 (by decide) (by decide)]
  exact ⟨by omega, q.2⟩
theorem lw_h6 (H : zLw C0 Z0 T S) (e : mR S 64 11 = some 87) : 0 ≤ (aS 88 S 87 6).toInt := by
  obtain ⟨_, aa, hsm, hz⟩ := H.2.2.2.2.2.2.2.2.2.2 e
  rw [hsm.1 87 6 (by decide) (by decide) (by decide)]
  exact (K_5 hz).1.1.2.2.2.1.2.2.2.2.2
theorem lw_ki (H : zLw C0 Z0 T S) {x : Int32} (h0 : 0 ≤ x.toInt) (h1 : x.toInt < (mI S 64 7).toInt) : x.toNatClampNeg < 16 ∧ mI S 67 x.toNatClampNeg = mI S 97 x.toNatClampNeg ∧ mI S 68 x.toNatClampNeg = mI S 98 x.toNatClampNeg := by
  have c := tn_cast h0
  have b := rs_94_7 H.2.1.1
  rw [H.2.2.2.1] at h1
  exact ⟨by omega, H.2.2.2.2.2.2.2.1 _ (by omega)⟩
theorem lw_mk (H : zLw C0 Z0 T S) (hc : zCl S S2) {x0 x1 : Int32} (hsm : qSm (aS 88 S) aa) (hK : qK aa) : qSm (qIf (0 ≤ x0.toInt ∧ x0.toInt < (mI S 64 7).toInt ∧ zSl x1) (aMk (aS 88 S) x0 (mI S 67 x0.toNatClampNeg) (mI S 68 x0.toNatClampNeg).toInt64 x1) (aS 88 S)) (qIf (0 ≤ x0.toInt ∧ x0.toInt < (mI S2 94 7).toInt ∧ zSl x1) (aMk aa x0 ((mI S2 97) x0.toNatClampNeg) (mI S 68 x0.toNatClampNeg).toInt64 x1) aa) := by
  have e7 : mI S2 94 7 = mI S 64 7 := (hc.2.1 94 7 (by decide) (by decide)).trans H.2.2.2.1.symm
  rw [e7]
  refine Sm_if Iff.rfl (fun w => ?_) hsm
  have q := lw_ki H w.1 w.2.1
  have b := ra_97 H.2.1.1 q.1
  rw [hc.2.1 97 _ (by decide) (by decide), ← q.2.1]
  rw [← q.2.1] at b
  exact Sm_mk hsm hK b.1 (by omega)
theorem lw_rw {x0 x1 x2 : Int32} (hsm : qSm (aS 88 S) aa) (hK : qK aa) : qSm (qIf (0 ≤ x1.toInt ∧ x1.toInt ≤ 60 ∧ zSl x2) (if x0 = 0 then aMk (aS 88 S) 17 x1 0 x2 else aMk (aS 88 S) 16 x1 (-1) x2) (aS 88 S)) (qIf (0 ≤ x1.toInt ∧ x1.toInt ≤ 60 ∧ zSl x2) (if x0 = 0 then aMk aa 17 x1 0 x2 else aMk aa 16 x1 (-1) x2) aa) := by
  refine Sm_if Iff.rfl (fun w => ?_) hsm
  by_cases q : x0 = 0
  · rw [if_pos q, if_pos q]
    exact Sm_mk hsm hK w.1 w.2.1
  · rw [if_neg q, if_neg q]
    exact Sm_mk hsm hK w.1 w.2.1
theorem lw_bt (H : zLw C0 Z0 T S) (hc : zCl S S2) {kk : Int32} : (0 ≤ kk.toInt ∧ kk.toInt < (mI S2 94 7).toInt) → ∀ j : Nat, (j : Int) < ((mI S2 97) kk.toNatClampNeg).toInt → (zbit (mI S 68 kk.toNatClampNeg).toInt64 (Int32.ofNat j) ≠ 0 ↔ (kk = 16 ∨ (kk < 16 ∧ (((mI S2 98) kk.toNatClampNeg >>> (Int32.ofNat j &&& 31)) &&& 1) = 1))) := by
  intro h j hj
  have e7 : mI S2 94 7 = mI S 64 7 := (hc.2.1 94 7 (by decide) (by decide)).trans H.2.2.2.1.symm
  rw [e7] at h
  have q := lw_ki H h.1 h.2
  have c := tn_cast h.1
  have b7 := ra_97 H.2.1.1 q.1
  have b8 := ra_98 H.2.1.1 q.1
  rw [hc.2.1 97 _ (by decide) (by decide)] at hj
  rw [hc.2.1 98 _ (by decide) (by decide), q.2.2]
  have z := zb_k (x := mI S 98 kk.toNatClampNeg) b8.1 b8.2 (j := j) (by omega)
  have l16 : kk < 16 := Int32.lt_iff_toInt_lt.mpr (by
    have : (16 : Int32).toInt = 16 := rfl
    omega)
  constructor
  · intro w
    exact Or.inr ⟨l16, z.mp w⟩
  · intro w
    rcases w with w | w
    · rw [w] at c
      have : (16 : Int32).toInt = 16 := rfl
      have := q.1
      rw [w] at this
      omega
    · exact z.mpr w.2
theorem lw_k1 (H : zLw C0 Z0 T S) (hc : zCl S S2) {x0 x1 : Int32} (h67 : mI S2 67 = zUp (mI S 67) (mI S 64 7).toNatClampNeg x0 ∧ mI S2 68 = zUp (mI S 68) (mI S 64 7).toNatClampNeg x1) (ho : ∀ c k, c < 94 ∨ 124 < c → m' c k = mI S2 c k) {P : Prop} (_ : P) (hk : ((m' 94 7).toInt = (mI S2 94 7).toInt ∧ m' 97 = mI S2 97 ∧ m' 98 = mI S2 98) ∨ ((m' 94 7).toInt = (mI S2 94 7).toInt + 1 ∧ m' 97 = zUp (mI S2 97) (mI S2 94 7).toNatClampNeg x0 ∧ m' 98 = zUp (mI S2 98) (mI S2 94 7).toNatClampNeg x1)) (h1 : (m' 94 7).toInt = (mI S2 94 7).toInt + 1) : zKR m' := by
  have e7 : mI S2 94 7 = mI S 94 7 := hc.2.1 94 7 (by decide) (by decide)
  rcases hk with w | w
  · omega
  · intro k hk
    have b := rs_94_7 H.2.1.1
    have c := tn_cast (x := mI S 94 7) b.1
    rw [ho 67 k (Or.inl (by decide)), ho 68 k (Or.inl (by decide)), h67.1, h67.2, w.2.1, w.2.2, H.2.2.2.1, e7]
    unfold zUp
    by_cases q : k = (mI S 94 7).toNatClampNeg
    · rw [if_pos q, if_pos q, if_pos q, if_pos q]
      exact ⟨rfl, rfl⟩
    · rw [if_neg q, if_neg q, if_neg q, if_neg q, hc.2.1 97 k (by decide) (by decide), hc.2.1 98 k (by decide) (by decide)]
      rw [h1, e7] at hk
      exact H.2.2.2.2.2.2.2.1 k (by omega)
theorem lw_k0 (H : zLw C0 Z0 T S) (hc : zCl S S2) {x0 x1 : Int32} (h67 : mI S2 67 = mI S 67 ∧ mI S2 68 = mI S 68) (ho : ∀ c k, c < 94 ∨ 124 < c → m' c k = mI S2 c k) (hk : ((m' 94 7).toInt = (mI S2 94 7).toInt ∧ m' 97 = mI S2 97 ∧ m' 98 = mI S2 98) ∨ ((m' 94 7).toInt = (mI S2 94 7).toInt + 1 ∧ m' 97 = zUp (mI S2 97) (mI S2 94 7).toNatClampNeg x0 ∧ m' 98 = zUp (mI S2 98) (mI S2 94 7).toNatClampNeg x1)) (h1 : (m' 94 7).toInt = (mI S2 94 7).toInt) : zKR m' := by
  rcases hk with w | w
  · exact lw_kr H hc h67 ho (Int32.toInt_inj.mp h1) w.2.1 w.2.2
  · omega
theorem z5_fr {S2 : ma_S} {m' aa : Nat → Nat → Int32} (H : zR5 (mI S2) aa) (hu : ∀ c k, (c = 98 ∨ c = 100 ∨ c = 101 ∨ c = 102 ∨ c = 103 ∨ c = 106 ∨ c = 107 ∨ c = 108 ∨ c = 109 ∨ c = 114 ∨ c = 115) → m' c k = mI S2 c k) (hf : (m' 99) = (mI S2 99) ∧ (m' 111) = (mI S2 111) ∧ (m' 112) = (mI S2 112) ∧ (m' 113) = (mI S2 113) ∧ (m' 94 8) = (mI S2 94 8) ∧ (m' 94 10) = (mI S2 94 10) ∧ (m' 94 11) = (mI S2 94 11) ∧ (m' 94 12) = (mI S2 94 12) ∧ (m' 94 17) = (mI S2 94 17) ∧ (m' 94 9) = (mI S2 94 9) ∧ (m' 94 45) = (mI S2 94 45) ∧ (m' 94 46) = (mI S2 94 46) ∧ (m' 94 55) = (mI S2 94 55) ∧ (m' 94 56) = (mI S2 94 56) ∧ (m' 94 57) = (mI S2 94 57) ∧ (m' 94 58) = (mI S2 94 58) ∧ (m' 94 62) = (mI S2 94 62)) : zR5 m' aa := by
  obtain ⟨r99, r111, r112, r113, f8, f10, f11, f12, f17, f9, f45, f46, f55, f56, f57, f58, f62⟩ := hf
  have e98 : m' 98 = mI S2 98 := funext (fun k => hu 98 k (by decide))
  have e99 : m' 99 = mI S2 99 := r99
  have e100 : m' 100 = mI S2 100 := funext (fun k => hu 100 k (by decide))
  have e101 : m' 101 = mI S2 101 := funext (fun k => hu 101 k (by decide))
  have e102 : m' 102 = mI S2 102 := funext (fun k => hu 102 k (by decide))
  have e103 : m' 103 = mI S2 103 := funext (fun k => hu 103 k (by decide))
  have e106 : m' 106 = mI S2 106 := funext (fun k => hu 106 k (by decide))
  have e107 : m' 107 = mI S2 107 := funext (fun k => hu 107 k (by decide))
  have e108 : m' 108 = mI S2 108 := funext (fun k => hu 108 k (by decide))
  have e109 : m' 109 = mI S2 109 := funext (fun k => hu 109 k (by decide))
  have e111 : m' 111 = mI S2 111 := r111
  have e112 : m' 112 = mI S2 112 := r112
  have e113 : m' 113 = mI S2 113 := r113
  have e114 : m' 114 = mI S2 114 := funext (fun k => hu 114 k (by decide))
  have e115 : m' 115 = mI S2 115 := funext (fun k => hu 115 k (by decide))
  unfold zR5 at H ⊢
  rw [e98, e99, e100, e101, e102, e103, e106, e107, e108, e109, e111, e112, e113, e114, e115, f9, f11, f12, f17, f45, f46, f55, f56, f57, f58, f62]
  exact H
theorem sim_hp {r' : Nat → Nat → Option Nat} (H : zLw C0 Z0 T S) (hc : zCl S S2) (hp : mR S2 64 11 = r' 64 11) (hV : zV m') (ho : ∀ c k, c < 94 ∨ 124 < c → m' c k = mI S2 c k)
    (hoc : (zAns (mI S 65) (mI S 64 1).toInt < 0 ∧ r' 64 11 = mR S 64 11 ∧ aS 88 S2 = aS 88 S ∧ (mR S 64 11 = some 87 → xB S2 (mR S2 70))) ∨ (0 ≤ zAns (mI S 65) (mI S 64 1).toInt ∧ ((qPo (mI S 65) (mI S 64 1).toInt = 5 ∧ r' 64 11 = some 87 ∧ xB S2 (mR S2 70) ∧ ∃ t : Nat → Int32, aS 88 S2 = aO2 (aFg (aS 88 S)) t ∧ (t 0).toInt = zVal (mI S 65) (mI S 64 1).toInt 0 1 ∧ (t 1).toInt = zVal (mI S 65) (mI S 64 1).toInt 6 2 ∧ (t 2).toInt = zVal (mI S 65) (mI S 64 1).toInt 3 3 ∧ (t 3).toInt = zVal (mI S 65) (mI S 64 1).toInt 7 4) ∨ (qPo (mI S 65) (mI S 64 1).toInt ≠ 5 ∧ r' 64 11 ≠ some 87 ∧ r' 64 11 ≠ none))))
    (hoq : ((zAns (mI S2 95) (mI S2 94 3).toInt) < 0 ∧ (m' 99) = (mI S2 99) ∧ (m' 111) = (mI S2 111) ∧ (m' 112) = (mI S2 112) ∧ (m' 113) = (mI S2 113) ∧ (m' 94 8) = (mI S2 94 8) ∧ (m' 94 10) = (mI S2 94 10) ∧ (m' 94 11) = (mI S2 94 11) ∧ (m' 94 12) = (mI S2 94 12) ∧ (m' 94 17) = (mI S2 94 17) ∧ (m' 94 9) = (mI S2 94 9) ∧ (m' 94 45) = (mI S2 94 45) ∧ (m' 94 46) = (mI S2 94 46) ∧ (m' 94 55) = (mI S2 94 55) ∧ (m' 94 56) = (mI S2 94 56) ∧ (m' 94 57) = (mI S2 94 57) ∧ (m' 94 58) = (mI S2 94 58) ∧ (m' 94 62) = (mI S2 94 62)) ∨ (0 ≤ (zAns (mI S2 95) (mI S2 94 3).toInt) ∧ (m' 94 10).toInt = qPo (mI S2 95) (mI S2 94 3).toInt ∧ (m' 94 8).toInt = 1 ∧ ((m' 94 10).toInt = 5 → ((∀ s : Nat, s < 3100 → (m' 99) s = 0) ∧ (∀ s : Nat, (s : Int) < 16 → ((m' 112) s).toInt < 0) ∧ (∀ s : Nat, (s : Int) < 16 → ((m' 113) s).toInt < 0) ∧ (m' 94 45).toInt = 0 ∧ (m' 94 46).toInt = 0 ∧ (m' 94 55).toInt = 0 ∧ (m' 94 58).toInt = 0 ∧ (m' 94 62).toInt = 0) ∧ qV (mI S2 95) (mI S2 94 3).toInt (m' 94 11).toInt (m' 94 12).toInt (m' 94 17).toInt (m' 94 9)))) (hun : ∀ c k, (c = 98 ∨ c = 100 ∨ c = 101 ∨ c = 102 ∨ c = 103 ∨ c = 106 ∨ c = 107 ∨ c = 108 ∨ c = 109 ∨ c = 114 ∨ c = 115) → m' c k = mI S2 c k) : zSim (zst S2 m') := by
  have e3 : mI S2 94 3 = mI S 64 1 := (hc.2.1 94 3 (by decide) (by decide)).trans H.2.2.1.symm
  have e95 : mI S2 95 = mI S 95 := funext (fun k => hc.2.1 95 k (by decide) (by decide))
  have b := rs_94_3 H.2.1.1
  rw [← H.2.2.1] at b
  have tp : ∀ k : Nat, (k : Int) < (mI S 64 1).toInt → mI S 95 k = mI S 65 k := fun k hk => by
    rw [H.2.2.1] at hk
    exact (H.2.2.2.2.2.2.1 k hk).1.symm
  rw [e3, e95, zAns_cg tp b.1 b.2, qPo_cg tp b.1 b.2] at hoq
  have ap : mR (zst S2 m') 64 11 = r' 64 11 := hp
  have m1 : mI (zst S2 m') = m' := rfl
  rcases hoc with ⟨h1, h2, h3, h4⟩ | ⟨h1, h2⟩
  · rcases hoq with ⟨_, hf⟩ | ⟨g1, _⟩
    · have fr : zCl S S2 := hc
      obtain ⟨r99, r111, r112, r113, f8, f10, f11, f12, f17, f9, f45, f46, f55, f56, f57, f58, f62⟩ := hf
      have a8 : m' 94 8 = mI S 94 8 := f8.trans (hc.2.1 94 8 (by decide) (by decide))
      have a10 : m' 94 10 = mI S 94 10 := f10.trans (hc.2.1 94 10 (by decide) (by decide))
      unfold zSim
      rw [ap, h2, m1, a8, a10]
      refine ⟨H.2.2.2.2.2.2.2.2.1, H.2.2.2.2.2.2.2.2.2.1, fun e => ?_⟩
      obtain ⟨hB, aa, hsm, hz⟩ := H.2.2.2.2.2.2.2.2.2.2 e
      exact s5_st hc (h4 e) ho (by rw [h3]; exact hsm) (z5_fr (z5_tr hz hc.2.1) hun ⟨r99, r111, r112, r113, f8, f10, f11, f12, f17, f9, f45, f46, f55, f56, f57, f58, f62⟩)
    · omega
  · rcases hoq with ⟨g1, _⟩ | ⟨_, g2, g3, g4⟩
    · omega
    · unfold zSim
      rw [ap, m1, g2]
      rcases h2 with ⟨k1, k2, k3, t, k4, v0, v1, v2, v3⟩ | ⟨k1, k2, k3⟩
      · rw [k2, k1, g3]
        refine ⟨⟨fun w => absurd w (by decide), fun w => absurd w (by decide)⟩, ⟨fun _ => ⟨by decide, rfl⟩, fun _ => rfl⟩, fun _ => ?_⟩
        have g5 := g4 (by rw [g2]; exact k1)
        obtain ⟨⟨z9, z2, z3, z45, z46, z55, z58, z62⟩, w0, w1, w2, w3, w4⟩ := g5
        rw [zVal_cg tp b.1 b.2] at w0 w1 w2
        refine s5_st hc k3 ho (Sm_r (by rw [k4]; rfl)) ?_
        rw [k4]
        refine R5_op hV (fun n k hn => ?_) z9 z2 z3 z45 z46 z55 z58 z62 w4 (Int32.toInt_inj.mp (v0.trans w0.symm)) (Int32.toInt_inj.mp (v1.trans w1.symm)) (Int32.toInt_inj.mp (v2.trans w2.symm)) ?_
        · unfold aS aF aTr
          rw [if_neg (by omega), if_neg (by omega), if_neg (by omega), if_neg (by omega)]
        · refine Int32.toInt_inj.mp (v3.trans ?_)
          rw [zVal_cg tp b.1 b.2] at w3
          rcases w3 with w | w
          · rw [if_neg w.1, w.2]
            rfl
          · rw [if_pos w.1, w.2]
            rfl
      · refine ⟨⟨fun w => absurd w k3, fun w => ?_⟩, ⟨fun w => absurd w k2, fun w => absurd w.2 k1⟩, fun w => absurd w k2⟩
        rw [g3] at w
        exact absurd w (by decide)
end LWD
