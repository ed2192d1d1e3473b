/-! a call of the reference -/
theorem wq_166 : ∀ c k, wr_166 c k = true → 94 ≤ c ∧ c ≤ 124 := by
  intro c k h
  simp only [wr_166, Bool.or_eq_true, Bool.and_eq_true, Nat.beq_eq] at h
  omega
theorem rf_166 {X : Nat × (Nat → Int32)} {d w T : Nat} {S : ma_S} {Q : Option ma_V ⊕ Nat → ma_S → Prop} (xa : Int32) (xb : Int32) (xc : Int32) (xd : Int32) (xe : Int32) (hd : 1 ≤ d) (hw : 22 ≤ w) (hT : zT S) (h : zRef T (mI S)) (ht : T + 1 ≤ 512)  (K : ∀ v m', zRef (T + 1) m' → (∀ c k, c < 94 ∨ 124 < c → m' c k = mI S c k) → (m' 94 7 = mI S 94 7) → (m' 94 8 = mI S 94 8) → (m' 94 10 = mI S 94 10) → (m' 97 = mI S 97) → (m' 98 = mI S 98) → (∀ aa, zR5 (mI S) aa → zR5 m' aa) → ((81 ≤ (mI S 94 3).toInt ∧ (m' 94 0).toInt = 1 ∧ (m' 94 3).toInt = (mI S 94 3).toInt) ∨ ((mI S 94 3).toInt ≤ 80 ∧ (m' 94 0).toInt = 0 ∧ (m' 94 3).toInt = (mI S 94 3).toInt + 20 ∧ v.toInt = (mI S 94 3).toInt + 20)) → (((mI S 94 3).toInt ≤ 80 ∧ zFd (mI S 95) (m' 95) (mI S 94 3).toInt 5 (zw5 xa xb xc xd xe)) ∨ (81 ≤ (mI S 94 3).toInt ∧ (m' 95) = (mI S 95))) → Q (.inl (some (.inl v))) (zst S m')) : ma_wp X d w 166 0 [(0, .inr (.inr (some 94))), (1, .inl xa), (2, .inl xb), (3, .inl xc), (4, .inl xd), (5, .inl xe)] [] S Q := by
  obtain ⟨hV, r_W, r_GW, h⟩ := h
  have ht3 : T + 1 ≤ 3000 := by omega
  exact sp_166n (P := fun o m' => Q (.inl o) (zst S m')) xa xb xc xd xe hV  (fun v m' hV' q0 q1 => K v (zov wr_166 (mI S) m') ⟨hV', r_W, GW_up r_GW ht3, h.imp id (fun z => ⟨GU_up z.1 ht3, z.2⟩)⟩ (fun c k hc => zov_lo (wq_166 c k) hc) rfl rfl rfl (funext (fun _ => rfl)) (funext (fun _ => rfl)) (fun _ z => z) q0 q1) d w S Q hd hw hT rfl (fun _ _ z => z)
theorem wq_169 : ∀ c k, wr_169 c k = true → 94 ≤ c ∧ c ≤ 124 := by
  intro c k h
  simp only [wr_169, Bool.or_eq_true, Bool.and_eq_true, Nat.beq_eq] at h
  omega
theorem rf_169 {X : Nat × (Nat → Int32)} {d w T : Nat} {S : ma_S} {Q : Option ma_V ⊕ Nat → ma_S → Prop} (nn : Int32) (hd : 1 ≤ d) (hw : 21 ≤ w) (hT : zT S) (h : zRef T (mI S)) (ht : T + 1 ≤ 512)  (K : ∀ v m', zRef (T + 1) m' → (∀ c k, c < 94 ∨ 124 < c → m' c k = mI S c k) → (m' 94 7 = mI S 94 7) → (m' 95 = mI S 95) → (m' 94 8 = mI S 94 8) → (m' 94 10 = mI S 94 10) → (m' 97 = mI S 97) → (m' 98 = mI S 98) → (∀ aa, zR5 (mI S) aa → zR5 m' aa) → (((nn.toInt < 0 ∨ (mI S 94 3).toInt < nn.toInt) ∧ (m' 94 0).toInt = 1 ∧ (m' 94 3).toInt = (mI S 94 3).toInt) ∨ (0 ≤ nn.toInt ∧ nn.toInt ≤ (mI S 94 3).toInt ∧ (m' 94 0).toInt = 0 ∧ (m' 94 3).toInt = nn.toInt ∧ v.toInt = nn.toInt)) → Q (.inl (some (.inl v))) (zst S m')) : ma_wp X d w 169 0 [(0, .inr (.inr (some 94))), (1, .inl nn)] [] S Q := by
  obtain ⟨hV, r_W, r_GW, h⟩ := h
  have ht3 : T + 1 ≤ 3000 := by omega
  exact sp_169 (P := fun o m' => Q (.inl o) (zst S m')) nn hV  (fun v m' hV' q0 => K v (zov wr_169 (mI S) m') ⟨hV', r_W, GW_up r_GW ht3, h.imp id (fun z => ⟨GU_up z.1 ht3, z.2⟩)⟩ (fun c k hc => zov_lo (wq_169 c k) hc) rfl (funext (fun _ => rfl)) rfl rfl (funext (fun _ => rfl)) (funext (fun _ => rfl)) (fun _ z => z) q0) d w S Q hd hw hT rfl (fun _ _ z => z)
theorem wq_170 : ∀ c k, wr_170 c k = true → 94 ≤ c ∧ c ≤ 124 := by
  intro c k h
  simp only [wr_170, Bool.or_eq_true, Bool.and_eq_true, Nat.beq_eq] at h
  omega
theorem rf_170 {X : Nat × (Nat → Int32)} {d w T : Nat} {S : ma_S} {Q : Option ma_V ⊕ Nat → ma_S → Prop} (nw : Int32) (rf : Int32) (hd : 1 ≤ d) (hw : 21 ≤ w) (hT : zT S) (h : zRef T (mI S)) (ht : T + 1 ≤ 512)  (K : ∀ v m', zRef (T + 1) m' → (∀ c k, c < 94 ∨ 124 < c → m' c k = mI S c k) → (m' 94 3 = mI S 94 3) → (m' 95 = mI S 95) → (m' 94 8 = mI S 94 8) → (m' 94 10 = mI S 94 10) → (((nw.toInt < 0 ∨ 8 < nw.toInt ∨ rf.toInt < 0 ∨ ((1 : Int32) <<< (nw &&& 31)).toInt ≤ rf.toInt) ∧ (m' 94 0).toInt = 1 ∧ (m' 94 7).toInt = (mI S 94 7).toInt) ∨ (¬ (nw.toInt < 0 ∨ 8 < nw.toInt ∨ rf.toInt < 0 ∨ ((1 : Int32) <<< (nw &&& 31)).toInt ≤ rf.toInt) ∧ (mI S 94 7).toInt = 16 ∧ (m' 94 0).toInt = 2 ∧ (m' 94 7).toInt = (mI S 94 7).toInt) ∨ (¬ (nw.toInt < 0 ∨ 8 < nw.toInt ∨ rf.toInt < 0 ∨ ((1 : Int32) <<< (nw &&& 31)).toInt ≤ rf.toInt) ∧ (mI S 94 7).toInt < 16 ∧ (m' 94 0).toInt = 0 ∧ (m' 94 7).toInt = (mI S 94 7).toInt + 1 ∧ v.toInt = (mI S 94 7).toInt)) → (((m' 94 7).toInt = (mI S 94 7).toInt ∧ (m' 97) = (mI S 97) ∧ (m' 98) = (mI S 98)) ∨ ((m' 94 7).toInt = (mI S 94 7).toInt + 1 ∧ (m' 97) = zUp (mI S 97) (mI S 94 7).toNatClampNeg nw ∧ (m' 98) = zUp (mI S 98) (mI S 94 7).toNatClampNeg rf)) → Q (.inl (some (.inl v))) (zst S m')) : ma_wp X d w 170 0 [(0, .inr (.inr (some 94))), (1, .inl nw), (2, .inl rf)] [] S Q := by
  obtain ⟨hV, r_W, r_GW, h⟩ := h
  have ht3 : T + 1 ≤ 3000 := by omega
  rcases h with h | ⟨r_GU, r_OW, r_DX, r_GG, r_HA, r_RGc, r_MP⟩
  · exact sp_170v (P := fun o m' => Q (.inl o) (zst S m')) nw rf hV h r_W r_GW  (fun v m' hV' q0 q1 q2 q3 q4 => K v (zov wr_170 (mI S) m') ⟨hV', q1, GW_up q2 ht3, Or.inl q0⟩ (fun c k hc => zov_lo (wq_170 c k) hc) rfl (funext (fun _ => rfl)) rfl rfl q3 q4) d w S Q hd hw hT rfl (fun _ _ z => z)
  · exact sp_170w (P := fun o m' => Q (.inl o) (zst S m')) nw rf hV r_W r_GW r_GU r_OW r_DX r_GG r_HA r_RGc r_MP (fun v m' hV' q0 q1 q2 q3 q4 q5 q6 q7 q8 q9 q10 => K v (zov wr_170 (mI S) m') ⟨hV', q0, (GW_up q1 ht3), Or.inr ⟨(GU_up q2 ht3), q3, q4, q5, q6, q7, q8⟩⟩ (fun c k hc => zov_lo (wq_170 c k) hc) rfl (funext (fun _ => rfl)) rfl rfl q9 q10) d w S Q hd hw hT rfl (fun _ _ z => z)
theorem rs_170 {X : Nat × (Nat → Int32)} {d w T : Nat} {S : ma_S} {Q : Option ma_V ⊕ Nat → ma_S → Prop} {aa : Nat → Nat → Int32} (nw : Int32) (rf : Int32) (hd : 1 ≤ d) (hw : 21 ≤ w) (hT : zT S) (h : zRef T (mI S)) (ht : T + 1 ≤ 512) (h8 : (mI S 94 8).toInt = 1) (h5 : (mI S 94 10).toInt = 5) (hz : zR5 (mI S) aa)  (K : ∀ v m', zRef (T + 1) m' → (∀ c k, c < 94 ∨ 124 < c → m' c k = mI S c k) → (m' 94 3 = mI S 94 3) → (m' 95 = mI S 95) → (m' 94 8 = mI S 94 8) → (m' 94 10 = mI S 94 10) → zR5 m' aa → (((nw.toInt < 0 ∨ 8 < nw.toInt ∨ rf.toInt < 0 ∨ ((1 : Int32) <<< (nw &&& 31)).toInt ≤ rf.toInt) ∧ (m' 94 0).toInt = 1 ∧ (m' 94 7).toInt = (mI S 94 7).toInt) ∨ (¬ (nw.toInt < 0 ∨ 8 < nw.toInt ∨ rf.toInt < 0 ∨ ((1 : Int32) <<< (nw &&& 31)).toInt ≤ rf.toInt) ∧ (mI S 94 7).toInt = 16 ∧ (m' 94 0).toInt = 2 ∧ (m' 94 7).toInt = (mI S 94 7).toInt) ∨ (¬ (nw.toInt < 0 ∨ 8 < nw.toInt ∨ rf.toInt < 0 ∨ ((1 : Int32) <<< (nw &&& 31)).toInt ≤ rf.toInt) ∧ (mI S 94 7).toInt < 16 ∧ (m' 94 0).toInt = 0 ∧ (m' 94 7).toInt = (mI S 94 7).toInt + 1 ∧ v.toInt = (mI S 94 7).toInt)) → (((m' 94 7).toInt = (mI S 94 7).toInt ∧ (m' 97) = (mI S 97) ∧ (m' 98) = (mI S 98)) ∨ ((m' 94 7).toInt = (mI S 94 7).toInt + 1 ∧ (m' 97) = zUp (mI S 97) (mI S 94 7).toNatClampNeg nw ∧ (m' 98) = zUp (mI S 98) (mI S 94 7).toNatClampNeg rf)) → Q (.inl (some (.inl v))) (zst S m')) : ma_wp X d w 170 0 [(0, .inr (.inr (some 94))), (1, .inl nw), (2, .inl rf)] [] S Q := by
  obtain ⟨hV, r_W, r_GW, h⟩ := h
  have ht3 : T + 1 ≤ 3000 := by omega
  obtain ⟨r_RB, r_QI, r_MG, r_MK, r_WTS⟩ := hz
  rcases h with h | ⟨r_GU, r_OW, r_DX, r_GG, r_HA, r_RGc, r_MP⟩
  · omega
  · exact sp_170u (P := fun o m' => Q (.inl o) (zst S m')) nw rf hV (by omega) r_W r_GW r_GU r_OW r_GG h5 r_RB r_QI r_MG r_MK r_WTS (fun v m' hV' q0 q1 q2 q3 q4 q5 q6 q7 q8 q9 q10 q11 => K v (zov wr_170 (mI S) m') ⟨hV', q0, (GW_up q1 ht3), Or.inr ⟨(GU_up q2 ht3), q3, DX_5 h5, q4, HA_5 h5, RG_5 h5, Or.inr h5⟩⟩ (fun c k hc => zov_lo (wq_170 c k) hc) rfl (funext (fun _ => rfl)) rfl rfl ⟨q5, q6, q7, q8, q9⟩ q10 q11) d w S Q hd hw hT rfl (fun _ _ z => z)
theorem wq_171 : ∀ c k, wr_171 c k = true → 94 ≤ c ∧ c ≤ 124 := by
  intro c k h
  simp only [wr_171, Bool.or_eq_true, Bool.and_eq_true, Nat.beq_eq] at h
  omega
theorem rf_171 {X : Nat × (Nat → Int32)} {d w T : Nat} {S : ma_S} {Q : Option ma_V ⊕ Nat → ma_S → Prop}  (hd : 4 ≤ d) (hw : 90 ≤ w) (hT : zT S) (h : zRef T (mI S)) (ht : T + 1 ≤ 512) (r_BY0 : ∀ k : Nat, (k : Int) < (mI S 94 3).toInt → vp_nar .byte ((mI S 95) k) = (mI S 95) k)  (K : ∀ v m', zRef (T + 1) m' → (∀ c k, c < 94 ∨ 124 < c → m' c k = mI S c k) → (m' 94 7 = mI S 94 7) → (m' 97 = mI S 97) → (m' 98 = mI S 98) → (∀ c k, (c = 98 ∨ c = 100 ∨ c = 101 ∨ c = 102 ∨ c = 103 ∨ c = 106 ∨ c = 107 ∨ c = 108 ∨ c = 109 ∨ c = 114 ∨ c = 115) → m' c k = mI S c k) → ((m' 94 3).toInt = 0) → (v.toInt = zAns (mI S 95) (mI S 94 3).toInt) → (((zAns (mI S 95) (mI S 94 3).toInt) < 0 ∧ (m' 99) = (mI S 99) ∧ (m' 111) = (mI S 111) ∧ (m' 112) = (mI S 112) ∧ (m' 113) = (mI S 113) ∧ (m' 94 8) = (mI S 94 8) ∧ (m' 94 10) = (mI S 94 10) ∧ (m' 94 11) = (mI S 94 11) ∧ (m' 94 12) = (mI S 94 12) ∧ (m' 94 17) = (mI S 94 17) ∧ (m' 94 9) = (mI S 94 9) ∧ (m' 94 45) = (mI S 94 45) ∧ (m' 94 46) = (mI S 94 46) ∧ (m' 94 55) = (mI S 94 55) ∧ (m' 94 56) = (mI S 94 56) ∧ (m' 94 57) = (mI S 94 57) ∧ (m' 94 58) = (mI S 94 58) ∧ (m' 94 62) = (mI S 94 62)) ∨ (0 ≤ (zAns (mI S 95) (mI S 94 3).toInt) ∧ (m' 94 10).toInt = qPo (mI S 95) (mI S 94 3).toInt ∧ (m' 94 8).toInt = 1 ∧ ((m' 94 10).toInt = 5 → ((∀ s : Nat, s < 3100 → (m' 99) s = 0) ∧ (∀ s : Nat, (s : Int) < 16 → ((m' 112) s).toInt < 0) ∧ (∀ s : Nat, (s : Int) < 16 → ((m' 113) s).toInt < 0) ∧ (m' 94 45).toInt = 0 ∧ (m' 94 46).toInt = 0 ∧ (m' 94 55).toInt = 0 ∧ (m' 94 58).toInt = 0 ∧ (m' 94 62).toInt = 0) ∧ qV (mI S 95) (mI S 94 3).toInt (m' 94 11).toInt (m' 94 12).toInt (m' 94 17).toInt (m' 94 9)))) → Q (.inl (some (.inl v))) (zst S m')) : ma_wp X d w 171 0 [(0, .inr (.inr (some 94)))] [] S Q := by
  obtain ⟨hV, r_W, r_GW, h⟩ := h
  have ht3 : T + 1 ≤ 3000 := by omega
  rcases h with h | ⟨r_GU, r_OW, r_DX, r_GG, r_HA, r_RGc, r_MP⟩
  · exact sp_171y (P := fun o m' => Q (.inl o) (zst S m'))  hV h r_W r_GW r_BY0 (fun v m' hV' q0 q1 q2 q3 q4 q5 => K v (zov wr_171 (mI S) m') ⟨hV', q0, GW_up q1 ht3, q3.imp id (fun z => ⟨GU_up z.1 ht3, z.2⟩)⟩ (fun c k hc => zov_lo (wq_171 c k) hc) rfl (funext (fun _ => rfl)) (funext (fun _ => rfl)) (fun c k hc => by rcases hc with rfl | rfl | rfl | rfl | rfl | rfl | rfl | rfl | rfl | rfl | rfl <;> rfl) q2 q4 q5) d w S Q hd hw hT rfl (fun _ _ z => z)
  · exact sp_171q (P := fun o m' => Q (.inl o) (zst S m'))  hV r_BY0 r_W r_GW r_GU r_OW r_DX r_GG r_HA r_RGc r_MP (fun v m' hV' q0 q1 q2 q3 q4 q5 q6 q7 q8 q9 q10 q11 => K v (zov wr_171 (mI S) m') ⟨hV', q0, (GW_up q1 ht3), Or.inr ⟨(GU_up q2 ht3), q3, q4, q5, q6, q7, q8⟩⟩ (fun c k hc => zov_lo (wq_171 c k) hc) rfl (funext (fun _ => rfl)) (funext (fun _ => rfl)) (fun c k hc => by rcases hc with rfl | rfl | rfl | rfl | rfl | rfl | rfl | rfl | rfl | rfl | rfl <;> rfl) q9 q10 q11) d w S Q hd hw hT rfl (fun _ _ z => z)
theorem wq_181 : ∀ c k, wr_181 c k = true → 94 ≤ c ∧ c ≤ 124 := by
  intro c k h
  simp only [wr_181, Bool.or_eq_true, Bool.and_eq_true, Nat.beq_eq] at h
  omega
theorem rf_181 {X : Nat × (Nat → Int32)} {d w T : Nat} {S : ma_S} {Q : Option ma_V ⊕ Nat → ma_S → Prop} (kk : Int32) (r1 : Int32) (hd : 10 ≤ d) (hw : 224 ≤ w) (hT : zT S) (h : zRef T (mI S)) (ht : T + 1 ≤ 512)  (K : ∀ v m', zRef (T + 1) m' → (∀ c k, c < 94 ∨ 124 < c → m' c k = mI S c k) → (m' 94 3 = mI S 94 3) → (m' 94 7 = mI S 94 7) → (m' 95 = mI S 95) → (m' 94 8 = mI S 94 8) → (m' 94 10 = mI S 94 10) → (m' 97 = mI S 97) → (m' 98 = mI S 98) → Q (.inl (some (.inl v))) (zst S m')) : ma_wp X d w 181 0 [(0, .inr (.inr (some 94))), (1, .inl kk), (2, .inl r1)] [] S Q := by
  obtain ⟨hV, r_W, r_GW, h⟩ := h
  have ht3 : T + 1 ≤ 3000 := by omega
  rcases h with h | ⟨r_GU, r_OW, r_DX, r_GG, r_HA, r_RGc, r_MP⟩
  · exact sp_181z (P := fun o m' => Q (.inl o) (zst S m')) kk r1 hV h r_W r_GW  (fun v m' hV' q0 q1 q2 => K v (zov wr_181 (mI S) m') ⟨hV', q1, GW_up q2 ht3, Or.inl q0⟩ (fun c k hc => zov_lo (wq_181 c k) hc) rfl rfl (funext (fun _ => rfl)) rfl rfl (funext (fun _ => rfl)) (funext (fun _ => rfl))) d w S Q hd hw hT rfl (fun _ _ z => z)
  · exact sp_181 (P := fun o m' => Q (.inl o) (zst S m')) kk r1 hV (by omega) r_W r_GW r_GU r_OW r_DX r_GG r_HA r_RGc r_MP (fun v m' hV' q0 q1 q2 q3 q4 q5 q6 q7 q8 => K v (zov wr_181 (mI S) m') ⟨hV', q0, q1, Or.inr ⟨q2, q3, q4, q5, q6, q7, q8⟩⟩ (fun c k hc => zov_lo (wq_181 c k) hc) rfl rfl (funext (fun _ => rfl)) rfl rfl (funext (fun _ => rfl)) (funext (fun _ => rfl))) d w S Q hd hw hT rfl (fun _ _ z => z)
theorem rs_181 {X : Nat × (Nat → Int32)} {d w T : Nat} {S : ma_S} {Q : Option ma_V ⊕ Nat → ma_S → Prop} {aa : Nat → Nat → Int32} {LL : Int64} (kk : Int32) (r1 : Int32) (hd : 10 ≤ d) (hw : 224 ≤ w) (hT : zT S) (h : zRef T (mI S)) (ht : T + 1 ≤ 512) (h8 : (mI S 94 8).toInt = 1) (h5 : (mI S 94 10).toInt = 5) (hz : zR5 (mI S) aa) (hbts : (0 ≤ kk.toInt ∧ kk.toInt < (mI S 94 7).toInt) → ∀ j : Nat, (j : Int) < ((mI S 97) kk.toNatClampNeg).toInt → (zbit LL (Int32.ofNat j) ≠ 0 ↔ (kk = 16 ∨ (kk < 16 ∧ (((mI S 98) kk.toNatClampNeg >>> (Int32.ofNat j &&& 31)) &&& 1) = 1)))) (K : ∀ v m', zRef (T + 1) m' → (∀ c k, c < 94 ∨ 124 < c → m' c k = mI S c k) → (m' 94 3 = mI S 94 3) → (m' 94 7 = mI S 94 7) → (m' 95 = mI S 95) → (m' 94 8 = mI S 94 8) → (m' 94 10 = mI S 94 10) → (m' 97 = mI S 97) → (m' 98 = mI S 98) → zR5 m' (qIf (0 ≤ kk.toInt ∧ kk.toInt < (m' 94 7).toInt ∧ zSl r1) (aMk aa kk ((m' 97) kk.toNatClampNeg) LL r1) aa) → Q (.inl (some (.inl v))) (zst S m')) : ma_wp X d w 181 0 [(0, .inr (.inr (some 94))), (1, .inl kk), (2, .inl r1)] [] S Q := by
  obtain ⟨hV, r_W, r_GW, h⟩ := h
  have ht3 : T + 1 ≤ 3000 := by omega
  obtain ⟨r_RB, r_QI, r_MG, r_MK, r_WTS⟩ := hz
  rcases h with h | ⟨r_GU, r_OW, r_DX, r_GG, r_HA, r_RGc, r_MP⟩
  · omega
  · exact sp_181r (P := fun o m' => Q (.inl o) (zst S m')) kk r1 hV (by omega) (by omega) r_W r_GW r_GU r_OW r_GG h5 h8 r_RB r_QI r_MG r_MK r_WTS hbts (fun v m' hV' q0 q1 q2 q3 q4 q5 q6 q7 q8 q9 => K v (zov wr_181 (mI S) m') ⟨hV', q0, q1, Or.inr ⟨q2, q3, DX_5 h5, q4, HA_5 h5, RG_5 h5, Or.inr h5⟩⟩ (fun c k hc => zov_lo (wq_181 c k) hc) rfl rfl (funext (fun _ => rfl)) rfl rfl (funext (fun _ => rfl)) (funext (fun _ => rfl)) ⟨q5, q6, q7, q8, q9⟩) d w S Q hd hw hT rfl (fun _ _ z => z)
theorem wq_243 : ∀ c k, wr_243 c k = true → 94 ≤ c ∧ c ≤ 124 := by
  intro c k h
  simp only [wr_243, Bool.or_eq_true, Bool.and_eq_true, Nat.beq_eq] at h
  omega
theorem rf_243 {X : Nat × (Nat → Int32)} {d w T : Nat} {S : ma_S} {Q : Option ma_V ⊕ Nat → ma_S → Prop} (rf : Int32) (nn : Int32) (r1 : Int32) (hd : 10 ≤ d) (hw : 224 ≤ w) (hT : zT S) (h : zRef T (mI S)) (ht : T + 1 ≤ 512) (hb0 : 0 ≤ rf.toInt) (hb1 : rf.toInt ≤ 1) (K : ∀ v m', zRef (T + 1) m' → (∀ c k, c < 94 ∨ 124 < c → m' c k = mI S c k) → (m' 94 3 = mI S 94 3) → (m' 94 7 = mI S 94 7) → (m' 95 = mI S 95) → (m' 94 8 = mI S 94 8) → (m' 94 10 = mI S 94 10) → (m' 97 = mI S 97) → (m' 98 = mI S 98) → Q (.inl (some (.inl v))) (zst S m')) : ma_wp X d w 243 0 [(0, .inr (.inr (some 94))), (1, .inl rf), (2, .inl nn), (3, .inl r1)] [] S Q := by
  obtain ⟨hV, r_W, r_GW, h⟩ := h
  have ht3 : T + 1 ≤ 3000 := by omega
  rcases h with h | ⟨r_GU, r_OW, r_DX, r_GG, r_HA, r_RGc, r_MP⟩
  · exact sp_243z (P := fun o m' => Q (.inl o) (zst S m')) rf nn r1 hV h r_W r_GW hb0 hb1 (fun v m' hV' q0 q1 q2 => K v (zov wr_243 (mI S) m') ⟨hV', q1, GW_up q2 ht3, Or.inl q0⟩ (fun c k hc => zov_lo (wq_243 c k) hc) rfl rfl (funext (fun _ => rfl)) rfl rfl (funext (fun _ => rfl)) (funext (fun _ => rfl))) d w S Q hd hw hT rfl (fun _ _ z => z)
  · exact sp_243 (P := fun o m' => Q (.inl o) (zst S m')) rf nn r1 hV (by omega) hb0 hb1 r_W r_GW r_GU r_OW r_DX r_GG r_HA r_RGc r_MP (fun v m' hV' q0 q1 q2 q3 q4 q5 q6 q7 q8 => K v (zov wr_243 (mI S) m') ⟨hV', q0, q1, Or.inr ⟨q2, q3, q4, q5, q6, q7, q8⟩⟩ (fun c k hc => zov_lo (wq_243 c k) hc) rfl rfl (funext (fun _ => rfl)) rfl rfl (funext (fun _ => rfl)) (funext (fun _ => rfl))) d w S Q hd hw hT rfl (fun _ _ z => z)
theorem rs_243 {X : Nat × (Nat → Int32)} {d w T : Nat} {S : ma_S} {Q : Option ma_V ⊕ Nat → ma_S → Prop} {aa : Nat → Nat → Int32} (rf : Int32) (nn : Int32) (r1 : Int32) (hd : 10 ≤ d) (hw : 224 ≤ w) (hT : zT S) (h : zRef T (mI S)) (ht : T + 1 ≤ 512) (h8 : (mI S 94 8).toInt = 1) (h5 : (mI S 94 10).toInt = 5) (hz : zR5 (mI S) aa) (hb0 : 0 ≤ rf.toInt) (hb1 : rf.toInt ≤ 1) (K : ∀ v m', zRef (T + 1) m' → (∀ c k, c < 94 ∨ 124 < c → m' c k = mI S c k) → (m' 94 3 = mI S 94 3) → (m' 94 7 = mI S 94 7) → (m' 95 = mI S 95) → (m' 94 8 = mI S 94 8) → (m' 94 10 = mI S 94 10) → (m' 97 = mI S 97) → (m' 98 = mI S 98) → zR5 m' (qIf (0 ≤ nn.toInt ∧ nn.toInt ≤ 60 ∧ zSl r1) (if rf = 0 then aMk aa 17 nn 0 r1 else aMk aa 16 nn (-1) r1) aa) → Q (.inl (some (.inl v))) (zst S m')) : ma_wp X d w 243 0 [(0, .inr (.inr (some 94))), (1, .inl rf), (2, .inl nn), (3, .inl r1)] [] S Q := by
  obtain ⟨hV, r_W, r_GW, h⟩ := h
  have ht3 : T + 1 ≤ 3000 := by omega
  obtain ⟨r_RB, r_QI, r_MG, r_MK, r_WTS⟩ := hz
  rcases h with h | ⟨r_GU, r_OW, r_DX, r_GG, r_HA, r_RGc, r_MP⟩
  · omega
  · exact sp_243r (P := fun o m' => Q (.inl o) (zst S m')) rf nn r1 hV (by omega) hb0 hb1 (by omega) r_W r_GW r_GU r_OW r_GG h5 h8 r_RB r_QI r_MG r_MK r_WTS (fun v m' hV' q0 q1 q2 q3 q4 q5 q6 q7 q8 q9 => K v (zov wr_243 (mI S) m') ⟨hV', q0, q1, Or.inr ⟨q2, q3, DX_5 h5, q4, HA_5 h5, RG_5 h5, Or.inr h5⟩⟩ (fun c k hc => zov_lo (wq_243 c k) hc) rfl rfl (funext (fun _ => rfl)) rfl rfl (funext (fun _ => rfl)) (funext (fun _ => rfl)) ⟨q5, q6, q7, q8, q9⟩) d w S Q hd hw hT rfl (fun _ _ z => z)
theorem wq_244 : ∀ c k, wr_244 c k = true → 94 ≤ c ∧ c ≤ 124 := by
  intro c k h
  simp only [wr_244, Bool.or_eq_true, Bool.and_eq_true, Nat.beq_eq] at h
  omega
theorem rf_244 {X : Nat × (Nat → Int32)} {d w T : Nat} {S : ma_S} {Q : Option ma_V ⊕ Nat → ma_S → Prop} (ob : Int32) (ix : Int32) (va : Int32) (hd : 5 ≤ d) (hw : 109 ≤ w) (hT : zT S) (h : zRef T (mI S)) (ht : T + 1 ≤ 512)  (K : ∀ v m', zRef (T + 1) m' → (∀ c k, c < 94 ∨ 124 < c → m' c k = mI S c k) → (m' 94 3 = mI S 94 3) → (m' 94 7 = mI S 94 7) → (m' 95 = mI S 95) → (m' 94 8 = mI S 94 8) → (m' 94 10 = mI S 94 10) → (m' 97 = mI S 97) → (m' 98 = mI S 98) → Q (.inl (some (.inl v))) (zst S m')) : ma_wp X d w 244 0 [(0, .inr (.inr (some 94))), (1, .inl ob), (2, .inl ix), (3, .inl va)] [] S Q := by
  obtain ⟨hV, r_W, r_GW, h⟩ := h
  have ht3 : T + 1 ≤ 3000 := by omega
  rcases h with h | ⟨r_GU, r_OW, r_DX, r_GG, r_HA, r_RGc, r_MP⟩
  · exact sp_244z (P := fun o m' => Q (.inl o) (zst S m')) ob ix va hV h r_W r_GW  (fun v m' hV' q0 q1 q2 => K v (zov wr_244 (mI S) m') ⟨hV', q1, GW_up q2 ht3, Or.inl q0⟩ (fun c k hc => zov_lo (wq_244 c k) hc) rfl rfl (funext (fun _ => rfl)) rfl rfl (funext (fun _ => rfl)) (funext (fun _ => rfl))) d w S Q hd hw hT rfl (fun _ _ z => z)
  · exact sp_244 (P := fun o m' => Q (.inl o) (zst S m')) ob ix va hV r_W r_GW r_GU r_OW r_DX r_GG r_HA r_RGc r_MP (fun v m' hV' q0 q1 q2 q3 q4 q5 q6 q7 q8 => K v (zov wr_244 (mI S) m') ⟨hV', q0, (GW_up q1 ht3), Or.inr ⟨(GU_up q2 ht3), q3, q4, q5, q6, q7, q8⟩⟩ (fun c k hc => zov_lo (wq_244 c k) hc) rfl rfl (funext (fun _ => rfl)) rfl rfl (funext (fun _ => rfl)) (funext (fun _ => rfl))) d w S Q hd hw hT rfl (fun _ _ z => z)
theorem rs_244 {X : Nat × (Nat → Int32)} {d w T : Nat} {S : ma_S} {Q : Option ma_V ⊕ Nat → ma_S → Prop} {aa : Nat → Nat → Int32} (ob : Int32) (ix : Int32) (va : Int32) (hd : 5 ≤ d) (hw : 109 ≤ w) (hT : zT S) (h : zRef T (mI S)) (ht : T + 1 ≤ 512) (h8 : (mI S 94 8).toInt = 1) (h5 : (mI S 94 10).toInt = 5) (hz : zR5 (mI S) aa)  (K : ∀ v m', zRef (T + 1) m' → (∀ c k, c < 94 ∨ 124 < c → m' c k = mI S c k) → (m' 94 3 = mI S 94 3) → (m' 94 7 = mI S 94 7) → (m' 95 = mI S 95) → (m' 94 8 = mI S 94 8) → (m' 94 10 = mI S 94 10) → (m' 97 = mI S 97) → (m' 98 = mI S 98) → zR5 m' (xPu aa ob ix va) → Q (.inl (some (.inl v))) (zst S m')) : ma_wp X d w 244 0 [(0, .inr (.inr (some 94))), (1, .inl ob), (2, .inl ix), (3, .inl va)] [] S Q := by
  obtain ⟨hV, r_W, r_GW, h⟩ := h
  have ht3 : T + 1 ≤ 3000 := by omega
  obtain ⟨r_RB, r_QI, r_MG, r_MK, r_WTS⟩ := hz
  rcases h with h | ⟨r_GU, r_OW, r_DX, r_GG, r_HA, r_RGc, r_MP⟩
  · omega
  · exact sp_244r (P := fun o m' => Q (.inl o) (zst S m')) ob ix va hV (by omega) r_W r_GW r_GU r_OW r_GG h5 h8 r_RB r_QI r_MG r_MK r_WTS (fun v m' hV' q0 q1 q2 q3 q4 q5 q6 q7 q8 q9 => K v (zov wr_244 (mI S) m') ⟨hV', q0, (GW_up q1 ht3), Or.inr ⟨(GU_up q2 ht3), q3, DX_5 h5, q4, HA_5 h5, RG_5 h5, Or.inr h5⟩⟩ (fun c k hc => zov_lo (wq_244 c k) hc) rfl rfl (funext (fun _ => rfl)) rfl rfl (funext (fun _ => rfl)) (funext (fun _ => rfl)) ⟨q5, q6, q7, q8, q9⟩) d w S Q hd hw hT rfl (fun _ _ z => z)
theorem wq_247 : ∀ c k, wr_247 c k = true → 94 ≤ c ∧ c ≤ 124 := by
  intro c k h
  simp only [wr_247, Bool.or_eq_true, Bool.and_eq_true, Nat.beq_eq] at h
  omega
theorem rf_247 {X : Nat × (Nat → Int32)} {d w T : Nat} {S : ma_S} {Q : Option ma_V ⊕ Nat → ma_S → Prop} (ob : Int32) (ix : Int32) (oo : Int32) (hd : 5 ≤ d) (hw : 109 ≤ w) (hT : zT S) (h : zRef T (mI S)) (ht : T + 1 ≤ 512)  (K : ∀ v m', zRef (T + 1) m' → (∀ c k, c < 94 ∨ 124 < c → m' c k = mI S c k) → (m' 94 3 = mI S 94 3) → (m' 94 7 = mI S 94 7) → (m' 95 = mI S 95) → (m' 94 8 = mI S 94 8) → (m' 94 10 = mI S 94 10) → (m' 97 = mI S 97) → (m' 98 = mI S 98) → Q (.inl (some (.inl v))) (zst S m')) : ma_wp X d w 247 0 [(0, .inr (.inr (some 94))), (1, .inl ob), (2, .inl ix), (3, .inl oo)] [] S Q := by
  obtain ⟨hV, r_W, r_GW, h⟩ := h
  have ht3 : T + 1 ≤ 3000 := by omega
  rcases h with h | ⟨r_GU, r_OW, r_DX, r_GG, r_HA, r_RGc, r_MP⟩
  · exact sp_247z (P := fun o m' => Q (.inl o) (zst S m')) ob ix oo hV h r_W r_GW  (fun v m' hV' q0 q1 q2 => K v (zov wr_247 (mI S) m') ⟨hV', q1, GW_up q2 ht3, Or.inl q0⟩ (fun c k hc => zov_lo (wq_247 c k) hc) rfl rfl (funext (fun _ => rfl)) rfl rfl (funext (fun _ => rfl)) (funext (fun _ => rfl))) d w S Q hd hw hT rfl (fun _ _ z => z)
  · exact sp_247 (P := fun o m' => Q (.inl o) (zst S m')) ob ix oo hV r_W r_GW r_GU r_OW r_DX r_GG r_HA r_RGc r_MP (fun v m' hV' q0 q1 q2 q3 q4 q5 q6 q7 q8 => K v (zov wr_247 (mI S) m') ⟨hV', q0, (GW_up q1 ht3), Or.inr ⟨(GU_up q2 ht3), q3, q4, q5, q6, q7, q8⟩⟩ (fun c k hc => zov_lo (wq_247 c k) hc) rfl rfl (funext (fun _ => rfl)) rfl rfl (funext (fun _ => rfl)) (funext (fun _ => rfl))) d w S Q hd hw hT rfl (fun _ _ z => z)
theorem rs_247 {X : Nat × (Nat → Int32)} {d w T : Nat} {S : ma_S} {Q : Option ma_V ⊕ Nat → ma_S → Prop} {aa : Nat → Nat → Int32} (ob : Int32) (ix : Int32) (oo : Int32) (hd : 5 ≤ d) (hw : 109 ≤ w) (hT : zT S) (h : zRef T (mI S)) (ht : T + 1 ≤ 512) (h8 : (mI S 94 8).toInt = 1) (h5 : (mI S 94 10).toInt = 5) (hz : zR5 (mI S) aa)  (K : ∀ v m', zRef (T + 1) m' → (∀ c k, c < 94 ∨ 124 < c → m' c k = mI S c k) → (m' 94 3 = mI S 94 3) → (m' 94 7 = mI S 94 7) → (m' 95 = mI S 95) → (m' 94 8 = mI S 94 8) → (m' 94 10 = mI S 94 10) → (m' 97 = mI S 97) → (m' 98 = mI S 98) → zR5 m' (xLi aa ob ix oo) → Q (.inl (some (.inl v))) (zst S m')) : ma_wp X d w 247 0 [(0, .inr (.inr (some 94))), (1, .inl ob), (2, .inl ix), (3, .inl oo)] [] S Q := by
  obtain ⟨hV, r_W, r_GW, h⟩ := h
  have ht3 : T + 1 ≤ 3000 := by omega
  obtain ⟨r_RB, r_QI, r_MG, r_MK, r_WTS⟩ := hz
  rcases h with h | ⟨r_GU, r_OW, r_DX, r_GG, r_HA, r_RGc, r_MP⟩
  · omega
  · exact sp_247r (P := fun o m' => Q (.inl o) (zst S m')) ob ix oo hV (by omega) r_W r_GW r_GU r_OW r_GG h5 h8 r_RB r_QI r_MG r_MK r_WTS (fun v m' hV' q0 q1 q2 q3 q4 q5 q6 q7 q8 q9 => K v (zov wr_247 (mI S) m') ⟨hV', q0, (GW_up q1 ht3), Or.inr ⟨(GU_up q2 ht3), q3, DX_5 h5, q4, HA_5 h5, RG_5 h5, Or.inr h5⟩⟩ (fun c k hc => zov_lo (wq_247 c k) hc) rfl rfl (funext (fun _ => rfl)) rfl rfl (funext (fun _ => rfl)) (funext (fun _ => rfl)) ⟨q5, q6, q7, q8, q9⟩) d w S Q hd hw hT rfl (fun _ _ z => z)
theorem wq_249 : ∀ c k, wr_249 c k = true → 94 ≤ c ∧ c ≤ 124 := by
  intro c k h
  simp only [wr_249, Bool.or_eq_true, Bool.and_eq_true, Nat.beq_eq] at h
  omega
theorem rf_249 {X : Nat × (Nat → Int32)} {d w T : Nat} {S : ma_S} {Q : Option ma_V ⊕ Nat → ma_S → Prop} (ob : Int32) (ix : Int32) (hd : 5 ≤ d) (hw : 109 ≤ w) (hT : zT S) (h : zRef T (mI S)) (ht : T + 1 ≤ 512)  (K : ∀ v m', zRef (T + 1) m' → (∀ c k, c < 94 ∨ 124 < c → m' c k = mI S c k) → (m' 94 3 = mI S 94 3) → (m' 94 7 = mI S 94 7) → (m' 95 = mI S 95) → (m' 94 8 = mI S 94 8) → (m' 94 10 = mI S 94 10) → (m' 97 = mI S 97) → (m' 98 = mI S 98) → (∀ aa, zR5 (mI S) aa → zR5 m' aa) → Q (.inl (some (.inl v))) (zst S m')) : ma_wp X d w 249 0 [(0, .inr (.inr (some 94))), (1, .inl ob), (2, .inl ix)] [] S Q := by
  obtain ⟨hV, r_W, r_GW, h⟩ := h
  have ht3 : T + 1 ≤ 3000 := by omega
  rcases h with h | ⟨r_GU, r_OW, r_DX, r_GG, r_HA, r_RGc, r_MP⟩
  · exact sp_249z (P := fun o m' => Q (.inl o) (zst S m')) ob ix hV h r_W r_GW  (fun v m' hV' q0 q1 q2 => K v (zov wr_249 (mI S) m') ⟨hV', q1, GW_up q2 ht3, Or.inl q0⟩ (fun c k hc => zov_lo (wq_249 c k) hc) rfl rfl (funext (fun _ => rfl)) rfl rfl (funext (fun _ => rfl)) (funext (fun _ => rfl)) (fun _ z => z)) d w S Q hd hw hT rfl (fun _ _ z => z)
  · exact sp_249 (P := fun o m' => Q (.inl o) (zst S m')) ob ix hV r_W r_GW r_GU r_OW r_DX r_GG r_HA r_RGc r_MP (fun v m' hV' q0 q1 q2 q3 q4 q5 q6 q7 q8 => K v (zov wr_249 (mI S) m') ⟨hV', q0, (GW_up q1 ht3), Or.inr ⟨(GU_up q2 ht3), q3, q4, q5, q6, q7, q8⟩⟩ (fun c k hc => zov_lo (wq_249 c k) hc) rfl rfl (funext (fun _ => rfl)) rfl rfl (funext (fun _ => rfl)) (funext (fun _ => rfl)) (fun _ z => z)) d w S Q hd hw hT rfl (fun _ _ z => z)
theorem wq_250 : ∀ c k, wr_250 c k = true → 94 ≤ c ∧ c ≤ 124 := by
  intro c k h
  simp only [wr_250, Bool.or_eq_true, Bool.and_eq_true, Nat.beq_eq] at h
  omega
theorem rf_250 {X : Nat × (Nat → Int32)} {d w T : Nat} {S : ma_S} {Q : Option ma_V ⊕ Nat → ma_S → Prop} (ix : Int32) (ob : Int32) (hd : 5 ≤ d) (hw : 111 ≤ w) (hT : zT S) (h : zRef T (mI S)) (ht : T + 1 ≤ 512)  (K : ∀ v m', zRef (T + 1) m' → (∀ c k, c < 94 ∨ 124 < c → m' c k = mI S c k) → (m' 94 3 = mI S 94 3) → (m' 94 7 = mI S 94 7) → (m' 95 = mI S 95) → (m' 94 8 = mI S 94 8) → (m' 94 10 = mI S 94 10) → (m' 97 = mI S 97) → (m' 98 = mI S 98) → Q (.inl (some (.inl v))) (zst S m')) : ma_wp X d w 250 0 [(0, .inr (.inr (some 94))), (1, .inl ix), (2, .inl ob)] [] S Q := by
  obtain ⟨hV, r_W, r_GW, h⟩ := h
  have ht3 : T + 1 ≤ 3000 := by omega
  rcases h with h | ⟨r_GU, r_OW, r_DX, r_GG, r_HA, r_RGc, r_MP⟩
  · exact sp_250z (P := fun o m' => Q (.inl o) (zst S m')) ix ob hV h r_W r_GW  (fun v m' hV' q0 q1 q2 => K v (zov wr_250 (mI S) m') ⟨hV', q1, GW_up q2 ht3, Or.inl q0⟩ (fun c k hc => zov_lo (wq_250 c k) hc) rfl rfl (funext (fun _ => rfl)) rfl rfl (funext (fun _ => rfl)) (funext (fun _ => rfl))) d w S Q hd hw hT rfl (fun _ _ z => z)
  · exact sp_250 (P := fun o m' => Q (.inl o) (zst S m')) ix ob hV r_W r_GW r_GU r_OW r_DX r_GG r_HA r_RGc r_MP (fun v m' hV' q0 q1 q2 q3 q4 q5 q6 q7 q8 => K v (zov wr_250 (mI S) m') ⟨hV', q0, (GW_up q1 ht3), Or.inr ⟨(GU_up q2 ht3), q3, q4, q5, q6, q7, q8⟩⟩ (fun c k hc => zov_lo (wq_250 c k) hc) rfl rfl (funext (fun _ => rfl)) rfl rfl (funext (fun _ => rfl)) (funext (fun _ => rfl))) d w S Q hd hw hT rfl (fun _ _ z => z)
theorem rs_250 {X : Nat × (Nat → Int32)} {d w T : Nat} {S : ma_S} {Q : Option ma_V ⊕ Nat → ma_S → Prop} {aa : Nat → Nat → Int32} (ix : Int32) (ob : Int32) (hd : 5 ≤ d) (hw : 111 ≤ w) (hT : zT S) (h : zRef T (mI S)) (ht : T + 1 ≤ 512) (h8 : (mI S 94 8).toInt = 1) (h5 : (mI S 94 10).toInt = 5) (hz : zR5 (mI S) aa)  (K : ∀ v m', zRef (T + 1) m' → (∀ c k, c < 94 ∨ 124 < c → m' c k = mI S c k) → (m' 94 3 = mI S 94 3) → (m' 94 7 = mI S 94 7) → (m' 95 = mI S 95) → (m' 94 8 = mI S 94 8) → (m' 94 10 = mI S 94 10) → (m' 97 = mI S 97) → (m' 98 = mI S 98) → zR5 m' (xRo aa ix ob) → Q (.inl (some (.inl v))) (zst S m')) : ma_wp X d w 250 0 [(0, .inr (.inr (some 94))), (1, .inl ix), (2, .inl ob)] [] S Q := by
  obtain ⟨hV, r_W, r_GW, h⟩ := h
  have ht3 : T + 1 ≤ 3000 := by omega
  obtain ⟨r_RB, r_QI, r_MG, r_MK, r_WTS⟩ := hz
  rcases h with h | ⟨r_GU, r_OW, r_DX, r_GG, r_HA, r_RGc, r_MP⟩
  · omega
  · exact sp_250r (P := fun o m' => Q (.inl o) (zst S m')) ix ob hV (by omega) r_W r_GW r_GU r_OW r_GG h5 h8 r_RB r_QI r_MG r_MK r_WTS (fun v m' hV' q0 q1 q2 q3 q4 q5 q6 q7 q8 q9 => K v (zov wr_250 (mI S) m') ⟨hV', q0, (GW_up q1 ht3), Or.inr ⟨(GU_up q2 ht3), q3, DX_5 h5, q4, HA_5 h5, RG_5 h5, Or.inr h5⟩⟩ (fun c k hc => zov_lo (wq_250 c k) hc) rfl rfl (funext (fun _ => rfl)) rfl rfl (funext (fun _ => rfl)) (funext (fun _ => rfl)) ⟨q5, q6, q7, q8, q9⟩) d w S Q hd hw hT rfl (fun _ _ z => z)
theorem wq_251 : ∀ c k, wr_251 c k = true → 94 ≤ c ∧ c ≤ 124 := by
  intro c k h
  simp only [wr_251, Bool.or_eq_true, Bool.and_eq_true, Nat.beq_eq] at h
  omega
theorem rf_251 {X : Nat × (Nat → Int32)} {d w T : Nat} {S : ma_S} {Q : Option ma_V ⊕ Nat → ma_S → Prop} (ix : Int32) (ob : Int32) (hd : 5 ≤ d) (hw : 109 ≤ w) (hT : zT S) (h : zRef T (mI S)) (ht : T + 1 ≤ 512)  (K : ∀ v m', zRef (T + 1) m' → (∀ c k, c < 94 ∨ 124 < c → m' c k = mI S c k) → (m' 94 3 = mI S 94 3) → (m' 94 7 = mI S 94 7) → (m' 95 = mI S 95) → (m' 94 8 = mI S 94 8) → (m' 94 10 = mI S 94 10) → (m' 97 = mI S 97) → (m' 98 = mI S 98) → Q (.inl (some (.inl v))) (zst S m')) : ma_wp X d w 251 0 [(0, .inr (.inr (some 94))), (1, .inl ix), (2, .inl ob)] [] S Q := by
  obtain ⟨hV, r_W, r_GW, h⟩ := h
  have ht3 : T + 1 ≤ 3000 := by omega
  rcases h with h | ⟨r_GU, r_OW, r_DX, r_GG, r_HA, r_RGc, r_MP⟩
  · exact sp_251z (P := fun o m' => Q (.inl o) (zst S m')) ix ob hV h r_W r_GW  (fun v m' hV' q0 q1 q2 => K v (zov wr_251 (mI S) m') ⟨hV', q1, GW_up q2 ht3, Or.inl q0⟩ (fun c k hc => zov_lo (wq_251 c k) hc) rfl rfl (funext (fun _ => rfl)) rfl rfl (funext (fun _ => rfl)) (funext (fun _ => rfl))) d w S Q hd hw hT rfl (fun _ _ z => z)
  · exact sp_251 (P := fun o m' => Q (.inl o) (zst S m')) ix ob hV r_W r_GW r_GU r_OW r_DX r_GG r_HA r_RGc r_MP (fun v m' hV' q0 q1 q2 q3 q4 q5 q6 q7 q8 => K v (zov wr_251 (mI S) m') ⟨hV', q0, (GW_up q1 ht3), Or.inr ⟨(GU_up q2 ht3), q3, q4, q5, q6, q7, q8⟩⟩ (fun c k hc => zov_lo (wq_251 c k) hc) rfl rfl (funext (fun _ => rfl)) rfl rfl (funext (fun _ => rfl)) (funext (fun _ => rfl))) d w S Q hd hw hT rfl (fun _ _ z => z)
theorem rs_251 {X : Nat × (Nat → Int32)} {d w T : Nat} {S : ma_S} {Q : Option ma_V ⊕ Nat → ma_S → Prop} {aa : Nat → Nat → Int32} (ix : Int32) (ob : Int32) (hd : 5 ≤ d) (hw : 109 ≤ w) (hT : zT S) (h : zRef T (mI S)) (ht : T + 1 ≤ 512) (h8 : (mI S 94 8).toInt = 1) (h5 : (mI S 94 10).toInt = 5) (hz : zR5 (mI S) aa)  (K : ∀ v m', zRef (T + 1) m' → (∀ c k, c < 94 ∨ 124 < c → m' c k = mI S c k) → (m' 94 3 = mI S 94 3) → (m' 94 7 = mI S 94 7) → (m' 95 = mI S 95) → (m' 94 8 = mI S 94 8) → (m' 94 10 = mI S 94 10) → (m' 97 = mI S 97) → (m' 98 = mI S 98) → zR5 m' (xWe aa ix ob) → Q (.inl (some (.inl v))) (zst S m')) : ma_wp X d w 251 0 [(0, .inr (.inr (some 94))), (1, .inl ix), (2, .inl ob)] [] S Q := by
  obtain ⟨hV, r_W, r_GW, h⟩ := h
  have ht3 : T + 1 ≤ 3000 := by omega
  obtain ⟨r_RB, r_QI, r_MG, r_MK, r_WTS⟩ := hz
  rcases h with h | ⟨r_GU, r_OW, r_DX, r_GG, r_HA, r_RGc, r_MP⟩
  · omega
  · exact sp_251r (P := fun o m' => Q (.inl o) (zst S m')) ix ob hV (by omega) r_W r_GW r_GU r_OW r_GG h5 h8 r_RB r_QI r_MG r_MK r_WTS (fun v m' hV' q0 q1 q2 q3 q4 q5 q6 q7 q8 q9 => K v (zov wr_251 (mI S) m') ⟨hV', q0, (GW_up q1 ht3), Or.inr ⟨(GU_up q2 ht3), q3, DX_5 h5, q4, HA_5 h5, RG_5 h5, Or.inr h5⟩⟩ (fun c k hc => zov_lo (wq_251 c k) hc) rfl rfl (funext (fun _ => rfl)) rfl rfl (funext (fun _ => rfl)) (funext (fun _ => rfl)) ⟨q5, q6, q7, q8, q9⟩) d w S Q hd hw hT rfl (fun _ _ z => z)
theorem wq_252 : ∀ c k, wr_252 c k = true → 94 ≤ c ∧ c ≤ 124 := by
  intro c k h
  simp only [wr_252, Bool.or_eq_true, Bool.and_eq_true, Nat.beq_eq] at h
  omega
theorem rf_252 {X : Nat × (Nat → Int32)} {d w T : Nat} {S : ma_S} {Q : Option ma_V ⊕ Nat → ma_S → Prop} (ix : Int32) (r1 : Int32) (hd : 5 ≤ d) (hw : 111 ≤ w) (hT : zT S) (h : zRef T (mI S)) (ht : T + 1 ≤ 512)  (K : ∀ v m', zRef (T + 1) m' → (∀ c k, c < 94 ∨ 124 < c → m' c k = mI S c k) → (m' 94 3 = mI S 94 3) → (m' 94 7 = mI S 94 7) → (m' 95 = mI S 95) → (m' 94 8 = mI S 94 8) → (m' 94 10 = mI S 94 10) → (m' 97 = mI S 97) → (m' 98 = mI S 98) → Q (.inl (some (.inl v))) (zst S m')) : ma_wp X d w 252 0 [(0, .inr (.inr (some 94))), (1, .inl ix), (2, .inl r1)] [] S Q := by
  obtain ⟨hV, r_W, r_GW, h⟩ := h
  have ht3 : T + 1 ≤ 3000 := by omega
  rcases h with h | ⟨r_GU, r_OW, r_DX, r_GG, r_HA, r_RGc, r_MP⟩
  · exact sp_252z (P := fun o m' => Q (.inl o) (zst S m')) ix r1 hV h r_W r_GW  (fun v m' hV' q0 q1 q2 => K v (zov wr_252 (mI S) m') ⟨hV', q1, GW_up q2 ht3, Or.inl q0⟩ (fun c k hc => zov_lo (wq_252 c k) hc) rfl rfl (funext (fun _ => rfl)) rfl rfl (funext (fun _ => rfl)) (funext (fun _ => rfl))) d w S Q hd hw hT rfl (fun _ _ z => z)
  · exact sp_252 (P := fun o m' => Q (.inl o) (zst S m')) ix r1 hV r_W r_GW r_GU r_OW r_DX r_GG r_HA r_RGc r_MP (fun v m' hV' q0 q1 q2 q3 q4 q5 q6 q7 q8 => K v (zov wr_252 (mI S) m') ⟨hV', q0, (GW_up q1 ht3), Or.inr ⟨(GU_up q2 ht3), q3, q4, q5, q6, q7, q8⟩⟩ (fun c k hc => zov_lo (wq_252 c k) hc) rfl rfl (funext (fun _ => rfl)) rfl rfl (funext (fun _ => rfl)) (funext (fun _ => rfl))) d w S Q hd hw hT rfl (fun _ _ z => z)
theorem rs_252 {X : Nat × (Nat → Int32)} {d w T : Nat} {S : ma_S} {Q : Option ma_V ⊕ Nat → ma_S → Prop} {aa : Nat → Nat → Int32} (ix : Int32) (r1 : Int32) (hd : 5 ≤ d) (hw : 111 ≤ w) (hT : zT S) (h : zRef T (mI S)) (ht : T + 1 ≤ 512) (h8 : (mI S 94 8).toInt = 1) (h5 : (mI S 94 10).toInt = 5) (hz : zR5 (mI S) aa)  (K : ∀ v m', zRef (T + 1) m' → (∀ c k, c < 94 ∨ 124 < c → m' c k = mI S c k) → (m' 94 3 = mI S 94 3) → (m' 94 7 = mI S 94 7) → (m' 95 = mI S 95) → (m' 94 8 = mI S 94 8) → (m' 94 10 = mI S 94 10) → (m' 97 = mI S 97) → (m' 98 = mI S 98) → zR5 m' (ySg aa ix r1) → Q (.inl (some (.inl v))) (zst S m')) : ma_wp X d w 252 0 [(0, .inr (.inr (some 94))), (1, .inl ix), (2, .inl r1)] [] S Q := by
  obtain ⟨hV, r_W, r_GW, h⟩ := h
  have ht3 : T + 1 ≤ 3000 := by omega
  obtain ⟨r_RB, r_QI, r_MG, r_MK, r_WTS⟩ := hz
  rcases h with h | ⟨r_GU, r_OW, r_DX, r_GG, r_HA, r_RGc, r_MP⟩
  · omega
  · exact sp_252r (P := fun o m' => Q (.inl o) (zst S m')) ix r1 hV (by omega) r_W r_GW r_GU r_OW r_GG h5 h8 r_RB r_QI r_MG r_MK r_WTS (fun v m' hV' q0 q1 q2 q3 q4 q5 q6 q7 q8 q9 => K v (zov wr_252 (mI S) m') ⟨hV', q0, (GW_up q1 ht3), Or.inr ⟨(GU_up q2 ht3), q3, DX_5 h5, q4, HA_5 h5, RG_5 h5, Or.inr h5⟩⟩ (fun c k hc => zov_lo (wq_252 c k) hc) rfl rfl (funext (fun _ => rfl)) rfl rfl (funext (fun _ => rfl)) (funext (fun _ => rfl)) ⟨q5, q6, q7, q8, q9⟩) d w S Q hd hw hT rfl (fun _ _ z => z)
theorem wq_253 : ∀ c k, wr_253 c k = true → 94 ≤ c ∧ c ≤ 124 := by
  intro c k h
  simp only [wr_253, Bool.or_eq_true, Bool.and_eq_true, Nat.beq_eq] at h
  omega
theorem rf_253 {X : Nat × (Nat → Int32)} {d w T : Nat} {S : ma_S} {Q : Option ma_V ⊕ Nat → ma_S → Prop} (ob : Int32) (on : Int32) (hd : 5 ≤ d) (hw : 109 ≤ w) (hT : zT S) (h : zRef T (mI S)) (ht : T + 1 ≤ 512)  (K : ∀ v m', zRef (T + 1) m' → (∀ c k, c < 94 ∨ 124 < c → m' c k = mI S c k) → (m' 94 3 = mI S 94 3) → (m' 94 7 = mI S 94 7) → (m' 95 = mI S 95) → (m' 94 8 = mI S 94 8) → (m' 94 10 = mI S 94 10) → (m' 97 = mI S 97) → (m' 98 = mI S 98) → Q (.inl (some (.inl v))) (zst S m')) : ma_wp X d w 253 0 [(0, .inr (.inr (some 94))), (1, .inl ob), (2, .inl on)] [] S Q := by
  obtain ⟨hV, r_W, r_GW, h⟩ := h
  have ht3 : T + 1 ≤ 3000 := by omega
  rcases h with h | ⟨r_GU, r_OW, r_DX, r_GG, r_HA, r_RGc, r_MP⟩
  · exact sp_253z (P := fun o m' => Q (.inl o) (zst S m')) ob on hV h r_W r_GW  (fun v m' hV' q0 q1 q2 => K v (zov wr_253 (mI S) m') ⟨hV', q1, GW_up q2 ht3, Or.inl q0⟩ (fun c k hc => zov_lo (wq_253 c k) hc) rfl rfl (funext (fun _ => rfl)) rfl rfl (funext (fun _ => rfl)) (funext (fun _ => rfl))) d w S Q hd hw hT rfl (fun _ _ z => z)
  · exact sp_253 (P := fun o m' => Q (.inl o) (zst S m')) ob on hV r_W r_GW r_GU r_OW r_DX r_GG r_HA r_RGc r_MP (fun v m' hV' q0 q1 q2 q3 q4 q5 q6 q7 q8 => K v (zov wr_253 (mI S) m') ⟨hV', q0, (GW_up q1 ht3), Or.inr ⟨(GU_up q2 ht3), q3, q4, q5, q6, q7, q8⟩⟩ (fun c k hc => zov_lo (wq_253 c k) hc) rfl rfl (funext (fun _ => rfl)) rfl rfl (funext (fun _ => rfl)) (funext (fun _ => rfl))) d w S Q hd hw hT rfl (fun _ _ z => z)
theorem rs_253 {X : Nat × (Nat → Int32)} {d w T : Nat} {S : ma_S} {Q : Option ma_V ⊕ Nat → ma_S → Prop} {aa : Nat → Nat → Int32} (ob : Int32) (on : Int32) (hd : 5 ≤ d) (hw : 109 ≤ w) (hT : zT S) (h : zRef T (mI S)) (ht : T + 1 ≤ 512) (h8 : (mI S 94 8).toInt = 1) (h5 : (mI S 94 10).toInt = 5) (hz : zR5 (mI S) aa) (hb0 : 0 ≤ on.toInt) (hb1 : on.toInt ≤ 1) (K : ∀ v m', zRef (T + 1) m' → (∀ c k, c < 94 ∨ 124 < c → m' c k = mI S c k) → (m' 94 3 = mI S 94 3) → (m' 94 7 = mI S 94 7) → (m' 95 = mI S 95) → (m' 94 8 = mI S 94 8) → (m' 94 10 = mI S 94 10) → (m' 97 = mI S 97) → (m' 98 = mI S 98) → zR5 m' (xHo aa ob on) → Q (.inl (some (.inl v))) (zst S m')) : ma_wp X d w 253 0 [(0, .inr (.inr (some 94))), (1, .inl ob), (2, .inl on)] [] S Q := by
  obtain ⟨hV, r_W, r_GW, h⟩ := h
  have ht3 : T + 1 ≤ 3000 := by omega
  obtain ⟨r_RB, r_QI, r_MG, r_MK, r_WTS⟩ := hz
  rcases h with h | ⟨r_GU, r_OW, r_DX, r_GG, r_HA, r_RGc, r_MP⟩
  · omega
  · exact sp_253r (P := fun o m' => Q (.inl o) (zst S m')) ob on hV hb0 hb1 (by omega) r_W r_GW r_GU r_OW r_GG h5 h8 r_RB r_QI r_MG r_MK r_WTS (fun v m' hV' q0 q1 q2 q3 q4 q5 q6 q7 q8 q9 => K v (zov wr_253 (mI S) m') ⟨hV', q0, (GW_up q1 ht3), Or.inr ⟨(GU_up q2 ht3), q3, DX_5 h5, q4, HA_5 h5, RG_5 h5, Or.inr h5⟩⟩ (fun c k hc => zov_lo (wq_253 c k) hc) rfl rfl (funext (fun _ => rfl)) rfl rfl (funext (fun _ => rfl)) (funext (fun _ => rfl)) ⟨q5, q6, q7, q8, q9⟩) d w S Q hd hw hT rfl (fun _ _ z => z)
theorem wq_254 : ∀ c k, wr_254 c k = true → 94 ≤ c ∧ c ≤ 124 := by
  intro c k h
  simp only [wr_254, Bool.or_eq_true, Bool.and_eq_true, Nat.beq_eq] at h
  omega
theorem rf_254 {X : Nat × (Nat → Int32)} {d w T : Nat} {S : ma_S} {Q : Option ma_V ⊕ Nat → ma_S → Prop} (ob : Int32) (hd : 5 ≤ d) (hw : 109 ≤ w) (hT : zT S) (h : zRef T (mI S)) (ht : T + 1 ≤ 512)  (K : ∀ v m', zRef (T + 1) m' → (∀ c k, c < 94 ∨ 124 < c → m' c k = mI S c k) → (m' 94 3 = mI S 94 3) → (m' 94 7 = mI S 94 7) → (m' 95 = mI S 95) → (m' 94 8 = mI S 94 8) → (m' 94 10 = mI S 94 10) → (m' 97 = mI S 97) → (m' 98 = mI S 98) → Q (.inl (some (.inl v))) (zst S m')) : ma_wp X d w 254 0 [(0, .inr (.inr (some 94))), (1, .inl ob)] [] S Q := by
  obtain ⟨hV, r_W, r_GW, h⟩ := h
  have ht3 : T + 1 ≤ 3000 := by omega
  rcases h with h | ⟨r_GU, r_OW, r_DX, r_GG, r_HA, r_RGc, r_MP⟩
  · exact sp_254z (P := fun o m' => Q (.inl o) (zst S m')) ob hV h r_W r_GW  (fun v m' hV' q0 q1 q2 => K v (zov wr_254 (mI S) m') ⟨hV', q1, GW_up q2 ht3, Or.inl q0⟩ (fun c k hc => zov_lo (wq_254 c k) hc) rfl rfl (funext (fun _ => rfl)) rfl rfl (funext (fun _ => rfl)) (funext (fun _ => rfl))) d w S Q hd hw hT rfl (fun _ _ z => z)
  · exact sp_254 (P := fun o m' => Q (.inl o) (zst S m')) ob hV (by omega) r_W r_GW r_GU r_OW r_DX r_GG r_HA r_RGc r_MP (fun v m' hV' q0 q1 q2 q3 q4 q5 q6 q7 q8 => K v (zov wr_254 (mI S) m') ⟨hV', q0, q1, Or.inr ⟨(GU_up q2 ht3), q3, q4, q5, q6, q7, q8⟩⟩ (fun c k hc => zov_lo (wq_254 c k) hc) rfl rfl (funext (fun _ => rfl)) rfl rfl (funext (fun _ => rfl)) (funext (fun _ => rfl))) d w S Q hd hw hT rfl (fun _ _ z => z)
theorem rs_254 {X : Nat × (Nat → Int32)} {d w T : Nat} {S : ma_S} {Q : Option ma_V ⊕ Nat → ma_S → Prop} {aa : Nat → Nat → Int32} (ob : Int32) (hd : 5 ≤ d) (hw : 109 ≤ w) (hT : zT S) (h : zRef T (mI S)) (ht : T + 1 ≤ 512) (h8 : (mI S 94 8).toInt = 1) (h5 : (mI S 94 10).toInt = 5) (hz : zR5 (mI S) aa)  (K : ∀ v m', zRef (T + 1) m' → (∀ c k, c < 94 ∨ 124 < c → m' c k = mI S c k) → (m' 94 3 = mI S 94 3) → (m' 94 7 = mI S 94 7) → (m' 95 = mI S 95) → (m' 94 8 = mI S 94 8) → (m' 94 10 = mI S 94 10) → (m' 97 = mI S 97) → (m' 98 = mI S 98) → zR5 m' (xWi aa ob) → Q (.inl (some (.inl v))) (zst S m')) : ma_wp X d w 254 0 [(0, .inr (.inr (some 94))), (1, .inl ob)] [] S Q := by
  obtain ⟨hV, r_W, r_GW, h⟩ := h
  have ht3 : T + 1 ≤ 3000 := by omega
  obtain ⟨r_RB, r_QI, r_MG, r_MK, r_WTS⟩ := hz
  rcases h with h | ⟨r_GU, r_OW, r_DX, r_GG, r_HA, r_RGc, r_MP⟩
  · omega
  · exact sp_254r (P := fun o m' => Q (.inl o) (zst S m')) ob hV (by omega) (by omega) r_W r_GW r_GU r_OW r_GG h5 h8 r_RB r_QI r_MG r_MK r_WTS (fun v m' hV' q0 q1 q2 q3 q4 q5 q6 q7 q8 q9 => K v (zov wr_254 (mI S) m') ⟨hV', q0, q1, Or.inr ⟨(GU_up q2 ht3), q3, DX_5 h5, q4, HA_5 h5, RG_5 h5, Or.inr h5⟩⟩ (fun c k hc => zov_lo (wq_254 c k) hc) rfl rfl (funext (fun _ => rfl)) rfl rfl (funext (fun _ => rfl)) (funext (fun _ => rfl)) ⟨q5, q6, q7, q8, q9⟩) d w S Q hd hw hT rfl (fun _ _ z => z)
theorem wq_255 : ∀ c k, wr_255 c k = true → 94 ≤ c ∧ c ≤ 124 := by
  intro c k h
  simp only [wr_255, Bool.or_eq_true, Bool.and_eq_true, Nat.beq_eq] at h
  omega
theorem rf_255 {X : Nat × (Nat → Int32)} {d w T : Nat} {S : ma_S} {Q : Option ma_V ⊕ Nat → ma_S → Prop} (r1 : Int32) (hd : 5 ≤ d) (hw : 111 ≤ w) (hT : zT S) (h : zRef T (mI S)) (ht : T + 1 ≤ 512)  (K : ∀ v m', zRef (T + 1) m' → (∀ c k, c < 94 ∨ 124 < c → m' c k = mI S c k) → (m' 94 3 = mI S 94 3) → (m' 94 7 = mI S 94 7) → (m' 95 = mI S 95) → (m' 94 8 = mI S 94 8) → (m' 94 10 = mI S 94 10) → (m' 97 = mI S 97) → (m' 98 = mI S 98) → Q (.inl (some (.inl v))) (zst S m')) : ma_wp X d w 255 0 [(0, .inr (.inr (some 94))), (1, .inl r1)] [] S Q := by
  obtain ⟨hV, r_W, r_GW, h⟩ := h
  have ht3 : T + 1 ≤ 3000 := by omega
  rcases h with h | ⟨r_GU, r_OW, r_DX, r_GG, r_HA, r_RGc, r_MP⟩
  · exact sp_255z (P := fun o m' => Q (.inl o) (zst S m')) r1 hV h r_W r_GW  (fun v m' hV' q0 q1 q2 => K v (zov wr_255 (mI S) m') ⟨hV', q1, GW_up q2 ht3, Or.inl q0⟩ (fun c k hc => zov_lo (wq_255 c k) hc) rfl rfl (funext (fun _ => rfl)) rfl rfl (funext (fun _ => rfl)) (funext (fun _ => rfl))) d w S Q hd hw hT rfl (fun _ _ z => z)
  · exact sp_255 (P := fun o m' => Q (.inl o) (zst S m')) r1 hV r_W r_GW r_GU r_OW r_DX r_GG r_HA r_RGc r_MP (fun v m' hV' q0 q1 q2 q3 q4 q5 q6 q7 q8 => K v (zov wr_255 (mI S) m') ⟨hV', q0, (GW_up q1 ht3), Or.inr ⟨(GU_up q2 ht3), q3, q4, q5, q6, q7, q8⟩⟩ (fun c k hc => zov_lo (wq_255 c k) hc) rfl rfl (funext (fun _ => rfl)) rfl rfl (funext (fun _ => rfl)) (funext (fun _ => rfl))) d w S Q hd hw hT rfl (fun _ _ z => z)
theorem rs_255 {X : Nat × (Nat → Int32)} {d w T : Nat} {S : ma_S} {Q : Option ma_V ⊕ Nat → ma_S → Prop} {aa : Nat → Nat → Int32} (r1 : Int32) (hd : 5 ≤ d) (hw : 111 ≤ w) (hT : zT S) (h : zRef T (mI S)) (ht : T + 1 ≤ 512) (h8 : (mI S 94 8).toInt = 1) (h5 : (mI S 94 10).toInt = 5) (hz : zR5 (mI S) aa)  (K : ∀ v m', zRef (T + 1) m' → (∀ c k, c < 94 ∨ 124 < c → m' c k = mI S c k) → (m' 94 3 = mI S 94 3) → (m' 94 7 = mI S 94 7) → (m' 95 = mI S 95) → (m' 94 8 = mI S 94 8) → (m' 94 10 = mI S 94 10) → (m' 97 = mI S 97) → (m' 98 = mI S 98) → zR5 m' (xGr aa r1) → Q (.inl (some (.inl v))) (zst S m')) : ma_wp X d w 255 0 [(0, .inr (.inr (some 94))), (1, .inl r1)] [] S Q := by
  obtain ⟨hV, r_W, r_GW, h⟩ := h
  have ht3 : T + 1 ≤ 3000 := by omega
  obtain ⟨r_RB, r_QI, r_MG, r_MK, r_WTS⟩ := hz
  rcases h with h | ⟨r_GU, r_OW, r_DX, r_GG, r_HA, r_RGc, r_MP⟩
  · omega
  · exact sp_255r (P := fun o m' => Q (.inl o) (zst S m')) r1 hV (by omega) r_W r_GW r_GU r_OW r_GG h5 h8 r_RB r_QI r_MG r_MK r_WTS (fun v m' hV' q0 q1 q2 q3 q4 q5 q6 q7 q8 q9 => K v (zov wr_255 (mI S) m') ⟨hV', q0, (GW_up q1 ht3), Or.inr ⟨(GU_up q2 ht3), q3, DX_5 h5, q4, HA_5 h5, RG_5 h5, Or.inr h5⟩⟩ (fun c k hc => zov_lo (wq_255 c k) hc) rfl rfl (funext (fun _ => rfl)) rfl rfl (funext (fun _ => rfl)) (funext (fun _ => rfl)) ⟨q5, q6, q7, q8, q9⟩) d w S Q hd hw hT rfl (fun _ _ z => z)
theorem wq_256 : ∀ c k, wr_256 c k = true → 94 ≤ c ∧ c ≤ 124 := by
  intro c k h
  simp only [wr_256, Bool.or_eq_true, Bool.and_eq_true, Nat.beq_eq] at h
  omega
theorem rf_256 {X : Nat × (Nat → Int32)} {d w T : Nat} {S : ma_S} {Q : Option ma_V ⊕ Nat → ma_S → Prop}  (hd : 7 ≤ d) (hw : 152 ≤ w) (hT : zT S) (h : zRef T (mI S)) (ht : T + 1 ≤ 512)  (K : ∀ v m', zRef (T + 1) m' → (∀ c k, c < 94 ∨ 124 < c → m' c k = mI S c k) → (m' 94 3 = mI S 94 3) → (m' 94 7 = mI S 94 7) → (m' 95 = mI S 95) → (m' 94 8 = mI S 94 8) → (m' 94 10 = mI S 94 10) → (m' 97 = mI S 97) → (m' 98 = mI S 98) → Q (.inl (some (.inl v))) (zst S m')) : ma_wp X d w 256 0 [(0, .inr (.inr (some 94)))] [] S Q := by
  obtain ⟨hV, r_W, r_GW, h⟩ := h
  have ht3 : T + 1 ≤ 3000 := by omega
  rcases h with h | ⟨r_GU, r_OW, r_DX, r_GG, r_HA, r_RGc, r_MP⟩
  · exact sp_256z (P := fun o m' => Q (.inl o) (zst S m'))  hV h r_W r_GW  (fun v m' hV' q0 q1 q2 => K v (zov wr_256 (mI S) m') ⟨hV', q1, GW_up q2 ht3, Or.inl q0⟩ (fun c k hc => zov_lo (wq_256 c k) hc) rfl rfl (funext (fun _ => rfl)) rfl rfl (funext (fun _ => rfl)) (funext (fun _ => rfl))) d w S Q hd hw hT rfl (fun _ _ z => z)
  · exact sp_256 (P := fun o m' => Q (.inl o) (zst S m'))  hV r_W r_GW r_GU r_OW r_DX r_GG r_HA r_RGc r_MP (fun v m' hV' q0 q1 q2 q3 q4 q5 q6 q7 q8 => K v (zov wr_256 (mI S) m') ⟨hV', q0, (GW_up q1 ht3), Or.inr ⟨(GU_up q2 ht3), q3, q4, q5, q6, q7, q8⟩⟩ (fun c k hc => zov_lo (wq_256 c k) hc) rfl rfl (funext (fun _ => rfl)) rfl rfl (funext (fun _ => rfl)) (funext (fun _ => rfl))) d w S Q hd hw hT rfl (fun _ _ z => z)
theorem rs_256 {X : Nat × (Nat → Int32)} {d w T : Nat} {S : ma_S} {Q : Option ma_V ⊕ Nat → ma_S → Prop} {aa : Nat → Nat → Int32}  (hd : 7 ≤ d) (hw : 152 ≤ w) (hT : zT S) (h : zRef T (mI S)) (ht : T + 1 ≤ 512) (h8 : (mI S 94 8).toInt = 1) (h5 : (mI S 94 10).toInt = 5) (hz : zR5 (mI S) aa)  (K : ∀ v m', zRef (T + 1) m' → (∀ c k, c < 94 ∨ 124 < c → m' c k = mI S c k) → (m' 94 3 = mI S 94 3) → (m' 94 7 = mI S 94 7) → (m' 95 = mI S 95) → (m' 94 8 = mI S 94 8) → (m' 94 10 = mI S 94 10) → (m' 97 = mI S 97) → (m' 98 = mI S 98) → zR5 m' (aCl aa) → Q (.inl (some (.inl v))) (zst S m')) : ma_wp X d w 256 0 [(0, .inr (.inr (some 94)))] [] S Q := by
  obtain ⟨hV, r_W, r_GW, h⟩ := h
  have ht3 : T + 1 ≤ 3000 := by omega
  obtain ⟨r_RB, r_QI, r_MG, r_MK, r_WTS⟩ := hz
  rcases h with h | ⟨r_GU, r_OW, r_DX, r_GG, r_HA, r_RGc, r_MP⟩
  · omega
  · exact sp_256r (P := fun o m' => Q (.inl o) (zst S m'))  hV (by omega) r_W r_GW r_GU r_OW r_GG h5 h8 r_RB r_QI r_MG r_MK r_WTS (fun v m' hV' q0 q1 q2 q3 q4 q5 q6 q7 q8 q9 => K v (zov wr_256 (mI S) m') ⟨hV', q0, (GW_up q1 ht3), Or.inr ⟨(GU_up q2 ht3), q3, DX_5 h5, q4, HA_5 h5, RG_5 h5, Or.inr h5⟩⟩ (fun c k hc => zov_lo (wq_256 c k) hc) rfl rfl (funext (fun _ => rfl)) rfl rfl (funext (fun _ => rfl)) (funext (fun _ => rfl)) ⟨q5, q6, q7, q8, q9⟩) d w S Q hd hw hT rfl (fun _ _ z => z)
theorem wq_257 : ∀ c k, wr_257 c k = true → 94 ≤ c ∧ c ≤ 124 := by
  intro c k h
  simp only [wr_257, Bool.or_eq_true, Bool.and_eq_true, Nat.beq_eq] at h
  omega
theorem rf_257 {X : Nat × (Nat → Int32)} {d w T : Nat} {S : ma_S} {Q : Option ma_V ⊕ Nat → ma_S → Prop} (nn : Int32) (hd : 5 ≤ d) (hw : 109 ≤ w) (hT : zT S) (h : zRef T (mI S)) (ht : T + 1 ≤ 512) (n5 : (mI S 94 8).toInt ≠ 0 → (mI S 94 10).toInt ≠ 5)  (K : ∀ v m', zRef (T + 1) m' → (∀ c k, c < 94 ∨ 124 < c → m' c k = mI S c k) → (m' 94 3 = mI S 94 3) → (m' 94 7 = mI S 94 7) → (m' 95 = mI S 95) → (m' 94 8 = mI S 94 8) → (m' 94 10 = mI S 94 10) → (m' 97 = mI S 97) → (m' 98 = mI S 98) → (((nn.toInt < 0 ∨ 1000 < nn.toInt) ∧ (m' 94 0).toInt = 1) ∨ ((0 ≤ nn.toInt ∧ nn.toInt ≤ 1000) ∧ (((mI S 94 8).toInt = 0 ∧ (m' 94 0).toInt = 2) ∨ ((mI S 94 8).toInt ≠ 0 ∧ (m' 94 0).toInt = 3)))) → Q (.inl (some (.inl v))) (zst S m')) : ma_wp X d w 257 0 [(0, .inr (.inr (some 94))), (1, .inl nn)] [] S Q := by
  obtain ⟨hV, r_W, r_GW, h⟩ := h
  have ht3 : T + 1 ≤ 3000 := by omega
  rcases h with h | ⟨r_GU, r_OW, r_DX, r_GG, r_HA, r_RGc, r_MP⟩
  · exact sp_257v (P := fun o m' => Q (.inl o) (zst S m')) nn hV h r_W r_GW  (fun v m' hV' q0 q1 q2 q3 => K v (zov wr_257 (mI S) m') ⟨hV', q1, GW_up q2 ht3, Or.inl q0⟩ (fun c k hc => zov_lo (wq_257 c k) hc) rfl rfl (funext (fun _ => rfl)) rfl rfl (funext (fun _ => rfl)) (funext (fun _ => rfl)) (q3.imp id (fun z => ⟨z.1, Or.inl ⟨h, z.2⟩⟩))) d w S Q hd hw hT rfl (fun _ _ z => z)
  by_cases n8 : (mI S 94 8).toInt = 0
  · exact sp_257v (P := fun o m' => Q (.inl o) (zst S m')) nn hV n8 r_W r_GW  (fun v m' hV' q0 q1 q2 q3 => K v (zov wr_257 (mI S) m') ⟨hV', q1, GW_up q2 ht3, Or.inl q0⟩ (fun c k hc => zov_lo (wq_257 c k) hc) rfl rfl (funext (fun _ => rfl)) rfl rfl (funext (fun _ => rfl)) (funext (fun _ => rfl)) (q3.imp id (fun z => ⟨z.1, Or.inl ⟨n8, z.2⟩⟩))) d w S Q hd hw hT rfl (fun _ _ z => z)
  have n5 := n5 n8
  have h8 : (mI S 94 8).toInt = 1 := by
    have := rs_94_8 hV
    omega
  exact sp_257w (P := fun o m' => Q (.inl o) (zst S m')) nn hV h8 n5 r_W r_GW r_GU r_OW r_DX r_GG r_HA r_RGc r_MP (fun v m' hV' q0 q1 q2 q3 q4 q5 q6 q7 q8 q9 => K v (zov wr_257 (mI S) m') ⟨hV', q0, (GW_up q1 ht3), Or.inr ⟨(GU_up q2 ht3), q3, q4, q5, q6, q7, q8⟩⟩ (fun c k hc => zov_lo (wq_257 c k) hc) rfl rfl (funext (fun _ => rfl)) rfl rfl (funext (fun _ => rfl)) (funext (fun _ => rfl)) (q9.imp id (fun z => ⟨z.1, Or.inr ⟨n8, z.2⟩⟩))) d w S Q hd hw hT rfl (fun _ _ z => z)
theorem rs_257 {X : Nat × (Nat → Int32)} {d w T : Nat} {S : ma_S} {Q : Option ma_V ⊕ Nat → ma_S → Prop} {aa : Nat → Nat → Int32} (nn : Int32) (hd : 5 ≤ d) (hw : 109 ≤ w) (hT : zT S) (h : zRef T (mI S)) (ht : T + 1 ≤ 512) (h8 : (mI S 94 8).toInt = 1) (h5 : (mI S 94 10).toInt = 5) (hz : zR5 (mI S) aa)  (K : ∀ v m', zRef (T + 1) m' → (∀ c k, c < 94 ∨ 124 < c → m' c k = mI S c k) → (m' 94 3 = mI S 94 3) → (m' 94 7 = mI S 94 7) → (m' 95 = mI S 95) → (m' 94 8 = mI S 94 8) → (m' 94 10 = mI S 94 10) → (m' 97 = mI S 97) → (m' 98 = mI S 98) → zR5 m' (xSp aa nn) → (qSt aa nn (m' 94 0) v) → Q (.inl (some (.inl v))) (zst S m')) : ma_wp X d w 257 0 [(0, .inr (.inr (some 94))), (1, .inl nn)] [] S Q := by
  obtain ⟨hV, r_W, r_GW, h⟩ := h
  have ht3 : T + 1 ≤ 3000 := by omega
  obtain ⟨r_RB, r_QI, r_MG, r_MK, r_WTS⟩ := hz
  rcases h with h | ⟨r_GU, r_OW, r_DX, r_GG, r_HA, r_RGc, r_MP⟩
  · omega
  · exact sp_257r (P := fun o m' => Q (.inl o) (zst S m')) nn hV (by omega) r_W r_GW r_GU r_OW r_GG h5 h8 r_RB r_QI r_MG r_MK r_WTS (fun v m' hV' q0 q1 q2 q3 q4 q5 q6 q7 q8 q9 q10 => K v (zov wr_257 (mI S) m') ⟨hV', q0, (GW_up q1 ht3), Or.inr ⟨(GU_up q2 ht3), q3, DX_5 h5, q4, HA_5 h5, RG_5 h5, Or.inr h5⟩⟩ (fun c k hc => zov_lo (wq_257 c k) hc) rfl rfl (funext (fun _ => rfl)) rfl rfl (funext (fun _ => rfl)) (funext (fun _ => rfl)) ⟨q5, q6, q7, q8, q9⟩ q10) d w S Q hd hw hT rfl (fun _ _ z => z)
theorem wq_258 : ∀ c k, wr_258 c k = true → 94 ≤ c ∧ c ≤ 124 := by
  intro c k h
  simp only [wr_258, Bool.or_eq_true, Bool.and_eq_true, Nat.beq_eq] at h
  omega
theorem rf_258 {X : Nat × (Nat → Int32)} {d w T : Nat} {S : ma_S} {Q : Option ma_V ⊕ Nat → ma_S → Prop} (ob : Int32) (wh : Int32) (hd : 5 ≤ d) (hw : 109 ≤ w) (hT : zT S) (h : zRef T (mI S)) (ht : T + 1 ≤ 512)  (K : ∀ v m', zRef (T + 1) m' → (∀ c k, c < 94 ∨ 124 < c → m' c k = mI S c k) → (m' 94 3 = mI S 94 3) → (m' 94 7 = mI S 94 7) → (m' 95 = mI S 95) → (m' 94 8 = mI S 94 8) → (m' 94 10 = mI S 94 10) → (m' 97 = mI S 97) → (m' 98 = mI S 98) → (∀ aa, zR5 (mI S) aa → zR5 m' aa) → Q (.inl (some (.inl v))) (zst S m')) : ma_wp X d w 258 0 [(0, .inr (.inr (some 94))), (1, .inl ob), (2, .inl wh)] [] S Q := by
  obtain ⟨hV, r_W, r_GW, h⟩ := h
  have ht3 : T + 1 ≤ 3000 := by omega
  rcases h with h | ⟨r_GU, r_OW, r_DX, r_GG, r_HA, r_RGc, r_MP⟩
  · exact sp_258z (P := fun o m' => Q (.inl o) (zst S m')) ob wh hV h r_W r_GW  (fun v m' hV' q0 q1 q2 => K v (zov wr_258 (mI S) m') ⟨hV', q1, GW_up q2 ht3, Or.inl q0⟩ (fun c k hc => zov_lo (wq_258 c k) hc) rfl rfl (funext (fun _ => rfl)) rfl rfl (funext (fun _ => rfl)) (funext (fun _ => rfl)) (fun _ z => z)) d w S Q hd hw hT rfl (fun _ _ z => z)
  · exact sp_258 (P := fun o m' => Q (.inl o) (zst S m')) ob wh hV r_W r_GW r_GU r_OW r_DX r_GG r_HA r_RGc r_MP (fun v m' hV' q0 q1 q2 q3 q4 q5 q6 q7 q8 => K v (zov wr_258 (mI S) m') ⟨hV', q0, (GW_up q1 ht3), Or.inr ⟨(GU_up q2 ht3), q3, q4, q5, q6, q7, q8⟩⟩ (fun c k hc => zov_lo (wq_258 c k) hc) rfl rfl (funext (fun _ => rfl)) rfl rfl (funext (fun _ => rfl)) (funext (fun _ => rfl)) (fun _ z => z)) d w S Q hd hw hT rfl (fun _ _ z => z)
theorem wq_259 : ∀ c k, wr_259 c k = true → 94 ≤ c ∧ c ≤ 124 := by
  intro c k h
  simp only [wr_259, Bool.or_eq_true, Bool.and_eq_true, Nat.beq_eq] at h
  omega
theorem rf_259 {X : Nat × (Nat → Int32)} {d w T : Nat} {S : ma_S} {Q : Option ma_V ⊕ Nat → ma_S → Prop} (ix : Int32) (pa : Int32) (hd : 2 ≤ d) (hw : 45 ≤ w) (hT : zT S) (h : zRef T (mI S)) (ht : T + 1 ≤ 512)  (K : ∀ v m', zRef (T + 1) m' → (∀ c k, c < 94 ∨ 124 < c → m' c k = mI S c k) → (m' 94 3 = mI S 94 3) → (m' 94 7 = mI S 94 7) → (m' 95 = mI S 95) → (m' 94 8 = mI S 94 8) → (m' 94 10 = mI S 94 10) → (m' 97 = mI S 97) → (m' 98 = mI S 98) → (∀ aa, zR5 (mI S) aa → zR5 m' aa) → Q (.inl (some (.inl v))) (zst S m')) : ma_wp X d w 259 0 [(0, .inr (.inr (some 94))), (1, .inl ix), (2, .inl pa)] [] S Q := by
  obtain ⟨hV, r_W, r_GW, h⟩ := h
  have ht3 : T + 1 ≤ 3000 := by omega
  rcases h with h | ⟨r_GU, r_OW, r_DX, r_GG, r_HA, r_RGc, r_MP⟩
  · exact sp_259z (P := fun o m' => Q (.inl o) (zst S m')) ix pa hV h r_W r_GW  (fun v m' hV' q0 q1 q2 => K v (zov wr_259 (mI S) m') ⟨hV', q1, GW_up q2 ht3, Or.inl q0⟩ (fun c k hc => zov_lo (wq_259 c k) hc) rfl rfl (funext (fun _ => rfl)) rfl rfl (funext (fun _ => rfl)) (funext (fun _ => rfl)) (fun _ z => z)) d w S Q hd hw hT rfl (fun _ _ z => z)
  · exact sp_259 (P := fun o m' => Q (.inl o) (zst S m')) ix pa hV r_W r_GW r_GU r_OW r_DX r_GG r_HA r_RGc r_MP (fun v m' hV' q0 q1 q2 q3 q4 q5 q6 q7 q8 => K v (zov wr_259 (mI S) m') ⟨hV', q0, (GW_up q1 ht3), Or.inr ⟨(GU_up q2 ht3), q3, q4, q5, q6, q7, q8⟩⟩ (fun c k hc => zov_lo (wq_259 c k) hc) rfl rfl (funext (fun _ => rfl)) rfl rfl (funext (fun _ => rfl)) (funext (fun _ => rfl)) (fun _ z => z)) d w S Q hd hw hT rfl (fun _ _ z => z)
theorem wq_260 : ∀ c k, wr_260 c k = true → 94 ≤ c ∧ c ≤ 124 := by
  intro c k h
  simp only [wr_260, Bool.or_eq_true, Bool.and_eq_true, Nat.beq_eq] at h
  omega
theorem rf_260 {X : Nat × (Nat → Int32)} {d w T : Nat} {S : ma_S} {Q : Option ma_V ⊕ Nat → ma_S → Prop} (wh : Int32) (hd : 1 ≤ d) (hw : 22 ≤ w) (hT : zT S) (h : zRef T (mI S)) (ht : T + 1 ≤ 512)  (K : ∀ v m', zRef (T + 1) m' → (∀ c k, c < 94 ∨ 124 < c → m' c k = mI S c k) → (m' 94 3 = mI S 94 3) → (m' 94 7 = mI S 94 7) → (m' 95 = mI S 95) → (m' 94 8 = mI S 94 8) → (m' 94 10 = mI S 94 10) → (m' 97 = mI S 97) → (m' 98 = mI S 98) → (∀ aa, zR5 (mI S) aa → zR5 m' aa) → Q (.inl (some (.inl v))) (zst S m')) : ma_wp X d w 260 0 [(0, .inr (.inr (some 94))), (1, .inl wh)] [] S Q := by
  obtain ⟨hV, r_W, r_GW, h⟩ := h
  have ht3 : T + 1 ≤ 3000 := by omega
  rcases h with h | ⟨r_GU, r_OW, r_DX, r_GG, r_HA, r_RGc, r_MP⟩
  · exact sp_260z (P := fun o m' => Q (.inl o) (zst S m')) wh hV h r_W r_GW  (fun v m' hV' q0 q1 q2 => K v (zov wr_260 (mI S) m') ⟨hV', q1, GW_up q2 ht3, Or.inl q0⟩ (fun c k hc => zov_lo (wq_260 c k) hc) rfl rfl (funext (fun _ => rfl)) rfl rfl (funext (fun _ => rfl)) (funext (fun _ => rfl)) (fun _ z => z)) d w S Q hd hw hT rfl (fun _ _ z => z)
  · exact sp_260 (P := fun o m' => Q (.inl o) (zst S m')) wh hV r_W r_GW r_GU r_OW r_DX r_GG r_HA r_RGc r_MP (fun v m' hV' q0 q1 q2 q3 q4 q5 q6 q7 q8 => K v (zov wr_260 (mI S) m') ⟨hV', q0, (GW_up q1 ht3), Or.inr ⟨(GU_up q2 ht3), q3, q4, q5, q6, q7, q8⟩⟩ (fun c k hc => zov_lo (wq_260 c k) hc) rfl rfl (funext (fun _ => rfl)) rfl rfl (funext (fun _ => rfl)) (funext (fun _ => rfl)) (fun _ z => z)) d w S Q hd hw hT rfl (fun _ _ z => z)
