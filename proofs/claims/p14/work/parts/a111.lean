/-! from 95.h13 -/
/-! the reference by numbers (written by wip/tools/gen18r.py) -/
theorem GW_512 {T : Nat} {z : Int32} {wi : Nat → Int32} {s : Int32} (h : zGW T z wi) (hw : wi s.toNatClampNeg ≠ 0) (h0 : 0 ≤ s.toInt) (h3 : s.toInt ≤ 3099) (hT : T ≤ 512) : z.toInt < 512 := by
  have c := cnt_pos (r := wi) (n := 3100) (k := s.toNatClampNeg) (by have := tn_cast h0; omega) hw
  have := h.1
  omega
theorem sp_197r {X : Nat × (Nat → Int32)} {P : Option ma_V → (Nat → Nat → Int32) → Prop} {T : Nat} {aa : Nat→Nat→Int32} {m : Nat → Nat → Int32} (s : Int32) (hV : zV m) (hpre0 : 0 ≤ s.toInt) (hpre1 : s.toInt ≤ 3099) (hpre2 : T ≤ 512) (hpre3 : (m 94 10).toInt = 5) (r_WI : (m 109) s.toNatClampNeg ≠ 0) (r_USs : (m 99) s.toNatClampNeg ≠ 0) (r_GW : zGW T (m 94 55) (m 109)) (r_RB : qRB (m 99) (m 100) (m 98) (m 101) (m 102) (m 103) (m 107) (m 108) (m 109) (m 111) (m 112) (m 113) (m 114) (m 94 55) (m 94 46) (m 94 11) (m 94 12) (m 94 62) (m 94 17) (m 94 9) aa) (r_QI : qI aa) (KZ : ∀ m₉, zV (zov wr_197 m m₉) → (zGW T (m₉ 94 55) (m₉ 109)) → (zuw (m 113) (m₉ 113)) → (zwx (m 114) (m₉ 114) (m 94 55) s) → ((m₉ 94 55).toInt = (m 94 55).toInt + 1) → (qRB (m 99) (m 100) (m 98) (m 101) (m 102) (m 103) (m 107) (m 108) (m₉ 109) (m 111) (m 112) (m₉ 113) (m₉ 114) (m₉ 94 55) (m 94 46) (m 94 11) (m 94 12) (m 94 62) (m 94 17) (m 94 9) (aGr aa ((m 100) s.toNatClampNeg))) → (qI (aGr aa ((m 100) s.toNatClampNeg))) → P none (zov wr_197 m m₉)) : zm X 1 22 197 0 [(0, .inr (.inr (some 94))), (1, .inl s)] m P := by
  have K : ∀ m₉, zF wr_197 m m₉ → zV m₉ → (zGW T (m₉ 94 55) (m₉ 109)) → (zuw (m 113) (m₉ 113)) → (zwx (m 114) (m₉ 114) (m 94 55) s) → ((m₉ 94 55).toInt = (m 94 55).toInt + 1) → (qRB (m₉ 99) (m₉ 100) (m₉ 98) (m₉ 101) (m₉ 102) (m₉ 103) (m₉ 107) (m₉ 108) (m₉ 109) (m₉ 111) (m₉ 112) (m₉ 113) (m₉ 114) (m₉ 94 55) (m₉ 94 46) (m₉ 94 11) (m₉ 94 12) (m₉ 94 62) (m₉ 94 17) (m₉ 94 9) (aGr aa ((m₉ 100) s.toNatClampNeg))) → (qI (aGr aa ((m₉ 100) s.toNatClampNeg))) → P none m₉ := by
    intro m₉ hf z q0 q1 q2 q3 q4 q5
    have e := zov_eq hf
    rw [e] at z ⊢
    try rw [e] at q0
    try rw [e] at q1
    try rw [e] at q2
    try rw [e] at q3
    try rw [e] at q4
    try rw [e] at q5
    exact KZ m₉ z q0 q1 q2 q3 q4 q5
  refine g_197_0 s ?_
  have f1 : 0 ≤ (m 94 10).toInt ∧ (m 94 10).toInt ≤ 6 := rs_94_10 (m := m) hV
  have b2 := i_bd s
  try have gwr := GW_512 r_GW r_WI (by omega) (by omega) (by omega)
  refine sp_198r (s) hV  (fun m1 hV_m1 p0_m1 p1_m1 => zmv_n ?_)
  have p0_m1 : zuw (m 113) (m1 113) := p0_m1
  have p1_m1 : qUn (m 113) (m1 113) s 16 := p1_m1
  try have gw := GW_room r_GW
  try have gwr := GW_512 r_GW r_WI (by omega) (by omega) (by omega)
  have hg3 : (0 ≤ s ∧ s.toNatClampNeg < 3100) := i_ix (by omega) (by omega)
  refine ⟨hg3, ?_⟩
  have f4 : 0 ≤ (m 94 55).toInt ∧ (m 94 55).toInt ≤ 3100 := rs_94_55 (m := m) hV
  try have gw := GW_room r_GW
  try have gwr := GW_512 r_GW r_WI (by omega) (by omega) (by omega)
  have hg5 : (0 ≤ (m 94 55) ∧ (m 94 55).toNatClampNeg < 3100) := i_ix (by omega) (by omega)
  refine ⟨hg5, ?_⟩
  have li6 : (4 : Int32).toInt = 4 := rfl
  refine zd (fun (h7 : (m 94 10) = (4 : Int32)) => ?_) (fun (h7 : ¬ (m 94 10) = (4 : Int32)) => ?_)
  · skip
    have g8 := i_eq h7
    have hg9 : (0 ≤ s ∧ s.toNatClampNeg < 3100) := i_ix (by omega) (by omega)
    refine ⟨hg9, ?_⟩
    have hg10 : (0 ≤ s ∧ s.toNatClampNeg < 3100) := i_ix (by omega) (by omega)
    refine ⟨hg10, ?_⟩
    try have gwr := GW_512 r_GW r_WI (by omega) (by omega) (by omega)
    have li12 : (0 : Int32).toInt = 0 := rfl
    have hV11 : zV (ma_u (zov wr_198 m m1) 109 s.toNatClampNeg (0 : Int32)) := ua_109 hV_m1 (by omega) (by omega)
    have hV13 : zV (ma_u (ma_u (zov wr_198 m m1) 109 s.toNatClampNeg (0 : Int32)) 114 (m 94 55).toNatClampNeg s) := ua_114 hV11 (by omega) (by omega)
    first | have e15 : ((m 94 55) + (1 : Int32)).toInt = (m 94 55).toInt + (1) := i_addk rfl (by omega) (by omega) | have b16 := i_bd ((m 94 55) + (1 : Int32))
    have hV14 : zV (ma_u (ma_u (ma_u (zov wr_198 m m1) 109 s.toNatClampNeg (0 : Int32)) 114 (m 94 55).toNatClampNeg s) 94 55 ((m 94 55) + (1 : Int32))) := us_94_55 hV13 (by omega) (by omega)
    have hV17 : zV (ma_u (ma_u (ma_u (ma_u (zov wr_198 m m1) 109 s.toNatClampNeg (0 : Int32)) 114 (m 94 55).toNatClampNeg s) 94 55 ((m 94 55) + (1 : Int32))) 105 s.toNatClampNeg ((m 105 s.toNatClampNeg) + (1 : Int32))) := ua_105 hV14
    exact K _ (zF_u (zF_u (zF_u (zF_u (zF_zov zF_rfl ws_198_197) rfl) rfl) rfl) rfl) hV17 (show zGW T ((m 94 55) + (1 : Int32)) ((ma_u m 109 s.toNatClampNeg (0 : Int32)) 109) from by first | (exact GW_take r_GW r_WI (by omega) (by omega)) | (exfalso; omega; done) | (exfalso; contradiction; done)) p0_m1 (show zwx (m 114) ((ma_u m 114 (m 94 55).toNatClampNeg s) 114) (m 94 55) s from by first | (exact ⟨fun k hk => mu_ne (by rw [tn_eq]; omega), mu_self⟩) | (exfalso; omega; done) | (exfalso; contradiction; done)) (show ((m 94 55) + (1 : Int32)).toInt = (m 94 55).toInt + 1 from by omega) (show qRB (m 99) (m 100) (m 98) (m 101) (m 102) (m 103) (m 107) (m 108) ((ma_u m 109 s.toNatClampNeg (0 : Int32)) 109) (m 111) (m 112) (m1 113) ((ma_u m 114 (m 94 55).toNatClampNeg s) 114) ((m 94 55) + (1 : Int32)) (m 94 46) (m 94 11) (m 94 12) (m 94 62) (m 94 17) (m 94 9) (aGr aa ((m 100) s.toNatClampNeg)) from by first | (exact RB_gr r_RB (by omega) (by omega) r_USs p1_m1 (by omega) (by omega)) | (exfalso; omega; done) | (exfalso; contradiction; done)) (show qI (aGr aa ((m 100) s.toNatClampNeg)) from by first | (exact I_gr r_QI (by rw [r_RB.2.2.2.2.1.1]; omega)) | (exfalso; omega; done) | (exfalso; contradiction; done))
  · skip
    have g18 := i_ne h7
    try have gwr := GW_512 r_GW r_WI (by omega) (by omega) (by omega)
    have li20 : (0 : Int32).toInt = 0 := rfl
    have hV19 : zV (ma_u (zov wr_198 m m1) 109 s.toNatClampNeg (0 : Int32)) := ua_109 hV_m1 (by omega) (by omega)
    have hV21 : zV (ma_u (ma_u (zov wr_198 m m1) 109 s.toNatClampNeg (0 : Int32)) 114 (m 94 55).toNatClampNeg s) := ua_114 hV19 (by omega) (by omega)
    first | have e23 : ((m 94 55) + (1 : Int32)).toInt = (m 94 55).toInt + (1) := i_addk rfl (by omega) (by omega) | have b24 := i_bd ((m 94 55) + (1 : Int32))
    have hV22 : zV (ma_u (ma_u (ma_u (zov wr_198 m m1) 109 s.toNatClampNeg (0 : Int32)) 114 (m 94 55).toNatClampNeg s) 94 55 ((m 94 55) + (1 : Int32))) := us_94_55 hV21 (by omega) (by omega)
    exact K _ (zF_u (zF_u (zF_u (zF_zov zF_rfl ws_198_197) rfl) rfl) rfl) hV22 (show zGW T ((m 94 55) + (1 : Int32)) ((ma_u m 109 s.toNatClampNeg (0 : Int32)) 109) from by first | (exact GW_take r_GW r_WI (by omega) (by omega)) | (exfalso; omega; done) | (exfalso; contradiction; done)) p0_m1 (show zwx (m 114) ((ma_u m 114 (m 94 55).toNatClampNeg s) 114) (m 94 55) s from by first | (exact ⟨fun k hk => mu_ne (by rw [tn_eq]; omega), mu_self⟩) | (exfalso; omega; done) | (exfalso; contradiction; done)) (show ((m 94 55) + (1 : Int32)).toInt = (m 94 55).toInt + 1 from by omega) (show qRB (m 99) (m 100) (m 98) (m 101) (m 102) (m 103) (m 107) (m 108) ((ma_u m 109 s.toNatClampNeg (0 : Int32)) 109) (m 111) (m 112) (m1 113) ((ma_u m 114 (m 94 55).toNatClampNeg s) 114) ((m 94 55) + (1 : Int32)) (m 94 46) (m 94 11) (m 94 12) (m 94 62) (m 94 17) (m 94 9) (aGr aa ((m 100) s.toNatClampNeg)) from by first | (exact RB_gr r_RB (by omega) (by omega) r_USs p1_m1 (by omega) (by omega)) | (exfalso; omega; done) | (exfalso; contradiction; done)) (show qI (aGr aa ((m 100) s.toNatClampNeg)) from by first | (exact I_gr r_QI (by rw [r_RB.2.2.2.2.1.1]; omega)) | (exfalso; omega; done) | (exfalso; contradiction; done))
set_option maxHeartbeats 8000000 in
theorem lp_194r_9 {X : Nat × (Nat → Int32)} {P : Option ma_V → (Nat → Nat → Int32) → Prop} {T : Nat} {aa : Nat→Nat→Int32} {m0 : Nat → Nat → Int32} (h0 : zV m0) (K : ∀ m₉, zF wr_194 m0 m₉ → zV m₉ → ((m₉ 94 73).toInt = 0) → (zGW T (m₉ 94 55) (m₉ 109)) → (zuw (m0 113) (m₉ 113)) → (qRB (m₉ 99) (m₉ 100) (m₉ 98) (m₉ 101) (m₉ 102) (m₉ 103) (m₉ 107) (m₉ 108) (m₉ 109) (m₉ 111) (m₉ 112) (m₉ 113) (m₉ 114) (m₉ 94 55) (m₉ 94 46) (m₉ 94 11) (m₉ 94 12) (m₉ 94 62) (m₉ 94 17) (m₉ 94 9) (aGw aa 0)) → (qI (aGw aa 0)) → (qKB (m₉ 110) (m₉ 99) (m₉ 100) (aGw aa 0)) → (qE0 (aGw aa 0)) → (qCl (aGw aa 0)) → P none m₉) : ∀ (n : Nat) (m : Nat → Nat → Int32) (l2 : Int32), ((zmg (m 100) l2 : Int)).toNat = n → zF wr_194 m0 m → zV m → (T ≤ 512) → ((m 94 10).toInt = 5) → ((m 94 73).toInt = 0) → (zWS (m 100) (m 99) (m 110) (m 109) (-1 : Int32) l2) → (zW (m 94 7) (m 98) (m 101) (m 102) (m 108)) → (zGW T (m 94 55) (m 109)) → (zuw (m0 113) (m 113)) → (qGL (m 99) (m 100) (m 98) (m 101) (m 102) (m 103) (m 107) (m 108) (m 109) (m 111) (m 112) (m 113) (m 114) (m 94 55) (m 94 46) (m 94 11) (m 94 12) (m 94 62) (m 94 17) (m 94 9) (m 110) l2 (aGw aa 0)) → zm X 3 66 194 9 [(0, .inr (.inr (some 94))), (2, .inl l2)] m P := by
  intro n
  induction n using Nat.strongRecOn with
  | _ n IH =>
    intro m l2 hmu hF hV hi0 hi1 hi2 r_WS r_W r_GW r_UW r_GL
    refine g_194_9 l2 ?_
    have f1 : 0 ≤ (m 94 10).toInt ∧ (m 94 10).toInt ≤ 6 := rs_94_10 (m := m) hV
    have f2 : 0 ≤ (m 94 73).toInt ∧ (m 94 73).toInt ≤ 3100 := rs_94_73 (m := m) hV
    obtain ⟨b, lst, gRB, gKB, gE0, gQI, gCL, gl, gMn, gT⟩ := r_GL
    have gb6 := gQI.2.2.2.1.1
    have b3 := i_bd l2
    have li4 : (0 : Int32).toInt = 0 := rfl
    refine zd (fun (h5 : l2 < (0 : Int32)) => ?_) (fun (h5 : ¬ l2 < (0 : Int32)) => ?_)
    · skip
      have g6 := i_lt h5
      try have gw := GW_room r_GW
      try have ws0 := WS_ge r_WS (by omega)
      exact K _ hF hV (show (m 94 73).toInt = 0 from by omega) r_GW r_UW (show qRB (m 99) (m 100) (m 98) (m 101) (m 102) (m 103) (m 107) (m 108) (m 109) (m 111) (m 112) (m 113) (m 114) (m 94 55) (m 94 46) (m 94 11) (m 94 12) (m 94 62) (m 94 17) (m 94 9) (aGw aa 0) from by first | (have e0 := GL_end gRB gQI gKB gl.1 gl.2 gMn (by omega) gT; rw [← e0]; exact gRB; done) | (exfalso; omega; done) | (exfalso; contradiction; done)) (show qI (aGw aa 0) from by first | (have e0 := GL_end gRB gQI gKB gl.1 gl.2 gMn (by omega) gT; rw [← e0]; exact gQI; done) | (exfalso; omega; done) | (exfalso; contradiction; done)) (show qKB (m 110) (m 99) (m 100) (aGw aa 0) from by first | (have e0 := GL_end gRB gQI gKB gl.1 gl.2 gMn (by omega) gT; rw [← e0]; exact gKB; done) | (exfalso; omega; done) | (exfalso; contradiction; done)) (show qE0 (aGw aa 0) from by first | (have e0 := GL_end gRB gQI gKB gl.1 gl.2 gMn (by omega) gT; rw [← e0]; exact gE0; done) | (exfalso; omega; done) | (exfalso; contradiction; done)) (show qCl (aGw aa 0) from by first | (have e0 := GL_end gRB gQI gKB gl.1 gl.2 gMn (by omega) gT; rw [← e0]; exact gCL; done) | (exfalso; omega; done) | (exfalso; contradiction; done))
    · skip
      have g7 := i_nlt h5
      try obtain ⟨ws1, ws2, ws3, ws4, ws5, ws6⟩ := WS_ge r_WS (by omega)
      have hg8 : (0 ≤ l2 ∧ l2.toNatClampNeg < 3100) := i_ix (by omega) (by omega)
      refine ⟨hg8, ?_⟩
      try have ws0 := WS_ge r_WS (by omega)
      refine sp_197r (aa := b) (l2) hV (by omega) (by omega) (by omega) (show (m 94 10).toInt = 5 from by omega) (show (m 109) l2.toNatClampNeg ≠ 0 from by first | (exact ws5) | (exact ws0.2.2.2.2.1) | (assumption; done) | (exfalso; omega; done) | (exfalso; contradiction; done)) (show (m 99) l2.toNatClampNeg ≠ 0 from by first | (exact ws3) | (exact ws0.2.2.1) | (assumption; done) | (exact ws3) | (exfalso; omega; done) | (exfalso; contradiction; done)) r_GW gRB gQI (fun m1 hV_m1 p0_m1 p1_m1 p2_m1 p3_m1 p4_m1 p5_m1 => zmv_n ?_)
      have p0_m1 : zGW T (m1 94 55) (m1 109) := p0_m1
      have p1_m1 : zuw (m 113) (m1 113) := p1_m1
      have p2_m1 : zwx (m 114) (m1 114) (m 94 55) l2 := p2_m1
      have p3_m1 : (m1 94 55).toInt = (m 94 55).toInt + 1 := p3_m1
      have p4_m1 : qRB (m 99) (m 100) (m 98) (m 101) (m 102) (m 103) (m 107) (m 108) (m1 109) (m 111) (m 112) (m1 113) (m1 114) (m1 94 55) (m 94 46) (m 94 11) (m 94 12) (m 94 62) (m 94 17) (m 94 9) (aGr b ((m 100) l2.toNatClampNeg)) := p4_m1
      have p5_m1 : qI (aGr b ((m 100) l2.toNatClampNeg)) := p5_m1
      have f9 : 0 ≤ (m1 94 55).toInt ∧ (m1 94 55).toInt ≤ 3100 := rs_94_55 (m := (zov wr_197 m m1)) hV_m1
      have f10 : 0 ≤ (m 94 55).toInt ∧ (m 94 55).toInt ≤ 3100 := rs_94_55 (m := m) hV
      refine zd (fun (h11 : l2 < (0 : Int32)) => ?_) (fun (h11 : ¬ l2 < (0 : Int32)) => ?_)
      · skip
        have g12 := i_lt h11
        try have ws0 := WS_ge r_WS (by omega)
        refine sp_191r (aa := (aGr b (m 100 l2.toNatClampNeg))) (QQ := (qQ (aGr b (m 100 l2.toNatClampNeg)) (m 100 l2.toNatClampNeg))) (DD := (zNn (aGr b (m 100 l2.toNatClampNeg))))  hV_m1 (show zKS (m 110) (m 94 73) from by first | (exact KS_0 (by omega)) | (exfalso; omega; done) | (exfalso; contradiction; done)) r_W (show qRB (m 99) (m 100) (m 98) (m 101) (m 102) (m 103) (m 107) (m 108) (m1 109) (m 111) (m 112) (m1 113) (m1 114) (m1 94 55) (m 94 46) (m 94 11) (m 94 12) (m 94 62) (m 94 17) (m 94 9) (aGr b (m 100 l2.toNatClampNeg)) from by first | (exact p4_m1) | (exfalso; omega; done) | (exfalso; contradiction; done)) (show qQC (m 99) (m 100) (m 98) (m 101) (m 102) (m 108) (qQ (aGr b (m 100 l2.toNatClampNeg)) (m 100 l2.toNatClampNeg)) (zNn (aGr b (m 100 l2.toNatClampNeg))) from by first | (exact QC_M p4_m1) | (exfalso; omega; done) | (exfalso; contradiction; done)) (show qKA (m 110) (m 99) (m 100) (m 98) (m 101) (m 102) (m 108) (m 118) (m 94 73) (qQ (aGr b (m 100 l2.toNatClampNeg)) (m 100 l2.toNatClampNeg)) (zNn (aGr b (m 100 l2.toNatClampNeg))) 3100 0 from by first | (exact absurd ws0.2.2.2.1 (by assumption)) | (exact KA_push (KA_b (KB_gr gKB) (by omega)) (by omega) (by omega) ws0.2.2.1 (zM_in (Or.inr rfl)) (by assumption) (by omega) (by omega) (by decide)) | (exfalso; omega; done) | (exfalso; contradiction; done)) (fun m3 hV_m3 p0_m3 p1_m3 p2_m3 => zmv_n ?_)
        have p0_m3 : (m3 94 73).toInt = 0 := p0_m3
        have p1_m3 : zle (m 110) (m3 110) := p1_m3
        have p2_m3 : qKA (m3 110) (m 99) (m 100) (m 98) (m 101) (m 102) (m 108) (m3 118) (m3 94 73) (qQ (aGr b (m 100 l2.toNatClampNeg)) (m 100 l2.toNatClampNeg)) (zNn (aGr b (m 100 l2.toNatClampNeg))) 3100 0 := p2_m3
        have f13 : 0 ≤ (m3 94 73).toInt ∧ (m3 94 73).toInt ≤ 3100 := rs_94_73 (m := (zov wr_191 (zov wr_197 m m1) m3)) hV_m3
        first | have f14 : 0 ≤ (m 100 l2.toNatClampNeg).toInt ∧ (m 100 l2.toNatClampNeg).toInt ≤ 100000 := ra_100 (m := m) hV (k := l2.toNatClampNeg) (i_ix (n := 3100) (by omega) (by omega)).2 | have b15 := i_bd (m 100 l2.toNatClampNeg)
        try have ws0 := WS_ge r_WS (by omega)
        refine sp_195r ((m 100 l2.toNatClampNeg)) ((0 : Int32)) hV_m3 (by omega) (fun v6 m5 hV_m5 p0_m5 p1_m5 => zmi_n ?_)
        have p0_m5 : zWS (m 100) (m 99) (m3 110) (m1 109) (m 100 l2.toNatClampNeg) v6 := p0_m5
        have p1_m5 : qMin (qCw (m 99) (m3 110) (m1 109) (m 100) (m 100 l2.toNatClampNeg)) (m 100) v6 3100 := p1_m5
        try have gw := GW_room p0_m1
        try have ws0 := WS_ge r_WS (by omega)
        have b16 := i_bd v6
        exact IH ((zmg (m 100) v6 : Int)).toNat (by have zq := zmg_lt (s := l2) (by omega) p0_m5 rfl (by omega) (by omega); omega) _ (v6) rfl (zF_zov (zF_zov (zF_zov hF ws_197_194) ws_191_194) ws_195_194) hV_m5 (by omega) (show (m 94 10).toInt = 5 from by omega) (show (m3 94 73).toInt = 0 from by omega) (show zWS (m 100) (m 99) (m3 110) (m1 109) (-1 : Int32) v6 from by first | (exact WS_weak p0_m5 (by omega)) | (exact p0_m5) | (exact Or.inl (by decide)) | (exact Or.inr ⟨by omega, by omega, by assumption, by assumption, by assumption, by omega⟩) | (exfalso; omega; done) | (exfalso; contradiction; done)) r_W p0_m1 (show zuw (m0 113) (m1 113) from by first | (exact zuw_tr r_UW p1_m1) | (exact zuw_rfl) | (exfalso; omega; done) | (exfalso; contradiction; done)) (show qGL (m 99) (m 100) (m 98) (m 101) (m 102) (m 103) (m 107) (m 108) (m1 109) (m 111) (m 112) (m1 113) (m1 114) (m1 94 55) (m 94 46) (m 94 11) (m 94 12) (m 94 62) (m 94 17) (m 94 9) (m3 110) v6 (aGw aa 0) from by first | (exact absurd ws0.2.2.2.1 (by assumption)) | (have nx := GL_nx gRB gQI gE0 gKB gl.1 gl.2 gMn (by omega) gT; have b5 : (b 69 5).toInt < 512 := (by rw [gRB.2.2.2.2.1.1]; exact GW_512 r_GW ws0.2.2.2.2.1 (by omega) (by omega) (by omega)); exact ⟨(aSp 512 (aCm (aGr b (m 100 l2.toNatClampNeg)) (m 100 l2.toNatClampNeg))), (m 100 l2.toNatClampNeg), RB_of p4_m1 (Of_tr (gr_cm (y := (m 100 l2.toNatClampNeg)) (E0_gr (y := (m 100 l2.toNatClampNeg)) gE0).1).2.1 (E0_sp (gr_cm (y := (m 100 l2.toNatClampNeg)) (E0_gr (y := (m 100 l2.toNatClampNeg)) gE0).1).1).2), KB_nx p4_m1 (KB_gr gKB) (E0_gr gE0) (by omega) (by omega) ws0.2.2.1 p2_m3 (by omega) p1_m3 (by decide), (E0_sp (gr_cm (y := (m 100 l2.toNatClampNeg)) (E0_gr (y := (m 100 l2.toNatClampNeg)) gE0).1).1).1, qI_of p5_m1 (Of_tr (gr_cm (y := (m 100 l2.toNatClampNeg)) (E0_gr (y := (m 100 l2.toNatClampNeg)) gE0).1).2.1 (E0_sp (gr_cm (y := (m 100 l2.toNatClampNeg)) (E0_gr (y := (m 100 l2.toNatClampNeg)) gE0).1).1).2), Cl_nx gCL gE0 b5 gQI.2.2.2.1.2.1.1 (R1_al gRB.1 (by omega) ws0.2.2.1) (by omega), ⟨nx.2.2, by rw [sp_6]; exact nx.2.1⟩, p1_m5, nx.1⟩; done) | (exfalso; omega; done) | (exfalso; contradiction; done))
      · skip
        have g17 := i_nlt h11
        have hg18 : (0 ≤ l2 ∧ l2.toNatClampNeg < 3100) := i_ix (by omega) (by omega)
        refine ⟨hg18, ?_⟩
        first | have f19 : 0 ≤ (m 110 l2.toNatClampNeg).toInt ∧ (m 110 l2.toNatClampNeg).toInt ≤ 1 := ra_110 (m := m) hV (k := l2.toNatClampNeg) (i_ix (n := 3100) (by omega) (by omega)).2 | have b20 := i_bd (m 110 l2.toNatClampNeg)
        refine zd (fun (h21 : (m 110 l2.toNatClampNeg) = (0 : Int32)) => ?_) (fun (h21 : ¬ (m 110 l2.toNatClampNeg) = (0 : Int32)) => ?_)
        · skip
          have g22 := i_eq h21
          have hg23 : (0 ≤ l2 ∧ l2.toNatClampNeg < 3100) := i_ix (by omega) (by omega)
          refine ⟨hg23, ?_⟩
          have hg24 : (0 ≤ (m 94 73) ∧ (m 94 73).toNatClampNeg < 3100) := i_ix (by omega) (by omega)
          refine ⟨hg24, ?_⟩
          have li26 : (1 : Int32).toInt = 1 := rfl
          have hV25 : zV (ma_u (zov wr_197 m m1) 110 l2.toNatClampNeg (1 : Int32)) := ua_110 hV_m1 (by omega) (by omega)
          have hV27 : zV (ma_u (ma_u (zov wr_197 m m1) 110 l2.toNatClampNeg (1 : Int32)) 118 (m 94 73).toNatClampNeg l2) := ua_118 hV25 (by omega) (by omega)
          first | have e29 : ((m 94 73) + (1 : Int32)).toInt = (m 94 73).toInt + (1) := i_addk rfl (by omega) (by omega) | have b30 := i_bd ((m 94 73) + (1 : Int32))
          have hV28 : zV (ma_u (ma_u (ma_u (zov wr_197 m m1) 110 l2.toNatClampNeg (1 : Int32)) 118 (m 94 73).toNatClampNeg l2) 94 73 ((m 94 73) + (1 : Int32))) := us_94_73 hV27 (by omega) (by omega)
          try have ws0 := WS_ge r_WS (by omega)
          refine sp_191r (aa := (aGr b (m 100 l2.toNatClampNeg))) (QQ := (qQ (aGr b (m 100 l2.toNatClampNeg)) (m 100 l2.toNatClampNeg))) (DD := (zNn (aGr b (m 100 l2.toNatClampNeg))))  hV28 (show zKS ((ma_u m 110 l2.toNatClampNeg (1 : Int32)) 110) ((m 94 73) + (1 : Int32)) from by first | (exact KS_push (KS_0 (r := m 110) (y := m 94 73) (by omega)) (by assumption) (by omega) (by decide) (by assumption)) | (exfalso; omega; done) | (exfalso; contradiction; done)) r_W (show qRB (m 99) (m 100) (m 98) (m 101) (m 102) (m 103) (m 107) (m 108) (m1 109) (m 111) (m 112) (m1 113) (m1 114) (m1 94 55) (m 94 46) (m 94 11) (m 94 12) (m 94 62) (m 94 17) (m 94 9) (aGr b (m 100 l2.toNatClampNeg)) from by first | (exact p4_m1) | (exfalso; omega; done) | (exfalso; contradiction; done)) (show qQC (m 99) (m 100) (m 98) (m 101) (m 102) (m 108) (qQ (aGr b (m 100 l2.toNatClampNeg)) (m 100 l2.toNatClampNeg)) (zNn (aGr b (m 100 l2.toNatClampNeg))) from by first | (exact QC_M p4_m1) | (exfalso; omega; done) | (exfalso; contradiction; done)) (show qKA ((ma_u m 110 l2.toNatClampNeg (1 : Int32)) 110) (m 99) (m 100) (m 98) (m 101) (m 102) (m 108) ((ma_u m 118 (m 94 73).toNatClampNeg l2) 118) ((m 94 73) + (1 : Int32)) (qQ (aGr b (m 100 l2.toNatClampNeg)) (m 100 l2.toNatClampNeg)) (zNn (aGr b (m 100 l2.toNatClampNeg))) 3100 0 from by first | (exact absurd ws0.2.2.2.1 (by assumption)) | (exact KA_push (KA_b (KB_gr gKB) (by omega)) (by omega) (by omega) ws0.2.2.1 (zM_in (Or.inr rfl)) (by assumption) (by omega) (by omega) (by decide)) | (exfalso; omega; done) | (exfalso; contradiction; done)) (fun m7 hV_m7 p0_m7 p1_m7 p2_m7 => zmv_n ?_)
          have p0_m7 : (m7 94 73).toInt = 0 := p0_m7
          have p1_m7 : zle ((ma_u m 110 l2.toNatClampNeg (1 : Int32)) 110) (m7 110) := p1_m7
          have p2_m7 : qKA (m7 110) (m 99) (m 100) (m 98) (m 101) (m 102) (m 108) (m7 118) (m7 94 73) (qQ (aGr b (m 100 l2.toNatClampNeg)) (m 100 l2.toNatClampNeg)) (zNn (aGr b (m 100 l2.toNatClampNeg))) 3100 0 := p2_m7
          have f31 : 0 ≤ (m7 94 73).toInt ∧ (m7 94 73).toInt ≤ 3100 := rs_94_73 (m := (zov wr_191 (ma_u (ma_u (ma_u (zov wr_197 m m1) 110 l2.toNatClampNeg (1 : Int32)) 118 (m 94 73).toNatClampNeg l2) 94 73 ((m 94 73) + (1 : Int32))) m7)) hV_m7
          first | have f32 : 0 ≤ (m 100 l2.toNatClampNeg).toInt ∧ (m 100 l2.toNatClampNeg).toInt ≤ 100000 := ra_100 (m := m) hV (k := l2.toNatClampNeg) (i_ix (n := 3100) (by omega) (by omega)).2 | have b33 := i_bd (m 100 l2.toNatClampNeg)
          try have ws0 := WS_ge r_WS (by omega)
          refine sp_195r ((m 100 l2.toNatClampNeg)) ((0 : Int32)) hV_m7 (by omega) (fun v10 m9 hV_m9 p0_m9 p1_m9 => zmi_n ?_)
          have p0_m9 : zWS (m 100) (m 99) (m7 110) (m1 109) (m 100 l2.toNatClampNeg) v10 := p0_m9
          have p1_m9 : qMin (qCw (m 99) (m7 110) (m1 109) (m 100) (m 100 l2.toNatClampNeg)) (m 100) v10 3100 := p1_m9
          try have gw := GW_room p0_m1
          try have ws0 := WS_ge r_WS (by omega)
          have b34 := i_bd v10
          exact IH ((zmg (m 100) v10 : Int)).toNat (by have zq := zmg_lt (s := l2) (by omega) p0_m9 rfl (by omega) (by omega); omega) _ (v10) rfl (zF_zov (zF_zov (zF_u (zF_u (zF_u (zF_zov hF ws_197_194) rfl) rfl) rfl) ws_191_194) ws_195_194) hV_m9 (by omega) (show (m 94 10).toInt = 5 from by omega) (show (m7 94 73).toInt = 0 from by omega) (show zWS (m 100) (m 99) (m7 110) (m1 109) (-1 : Int32) v10 from by first | (exact WS_weak p0_m9 (by omega)) | (exact p0_m9) | (exact Or.inl (by decide)) | (exact Or.inr ⟨by omega, by omega, by assumption, by assumption, by assumption, by omega⟩) | (exfalso; omega; done) | (exfalso; contradiction; done)) r_W p0_m1 (show zuw (m0 113) (m1 113) from by first | (exact zuw_tr r_UW p1_m1) | (exact zuw_rfl) | (exfalso; omega; done) | (exfalso; contradiction; done)) (show qGL (m 99) (m 100) (m 98) (m 101) (m 102) (m 103) (m 107) (m 108) (m1 109) (m 111) (m 112) (m1 113) (m1 114) (m1 94 55) (m 94 46) (m 94 11) (m 94 12) (m 94 62) (m 94 17) (m 94 9) (m7 110) v10 (aGw aa 0) from by first | (exact absurd ws0.2.2.2.1 (by assumption)) | (have nx := GL_nx gRB gQI gE0 gKB gl.1 gl.2 gMn (by omega) gT; have b5 : (b 69 5).toInt < 512 := (by rw [gRB.2.2.2.2.1.1]; exact GW_512 r_GW ws0.2.2.2.2.1 (by omega) (by omega) (by omega)); exact ⟨(aSp 512 (aCm (aGr b (m 100 l2.toNatClampNeg)) (m 100 l2.toNatClampNeg))), (m 100 l2.toNatClampNeg), RB_of p4_m1 (Of_tr (gr_cm (y := (m 100 l2.toNatClampNeg)) (E0_gr (y := (m 100 l2.toNatClampNeg)) gE0).1).2.1 (E0_sp (gr_cm (y := (m 100 l2.toNatClampNeg)) (E0_gr (y := (m 100 l2.toNatClampNeg)) gE0).1).1).2), KB_nx p4_m1 (KB_gr gKB) (E0_gr gE0) (by omega) (by omega) ws0.2.2.1 p2_m7 (by omega) p1_m7 (by decide), (E0_sp (gr_cm (y := (m 100 l2.toNatClampNeg)) (E0_gr (y := (m 100 l2.toNatClampNeg)) gE0).1).1).1, qI_of p5_m1 (Of_tr (gr_cm (y := (m 100 l2.toNatClampNeg)) (E0_gr (y := (m 100 l2.toNatClampNeg)) gE0).1).2.1 (E0_sp (gr_cm (y := (m 100 l2.toNatClampNeg)) (E0_gr (y := (m 100 l2.toNatClampNeg)) gE0).1).1).2), Cl_nx gCL gE0 b5 gQI.2.2.2.1.2.1.1 (R1_al gRB.1 (by omega) ws0.2.2.1) (by omega), ⟨nx.2.2, by rw [sp_6]; exact nx.2.1⟩, p1_m9, nx.1⟩; done) | (exfalso; omega; done) | (exfalso; contradiction; done))
        · skip
          have g35 := i_ne h21
          try have ws0 := WS_ge r_WS (by omega)
          refine sp_191r (aa := (aGr b (m 100 l2.toNatClampNeg))) (QQ := (qQ (aGr b (m 100 l2.toNatClampNeg)) (m 100 l2.toNatClampNeg))) (DD := (zNn (aGr b (m 100 l2.toNatClampNeg))))  hV_m1 (show zKS (m 110) (m 94 73) from by first | (exact KS_0 (by omega)) | (exfalso; omega; done) | (exfalso; contradiction; done)) r_W (show qRB (m 99) (m 100) (m 98) (m 101) (m 102) (m 103) (m 107) (m 108) (m1 109) (m 111) (m 112) (m1 113) (m1 114) (m1 94 55) (m 94 46) (m 94 11) (m 94 12) (m 94 62) (m 94 17) (m 94 9) (aGr b (m 100 l2.toNatClampNeg)) from by first | (exact p4_m1) | (exfalso; omega; done) | (exfalso; contradiction; done)) (show qQC (m 99) (m 100) (m 98) (m 101) (m 102) (m 108) (qQ (aGr b (m 100 l2.toNatClampNeg)) (m 100 l2.toNatClampNeg)) (zNn (aGr b (m 100 l2.toNatClampNeg))) from by first | (exact QC_M p4_m1) | (exfalso; omega; done) | (exfalso; contradiction; done)) (show qKA (m 110) (m 99) (m 100) (m 98) (m 101) (m 102) (m 108) (m 118) (m 94 73) (qQ (aGr b (m 100 l2.toNatClampNeg)) (m 100 l2.toNatClampNeg)) (zNn (aGr b (m 100 l2.toNatClampNeg))) 3100 0 from by first | (exact absurd ws0.2.2.2.1 (by assumption)) | (exact KA_push (KA_b (KB_gr gKB) (by omega)) (by omega) (by omega) ws0.2.2.1 (zM_in (Or.inr rfl)) (by assumption) (by omega) (by omega) (by decide)) | (exfalso; omega; done) | (exfalso; contradiction; done)) (fun m11 hV_m11 p0_m11 p1_m11 p2_m11 => zmv_n ?_)
          have p0_m11 : (m11 94 73).toInt = 0 := p0_m11
          have p1_m11 : zle (m 110) (m11 110) := p1_m11
          have p2_m11 : qKA (m11 110) (m 99) (m 100) (m 98) (m 101) (m 102) (m 108) (m11 118) (m11 94 73) (qQ (aGr b (m 100 l2.toNatClampNeg)) (m 100 l2.toNatClampNeg)) (zNn (aGr b (m 100 l2.toNatClampNeg))) 3100 0 := p2_m11
          have f36 : 0 ≤ (m11 94 73).toInt ∧ (m11 94 73).toInt ≤ 3100 := rs_94_73 (m := (zov wr_191 (zov wr_197 m m1) m11)) hV_m11
          first | have f37 : 0 ≤ (m 100 l2.toNatClampNeg).toInt ∧ (m 100 l2.toNatClampNeg).toInt ≤ 100000 := ra_100 (m := m) hV (k := l2.toNatClampNeg) (i_ix (n := 3100) (by omega) (by omega)).2 | have b38 := i_bd (m 100 l2.toNatClampNeg)
          try have ws0 := WS_ge r_WS (by omega)
          refine sp_195r ((m 100 l2.toNatClampNeg)) ((0 : Int32)) hV_m11 (by omega) (fun v14 m13 hV_m13 p0_m13 p1_m13 => zmi_n ?_)
          have p0_m13 : zWS (m 100) (m 99) (m11 110) (m1 109) (m 100 l2.toNatClampNeg) v14 := p0_m13
          have p1_m13 : qMin (qCw (m 99) (m11 110) (m1 109) (m 100) (m 100 l2.toNatClampNeg)) (m 100) v14 3100 := p1_m13
          try have gw := GW_room p0_m1
          try have ws0 := WS_ge r_WS (by omega)
          have b39 := i_bd v14
          exact IH ((zmg (m 100) v14 : Int)).toNat (by have zq := zmg_lt (s := l2) (by omega) p0_m13 rfl (by omega) (by omega); omega) _ (v14) rfl (zF_zov (zF_zov (zF_zov hF ws_197_194) ws_191_194) ws_195_194) hV_m13 (by omega) (show (m 94 10).toInt = 5 from by omega) (show (m11 94 73).toInt = 0 from by omega) (show zWS (m 100) (m 99) (m11 110) (m1 109) (-1 : Int32) v14 from by first | (exact WS_weak p0_m13 (by omega)) | (exact p0_m13) | (exact Or.inl (by decide)) | (exact Or.inr ⟨by omega, by omega, by assumption, by assumption, by assumption, by omega⟩) | (exfalso; omega; done) | (exfalso; contradiction; done)) r_W p0_m1 (show zuw (m0 113) (m1 113) from by first | (exact zuw_tr r_UW p1_m1) | (exact zuw_rfl) | (exfalso; omega; done) | (exfalso; contradiction; done)) (show qGL (m 99) (m 100) (m 98) (m 101) (m 102) (m 103) (m 107) (m 108) (m1 109) (m 111) (m 112) (m1 113) (m1 114) (m1 94 55) (m 94 46) (m 94 11) (m 94 12) (m 94 62) (m 94 17) (m 94 9) (m11 110) v14 (aGw aa 0) from by first | (exact absurd ws0.2.2.2.1 (by assumption)) | (have nx := GL_nx gRB gQI gE0 gKB gl.1 gl.2 gMn (by omega) gT; have b5 : (b 69 5).toInt < 512 := (by rw [gRB.2.2.2.2.1.1]; exact GW_512 r_GW ws0.2.2.2.2.1 (by omega) (by omega) (by omega)); exact ⟨(aSp 512 (aCm (aGr b (m 100 l2.toNatClampNeg)) (m 100 l2.toNatClampNeg))), (m 100 l2.toNatClampNeg), RB_of p4_m1 (Of_tr (gr_cm (y := (m 100 l2.toNatClampNeg)) (E0_gr (y := (m 100 l2.toNatClampNeg)) gE0).1).2.1 (E0_sp (gr_cm (y := (m 100 l2.toNatClampNeg)) (E0_gr (y := (m 100 l2.toNatClampNeg)) gE0).1).1).2), KB_nx p4_m1 (KB_gr gKB) (E0_gr gE0) (by omega) (by omega) ws0.2.2.1 p2_m11 (by omega) p1_m11 (by decide), (E0_sp (gr_cm (y := (m 100 l2.toNatClampNeg)) (E0_gr (y := (m 100 l2.toNatClampNeg)) gE0).1).1).1, qI_of p5_m1 (Of_tr (gr_cm (y := (m 100 l2.toNatClampNeg)) (E0_gr (y := (m 100 l2.toNatClampNeg)) gE0).1).2.1 (E0_sp (gr_cm (y := (m 100 l2.toNatClampNeg)) (E0_gr (y := (m 100 l2.toNatClampNeg)) gE0).1).1).2), Cl_nx gCL gE0 b5 gQI.2.2.2.1.2.1.1 (R1_al gRB.1 (by omega) ws0.2.2.1) (by omega), ⟨nx.2.2, by rw [sp_6]; exact nx.2.1⟩, p1_m13, nx.1⟩; done) | (exfalso; omega; done) | (exfalso; contradiction; done))
set_option maxHeartbeats 8000000 in
theorem sp_194r {X : Nat × (Nat → Int32)} {P : Option ma_V → (Nat → Nat → Int32) → Prop} {T : Nat} {aa : Nat→Nat→Int32} {m : Nat → Nat → Int32}  (hV : zV m) (hpre0 : T ≤ 512) (hpre1 : (m 94 10).toInt = 5) (hpre2 : (m 94 73).toInt = 0) (r_W : zW (m 94 7) (m 98) (m 101) (m 102) (m 108)) (r_GW : zGW T (m 94 55) (m 109)) (r_RB : qRB (m 99) (m 100) (m 98) (m 101) (m 102) (m 103) (m 107) (m 108) (m 109) (m 111) (m 112) (m 113) (m 114) (m 94 55) (m 94 46) (m 94 11) (m 94 12) (m 94 62) (m 94 17) (m 94 9) aa) (r_QI : qI aa) (r_KB : qKB (m 110) (m 99) (m 100) aa) (r_E0 : qE0 aa) (r_CLr : qCl aa) (KZ : ∀ m₉, zV (zov wr_194 m m₉) → ((m₉ 94 73).toInt = 0) → (zGW T (m₉ 94 55) (m₉ 109)) → (zuw (m 113) (m₉ 113)) → (qRB (m 99) (m 100) (m 98) (m 101) (m 102) (m 103) (m 107) (m 108) (m₉ 109) (m 111) (m 112) (m₉ 113) (m₉ 114) (m₉ 94 55) (m 94 46) (m 94 11) (m 94 12) (m 94 62) (m 94 17) (m 94 9) (aGw aa 0)) → (qI (aGw aa 0)) → (qKB (m₉ 110) (m 99) (m 100) (aGw aa 0)) → (qE0 (aGw aa 0)) → (qCl (aGw aa 0)) → P none (zov wr_194 m m₉)) : zm X 3 66 194 0 [(0, .inr (.inr (some 94)))] m P := by
  have K : ∀ m₉, zF wr_194 m m₉ → zV m₉ → ((m₉ 94 73).toInt = 0) → (zGW T (m₉ 94 55) (m₉ 109)) → (zuw (m 113) (m₉ 113)) → (qRB (m₉ 99) (m₉ 100) (m₉ 98) (m₉ 101) (m₉ 102) (m₉ 103) (m₉ 107) (m₉ 108) (m₉ 109) (m₉ 111) (m₉ 112) (m₉ 113) (m₉ 114) (m₉ 94 55) (m₉ 94 46) (m₉ 94 11) (m₉ 94 12) (m₉ 94 62) (m₉ 94 17) (m₉ 94 9) (aGw aa 0)) → (qI (aGw aa 0)) → (qKB (m₉ 110) (m₉ 99) (m₉ 100) (aGw aa 0)) → (qE0 (aGw aa 0)) → (qCl (aGw aa 0)) → P none m₉ := by
    intro m₉ hf z q0 q1 q2 q3 q4 q5 q6 q7
    have e := zov_eq hf
    rw [e] at z ⊢
    try rw [e] at q0
    try rw [e] at q1
    try rw [e] at q2
    try rw [e] at q3
    try rw [e] at q4
    try rw [e] at q5
    try rw [e] at q6
    try rw [e] at q7
    exact KZ m₉ z q0 q1 q2 q3 q4 q5 q6 q7
  refine g_194_0  ?_
  have f1 : 0 ≤ (m 94 10).toInt ∧ (m 94 10).toInt ≤ 6 := rs_94_10 (m := m) hV
  have f2 : 0 ≤ (m 94 73).toInt ∧ (m 94 73).toInt ≤ 3100 := rs_94_73 (m := m) hV
  have li3 : (-1 : Int32).toInt = -1 := rfl
  have li4 : (0 : Int32).toInt = 0 := rfl
  try have ws0 := WS_ge r_WS (by omega)
  refine sp_195r ((-1 : Int32)) ((0 : Int32)) hV (by omega) (fun v2 m1 hV_m1 p0_m1 p1_m1 => zmi_n ?_)
  have p0_m1 : zWS (m 100) (m 99) (m 110) (m 109) (-1 : Int32) v2 := p0_m1
  have p1_m1 : qMin (qCw (m 99) (m 110) (m 109) (m 100) (-1 : Int32)) (m 100) v2 3100 := p1_m1
  try have gw := GW_room r_GW
  try have ws0 := WS_ge r_WS (by omega)
  have b5 := i_bd v2
  exact lp_194r_9 hV K _ _ (v2) rfl (zF_zov zF_rfl ws_195_194) hV_m1 (by omega) (show (m 94 10).toInt = 5 from by omega) (show (m 94 73).toInt = 0 from by omega) p0_m1 r_W r_GW (show zuw (m 113) (m 113) from by first | (exact zuw_rfl) | (exact zuw_rfl) | (exfalso; omega; done) | (exfalso; contradiction; done)) (show qGL (m 99) (m 100) (m 98) (m 101) (m 102) (m 103) (m 107) (m 108) (m 109) (m 111) (m 112) (m 113) (m 114) (m 94 55) (m 94 46) (m 94 11) (m 94 12) (m 94 62) (m 94 17) (m 94 9) (m 110) v2 (aGw aa 0) from by first | (exact ⟨aa, -1, r_RB, r_KB, r_E0, r_QI, r_CLr, ⟨by decide, by have := r_QI.2.2.2.1.1.1; have e1 : (-1 : Int32).toInt = -1 := rfl; omega⟩, p1_m1, rfl⟩) | (exfalso; omega; done) | (exfalso; contradiction; done))

/-! from 95.h14 -/
/-! the reference by numbers (written by wip/tools/gen18r.py) -/
/-! THE REST IS GONE -/
def qWh (b : Nat → Nat → Int32) (x : Nat) : Prop := xAl b x ∧ b 77 x = 0
/-- b without the WHITE ones below n -/
def qMd (b c : Nat → Nat → Int32) (n : Int) : Prop :=
  (∀ x : Nat, x < 512 → (((x : Int) < n ∧ qWh b x) → c 126 x = 0) ∧ (¬ ((x : Int) < n ∧ qWh b x) → (∀ f, 126 ≤ f → f < 1000 → c f x = b f x) ∧ c (1000 + x) = b (1000 + x))) ∧
  ((∀ f, f < 126 → f ≠ 71 → f ≠ 73 → f ≠ 69 → c f = b f) ∧ c 69 5 = b 69 5 ∧ c 69 6 = b 69 6) ∧
  (∀ k, k < 16 → ((∃ x : Nat, (x : Int) < n ∧ qWh b x ∧ b 73 k = Int32.ofNat x) → c 73 k = -1) ∧ (¬ (∃ x : Nat, (x : Int) < n ∧ qWh b x ∧ b 73 k = Int32.ofNat x) → c 73 k = b 73 k)) ∧
  (∀ p : Nat, ((∃ x : Nat, (x : Int) < n ∧ qWh b x ∧ (b 130 x).toInt ≤ (p : Int) ∧ (p : Int) < (b 130 x).toInt + (b 128 x).toInt) → c 71 p = -1) ∧ (¬ (∃ x : Nat, (x : Int) < n ∧ qWh b x ∧ (b 130 x).toInt ≤ (p : Int) ∧ (p : Int) < (b 130 x).toInt + (b 128 x).toInt) → c 71 p = b 71 p)) ∧
  c 69 8 = Int32.ofInt (qSu c 512) ∧
  ∀ x, ¬ xAl c x → (∀ x₉, ¬ xAl b x₉ → ∀ k, b (1000 + x₉) k = 0) → ∀ k, c (1000 + x) k = 0
section QZ
variable {aa a b c e : Nat → Nat → Int32} {us us₉ nr kr kd ws at₉ ho wd wi ow ow₉ rt wk wk0 wk₉ wl kp : Nat → Int32} {wm nu ro fo le ra pi y x i : Int32} {n k t s : Nat} {m : Nat → Nat → Int32}
theorem Su_z : ∀ n, (∀ x, x < n → a 126 x = b 126 x ∧ a 128 x = b 128 x) → qSu a n = qSu b n := by
  intro n
  induction n with
  | zero => intro _; rfl
  | succ n ih =>
    intro h
    unfold qSu
    rw [ih (fun x hx => h x (by omega)), (h n (by omega)).1, (h n (by omega)).2]
theorem Su_dn (hk : k < n) (h0 : a 126 k ≠ 0) (h1 : b 126 k = 0) (h : ∀ x, x < n → x ≠ k → a 126 x = b 126 x ∧ a 128 x = b 128 x) : qSu b n = qSu a n - (a 128 k).toInt := by
  induction n with
  | zero => omega
  | succ n ih =>
    unfold qSu
    by_cases e : k = n
    · rw [← e, Su_z (a := b) (b := a) k (fun x hx => ⟨(h x (by omega) (by omega)).1.symm, (h x (by omega) (by omega)).2.symm⟩), if_pos h0, if_neg (fun w => w h1)]
      omega
    · rw [ih (by omega) (fun x hx w => h x (by omega) w), (h n (by omega) (by omega)).1, (h n (by omega) (by omega)).2]
      omega
theorem Md_0 (h : b 69 8 = Int32.ofInt (qSu b 512)) : qMd b b 0 := by
  refine ⟨fun x _ => ⟨fun w => by omega, fun _ => ⟨fun _ _ _ => rfl, rfl⟩⟩, ⟨fun _ _ _ _ _ => rfl, rfl, rfl⟩, fun k _ => ⟨fun ⟨x, w, _⟩ => by omega, fun _ => rfl⟩, fun p => ⟨fun ⟨x, w, _⟩ => by omega, fun _ => rfl⟩, h, fun x hx hb => hb x hx⟩
theorem Md_mc (hI : qI b) (hw : (b 75 5).toInt ≤ 0) (h : qMd b c y.toInt) (h0 : 0 ≤ y.toInt) (h5 : y.toInt < 512) : aMc c y ↔ qWh b y.toNatClampNeg := by
  have cy := tn_cast h0
  have r := (h.1 y.toNatClampNeg (by omega)).2 (by omega)
  have e5 := congrFun (h.2.1.1 75 (by decide) (by decide) (by decide) (by decide)) 5
  have e7 := congrFun (h.2.1.1 77 (by decide) (by decide) (by decide) (by decide)) y.toNatClampNeg
  unfold aMc qWh xAl
  rw [r.1 126 (by decide) (by decide), r.1 130 (by decide) (by decide), e5, e7]
  constructor
  · rintro ⟨w1, w2, w3, w4, w5⟩
    exact ⟨⟨by omega, w3⟩, w5⟩
  · rintro ⟨⟨w1, w2⟩, w3⟩
    have := (hI.1 _ ⟨w1, w2⟩).1.2
    exact ⟨h0, h5, w2, by omega, w3⟩
theorem rm_126 (h : n < 126) (h1 : n ≠ 71) (h2 : n ≠ 73) (h3 : n ≠ 69) : aRm a y n = a n := funext (fun k => aRm_o h ⟨h2, h1, fun w => h3 w.1, fun w => h3 w.1⟩)
theorem rm_hi (h : 126 ≤ n) : aRm a y n k = zNo a y.toNatClampNeg n k := by
  show (if n = 69 ∧ k = 11 then _ else if n = 69 ∧ k = 8 then _ else zNo (zFr (zUw a y 16) _ _) y.toNatClampNeg n k) = _
  rw [if_neg (by omega), if_neg (by omega)]
  unfold zNo
  rw [zFr_o (by omega), zUw_o (by omega)]
theorem rm_73 : aRm a y 73 k = zUw a y 16 73 k := by
  unfold aRm
  rw [xu_o (by omega), xu_o (by omega), zNo_o (by decide), zFr_o (by decide)]
theorem rm_71 : aRm a y 71 k = zFr a (a 130 y.toNatClampNeg).toInt (zMin (a 130 y.toNatClampNeg + a 128 y.toNatClampNeg).toInt) 71 k := by
  unfold aRm
  rw [xu_o (by omega), xu_o (by omega), zNo_o (by decide)]
  unfold zFr
  rw [zUw_o (by decide)]
theorem rm_8 : aRm a y 69 8 = a 69 8 - a 128 y.toNatClampNeg := by
  unfold aRm
  rw [xu_o (by decide), xu_s]
theorem Md_y (hI : qI b) (h : qMd b c y.toInt) (h0 : 0 ≤ y.toInt) (h5 : y.toInt < 512) (hw : qWh b y.toNatClampNeg) : qMd b (aRm c y) (y.toInt + 1) := by
  have cy := tn_cast h0
  obtain ⟨h1, ⟨h2, h2a, h2b⟩, h3, h4, h6, h7⟩ := h
  have ry := ((h1 y.toNatClampNeg (by omega)).2 (by omega)).1
  have ib := hI.1 _ hw.1
  have b4 := hI.2.2.2.1.2.2.1
  have es : (b 130 y.toNatClampNeg + b 128 y.toNatClampNeg).toInt = (b 130 y.toNatClampNeg).toInt + (b 128 y.toNatClampNeg).toInt := i_add (by omega) (by omega)
  have em : zMin (b 130 y.toNatClampNeg + b 128 y.toNatClampNeg).toInt = (b 130 y.toNatClampNeg).toInt + (b 128 y.toNatClampNeg).toInt := by
    unfold zMin
    rw [es]
    split <;> omega
  refine ⟨fun x hx => ⟨fun w => ?_, fun w => ⟨fun f f1 f2 => ?_, ?_⟩⟩, ⟨fun f f1 f2 f3 f4 => ?_, ?_, ?_⟩, fun k hk => ⟨fun w => ?_, fun w => ?_⟩, fun p => ⟨fun w => ?_, fun w => ?_⟩, ?_, fun x hx hb k => ?_⟩
  · rw [rm_hi (by decide)]
    unfold zNo
    by_cases z : x = y.toNatClampNeg
    · rw [if_pos (Or.inl ⟨by decide, by decide, z⟩)]
    · rw [if_neg (by omega)]
      exact (h1 x hx).1 ⟨by omega, w.2⟩
  · have z : x ≠ y.toNatClampNeg := fun z => w ⟨by omega, by rw [z]; exact hw⟩
    rw [rm_hi f1]
    unfold zNo
    rw [if_neg (by omega)]
    exact ((h1 x hx).2 (fun w2 => w ⟨by omega, w2.2⟩)).1 f f1 f2
  · have z : x ≠ y.toNatClampNeg := fun z => w ⟨by omega, by rw [z]; exact hw⟩
    funext k
    rw [rm_hi (by omega)]
    unfold zNo
    rw [if_neg (by omega)]
    exact congrFun ((h1 x hx).2 (fun w2 => w ⟨by omega, w2.2⟩)).2 k
  · rw [rm_126 f1 f2 f3 f4]
    exact h2 f f1 f2 f3 f4
  · rw [aRm_o (by decide) ⟨by decide, by decide, by decide, by decide⟩]
    exact h2a
  · rw [aRm_o (by decide) ⟨by decide, by decide, by decide, by decide⟩]
    exact h2b
  · rw [rm_73]
    unfold zUw
    by_cases z : ∃ x : Nat, (x : Int) < y.toInt ∧ qWh b x ∧ b 73 k = Int32.ofNat x
    · have q := (h3 k hk).1 z
      split
      · rfl
      · exact q
    · obtain ⟨x, x1, x2, x3⟩ := w
      have ex : x = y.toNatClampNeg := by
        by_cases w : x = y.toNatClampNeg
        · exact w
        · exact absurd ⟨x, by omega, x2, x3⟩ z
      have q := (h3 k hk).2 z
      rw [if_pos ⟨rfl, by omega, by rw [q, x3, ex]; exact ofN_tn h0⟩]
  · have z : ¬ ∃ x : Nat, (x : Int) < y.toInt ∧ qWh b x ∧ b 73 k = Int32.ofNat x := fun ⟨x, x1, x2, x3⟩ => w ⟨x, by omega, x2, x3⟩
    have q := (h3 k hk).2 z
    rw [rm_73]
    unfold zUw
    rw [if_neg]
    · exact q
    · rintro ⟨_, _, z3⟩
      refine w ⟨y.toNatClampNeg, by omega, hw, ?_⟩
      rw [← q, z3, ofN_tn h0]
  · rw [rm_71, ry 130 (by decide) (by decide), ry 128 (by decide) (by decide), em]
    unfold zFr
    by_cases z : ∃ x : Nat, (x : Int) < y.toInt ∧ qWh b x ∧ (b 130 x).toInt ≤ (p : Int) ∧ (p : Int) < (b 130 x).toInt + (b 128 x).toInt
    · have q := (h4 p).1 z
      split
      · rfl
      · exact q
    · obtain ⟨x, x1, x2, x3⟩ := w
      have ex : x = y.toNatClampNeg := by
        by_cases w : x = y.toNatClampNeg
        · exact w
        · exact absurd ⟨x, by omega, x2, x3⟩ z
      rw [ex] at x3
      rw [if_pos ⟨rfl, x3.1, x3.2⟩]
  · have z : ¬ ∃ x : Nat, (x : Int) < y.toInt ∧ qWh b x ∧ (b 130 x).toInt ≤ (p : Int) ∧ (p : Int) < (b 130 x).toInt + (b 128 x).toInt := fun ⟨x, x1, x2, x3⟩ => w ⟨x, by omega, x2, x3⟩
    have q := (h4 p).2 z
    rw [rm_71, ry 130 (by decide) (by decide), ry 128 (by decide) (by decide), em]
    unfold zFr
    rw [if_neg (fun w2 => w ⟨y.toNatClampNeg, by omega, hw, w2.2.1, w2.2.2⟩)]
    exact q
  · have d := Su_dn (a := c) (b := aRm c y) (k := y.toNatClampNeg) (n := 512) (by omega) (by rw [ry 126 (by decide) (by decide)]; exact hw.1.2) (by rw [rm_hi (by decide)]; unfold zNo; rw [if_pos (Or.inl ⟨by decide, by decide, rfl⟩)]) (fun x hx w => by
      rw [rm_hi (by decide), rm_hi (by decide)]
      unfold zNo
      rw [if_neg (by omega), if_neg (by omega)]
      exact ⟨rfl, rfl⟩)
    rw [d, rm_8, h6, Int32.ofInt_sub, Int32.ofInt_toInt]
  · rw [rm_hi (by omega)]
    unfold zNo
    by_cases z : x = y.toNatClampNeg
    · rw [if_pos (Or.inr (by omega))]
    · rw [if_neg (by omega)]
      refine h7 x (fun w => hx ⟨w.1, ?_⟩) hb k
      rw [rm_hi (by decide)]
      unfold zNo
      rw [if_neg (by omega)]
      exact w.2
theorem Md_n (h : qMd b c y.toInt) (h0 : 0 ≤ y.toInt) (hw : ¬ qWh b y.toNatClampNeg) : qMd b c (y.toInt + 1) := by
  have cy := tn_cast h0
  have ne : ∀ x : Nat, (x : Int) < y.toInt + 1 → qWh b x → (x : Int) < y.toInt := fun x hx hq => by
    by_cases z : x = y.toNatClampNeg
    · rw [z] at hq
      exact absurd hq hw
    · omega
  obtain ⟨h1, h2, h3, h4, h6, h7⟩ := h
  refine ⟨fun x hx => ⟨fun w => (h1 x hx).1 ⟨ne x w.1 w.2, w.2⟩, fun w => (h1 x hx).2 (fun w2 => w ⟨by omega, w2.2⟩)⟩, h2, fun k hk => ⟨fun ⟨x, x1, x2, x3⟩ => (h3 k hk).1 ⟨x, ne x x1 x2, x2, x3⟩, fun w => (h3 k hk).2 (fun ⟨x, x1, x2, x3⟩ => w ⟨x, by omega, x2, x3⟩)⟩, fun p => ⟨fun ⟨x, x1, x2, x3⟩ => (h4 p).1 ⟨x, ne x x1 x2, x2, x3⟩, fun w => (h4 p).2 (fun ⟨x, x1, x2, x3⟩ => w ⟨x, by omega, x2, x3⟩)⟩, h6, h7⟩
theorem Md_all (hI : qI b) (hw : (b 75 5).toInt ≤ 0) : ∀ (f : Nat) (y : Int32) (c : Nat → Nat → Int32), 0 ≤ y.toInt → y.toInt + (f : Int) = (b 69 6).toInt → qMd b c y.toInt → qMd b (aMf f y c) (b 69 6).toInt := by
  intro f
  induction f with
  | zero =>
    intro y c h0 e h
    rw [← e]
    simp only [Int.natCast_zero, Int.add_zero]
    exact h
  | succ f ih =>
    intro y c h0 e h
    have i6 := hI.2.2.2.1.1.2
    have e1 := i_p1 (i := y) (by omega)
    show qMd b (aMf f (y + 1) (if 0 ≤ y.toInt ∧ y.toInt < 512 ∧ c 126 y.toNatClampNeg ≠ 0 ∧ (c 75 5).toInt ≤ (c 130 y.toNatClampNeg).toInt ∧ c 77 y.toNatClampNeg = 0 then aRm c y else c)) _
    have mc := Md_mc hI hw h h0 (by omega)
    unfold aMc at mc
    refine ih _ _ (by omega) (by omega) ?_
    rw [e1]
    by_cases z : qWh b y.toNatClampNeg
    · rw [if_pos (mc.mpr z)]
      exact Md_y hI h h0 (by omega) z
    · rw [if_neg (fun w => z (mc.mp w))]
      exact Md_n h h0 z
theorem Md_mv (hI : qI b) (hw : (b 75 5).toInt ≤ 0) : qMd b (aMv b 0) (b 69 6).toInt := by
  have i6 := hI.2.2.2.1.1.1
  have z0 : (0 : Int32).toInt = 0 := rfl
  exact Md_all hI hw _ 0 b (by decide) (by omega) (Md_0 hI.2.2.2.2.1)
/-- who is left -/
theorem Md_al (hI : qI b) (h : qMd b e (b 69 6).toInt) : xAl e n ↔ xAl b n ∧ b 77 n ≠ 0 := by
  unfold xAl
  constructor
  · rintro ⟨w1, w2⟩
    by_cases z : (n : Int) < (b 69 6).toInt ∧ qWh b n
    · exact absurd ((h.1 n w1).1 z) w2
    · have q := ((h.1 n w1).2 z).1 126 (by decide) (by decide)
      rw [q] at w2
      refine ⟨⟨w1, w2⟩, fun w3 => z ⟨(hI.1 n ⟨w1, w2⟩).1.1, ⟨w1, w2⟩, w3⟩⟩
  · rintro ⟨⟨w1, w2⟩, w3⟩
    have q := ((h.1 n w1).2 (fun z => w3 z.2.2)).1 126 (by decide) (by decide)
    rw [q]
    exact ⟨w1, w2⟩
theorem Md_f (h : qMd b e (b 69 6).toInt) (hn : n < 512) (hk : b 77 n ≠ 0) : (∀ f, 126 ≤ f → f < 1000 → e f n = b f n) ∧ e (1000 + n) = b (1000 + n) := (h.1 n hn).2 (fun z => hk z.2.2)
theorem Md_w (hI : qI b) (h : qMd b e (b 69 6).toInt) (hn : xAl b n) (hk : b 77 n ≠ 0) {p : Nat} (h1 : (b 130 n).toInt ≤ (p : Int)) (h2 : (p : Int) < (b 130 n).toInt + (b 128 n).toInt) : e 71 p = b 71 p := by
  refine (h.2.2.2.1 p).2 ?_
  rintro ⟨x, x1, x2, x3, x4⟩
  by_cases z : x = n
  · rw [z] at x2
    exact hk x2.2
  · have d := hI.2.1 x n x2.1 hn z
    omega
theorem I_mv (hI : qI b) (hw : (b 75 5).toInt ≤ 0) : qI (aMv b 0) := by
  have h := Md_mv hI hw
  generalize aMv b 0 = e at *
  have r87 := h.2.1.1 87 (by decide) (by decide) (by decide) (by decide)
  have fl : ∀ n, xAl e n → xAl b n ∧ b 77 n ≠ 0 ∧ e 130 n = b 130 n ∧ e 128 n = b 128 n := fun n hn => by
    have q := (Md_al hI h).mp hn
    have f := (Md_f h q.1.1 q.2).1
    exact ⟨q.1, q.2, f 130 (by decide) (by decide), f 128 (by decide) (by decide)⟩
  refine ⟨fun n hn => ?_, fun n n₉ hn hn₉ hne => ?_, fun p hp hc => ?_, ⟨?_, ?_, ?_, ?_, ?_, ?_⟩, h.2.2.2.2.1, fun n hn k => ?_⟩
  · have f := fl n hn
    have i := hI.1 n f.1
    have c := tn_cast i.1.2
    rw [f.2.2.1, f.2.2.2, h.2.1.2.2, r87, Md_w hI h f.1 f.2.1 (p := (b 130 n).toNatClampNeg) (by omega) (by have := i.2.1.1; omega)]
    exact i
  · have f := fl n hn
    have f₉ := fl n₉ hn₉
    rw [f.2.2.1, f.2.2.2, f₉.2.2.1, f₉.2.2.2]
    exact hI.2.1 n n₉ f.1 f₉.1 hne
  · by_cases z : ∃ x : Nat, (x : Int) < (b 69 6).toInt ∧ qWh b x ∧ (b 130 x).toInt ≤ (p : Int) ∧ (p : Int) < (b 130 x).toInt + (b 128 x).toInt
    · exact (h.2.2.2.1 p).1 z
    · rw [(h.2.2.2.1 p).2 z]
      refine hI.2.2.1 p hp (fun n hn w => ?_)
      by_cases k0 : b 77 n = 0
      · exact z ⟨n, (hI.1 n hn).1.1, ⟨hn, k0⟩, w⟩
      · have al := (Md_al hI h).mpr ⟨hn, k0⟩
        have f := fl n al
        have q := hc n al
        rw [f.2.2.1, f.2.2.2] at q
        exact q w
  · rw [h.2.1.2.2]
    exact hI.2.2.2.1.1
  · rw [h.2.1.2.1]
    exact hI.2.2.2.1.2.1
  · rw [r87]
    exact hI.2.2.2.1.2.2.1
  · rw [r87]
    exact hI.2.2.2.1.2.2.2.1
  · intro n hn
    have f := fl n hn
    rw [f.2.2.1, f.2.2.2, r87]
    exact hI.2.2.2.1.2.2.2.2.1 n f.1
  · rw [r87]
    exact hI.2.2.2.1.2.2.2.2.2
  · exact h.2.2.2.2.2 n hn (fun n₉ w => hI.2.2.2.2.2 n₉ w) k
/-- WEAK lose what is not kept -/
def qUr (wk0 wk kp : Nat → Int32) (l : Int) : Prop := ∀ k : Nat, (((k : Int) < l ∧ 0 ≤ (wk0 k).toInt ∧ kp (wk0 k).toNatClampNeg = 0) → wk k = -1) ∧ (¬ ((k : Int) < l ∧ 0 ≤ (wk0 k).toInt ∧ kp (wk0 k).toNatClampNeg = 0) → wk k = wk0 k)
theorem Ur_0 {l : Int} (h : l ≤ 0) : qUr wk wk kp l := fun k => ⟨fun w => by omega, fun _ => rfl⟩
theorem Ur_y {l : Int} (h : qUr wk (m 113) kp i.toInt) (h0 : 0 ≤ i.toInt) (e1 : l = i.toInt + 1) (hs : 0 ≤ (m 113 i.toNatClampNeg).toInt) (hk : kp (m 113 i.toNatClampNeg).toNatClampNeg = 0) : qUr wk (ma_u m 113 i.toNatClampNeg (-1) 113) kp l := by
  intro k
  have c := tn_cast h0
  by_cases w : k = i.toNatClampNeg
  · have q := (h k).2 (by omega)
    rw [w] at q ⊢
    rw [mu_self]
    refine ⟨fun _ => rfl, fun z => absurd ⟨by omega, ?_, ?_⟩ z⟩
    · rw [← q]
      exact hs
    · rw [← q]
      exact hk
  · rw [mu_ne w]
    exact ⟨fun z => (h k).1 ⟨by omega, z.2⟩, fun z => (h k).2 (fun z2 => z ⟨by omega, z2.2⟩)⟩
theorem Ur_n {l : Int} (h : qUr wk0 wk kp i.toInt) (h0 : 0 ≤ i.toInt) (e1 : l = i.toInt + 1) (hs : (wk i.toNatClampNeg).toInt < 0 ∨ kp (wk i.toNatClampNeg).toNatClampNeg ≠ 0) : qUr wk0 wk kp l := by
  intro k
  have c := tn_cast h0
  by_cases w : k = i.toNatClampNeg
  · have q := (h k).2 (by omega)
    refine ⟨fun z => ?_, fun _ => q⟩
    rw [w] at q z
    rw [← q] at z
    exact absurd z.2 (fun z2 => hs.elim (fun z3 => by omega) (fun z3 => z3 z2.2))
  · exact ⟨fun z => (h k).1 ⟨by omega, z.2⟩, fun z => (h k).2 (fun z2 => z ⟨by omega, z2.2⟩)⟩
/-- the cleaning's end -/
theorem RB_mv (hR : qRB us nr kr kd ws at₉ ho wd wi ow rt wk wl wm nu ro fo le ra pi b) (hI : qI b) (hK : qKB kp us nr b) (hC : qCK kp us rt wl wm kr kd ws wd) (hw : (b 75 5).toInt ≤ 0) (hu : qUr wk wk₉ kp 16) (hm : zrm us us₉ kp 3100) (ho₉ : zowr ow ow₉ us kp at₉) : qRB us₉ nr kr kd ws at₉ ho wd wi ow₉ rt wk₉ wl wm nu ro fo le ra pi (aMv b 0) := by
  have h := Md_mv hI hw
  generalize aMv b 0 = e at *
  obtain ⟨q1, q2, q3, q4, q5, q6, q7, q8⟩ := hR
  have us1 : ∀ s, s < 3100 → us₉ s ≠ 0 → us s ≠ 0 ∧ kp s ≠ 0 ∧ xAl b (nr s).toNatClampNeg ∧ b 77 (nr s).toNatClampNeg ≠ 0 := fun s hs hv => by
    have z := ((hm s hs).1 hs).mp hv
    exact ⟨z.1, z.2, R1_al q1 hs z.1, ((hK.2 s hs z.1).mp z.2).2⟩
  have us2 : ∀ s, s < 3100 → us s ≠ 0 → kp s ≠ 0 → us₉ s ≠ 0 := fun s hs hv hk => ((hm s hs).1 hs).mpr ⟨hv, hk⟩
  have fl : ∀ s, s < 3100 → us₉ s ≠ 0 → ∀ f, 126 ≤ f → f < 1000 → e f (nr s).toNatClampNeg = b f (nr s).toNatClampNeg := fun s hs hv => (Md_f h (us1 s hs hv).2.2.1.1 (us1 s hs hv).2.2.2).1
  have lo := h.2.1.1
  have kU : ∀ x : Int32, qU us x → (x.toInt < 0 ∨ kp x.toNatClampNeg ≠ 0) → qU us₉ x := fun x hx hk => by
    by_cases z : x.toInt < 0
    · exact Or.inl z
    · have u := U_y hx (by omega)
      exact Or.inr ⟨u.1, us2 _ (tn_lt (by omega) u.1) u.2 (hk.elim (fun w => absurd w z) id)⟩
  refine ⟨⟨fun s hs hv => ?_, fun s t hs ht hv hv2 en => q1.2.1 s t hs ht (us1 s hs hv).1 (us1 t ht hv2).1 en, fun n hn ha => ?_⟩, fun s hs hv i hi => ?_, fun k hk => ?_, fun k hk => ?_, ⟨?_, fun k hk => ?_⟩, fun s hs hv => ?_, fun s hs hv => ?_, ?_⟩
  · have u := us1 s hs hv
    have f := fl s hs hv
    rw [f 126 (by decide) (by decide), f 128 (by decide) (by decide), f 130 (by decide) (by decide), f 133 (by decide) (by decide)]
    exact q1.1 s hs u.1
  · have al := (Md_al hI h).mp (show xAl e n from ⟨hn, ha⟩)
    obtain ⟨s, hs, hv, en⟩ := q1.2.2 n hn al.1.2
    refine ⟨s, hs, us2 s hs hv ((hK.2 s hs hv).mpr ?_), en⟩
    rw [en, tn_of hn]
    exact ⟨hn, al.2⟩
  · have u := us1 s hs hv
    have q := q2 s hs u.1 i hi
    have t := q1.1 s hs u.1
    have ib := hI.1 _ u.2.2.1
    have rf : aRef e (nr s).toNatClampNeg (Int32.ofNat i) = aRef b (nr s).toNatClampNeg (Int32.ofNat i) := by
      have ei : (Int32.ofNat i).toInt = (i : Int) := Int32.toInt_ofNat_of_lt (by have := t.2.2.2.2.2.1; omega)
      have b4 := hI.2.2.2.1.2.2.1
      have ep : (b 130 (nr s).toNatClampNeg + 1).toInt = (b 130 (nr s).toNatClampNeg).toInt + 1 := i_p1 (by omega)
      have sz : (b 128 (nr s).toNatClampNeg).toInt = (ws s).toInt + 1 := by
        rw [t.2.2.1]
        exact i_p1 (by have := t.2.2.2.2.2.1; omega)
      have ex : (b 130 (nr s).toNatClampNeg + 1 + Int32.ofNat i).toInt = (b 130 (nr s).toNatClampNeg).toInt + 1 + (i : Int) := by
        rw [i_add (by omega) (by omega)]
        omega
      have cx := tn_cast (x := b 130 (nr s).toNatClampNeg + 1 + Int32.ofNat i) (by omega)
      unfold aRef
      rw [(Md_f h u.2.2.1.1 u.2.2.2).2, fl s hs hv 130 (by decide) (by decide), Md_w hI h u.2.2.1 u.2.2.2 (p := (b 130 (nr s).toNatClampNeg + 1 + Int32.ofNat i).toNatClampNeg) (by omega) (by omega)]
    rw [rf, (Md_f h u.2.2.1.1 u.2.2.2).2]
    exact ⟨kU _ q.1 (hC.2.2 s hs u.1 u.2.1 i hi), q.2⟩
  · have q := q3 k hk
    rw [lo 72 (by decide) (by decide) (by decide) (by decide)]
    exact ⟨kU _ q.1 (hC.1 k (by omega)), q.2⟩
  · have q := q4 k hk
    have g := hu k
    have w := h.2.2.1 k hk
    by_cases z : (wk k).toInt < 0
    · rw [g.2 (by omega)]
      rw [No_n z] at q ⊢
      refine ⟨Or.inl z, ?_⟩
      by_cases z2 : ∃ x : Nat, (x : Int) < (b 69 6).toInt ∧ qWh b x ∧ b 73 k = Int32.ofNat x
      · exact w.1 z2
      · rw [w.2 z2]
        exact q.2
    · have u := U_y q.1 (by omega)
      have hs := tn_lt (by omega) u.1
      rw [No_y (by omega)] at q
      by_cases kz : kp (wk k).toNatClampNeg = 0
      · rw [g.1 ⟨by omega, by omega, kz⟩]
        refine ⟨Or.inl (by decide), ?_⟩
        have al := R1_al q1 hs u.2
        refine w.1 ⟨(nr (wk k).toNatClampNeg).toNatClampNeg, (hI.1 _ al).1.1, ⟨al, ?_⟩, ?_⟩
        · by_cases z3 : b 77 (nr (wk k).toNatClampNeg).toNatClampNeg = 0
          · exact z3
          · exact absurd kz ((hK.2 _ hs u.2).mpr ⟨al.1, z3⟩)
        · rw [q.2, R1_of_nr q1 hs u.2]
      · rw [g.2 (fun z2 => kz z2.2.2), No_y (by omega)]
        refine ⟨Or.inr ⟨u.1, us2 _ hs u.2 kz⟩, ?_⟩
        rw [w.2]
        · exact q.2
        · rintro ⟨x, x1, x2, x3⟩
          rw [q.2] at x3
          have k7 := ((hK.2 _ hs u.2).mp kz).2
          rw [x3, tn_of x2.1.1] at k7
          exact k7 x2.2
  · rw [h.2.1.2.1]
    exact q5.1
  · have q := q5.2 k hk
    rw [lo 74 (by decide) (by decide) (by decide) (by decide)]
    exact ⟨⟨q.1.1, q.1.2.1, us2 _ (tn_lt q.1.1 q.1.2.1) q.1.2.2 ((hC.2.1 k hk).elim (fun z => absurd z (by have := q.1.1; omega)) id)⟩, q.2⟩
  · rw [fl s hs hv 134 (by decide) (by decide)]
    exact q6 s hs (us1 s hs hv).1
  · have u := us1 s hs hv
    have t := q1.1 s hs u.1
    have ib := hI.1 _ u.2.2.1
    have b4 := hI.2.2.2.1.2.2.1
    have ca := tn_cast t.2.2.2.2.2.2
    have pl : (at₉ s).toNatClampNeg < 4600 := by
      have e4 := congrArg Int32.toInt t.2.2.2.1
      omega
    have o := q7 s hs u.1
    rcases ho₉ (at₉ s).toNatClampNeg pl with z | ⟨z1, r, r1, r2, r3, r4⟩
    · rw [z]
      exact o
    · have o2 := q7 r r1 r2
      have e : (at₉ r).toNatClampNeg = (at₉ s).toNatClampNeg := by
        have c2 := tn_cast (q1.1 r r1 r2).2.2.2.2.2.2
        omega
      rw [e, o] at o2
      have e3 := congrArg Int32.toInt o2
      rw [ofN_s hs, ofN_s r1] at e3
      have : s = r := by omega
      rw [this] at u
      exact absurd r3 u.2.1
  · have g := q8
    unfold qR8 at g ⊢
    rw [h.2.1.2.2, lo 87 (by decide) (by decide) (by decide) (by decide)]
    exact g
end QZ
theorem lp_199r_2 {X : Nat × (Nat → Int32)} {P : Option ma_V → (Nat → Nat → Int32) → Prop} {m0 : Nat → Nat → Int32} (h0 : zV m0) (K : ∀ m₉, zF wr_199 m0 m₉ → zV m₉ → (zuw (m0 113) (m₉ 113)) → (qUr (m0 113) (m₉ 113) (m₉ 110) 16) → P none m₉) : ∀ (n : Nat) (m : Nat → Nat → Int32) (l1 : Int32), (16 - l1.toInt).toNat = n → zF wr_199 m0 m → zV m → (0 ≤ l1.toInt) → (l1.toInt ≤ 16) → (zuw (m0 113) (m 113)) → (qUr (m0 113) (m 113) (m 110) l1.toInt) → zm X 0 0 199 2 [(0, .inr (.inr (some 94))), (1, .inl l1)] m P := by
  intro n
  induction n using Nat.strongRecOn with
  | _ n IH =>
    intro m l1 hmu hF hV hi0 hi1 r_UW r_UR
    refine g_199_2 l1 ?_
    have li1 : (16 : Int32).toInt = 16 := rfl
    have b2 := i_bd l1
    refine zd (fun (h3 : (16 : Int32) ≤ l1) => ?_) (fun (h3 : ¬ (16 : Int32) ≤ l1) => ?_)
    · skip
      have g4 := i_le h3
      exact K _ hF hV r_UW (show qUr (m0 113) (m 113) (m 110) 16 from by first | (exact Ur_0 (by decide)) | (exact Ur_n r_UR (by omega) (by omega) (Or.inl (by omega))) | (exact Ur_n r_UR (by omega) (by omega) (Or.inr (by assumption))) | (exact (show l1.toInt = 16 from by omega) ▸ r_UR) | (exfalso; omega; done) | (exfalso; contradiction; done))
    · skip
      have g5 := i_nle h3
      have hg6 : (0 ≤ l1 ∧ l1.toNatClampNeg < 16) := i_ix (by omega) (by omega)
      refine ⟨hg6, ?_⟩
      first | have f7 : -1 ≤ (m 113 l1.toNatClampNeg).toInt ∧ (m 113 l1.toNatClampNeg).toInt ≤ 3099 := ra_113 (m := m) hV (k := l1.toNatClampNeg) (i_ix (n := 16) (by omega) (by omega)).2 | have b8 := i_bd (m 113 l1.toNatClampNeg)
      have li9 : (0 : Int32).toInt = 0 := rfl
      refine zd (fun (h10 : (m 113 l1.toNatClampNeg) < (0 : Int32)) => ?_) (fun (h10 : ¬ (m 113 l1.toNatClampNeg) < (0 : Int32)) => ?_)
      · skip
        have g11 := i_lt h10
        first | have e12 : (l1 + (1 : Int32)).toInt = l1.toInt + (1) := i_addk rfl (by omega) (by omega) | have b13 := i_bd (l1 + (1 : Int32))
        exact IH (16 - (l1 + (1 : Int32)).toInt).toNat (by omega) _ ((l1 + (1 : Int32))) rfl hF hV (by omega) (by omega) r_UW (show qUr (m0 113) (m 113) (m 110) (l1 + (1 : Int32)).toInt from by first | (exact Ur_0 (by decide)) | (exact Ur_n r_UR (by omega) (by omega) (Or.inl (by omega))) | (exact Ur_n r_UR (by omega) (by omega) (Or.inr (by assumption))) | (exact (show l1.toInt = 16 from by omega) ▸ r_UR) | (exfalso; omega; done) | (exfalso; contradiction; done))
      · skip
        have g14 := i_nlt h10
        have hg15 : (0 ≤ l1 ∧ l1.toNatClampNeg < 16) := i_ix (by omega) (by omega)
        refine ⟨hg15, ?_⟩
        have hg16 : (0 ≤ (m 113 l1.toNatClampNeg) ∧ (m 113 l1.toNatClampNeg).toNatClampNeg < 3100) := i_ix (by omega) (by omega)
        refine ⟨hg16, ?_⟩
        first | have f17 : 0 ≤ (m 110 (m 113 l1.toNatClampNeg).toNatClampNeg).toInt ∧ (m 110 (m 113 l1.toNatClampNeg).toNatClampNeg).toInt ≤ 1 := ra_110 (m := m) hV (k := (m 113 l1.toNatClampNeg).toNatClampNeg) (i_ix (n := 3100) (by omega) (by omega)).2 | have b18 := i_bd (m 110 (m 113 l1.toNatClampNeg).toNatClampNeg)
        refine zd (fun (h19 : (m 110 (m 113 l1.toNatClampNeg).toNatClampNeg) = (0 : Int32)) => ?_) (fun (h19 : ¬ (m 110 (m 113 l1.toNatClampNeg).toNatClampNeg) = (0 : Int32)) => ?_)
        · skip
          have g20 := i_eq h19
          have hg21 : (0 ≤ l1 ∧ l1.toNatClampNeg < 16) := i_ix (by omega) (by omega)
          refine ⟨hg21, ?_⟩
          have li23 : (-1 : Int32).toInt = -1 := rfl
          have hV22 : zV (ma_u m 113 l1.toNatClampNeg (-1 : Int32)) := ua_113 hV (by omega) (by omega)
          first | have e24 : (l1 + (1 : Int32)).toInt = l1.toInt + (1) := i_addk rfl (by omega) (by omega) | have b25 := i_bd (l1 + (1 : Int32))
          exact IH (16 - (l1 + (1 : Int32)).toInt).toNat (by omega) _ ((l1 + (1 : Int32))) rfl (zF_u hF rfl) hV22 (by omega) (by omega) (show zuw (m0 113) ((ma_u m 113 l1.toNatClampNeg (-1 : Int32)) 113) from by first | (exact zuw_put r_UW (by decide)) | (exfalso; omega; done) | (exfalso; contradiction; done)) (show qUr (m0 113) ((ma_u m 113 l1.toNatClampNeg (-1 : Int32)) 113) (m 110) (l1 + (1 : Int32)).toInt from by first | (exact Ur_y r_UR (by omega) (by omega) (by omega) (by assumption)) | (exfalso; omega; done) | (exfalso; contradiction; done))
        · skip
          have g26 := i_ne h19
          first | have e27 : (l1 + (1 : Int32)).toInt = l1.toInt + (1) := i_addk rfl (by omega) (by omega) | have b28 := i_bd (l1 + (1 : Int32))
          exact IH (16 - (l1 + (1 : Int32)).toInt).toNat (by omega) _ ((l1 + (1 : Int32))) rfl hF hV (by omega) (by omega) r_UW (show qUr (m0 113) (m 113) (m 110) (l1 + (1 : Int32)).toInt from by first | (exact Ur_0 (by decide)) | (exact Ur_n r_UR (by omega) (by omega) (Or.inl (by omega))) | (exact Ur_n r_UR (by omega) (by omega) (Or.inr (by assumption))) | (exact (show l1.toInt = 16 from by omega) ▸ r_UR) | (exfalso; omega; done) | (exfalso; contradiction; done))
theorem sp_199r {X : Nat × (Nat → Int32)} {P : Option ma_V → (Nat → Nat → Int32) → Prop} {m : Nat → Nat → Int32}  (hV : zV m)  (KZ : ∀ m₉, zV (zov wr_199 m m₉) → (zuw (m 113) (m₉ 113)) → (qUr (m 113) (m₉ 113) (m 110) 16) → P none (zov wr_199 m m₉)) : zm X 0 0 199 0 [(0, .inr (.inr (some 94)))] m P := by
  have K : ∀ m₉, zF wr_199 m m₉ → zV m₉ → (zuw (m 113) (m₉ 113)) → (qUr (m 113) (m₉ 113) (m₉ 110) 16) → P none m₉ := by
    intro m₉ hf z q0 q1
    have e := zov_eq hf
    rw [e] at z ⊢
    try rw [e] at q0
    try rw [e] at q1
    exact KZ m₉ z q0 q1
  refine g_199_0  ?_
  have li1 : (0 : Int32).toInt = 0 := rfl
  exact lp_199r_2 hV K _ _ ((0 : Int32)) rfl zF_rfl hV (by omega) (by omega) (show zuw (m 113) (m 113) from by first | (exact zuw_rfl) | (exfalso; omega; done) | (exfalso; contradiction; done)) (show qUr (m 113) (m 113) (m 110) (0 : Int32).toInt from by first | (exact Ur_0 (by decide)) | (exfalso; omega; done) | (exfalso; contradiction; done))

