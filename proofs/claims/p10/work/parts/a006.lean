/-! from 94.426 -/
/-! the reference (written by wip/tools/gen94m.py) -/
set_option maxRecDepth 100000 in
theorem hm_217 : ma_md 217 = some (12, yX12_findInSteps, cX12_findInSteps, 5, (some (FieldType.int))) := rfl
set_option maxRecDepth 100000 in
theorem hm_218 : ma_md 218 = some (12, yX12_freeWords, cX12_freeWords, 1, (some (FieldType.int))) := rfl
theorem f_12_219_12 : ma_fld 12 219 12 = some 17 := by decide +kernel
theorem v_12_436_12 : ma_vl 12 436 12 = some (1, 224, 1) := by decide +kernel
theorem v_12_439_12 : ma_vl 12 439 12 = some (1, 218, 0) := by decide +kernel
theorem v_12_442_12 : ma_vl 12 442 12 = some (1, 229, 0) := by decide +kernel
theorem dX12_findInSteps_0 : decode cX12_findInSteps 0 = .ok (.aload_n 0, 1) := by decide +kernel
theorem dX12_findInSteps_24 : decode cX12_findInSteps 24 = .ok (.aload_n 0, 1) := by decide +kernel
theorem dX12_findInSteps_45 : decode cX12_findInSteps 45 = .ok (.aload_n 0, 1) := by decide +kernel
theorem dX12_findInSteps_46 : decode cX12_findInSteps 46 = .ok (.iload_n 1, 1) := by decide +kernel
theorem dX12_findInSteps_47 : decode cX12_findInSteps 47 = .ok (.invokevirtual 436, 3) := by decide +kernel
theorem dX12_findInSteps_50 : decode cX12_findInSteps 50 = .ok (.istore_n 2, 1) := by decide +kernel
theorem dX12_findInSteps_51 : decode cX12_findInSteps 51 = .ok (.iload_n 2, 1) := by decide +kernel
theorem dX12_findInSteps_57 : decode cX12_findInSteps 57 = .ok (.aload_n 0, 1) := by decide +kernel
theorem dX12_findInSteps_68 : decode cX12_findInSteps 68 = .ok (.iconst 0, 1) := by decide +kernel
theorem dX12_findInSteps_69 : decode cX12_findInSteps 69 = .ok (.istore_n 3, 1) := by decide +kernel
theorem dX12_findInSteps_70 : decode cX12_findInSteps 70 = .ok (.iload_n 3, 1) := by decide +kernel
theorem dX12_findInSteps_71 : decode cX12_findInSteps 71 = .ok (.ifCond .eq 10, 3) := by decide +kernel
theorem dX12_findInSteps_81 : decode cX12_findInSteps 81 = .ok (.aload_n 0, 1) := by decide +kernel
theorem dX12_findInSteps_82 : decode cX12_findInSteps 82 = .ok (.invokevirtual 411, 3) := by decide +kernel
theorem dX12_findInSteps_85 : decode cX12_findInSteps 85 = .ok (.istore 4, 2) := by decide +kernel
theorem dX12_findInSteps_87 : decode cX12_findInSteps 87 = .ok (.aload_n 0, 1) := by decide +kernel
theorem dX12_findInSteps_88 : decode cX12_findInSteps 88 = .ok (.iload_n 1, 1) := by decide +kernel
theorem dX12_findInSteps_89 : decode cX12_findInSteps 89 = .ok (.invokevirtual 436, 3) := by decide +kernel
theorem dX12_findInSteps_92 : decode cX12_findInSteps 92 = .ok (.istore_n 2, 1) := by decide +kernel
theorem dX12_findInSteps_93 : decode cX12_findInSteps 93 = .ok (.iload_n 2, 1) := by decide +kernel
theorem dX12_findInSteps_101 : decode cX12_findInSteps 101 = .ok (.iload_n 2, 1) := by decide +kernel
theorem dX12_findInSteps_102 : decode cX12_findInSteps 102 = .ok (.ireturn, 1) := by decide +kernel
theorem dX12_findInSteps_97 : decode cX12_findInSteps 97 = .ok (.iload_n 3, 1) := by decide +kernel
theorem dX12_findInSteps_98 : decode cX12_findInSteps 98 = .ok (.ifCond .eq 5, 3) := by decide +kernel
theorem dX12_findInSteps_103 : decode cX12_findInSteps 103 = .ok (.aload_n 0, 1) := by decide +kernel
theorem dX12_findInSteps_104 : decode cX12_findInSteps 104 = .ok (.invokevirtual 442, 3) := by decide +kernel
theorem dX12_findInSteps_107 : decode cX12_findInSteps 107 = .ok (.istore 4, 2) := by decide +kernel
theorem dX12_findInSteps_109 : decode cX12_findInSteps 109 = .ok (.aload_n 0, 1) := by decide +kernel
theorem dX12_findInSteps_110 : decode cX12_findInSteps 110 = .ok (.iload_n 1, 1) := by decide +kernel
theorem dX12_findInSteps_111 : decode cX12_findInSteps 111 = .ok (.invokevirtual 436, 3) := by decide +kernel
theorem dX12_findInSteps_114 : decode cX12_findInSteps 114 = .ok (.ireturn, 1) := by decide +kernel
theorem dX12_findInSteps_94 : decode cX12_findInSteps 94 = .ok (.ifCond .ge 7, 3) := by decide +kernel
theorem dX12_findInSteps_64 : decode cX12_findInSteps 64 = .ok (.iconst 1, 1) := by decide +kernel
theorem dX12_findInSteps_65 : decode cX12_findInSteps 65 = .ok (.goto 4, 3) := by decide +kernel
theorem dX12_findInSteps_74 : decode cX12_findInSteps 74 = .ok (.aload_n 0, 1) := by decide +kernel
theorem dX12_findInSteps_75 : decode cX12_findInSteps 75 = .ok (.invokevirtual 442, 3) := by decide +kernel
theorem dX12_findInSteps_78 : decode cX12_findInSteps 78 = .ok (.goto 7, 3) := by decide +kernel
theorem dX12_findInSteps_61 : decode cX12_findInSteps 61 = .ok (.ifCond .ne 7, 3) := by decide +kernel
theorem dX12_findInSteps_58 : decode cX12_findInSteps 58 = .ok (.getfield 270, 3) := by decide +kernel
theorem dX12_findInSteps_55 : decode cX12_findInSteps 55 = .ok (.iload_n 2, 1) := by decide +kernel
theorem dX12_findInSteps_56 : decode cX12_findInSteps 56 = .ok (.ireturn, 1) := by decide +kernel
theorem dX12_findInSteps_52 : decode cX12_findInSteps 52 = .ok (.ifCond .lt 5, 3) := by decide +kernel
theorem dX12_findInSteps_31 : decode cX12_findInSteps 31 = .ok (.aload_n 0, 1) := by decide +kernel
theorem dX12_findInSteps_32 : decode cX12_findInSteps 32 = .ok (.aload_n 0, 1) := by decide +kernel
theorem dX12_findInSteps_36 : decode cX12_findInSteps 36 = .ok (.invokevirtual 402, 3) := by decide +kernel
theorem dX12_findInSteps_39 : decode cX12_findInSteps 39 = .ok (.istore_n 2, 1) := by decide +kernel
theorem dX12_findInSteps_40 : decode cX12_findInSteps 40 = .ok (.aload_n 0, 1) := by decide +kernel
theorem dX12_findInSteps_41 : decode cX12_findInSteps 41 = .ok (.invokevirtual 405, 3) := by decide +kernel
theorem dX12_findInSteps_44 : decode cX12_findInSteps 44 = .ok (.istore_n 3, 1) := by decide +kernel
theorem dX12_findInSteps_33 : decode cX12_findInSteps 33 = .ok (.getfield 219, 3) := by decide +kernel
theorem dX12_findInSteps_28 : decode cX12_findInSteps 28 = .ok (.ifCond .eq 17, 3) := by decide +kernel
theorem dX12_findInSteps_25 : decode cX12_findInSteps 25 = .ok (.getfield 270, 3) := by decide +kernel
theorem dX12_findInSteps_7 : decode cX12_findInSteps 7 = .ok (.aload_n 0, 1) := by decide +kernel
theorem dX12_findInSteps_8 : decode cX12_findInSteps 8 = .ok (.invokevirtual 439, 3) := by decide +kernel
theorem dX12_freeWords_0 : decode cX12_freeWords 0 = .ok (.aload_n 0, 1) := by decide +kernel
theorem dX12_freeWords_4 : decode cX12_freeWords 4 = .ok (.aload_n 0, 1) := by decide +kernel
theorem dX12_freeWords_8 : decode cX12_freeWords 8 = .ok (.isub, 1) := by decide +kernel
theorem dX12_findInSteps_11 : decode cX12_findInSteps 11 = .ok (.iconst 4, 1) := by decide +kernel
theorem dX12_findInSteps_12 : decode cX12_findInSteps 12 = .ok (.imul, 1) := by decide +kernel
theorem dX12_findInSteps_13 : decode cX12_findInSteps 13 = .ok (.aload_n 0, 1) := by decide +kernel
theorem dX12_findInSteps_20 : decode cX12_findInSteps 20 = .ok (.aload_n 0, 1) := by decide +kernel
theorem dX12_findInSteps_21 : decode cX12_findInSteps 21 = .ok (.invokevirtual 408, 3) := by decide +kernel
theorem dX12_findInSteps_17 : decode cX12_findInSteps 17 = .ok (.if_icmp .ge 7, 3) := by decide +kernel
theorem dX12_findInSteps_14 : decode cX12_findInSteps 14 = .ok (.getfield 202, 3) := by decide +kernel
theorem dX12_freeWords_9 : decode cX12_freeWords 9 = .ok (.ireturn, 1) := by decide +kernel
theorem dX12_freeWords_5 : decode cX12_freeWords 5 = .ok (.getfield 243, 3) := by decide +kernel
theorem dX12_freeWords_1 : decode cX12_freeWords 1 = .ok (.getfield 202, 3) := by decide +kernel
theorem dX12_findInSteps_4 : decode cX12_findInSteps 4 = .ok (.ifCond .ne 20, 3) := by decide +kernel
theorem dX12_findInSteps_1 : decode cX12_findInSteps 1 = .ok (.getfield 270, 3) := by decide +kernel
def wr_217 (c k : Nat) : Bool := Nat.beq c 99 || Nat.beq c 105 || Nat.beq c 106 || Nat.beq c 109 || Nat.beq c 110 || Nat.beq c 111 || Nat.beq c 113 || Nat.beq c 114 || Nat.beq c 115 || Nat.beq c 118 || (Nat.beq c 94 && (Nat.beq k 44 || Nat.beq k 45 || Nat.beq k 47 || Nat.beq k 49 || Nat.beq k 50 || Nat.beq k 55 || Nat.beq k 56 || Nat.beq k 57 || Nat.beq k 58 || Nat.beq k 73 || Nat.beq k 84))
theorem ws_219_217 : ∀ c k, wr_219 c k = true → wr_217 c k = true := by
  intro c k h
  simp only [wr_219, Bool.or_eq_true, Bool.and_eq_true, Nat.beq_eq] at h
  rcases h with (rfl | rfl) | ⟨rfl, ((rfl | rfl) | rfl)⟩ <;> rfl
theorem ws_222_217 : ∀ c k, wr_222 c k = true → wr_217 c k = true := by
  intro c k h
  simp only [wr_222, Bool.or_eq_true, Bool.and_eq_true, Nat.beq_eq] at h
  rcases h with (rfl | rfl) | ⟨rfl, (rfl | rfl)⟩ <;> rfl
theorem ws_223_217 : ∀ c k, wr_223 c k = true → wr_217 c k = true := by
  intro c k h
  simp only [wr_223, Bool.or_eq_true, Bool.and_eq_true, Nat.beq_eq] at h
  rcases h with (((((((((rfl | rfl) | rfl) | rfl) | rfl) | rfl) | rfl) | rfl) | rfl) | rfl) | ⟨rfl, (((((((rfl | rfl) | rfl) | rfl) | rfl) | rfl) | rfl) | rfl)⟩ <;> rfl
theorem ws_224_217 : ∀ c k, wr_224 c k = true → wr_217 c k = true := by
  intro c k h
  simp only [wr_224, Bool.or_eq_true, Bool.and_eq_true, Nat.beq_eq] at h
  rcases h with ⟨rfl, (rfl | rfl)⟩ <;> rfl
theorem ws_229_217 : ∀ c k, wr_229 c k = true → wr_217 c k = true := by
  intro c k h
  simp only [wr_229, Bool.or_eq_true, Bool.and_eq_true, Nat.beq_eq] at h
  rcases h with (((((((((rfl | rfl) | rfl) | rfl) | rfl) | rfl) | rfl) | rfl) | rfl) | rfl) | ⟨rfl, ((((((((rfl | rfl) | rfl) | rfl) | rfl) | rfl) | rfl) | rfl) | rfl)⟩ <;> rfl
theorem ws_230_217 : ∀ c k, wr_230 c k = true → wr_217 c k = true := by
  intro c k h
  simp only [wr_230, Bool.or_eq_true, Bool.and_eq_true, Nat.beq_eq] at h
  rcases h with (((((((((rfl | rfl) | rfl) | rfl) | rfl) | rfl) | rfl) | rfl) | rfl) | rfl) | ⟨rfl, ((((((((rfl | rfl) | rfl) | rfl) | rfl) | rfl) | rfl) | rfl) | rfl)⟩ <;> rfl
theorem g_217_0 {X : Nat × (Nat → Int32)} {m : Nat → Nat → Int32} {P : Option ma_V → (Nat → Nat → Int32) → Prop} (n : Int32) (h : if (m 94 58) = 0 then (if (m 94 11) ≤ (((m 94 11) - (m 94 45)) * (4 : Int32)) then (if (m 94 58) = 0 then (zm X 3 69 224 0 [(0, .inr (.inr (some 94))), (1, .inl n)] m (zmi (fun v34 m33 => if v34 < 0 then (if (m33 94 58) = 0 then (zm X 6 131 229 0 [(0, .inr (.inr (some 94)))] m33 (zmi (fun v44 m43 => zm X 3 69 224 0 [(0, .inr (.inr (some 94))), (1, .inl n)] m43 (zmi (fun v46 m45 => if 0 ≤ v46 then (P (some (.inl v46)) m45) else (P (some (.inl v46)) m45)))))) else (zm X 5 109 230 0 [(0, .inr (.inr (some 94)))] m33 (zmi (fun v36 m35 => zm X 3 69 224 0 [(0, .inr (.inr (some 94))), (1, .inl n)] m35 (zmi (fun v38 m37 => if 0 ≤ v38 then (P (some (.inl v38)) m37) else (zm X 6 131 229 0 [(0, .inr (.inr (some 94)))] m37 (zmi (fun v40 m39 => zm X 3 69 224 0 [(0, .inr (.inr (some 94))), (1, .inl n)] m39 (zmi (fun v42 m41 => P (some (.inl v42)) m41))))))))))) else (P (some (.inl v34)) m33)))) else (zm X 2 44 222 0 [(0, .inr (.inr (some 94))), (1, .inl (m 94 17))] m (zmi (fun v48 m47 => zm X 4 88 223 0 [(0, .inr (.inr (some 94)))] m47 (zmi (fun v50 m49 => zm X 3 69 224 0 [(0, .inr (.inr (some 94))), (1, .inl n)] m49 (zmi (fun v52 m51 => if v52 < 0 then (if (m51 94 58) = 0 then (zm X 6 131 229 0 [(0, .inr (.inr (some 94)))] m51 (zmi (fun v62 m61 => zm X 3 69 224 0 [(0, .inr (.inr (some 94))), (1, .inl n)] m61 (zmi (fun v64 m63 => if 0 ≤ v64 then (P (some (.inl v64)) m63) else (P (some (.inl v64)) m63)))))) else (zm X 5 109 230 0 [(0, .inr (.inr (some 94)))] m51 (zmi (fun v54 m53 => zm X 3 69 224 0 [(0, .inr (.inr (some 94))), (1, .inl n)] m53 (zmi (fun v56 m55 => if 0 ≤ v56 then (P (some (.inl v56)) m55) else (zm X 6 131 229 0 [(0, .inr (.inr (some 94)))] m55 (zmi (fun v58 m57 => zm X 3 69 224 0 [(0, .inr (.inr (some 94))), (1, .inl n)] m57 (zmi (fun v60 m59 => P (some (.inl v60)) m59))))))))))) else (P (some (.inl v52)) m51))))))))) else (zm X 2 44 219 0 [(0, .inr (.inr (some 94)))] m (zmv (fun m65 => if (m65 94 58) = 0 then (zm X 3 69 224 0 [(0, .inr (.inr (some 94))), (1, .inl n)] m65 (zmi (fun v68 m67 => if v68 < 0 then (if (m67 94 58) = 0 then (zm X 6 131 229 0 [(0, .inr (.inr (some 94)))] m67 (zmi (fun v78 m77 => zm X 3 69 224 0 [(0, .inr (.inr (some 94))), (1, .inl n)] m77 (zmi (fun v80 m79 => if 0 ≤ v80 then (P (some (.inl v80)) m79) else (P (some (.inl v80)) m79)))))) else (zm X 5 109 230 0 [(0, .inr (.inr (some 94)))] m67 (zmi (fun v70 m69 => zm X 3 69 224 0 [(0, .inr (.inr (some 94))), (1, .inl n)] m69 (zmi (fun v72 m71 => if 0 ≤ v72 then (P (some (.inl v72)) m71) else (zm X 6 131 229 0 [(0, .inr (.inr (some 94)))] m71 (zmi (fun v74 m73 => zm X 3 69 224 0 [(0, .inr (.inr (some 94))), (1, .inl n)] m73 (zmi (fun v76 m75 => P (some (.inl v76)) m75))))))))))) else (P (some (.inl v68)) m67)))) else (zm X 2 44 222 0 [(0, .inr (.inr (some 94))), (1, .inl (m65 94 17))] m65 (zmi (fun v82 m81 => zm X 4 88 223 0 [(0, .inr (.inr (some 94)))] m81 (zmi (fun v84 m83 => zm X 3 69 224 0 [(0, .inr (.inr (some 94))), (1, .inl n)] m83 (zmi (fun v86 m85 => if v86 < 0 then (if (m85 94 58) = 0 then (zm X 6 131 229 0 [(0, .inr (.inr (some 94)))] m85 (zmi (fun v96 m95 => zm X 3 69 224 0 [(0, .inr (.inr (some 94))), (1, .inl n)] m95 (zmi (fun v98 m97 => if 0 ≤ v98 then (P (some (.inl v98)) m97) else (P (some (.inl v98)) m97)))))) else (zm X 5 109 230 0 [(0, .inr (.inr (some 94)))] m85 (zmi (fun v88 m87 => zm X 3 69 224 0 [(0, .inr (.inr (some 94))), (1, .inl n)] m87 (zmi (fun v90 m89 => if 0 ≤ v90 then (P (some (.inl v90)) m89) else (zm X 6 131 229 0 [(0, .inr (.inr (some 94)))] m89 (zmi (fun v92 m91 => zm X 3 69 224 0 [(0, .inr (.inr (some 94))), (1, .inl n)] m91 (zmi (fun v94 m93 => P (some (.inl v94)) m93))))))))))) else (P (some (.inl v86)) m85)))))))))))) else (if (m 94 58) = 0 then (zm X 3 69 224 0 [(0, .inr (.inr (some 94))), (1, .inl n)] m (zmi (fun v2 m1 => if v2 < 0 then (if (m1 94 58) = 0 then (zm X 6 131 229 0 [(0, .inr (.inr (some 94)))] m1 (zmi (fun v12 m11 => zm X 3 69 224 0 [(0, .inr (.inr (some 94))), (1, .inl n)] m11 (zmi (fun v14 m13 => if 0 ≤ v14 then (P (some (.inl v14)) m13) else (P (some (.inl v14)) m13)))))) else (zm X 5 109 230 0 [(0, .inr (.inr (some 94)))] m1 (zmi (fun v4 m3 => zm X 3 69 224 0 [(0, .inr (.inr (some 94))), (1, .inl n)] m3 (zmi (fun v6 m5 => if 0 ≤ v6 then (P (some (.inl v6)) m5) else (zm X 6 131 229 0 [(0, .inr (.inr (some 94)))] m5 (zmi (fun v8 m7 => zm X 3 69 224 0 [(0, .inr (.inr (some 94))), (1, .inl n)] m7 (zmi (fun v10 m9 => P (some (.inl v10)) m9))))))))))) else (P (some (.inl v2)) m1)))) else (zm X 2 44 222 0 [(0, .inr (.inr (some 94))), (1, .inl (m 94 17))] m (zmi (fun v16 m15 => zm X 4 88 223 0 [(0, .inr (.inr (some 94)))] m15 (zmi (fun v18 m17 => zm X 3 69 224 0 [(0, .inr (.inr (some 94))), (1, .inl n)] m17 (zmi (fun v20 m19 => if v20 < 0 then (if (m19 94 58) = 0 then (zm X 6 131 229 0 [(0, .inr (.inr (some 94)))] m19 (zmi (fun v30 m29 => zm X 3 69 224 0 [(0, .inr (.inr (some 94))), (1, .inl n)] m29 (zmi (fun v32 m31 => if 0 ≤ v32 then (P (some (.inl v32)) m31) else (P (some (.inl v32)) m31)))))) else (zm X 5 109 230 0 [(0, .inr (.inr (some 94)))] m19 (zmi (fun v22 m21 => zm X 3 69 224 0 [(0, .inr (.inr (some 94))), (1, .inl n)] m21 (zmi (fun v24 m23 => if 0 ≤ v24 then (P (some (.inl v24)) m23) else (zm X 6 131 229 0 [(0, .inr (.inr (some 94)))] m23 (zmi (fun v26 m25 => zm X 3 69 224 0 [(0, .inr (.inr (some 94))), (1, .inl n)] m25 (zmi (fun v28 m27 => P (some (.inl v28)) m27))))))))))) else (P (some (.inl v20)) m19)))))))))) : zm X 7 151 217 0 [(0, .inr (.inr (some 94))), (1, .inl n)] m P := by
  intro d w S Q hd hw hS hm HQ
  subst hm
  refine zw_push hm_217 dX12_findInSteps_0 (v := .inr (.inr (some 94))) rfl ?_
  refine zw_gf hm_217 dX12_findInSteps_1 (v := .inl ((mI S) 94 58)) (zT_is hS s_94) (zT_t hS s_94) rfl f_12_270_12 rfl ?_
  refine zw_if0 hm_217 dX12_findInSteps_4 (t := 24) rfl zc0_ne ?_ ?_
  · intro hc
    rw [if_neg hc] at h
    refine zw_push hm_217 dX12_findInSteps_24 (v := .inr (.inr (some 94))) rfl ?_
    refine zw_gf hm_217 dX12_findInSteps_25 (v := .inl ((mI S) 94 58)) (zT_is hS s_94) (zT_t hS s_94) rfl f_12_270_12 rfl ?_
    refine zw_if0 hm_217 dX12_findInSteps_28 (t := 45) rfl zc0_eq ?_ ?_
    · intro hc
      rw [if_pos hc] at h
      refine zw_push hm_217 dX12_findInSteps_45 (v := .inr (.inr (some 94))) rfl ?_
      refine zw_push hm_217 dX12_findInSteps_46 (v := .inl n) rfl ?_
      refine zw_cv hm_217 dX12_findInSteps_47 v_12_436_12 hm_224 [.inl n] [] rfl (zT_rt hS s_94 rfl) ⟨by omega, by omega⟩ rfl (h _ _ S _ (by omega) (by omega) hS rfl (fun o9 m1 hv => ?_))
      obtain ⟨v2, rfl, h⟩ := zmi_of hv
      show ma_wp X d w 217 50 [(0, .inr (.inr (some 94))), (1, .inl n)] [.inl v2] (zst S m1) _
      refine zw_sto hm_217 dX12_findInSteps_50 [(2, .inl v2), (0, .inr (.inr (some 94))), (1, .inl n)] rfl rfl rfl ?_
      refine zw_push hm_217 dX12_findInSteps_51 (v := .inl v2) rfl ?_
      refine zw_if0 hm_217 dX12_findInSteps_52 (t := 57) rfl zc0_lt ?_ ?_
      · intro hc
        rw [if_pos hc] at h
        refine zw_push hm_217 dX12_findInSteps_57 (v := .inr (.inr (some 94))) rfl ?_
        refine zw_gf hm_217 dX12_findInSteps_58 (v := .inl (m1 94 58)) (zT_is (zT_zst hS m1) s_94) (zT_t (zT_zst hS m1) s_94) rfl f_12_270_12 rfl ?_
        refine zw_if0 hm_217 dX12_findInSteps_61 (t := 68) rfl zc0_ne ?_ ?_
        · intro hc
          rw [if_neg hc] at h
          refine zw_push hm_217 dX12_findInSteps_68 (v := .inl (0 : Int32)) rfl ?_
          refine zw_sto hm_217 dX12_findInSteps_69 [(3, .inl (0 : Int32)), (2, .inl v2), (0, .inr (.inr (some 94))), (1, .inl n)] rfl rfl rfl ?_
          refine zw_push hm_217 dX12_findInSteps_70 (v := .inl (0 : Int32)) rfl ?_
          refine zw_if0 hm_217 dX12_findInSteps_71 (t := 81) rfl zc0_eq (fun _ => ?_) (fun hc => absurd (by decide) hc)
          refine zw_push hm_217 dX12_findInSteps_81 (v := .inr (.inr (some 94))) rfl ?_
          refine zw_cv hm_217 dX12_findInSteps_82 v_12_411_12 hm_230 [] [] rfl (zT_rt (zT_zst hS m1) s_94 rfl) ⟨by omega, by omega⟩ rfl (h _ _ (zst S m1) _ (by omega) (by omega) (zT_zst hS m1) rfl (fun o9 m3 hv => ?_))
          obtain ⟨v4, rfl, h⟩ := zmi_of hv
          show ma_wp X d w 217 85 [(3, .inl (0 : Int32)), (2, .inl v2), (0, .inr (.inr (some 94))), (1, .inl n)] [.inl v4] (zst S m3) _
          refine zw_sto hm_217 dX12_findInSteps_85 [(4, .inl v4), (3, .inl (0 : Int32)), (2, .inl v2), (0, .inr (.inr (some 94))), (1, .inl n)] rfl rfl rfl ?_
          refine zw_push hm_217 dX12_findInSteps_87 (v := .inr (.inr (some 94))) rfl ?_
          refine zw_push hm_217 dX12_findInSteps_88 (v := .inl n) rfl ?_
          refine zw_cv hm_217 dX12_findInSteps_89 v_12_436_12 hm_224 [.inl n] [] rfl (zT_rt (zT_zst hS m3) s_94 rfl) ⟨by omega, by omega⟩ rfl (h _ _ (zst S m3) _ (by omega) (by omega) (zT_zst hS m3) rfl (fun o9 m5 hv => ?_))
          obtain ⟨v6, rfl, h⟩ := zmi_of hv
          show ma_wp X d w 217 92 [(4, .inl v4), (3, .inl (0 : Int32)), (2, .inl v2), (0, .inr (.inr (some 94))), (1, .inl n)] [.inl v6] (zst S m5) _
          refine zw_sto hm_217 dX12_findInSteps_92 [(2, .inl v6), (4, .inl v4), (3, .inl (0 : Int32)), (0, .inr (.inr (some 94))), (1, .inl n)] rfl rfl rfl ?_
          refine zw_push hm_217 dX12_findInSteps_93 (v := .inl v6) rfl ?_
          refine zw_if0 hm_217 dX12_findInSteps_94 (t := 101) rfl zc0_ge ?_ ?_
          · intro hc
            rw [if_pos hc] at h
            refine zw_push hm_217 dX12_findInSteps_101 (v := .inl v6) rfl ?_
            exact zw_iret hm_217 dX12_findInSteps_102 (HQ _ _ h)
          · intro hc
            rw [if_neg hc] at h
            refine zw_push hm_217 dX12_findInSteps_97 (v := .inl (0 : Int32)) rfl ?_
            refine zw_if0 hm_217 dX12_findInSteps_98 (t := 103) rfl zc0_eq (fun _ => ?_) (fun hc => absurd (by decide) hc)
            refine zw_push hm_217 dX12_findInSteps_103 (v := .inr (.inr (some 94))) rfl ?_
            refine zw_cv hm_217 dX12_findInSteps_104 v_12_442_12 hm_229 [] [] rfl (zT_rt (zT_zst hS m5) s_94 rfl) ⟨by omega, by omega⟩ rfl (h _ _ (zst S m5) _ (by omega) (by omega) (zT_zst hS m5) rfl (fun o9 m7 hv => ?_))
            obtain ⟨v8, rfl, h⟩ := zmi_of hv
            show ma_wp X d w 217 107 [(2, .inl v6), (4, .inl v4), (3, .inl (0 : Int32)), (0, .inr (.inr (some 94))), (1, .inl n)] [.inl v8] (zst S m7) _
            refine zw_sto hm_217 dX12_findInSteps_107 [(4, .inl v8), (2, .inl v6), (3, .inl (0 : Int32)), (0, .inr (.inr (some 94))), (1, .inl n)] rfl rfl rfl ?_
            refine zw_push hm_217 dX12_findInSteps_109 (v := .inr (.inr (some 94))) rfl ?_
            refine zw_push hm_217 dX12_findInSteps_110 (v := .inl n) rfl ?_
            refine zw_cv hm_217 dX12_findInSteps_111 v_12_436_12 hm_224 [.inl n] [] rfl (zT_rt (zT_zst hS m7) s_94 rfl) ⟨by omega, by omega⟩ rfl (h _ _ (zst S m7) _ (by omega) (by omega) (zT_zst hS m7) rfl (fun o9 m9 hv => ?_))
            obtain ⟨v10, rfl, h⟩ := zmi_of hv
            show ma_wp X d w 217 114 [(4, .inl v8), (2, .inl v6), (3, .inl (0 : Int32)), (0, .inr (.inr (some 94))), (1, .inl n)] [.inl v10] (zst S m9) _
            exact zw_iret hm_217 dX12_findInSteps_114 (HQ _ _ h)
        · intro hc
          rw [if_pos (Classical.not_not.mp hc)] at h
          refine zw_push hm_217 dX12_findInSteps_64 (v := .inl (1 : Int32)) rfl ?_
          refine zw_goto hm_217 dX12_findInSteps_65 (t := 69) rfl ?_
          refine zw_sto hm_217 dX12_findInSteps_69 [(3, .inl (1 : Int32)), (2, .inl v2), (0, .inr (.inr (some 94))), (1, .inl n)] rfl rfl rfl ?_
          refine zw_push hm_217 dX12_findInSteps_70 (v := .inl (1 : Int32)) rfl ?_
          refine zw_if0 hm_217 dX12_findInSteps_71 (t := 81) rfl zc0_eq (fun hc => absurd hc (by decide)) (fun _ => ?_)
          refine zw_push hm_217 dX12_findInSteps_74 (v := .inr (.inr (some 94))) rfl ?_
          refine zw_cv hm_217 dX12_findInSteps_75 v_12_442_12 hm_229 [] [] rfl (zT_rt (zT_zst hS m1) s_94 rfl) ⟨by omega, by omega⟩ rfl (h _ _ (zst S m1) _ (by omega) (by omega) (zT_zst hS m1) rfl (fun o9 m11 hv => ?_))
          obtain ⟨v12, rfl, h⟩ := zmi_of hv
          show ma_wp X d w 217 78 [(3, .inl (1 : Int32)), (2, .inl v2), (0, .inr (.inr (some 94))), (1, .inl n)] [.inl v12] (zst S m11) _
          refine zw_goto hm_217 dX12_findInSteps_78 (t := 85) rfl ?_
          refine zw_sto hm_217 dX12_findInSteps_85 [(4, .inl v12), (3, .inl (1 : Int32)), (2, .inl v2), (0, .inr (.inr (some 94))), (1, .inl n)] rfl rfl rfl ?_
          refine zw_push hm_217 dX12_findInSteps_87 (v := .inr (.inr (some 94))) rfl ?_
          refine zw_push hm_217 dX12_findInSteps_88 (v := .inl n) rfl ?_
          refine zw_cv hm_217 dX12_findInSteps_89 v_12_436_12 hm_224 [.inl n] [] rfl (zT_rt (zT_zst hS m11) s_94 rfl) ⟨by omega, by omega⟩ rfl (h _ _ (zst S m11) _ (by omega) (by omega) (zT_zst hS m11) rfl (fun o9 m13 hv => ?_))
          obtain ⟨v14, rfl, h⟩ := zmi_of hv
          show ma_wp X d w 217 92 [(4, .inl v12), (3, .inl (1 : Int32)), (2, .inl v2), (0, .inr (.inr (some 94))), (1, .inl n)] [.inl v14] (zst S m13) _
          refine zw_sto hm_217 dX12_findInSteps_92 [(2, .inl v14), (4, .inl v12), (3, .inl (1 : Int32)), (0, .inr (.inr (some 94))), (1, .inl n)] rfl rfl rfl ?_
          refine zw_push hm_217 dX12_findInSteps_93 (v := .inl v14) rfl ?_
          refine zw_if0 hm_217 dX12_findInSteps_94 (t := 101) rfl zc0_ge ?_ ?_
          · intro hc
            rw [if_pos hc] at h
            refine zw_push hm_217 dX12_findInSteps_101 (v := .inl v14) rfl ?_
            exact zw_iret hm_217 dX12_findInSteps_102 (HQ _ _ h)
          · intro hc
            rw [if_neg hc] at h
            refine zw_push hm_217 dX12_findInSteps_97 (v := .inl (1 : Int32)) rfl ?_
            refine zw_if0 hm_217 dX12_findInSteps_98 (t := 103) rfl zc0_eq (fun hc => absurd hc (by decide)) (fun _ => ?_)
            refine zw_push hm_217 dX12_findInSteps_101 (v := .inl v14) rfl ?_
            exact zw_iret hm_217 dX12_findInSteps_102 (HQ _ _ h)
      · intro hc
        rw [if_neg hc] at h
        refine zw_push hm_217 dX12_findInSteps_55 (v := .inl v2) rfl ?_
        exact zw_iret hm_217 dX12_findInSteps_56 (HQ _ _ h)
    · intro hc
      rw [if_neg hc] at h
      refine zw_push hm_217 dX12_findInSteps_31 (v := .inr (.inr (some 94))) rfl ?_
      refine zw_push hm_217 dX12_findInSteps_32 (v := .inr (.inr (some 94))) rfl ?_
      refine zw_gf hm_217 dX12_findInSteps_33 (v := .inl ((mI S) 94 17)) (zT_is hS s_94) (zT_t hS s_94) rfl f_12_219_12 rfl ?_
      refine zw_cv hm_217 dX12_findInSteps_36 v_12_402_12 hm_222 [.inl ((mI S) 94 17)] [] rfl (zT_rt hS s_94 rfl) ⟨by omega, by omega⟩ rfl (h _ _ S _ (by omega) (by omega) hS rfl (fun o9 m15 hv => ?_))
      obtain ⟨v16, rfl, h⟩ := zmi_of hv
      show ma_wp X d w 217 39 [(0, .inr (.inr (some 94))), (1, .inl n)] [.inl v16] (zst S m15) _
      refine zw_sto hm_217 dX12_findInSteps_39 [(2, .inl v16), (0, .inr (.inr (some 94))), (1, .inl n)] rfl rfl rfl ?_
      refine zw_push hm_217 dX12_findInSteps_40 (v := .inr (.inr (some 94))) rfl ?_
      refine zw_cv hm_217 dX12_findInSteps_41 v_12_405_12 hm_223 [] [] rfl (zT_rt (zT_zst hS m15) s_94 rfl) ⟨by omega, by omega⟩ rfl (h _ _ (zst S m15) _ (by omega) (by omega) (zT_zst hS m15) rfl (fun o9 m17 hv => ?_))
      obtain ⟨v18, rfl, h⟩ := zmi_of hv
      show ma_wp X d w 217 44 [(2, .inl v16), (0, .inr (.inr (some 94))), (1, .inl n)] [.inl v18] (zst S m17) _
      refine zw_sto hm_217 dX12_findInSteps_44 [(3, .inl v18), (2, .inl v16), (0, .inr (.inr (some 94))), (1, .inl n)] rfl rfl rfl ?_
      refine zw_push hm_217 dX12_findInSteps_45 (v := .inr (.inr (some 94))) rfl ?_
      refine zw_push hm_217 dX12_findInSteps_46 (v := .inl n) rfl ?_
      refine zw_cv hm_217 dX12_findInSteps_47 v_12_436_12 hm_224 [.inl n] [] rfl (zT_rt (zT_zst hS m17) s_94 rfl) ⟨by omega, by omega⟩ rfl (h _ _ (zst S m17) _ (by omega) (by omega) (zT_zst hS m17) rfl (fun o9 m19 hv => ?_))
      obtain ⟨v20, rfl, h⟩ := zmi_of hv
      show ma_wp X d w 217 50 [(3, .inl v18), (2, .inl v16), (0, .inr (.inr (some 94))), (1, .inl n)] [.inl v20] (zst S m19) _
      refine zw_sto hm_217 dX12_findInSteps_50 [(2, .inl v20), (3, .inl v18), (0, .inr (.inr (some 94))), (1, .inl n)] rfl rfl rfl ?_
      refine zw_push hm_217 dX12_findInSteps_51 (v := .inl v20) rfl ?_
      refine zw_if0 hm_217 dX12_findInSteps_52 (t := 57) rfl zc0_lt ?_ ?_
      · intro hc
        rw [if_pos hc] at h
        refine zw_push hm_217 dX12_findInSteps_57 (v := .inr (.inr (some 94))) rfl ?_
        refine zw_gf hm_217 dX12_findInSteps_58 (v := .inl (m19 94 58)) (zT_is (zT_zst hS m19) s_94) (zT_t (zT_zst hS m19) s_94) rfl f_12_270_12 rfl ?_
        refine zw_if0 hm_217 dX12_findInSteps_61 (t := 68) rfl zc0_ne ?_ ?_
        · intro hc
          rw [if_neg hc] at h
          refine zw_push hm_217 dX12_findInSteps_68 (v := .inl (0 : Int32)) rfl ?_
          refine zw_sto hm_217 dX12_findInSteps_69 [(3, .inl (0 : Int32)), (2, .inl v20), (0, .inr (.inr (some 94))), (1, .inl n)] rfl rfl rfl ?_
          refine zw_push hm_217 dX12_findInSteps_70 (v := .inl (0 : Int32)) rfl ?_
          refine zw_if0 hm_217 dX12_findInSteps_71 (t := 81) rfl zc0_eq (fun _ => ?_) (fun hc => absurd (by decide) hc)
          refine zw_push hm_217 dX12_findInSteps_81 (v := .inr (.inr (some 94))) rfl ?_
          refine zw_cv hm_217 dX12_findInSteps_82 v_12_411_12 hm_230 [] [] rfl (zT_rt (zT_zst hS m19) s_94 rfl) ⟨by omega, by omega⟩ rfl (h _ _ (zst S m19) _ (by omega) (by omega) (zT_zst hS m19) rfl (fun o9 m21 hv => ?_))
          obtain ⟨v22, rfl, h⟩ := zmi_of hv
          show ma_wp X d w 217 85 [(3, .inl (0 : Int32)), (2, .inl v20), (0, .inr (.inr (some 94))), (1, .inl n)] [.inl v22] (zst S m21) _
          refine zw_sto hm_217 dX12_findInSteps_85 [(4, .inl v22), (3, .inl (0 : Int32)), (2, .inl v20), (0, .inr (.inr (some 94))), (1, .inl n)] rfl rfl rfl ?_
          refine zw_push hm_217 dX12_findInSteps_87 (v := .inr (.inr (some 94))) rfl ?_
          refine zw_push hm_217 dX12_findInSteps_88 (v := .inl n) rfl ?_
          refine zw_cv hm_217 dX12_findInSteps_89 v_12_436_12 hm_224 [.inl n] [] rfl (zT_rt (zT_zst hS m21) s_94 rfl) ⟨by omega, by omega⟩ rfl (h _ _ (zst S m21) _ (by omega) (by omega) (zT_zst hS m21) rfl (fun o9 m23 hv => ?_))
          obtain ⟨v24, rfl, h⟩ := zmi_of hv
          show ma_wp X d w 217 92 [(4, .inl v22), (3, .inl (0 : Int32)), (2, .inl v20), (0, .inr (.inr (some 94))), (1, .inl n)] [.inl v24] (zst S m23) _
          refine zw_sto hm_217 dX12_findInSteps_92 [(2, .inl v24), (4, .inl v22), (3, .inl (0 : Int32)), (0, .inr (.inr (some 94))), (1, .inl n)] rfl rfl rfl ?_
          refine zw_push hm_217 dX12_findInSteps_93 (v := .inl v24) rfl ?_
          refine zw_if0 hm_217 dX12_findInSteps_94 (t := 101) rfl zc0_ge ?_ ?_
          · intro hc
            rw [if_pos hc] at h
            refine zw_push hm_217 dX12_findInSteps_101 (v := .inl v24) rfl ?_
            exact zw_iret hm_217 dX12_findInSteps_102 (HQ _ _ h)
          · intro hc
            rw [if_neg hc] at h
            refine zw_push hm_217 dX12_findInSteps_97 (v := .inl (0 : Int32)) rfl ?_
            refine zw_if0 hm_217 dX12_findInSteps_98 (t := 103) rfl zc0_eq (fun _ => ?_) (fun hc => absurd (by decide) hc)
            refine zw_push hm_217 dX12_findInSteps_103 (v := .inr (.inr (some 94))) rfl ?_
            refine zw_cv hm_217 dX12_findInSteps_104 v_12_442_12 hm_229 [] [] rfl (zT_rt (zT_zst hS m23) s_94 rfl) ⟨by omega, by omega⟩ rfl (h _ _ (zst S m23) _ (by omega) (by omega) (zT_zst hS m23) rfl (fun o9 m25 hv => ?_))
            obtain ⟨v26, rfl, h⟩ := zmi_of hv
            show ma_wp X d w 217 107 [(2, .inl v24), (4, .inl v22), (3, .inl (0 : Int32)), (0, .inr (.inr (some 94))), (1, .inl n)] [.inl v26] (zst S m25) _
            refine zw_sto hm_217 dX12_findInSteps_107 [(4, .inl v26), (2, .inl v24), (3, .inl (0 : Int32)), (0, .inr (.inr (some 94))), (1, .inl n)] rfl rfl rfl ?_
            refine zw_push hm_217 dX12_findInSteps_109 (v := .inr (.inr (some 94))) rfl ?_
            refine zw_push hm_217 dX12_findInSteps_110 (v := .inl n) rfl ?_
            refine zw_cv hm_217 dX12_findInSteps_111 v_12_436_12 hm_224 [.inl n] [] rfl (zT_rt (zT_zst hS m25) s_94 rfl) ⟨by omega, by omega⟩ rfl (h _ _ (zst S m25) _ (by omega) (by omega) (zT_zst hS m25) rfl (fun o9 m27 hv => ?_))
            obtain ⟨v28, rfl, h⟩ := zmi_of hv
            show ma_wp X d w 217 114 [(4, .inl v26), (2, .inl v24), (3, .inl (0 : Int32)), (0, .inr (.inr (some 94))), (1, .inl n)] [.inl v28] (zst S m27) _
            exact zw_iret hm_217 dX12_findInSteps_114 (HQ _ _ h)
        · intro hc
          rw [if_pos (Classical.not_not.mp hc)] at h
          refine zw_push hm_217 dX12_findInSteps_64 (v := .inl (1 : Int32)) rfl ?_
          refine zw_goto hm_217 dX12_findInSteps_65 (t := 69) rfl ?_
          refine zw_sto hm_217 dX12_findInSteps_69 [(3, .inl (1 : Int32)), (2, .inl v20), (0, .inr (.inr (some 94))), (1, .inl n)] rfl rfl rfl ?_
          refine zw_push hm_217 dX12_findInSteps_70 (v := .inl (1 : Int32)) rfl ?_
          refine zw_if0 hm_217 dX12_findInSteps_71 (t := 81) rfl zc0_eq (fun hc => absurd hc (by decide)) (fun _ => ?_)
          refine zw_push hm_217 dX12_findInSteps_74 (v := .inr (.inr (some 94))) rfl ?_
          refine zw_cv hm_217 dX12_findInSteps_75 v_12_442_12 hm_229 [] [] rfl (zT_rt (zT_zst hS m19) s_94 rfl) ⟨by omega, by omega⟩ rfl (h _ _ (zst S m19) _ (by omega) (by omega) (zT_zst hS m19) rfl (fun o9 m29 hv => ?_))
          obtain ⟨v30, rfl, h⟩ := zmi_of hv
          show ma_wp X d w 217 78 [(3, .inl (1 : Int32)), (2, .inl v20), (0, .inr (.inr (some 94))), (1, .inl n)] [.inl v30] (zst S m29) _
          refine zw_goto hm_217 dX12_findInSteps_78 (t := 85) rfl ?_
          refine zw_sto hm_217 dX12_findInSteps_85 [(4, .inl v30), (3, .inl (1 : Int32)), (2, .inl v20), (0, .inr (.inr (some 94))), (1, .inl n)] rfl rfl rfl ?_
          refine zw_push hm_217 dX12_findInSteps_87 (v := .inr (.inr (some 94))) rfl ?_
          refine zw_push hm_217 dX12_findInSteps_88 (v := .inl n) rfl ?_
          refine zw_cv hm_217 dX12_findInSteps_89 v_12_436_12 hm_224 [.inl n] [] rfl (zT_rt (zT_zst hS m29) s_94 rfl) ⟨by omega, by omega⟩ rfl (h _ _ (zst S m29) _ (by omega) (by omega) (zT_zst hS m29) rfl (fun o9 m31 hv => ?_))
          obtain ⟨v32, rfl, h⟩ := zmi_of hv
          show ma_wp X d w 217 92 [(4, .inl v30), (3, .inl (1 : Int32)), (2, .inl v20), (0, .inr (.inr (some 94))), (1, .inl n)] [.inl v32] (zst S m31) _
          refine zw_sto hm_217 dX12_findInSteps_92 [(2, .inl v32), (4, .inl v30), (3, .inl (1 : Int32)), (0, .inr (.inr (some 94))), (1, .inl n)] rfl rfl rfl ?_
          refine zw_push hm_217 dX12_findInSteps_93 (v := .inl v32) rfl ?_
          refine zw_if0 hm_217 dX12_findInSteps_94 (t := 101) rfl zc0_ge ?_ ?_
          · intro hc
            rw [if_pos hc] at h
            refine zw_push hm_217 dX12_findInSteps_101 (v := .inl v32) rfl ?_
            exact zw_iret hm_217 dX12_findInSteps_102 (HQ _ _ h)
          · intro hc
            rw [if_neg hc] at h
            refine zw_push hm_217 dX12_findInSteps_97 (v := .inl (1 : Int32)) rfl ?_
            refine zw_if0 hm_217 dX12_findInSteps_98 (t := 103) rfl zc0_eq (fun hc => absurd hc (by decide)) (fun _ => ?_)
            refine zw_push hm_217 dX12_findInSteps_101 (v := .inl v32) rfl ?_
            exact zw_iret hm_217 dX12_findInSteps_102 (HQ _ _ h)
      · intro hc
        rw [if_neg hc] at h
        refine zw_push hm_217 dX12_findInSteps_55 (v := .inl v20) rfl ?_
        exact zw_iret hm_217 dX12_findInSteps_56 (HQ _ _ h)
  · intro hc
    rw [if_pos (Classical.not_not.mp hc)] at h
    refine zw_push hm_217 dX12_findInSteps_7 (v := .inr (.inr (some 94))) rfl ?_
    refine zw_cv hm_217 dX12_findInSteps_8 v_12_439_12 hm_218 [] [] rfl (zT_rt hS s_94 rfl) ⟨by omega, by omega⟩ rfl ?_
    show ma_wp X (d - 1) (w - 20) 218 0 [(0, .inr (.inr (some 94)))] [] S _
    refine zw_push hm_218 dX12_freeWords_0 (v := .inr (.inr (some 94))) rfl ?_
    refine zw_gf hm_218 dX12_freeWords_1 (v := .inl ((mI S) 94 11)) (zT_is hS s_94) (zT_t hS s_94) rfl f_12_202_12 rfl ?_
    refine zw_push hm_218 dX12_freeWords_4 (v := .inr (.inr (some 94))) rfl ?_
    refine zw_gf hm_218 dX12_freeWords_5 (v := .inl ((mI S) 94 45)) (zT_is hS s_94) (zT_t hS s_94) rfl f_12_243_12 rfl ?_
    refine zw_stk hm_218 dX12_freeWords_8 (st₉ := [.inl (((mI S) 94 11) - ((mI S) 94 45))]) rfl rfl ?_
    refine zw_iret hm_218 dX12_freeWords_9 ?_
    show ma_wp X d w 217 11 [(0, .inr (.inr (some 94))), (1, .inl n)] [.inl (((mI S) 94 11) - ((mI S) 94 45))] S _
    refine zw_push hm_217 dX12_findInSteps_11 (v := .inl (4 : Int32)) rfl ?_
    refine zw_stk hm_217 dX12_findInSteps_12 (st₉ := [.inl ((((mI S) 94 11) - ((mI S) 94 45)) * (4 : Int32))]) rfl rfl ?_
    refine zw_push hm_217 dX12_findInSteps_13 (v := .inr (.inr (some 94))) rfl ?_
    refine zw_gf hm_217 dX12_findInSteps_14 (v := .inl ((mI S) 94 11)) (zT_is hS s_94) (zT_t hS s_94) rfl f_12_202_12 rfl ?_
    refine zw_if2 hm_217 dX12_findInSteps_17 (t := 24) rfl zc2_ge ?_ ?_
    · intro hc
      rw [if_pos hc] at h
      refine zw_push hm_217 dX12_findInSteps_24 (v := .inr (.inr (some 94))) rfl ?_
      refine zw_gf hm_217 dX12_findInSteps_25 (v := .inl ((mI S) 94 58)) (zT_is hS s_94) (zT_t hS s_94) rfl f_12_270_12 rfl ?_
      refine zw_if0 hm_217 dX12_findInSteps_28 (t := 45) rfl zc0_eq ?_ ?_
      · intro hc
        rw [if_pos hc] at h
        refine zw_push hm_217 dX12_findInSteps_45 (v := .inr (.inr (some 94))) rfl ?_
        refine zw_push hm_217 dX12_findInSteps_46 (v := .inl n) rfl ?_
        refine zw_cv hm_217 dX12_findInSteps_47 v_12_436_12 hm_224 [.inl n] [] rfl (zT_rt hS s_94 rfl) ⟨by omega, by omega⟩ rfl (h _ _ S _ (by omega) (by omega) hS rfl (fun o9 m33 hv => ?_))
        obtain ⟨v34, rfl, h⟩ := zmi_of hv
        show ma_wp X d w 217 50 [(0, .inr (.inr (some 94))), (1, .inl n)] [.inl v34] (zst S m33) _
        refine zw_sto hm_217 dX12_findInSteps_50 [(2, .inl v34), (0, .inr (.inr (some 94))), (1, .inl n)] rfl rfl rfl ?_
        refine zw_push hm_217 dX12_findInSteps_51 (v := .inl v34) rfl ?_
        refine zw_if0 hm_217 dX12_findInSteps_52 (t := 57) rfl zc0_lt ?_ ?_
        · intro hc
          rw [if_pos hc] at h
          refine zw_push hm_217 dX12_findInSteps_57 (v := .inr (.inr (some 94))) rfl ?_
          refine zw_gf hm_217 dX12_findInSteps_58 (v := .inl (m33 94 58)) (zT_is (zT_zst hS m33) s_94) (zT_t (zT_zst hS m33) s_94) rfl f_12_270_12 rfl ?_
          refine zw_if0 hm_217 dX12_findInSteps_61 (t := 68) rfl zc0_ne ?_ ?_
          · intro hc
            rw [if_neg hc] at h
            refine zw_push hm_217 dX12_findInSteps_68 (v := .inl (0 : Int32)) rfl ?_
            refine zw_sto hm_217 dX12_findInSteps_69 [(3, .inl (0 : Int32)), (2, .inl v34), (0, .inr (.inr (some 94))), (1, .inl n)] rfl rfl rfl ?_
            refine zw_push hm_217 dX12_findInSteps_70 (v := .inl (0 : Int32)) rfl ?_
            refine zw_if0 hm_217 dX12_findInSteps_71 (t := 81) rfl zc0_eq (fun _ => ?_) (fun hc => absurd (by decide) hc)
            refine zw_push hm_217 dX12_findInSteps_81 (v := .inr (.inr (some 94))) rfl ?_
            refine zw_cv hm_217 dX12_findInSteps_82 v_12_411_12 hm_230 [] [] rfl (zT_rt (zT_zst hS m33) s_94 rfl) ⟨by omega, by omega⟩ rfl (h _ _ (zst S m33) _ (by omega) (by omega) (zT_zst hS m33) rfl (fun o9 m35 hv => ?_))
            obtain ⟨v36, rfl, h⟩ := zmi_of hv
            show ma_wp X d w 217 85 [(3, .inl (0 : Int32)), (2, .inl v34), (0, .inr (.inr (some 94))), (1, .inl n)] [.inl v36] (zst S m35) _
            refine zw_sto hm_217 dX12_findInSteps_85 [(4, .inl v36), (3, .inl (0 : Int32)), (2, .inl v34), (0, .inr (.inr (some 94))), (1, .inl n)] rfl rfl rfl ?_
            refine zw_push hm_217 dX12_findInSteps_87 (v := .inr (.inr (some 94))) rfl ?_
            refine zw_push hm_217 dX12_findInSteps_88 (v := .inl n) rfl ?_
            refine zw_cv hm_217 dX12_findInSteps_89 v_12_436_12 hm_224 [.inl n] [] rfl (zT_rt (zT_zst hS m35) s_94 rfl) ⟨by omega, by omega⟩ rfl (h _ _ (zst S m35) _ (by omega) (by omega) (zT_zst hS m35) rfl (fun o9 m37 hv => ?_))
            obtain ⟨v38, rfl, h⟩ := zmi_of hv
            show ma_wp X d w 217 92 [(4, .inl v36), (3, .inl (0 : Int32)), (2, .inl v34), (0, .inr (.inr (some 94))), (1, .inl n)] [.inl v38] (zst S m37) _
            refine zw_sto hm_217 dX12_findInSteps_92 [(2, .inl v38), (4, .inl v36), (3, .inl (0 : Int32)), (0, .inr (.inr (some 94))), (1, .inl n)] rfl rfl rfl ?_
            refine zw_push hm_217 dX12_findInSteps_93 (v := .inl v38) rfl ?_
            refine zw_if0 hm_217 dX12_findInSteps_94 (t := 101) rfl zc0_ge ?_ ?_
            · intro hc
              rw [if_pos hc] at h
              refine zw_push hm_217 dX12_findInSteps_101 (v := .inl v38) rfl ?_
              exact zw_iret hm_217 dX12_findInSteps_102 (HQ _ _ h)
            · intro hc
              rw [if_neg hc] at h
              refine zw_push hm_217 dX12_findInSteps_97 (v := .inl (0 : Int32)) rfl ?_
              refine zw_if0 hm_217 dX12_findInSteps_98 (t := 103) rfl zc0_eq (fun _ => ?_) (fun hc => absurd (by decide) hc)
              refine zw_push hm_217 dX12_findInSteps_103 (v := .inr (.inr (some 94))) rfl ?_
              refine zw_cv hm_217 dX12_findInSteps_104 v_12_442_12 hm_229 [] [] rfl (zT_rt (zT_zst hS m37) s_94 rfl) ⟨by omega, by omega⟩ rfl (h _ _ (zst S m37) _ (by omega) (by omega) (zT_zst hS m37) rfl (fun o9 m39 hv => ?_))
              obtain ⟨v40, rfl, h⟩ := zmi_of hv
              show ma_wp X d w 217 107 [(2, .inl v38), (4, .inl v36), (3, .inl (0 : Int32)), (0, .inr (.inr (some 94))), (1, .inl n)] [.inl v40] (zst S m39) _
              refine zw_sto hm_217 dX12_findInSteps_107 [(4, .inl v40), (2, .inl v38), (3, .inl (0 : Int32)), (0, .inr (.inr (some 94))), (1, .inl n)] rfl rfl rfl ?_
              refine zw_push hm_217 dX12_findInSteps_109 (v := .inr (.inr (some 94))) rfl ?_
              refine zw_push hm_217 dX12_findInSteps_110 (v := .inl n) rfl ?_
              refine zw_cv hm_217 dX12_findInSteps_111 v_12_436_12 hm_224 [.inl n] [] rfl (zT_rt (zT_zst hS m39) s_94 rfl) ⟨by omega, by omega⟩ rfl (h _ _ (zst S m39) _ (by omega) (by omega) (zT_zst hS m39) rfl (fun o9 m41 hv => ?_))
              obtain ⟨v42, rfl, h⟩ := zmi_of hv
              show ma_wp X d w 217 114 [(4, .inl v40), (2, .inl v38), (3, .inl (0 : Int32)), (0, .inr (.inr (some 94))), (1, .inl n)] [.inl v42] (zst S m41) _
              exact zw_iret hm_217 dX12_findInSteps_114 (HQ _ _ h)
          · intro hc
            rw [if_pos (Classical.not_not.mp hc)] at h
            refine zw_push hm_217 dX12_findInSteps_64 (v := .inl (1 : Int32)) rfl ?_
            refine zw_goto hm_217 dX12_findInSteps_65 (t := 69) rfl ?_
            refine zw_sto hm_217 dX12_findInSteps_69 [(3, .inl (1 : Int32)), (2, .inl v34), (0, .inr (.inr (some 94))), (1, .inl n)] rfl rfl rfl ?_
            refine zw_push hm_217 dX12_findInSteps_70 (v := .inl (1 : Int32)) rfl ?_
            refine zw_if0 hm_217 dX12_findInSteps_71 (t := 81) rfl zc0_eq (fun hc => absurd hc (by decide)) (fun _ => ?_)
            refine zw_push hm_217 dX12_findInSteps_74 (v := .inr (.inr (some 94))) rfl ?_
            refine zw_cv hm_217 dX12_findInSteps_75 v_12_442_12 hm_229 [] [] rfl (zT_rt (zT_zst hS m33) s_94 rfl) ⟨by omega, by omega⟩ rfl (h _ _ (zst S m33) _ (by omega) (by omega) (zT_zst hS m33) rfl (fun o9 m43 hv => ?_))
            obtain ⟨v44, rfl, h⟩ := zmi_of hv
            show ma_wp X d w 217 78 [(3, .inl (1 : Int32)), (2, .inl v34), (0, .inr (.inr (some 94))), (1, .inl n)] [.inl v44] (zst S m43) _
            refine zw_goto hm_217 dX12_findInSteps_78 (t := 85) rfl ?_
            refine zw_sto hm_217 dX12_findInSteps_85 [(4, .inl v44), (3, .inl (1 : Int32)), (2, .inl v34), (0, .inr (.inr (some 94))), (1, .inl n)] rfl rfl rfl ?_
            refine zw_push hm_217 dX12_findInSteps_87 (v := .inr (.inr (some 94))) rfl ?_
            refine zw_push hm_217 dX12_findInSteps_88 (v := .inl n) rfl ?_
            refine zw_cv hm_217 dX12_findInSteps_89 v_12_436_12 hm_224 [.inl n] [] rfl (zT_rt (zT_zst hS m43) s_94 rfl) ⟨by omega, by omega⟩ rfl (h _ _ (zst S m43) _ (by omega) (by omega) (zT_zst hS m43) rfl (fun o9 m45 hv => ?_))
            obtain ⟨v46, rfl, h⟩ := zmi_of hv
            show ma_wp X d w 217 92 [(4, .inl v44), (3, .inl (1 : Int32)), (2, .inl v34), (0, .inr (.inr (some 94))), (1, .inl n)] [.inl v46] (zst S m45) _
            refine zw_sto hm_217 dX12_findInSteps_92 [(2, .inl v46), (4, .inl v44), (3, .inl (1 : Int32)), (0, .inr (.inr (some 94))), (1, .inl n)] rfl rfl rfl ?_
            refine zw_push hm_217 dX12_findInSteps_93 (v := .inl v46) rfl ?_
            refine zw_if0 hm_217 dX12_findInSteps_94 (t := 101) rfl zc0_ge ?_ ?_
            · intro hc
              rw [if_pos hc] at h
              refine zw_push hm_217 dX12_findInSteps_101 (v := .inl v46) rfl ?_
              exact zw_iret hm_217 dX12_findInSteps_102 (HQ _ _ h)
            · intro hc
              rw [if_neg hc] at h
              refine zw_push hm_217 dX12_findInSteps_97 (v := .inl (1 : Int32)) rfl ?_
              refine zw_if0 hm_217 dX12_findInSteps_98 (t := 103) rfl zc0_eq (fun hc => absurd hc (by decide)) (fun _ => ?_)
              refine zw_push hm_217 dX12_findInSteps_101 (v := .inl v46) rfl ?_
              exact zw_iret hm_217 dX12_findInSteps_102 (HQ _ _ h)
        · intro hc
          rw [if_neg hc] at h
          refine zw_push hm_217 dX12_findInSteps_55 (v := .inl v34) rfl ?_
          exact zw_iret hm_217 dX12_findInSteps_56 (HQ _ _ h)
      · intro hc
        rw [if_neg hc] at h
        refine zw_push hm_217 dX12_findInSteps_31 (v := .inr (.inr (some 94))) rfl ?_
        refine zw_push hm_217 dX12_findInSteps_32 (v := .inr (.inr (some 94))) rfl ?_
        refine zw_gf hm_217 dX12_findInSteps_33 (v := .inl ((mI S) 94 17)) (zT_is hS s_94) (zT_t hS s_94) rfl f_12_219_12 rfl ?_
        refine zw_cv hm_217 dX12_findInSteps_36 v_12_402_12 hm_222 [.inl ((mI S) 94 17)] [] rfl (zT_rt hS s_94 rfl) ⟨by omega, by omega⟩ rfl (h _ _ S _ (by omega) (by omega) hS rfl (fun o9 m47 hv => ?_))
        obtain ⟨v48, rfl, h⟩ := zmi_of hv
        show ma_wp X d w 217 39 [(0, .inr (.inr (some 94))), (1, .inl n)] [.inl v48] (zst S m47) _
        refine zw_sto hm_217 dX12_findInSteps_39 [(2, .inl v48), (0, .inr (.inr (some 94))), (1, .inl n)] rfl rfl rfl ?_
        refine zw_push hm_217 dX12_findInSteps_40 (v := .inr (.inr (some 94))) rfl ?_
        refine zw_cv hm_217 dX12_findInSteps_41 v_12_405_12 hm_223 [] [] rfl (zT_rt (zT_zst hS m47) s_94 rfl) ⟨by omega, by omega⟩ rfl (h _ _ (zst S m47) _ (by omega) (by omega) (zT_zst hS m47) rfl (fun o9 m49 hv => ?_))
        obtain ⟨v50, rfl, h⟩ := zmi_of hv
        show ma_wp X d w 217 44 [(2, .inl v48), (0, .inr (.inr (some 94))), (1, .inl n)] [.inl v50] (zst S m49) _
        refine zw_sto hm_217 dX12_findInSteps_44 [(3, .inl v50), (2, .inl v48), (0, .inr (.inr (some 94))), (1, .inl n)] rfl rfl rfl ?_
        refine zw_push hm_217 dX12_findInSteps_45 (v := .inr (.inr (some 94))) rfl ?_
        refine zw_push hm_217 dX12_findInSteps_46 (v := .inl n) rfl ?_
        refine zw_cv hm_217 dX12_findInSteps_47 v_12_436_12 hm_224 [.inl n] [] rfl (zT_rt (zT_zst hS m49) s_94 rfl) ⟨by omega, by omega⟩ rfl (h _ _ (zst S m49) _ (by omega) (by omega) (zT_zst hS m49) rfl (fun o9 m51 hv => ?_))
        obtain ⟨v52, rfl, h⟩ := zmi_of hv
        show ma_wp X d w 217 50 [(3, .inl v50), (2, .inl v48), (0, .inr (.inr (some 94))), (1, .inl n)] [.inl v52] (zst S m51) _
        refine zw_sto hm_217 dX12_findInSteps_50 [(2, .inl v52), (3, .inl v50), (0, .inr (.inr (some 94))), (1, .inl n)] rfl rfl rfl ?_
        refine zw_push hm_217 dX12_findInSteps_51 (v := .inl v52) rfl ?_
        refine zw_if0 hm_217 dX12_findInSteps_52 (t := 57) rfl zc0_lt ?_ ?_
        · intro hc
          rw [if_pos hc] at h
          refine zw_push hm_217 dX12_findInSteps_57 (v := .inr (.inr (some 94))) rfl ?_
          refine zw_gf hm_217 dX12_findInSteps_58 (v := .inl (m51 94 58)) (zT_is (zT_zst hS m51) s_94) (zT_t (zT_zst hS m51) s_94) rfl f_12_270_12 rfl ?_
          refine zw_if0 hm_217 dX12_findInSteps_61 (t := 68) rfl zc0_ne ?_ ?_
          · intro hc
            rw [if_neg hc] at h
            refine zw_push hm_217 dX12_findInSteps_68 (v := .inl (0 : Int32)) rfl ?_
            refine zw_sto hm_217 dX12_findInSteps_69 [(3, .inl (0 : Int32)), (2, .inl v52), (0, .inr (.inr (some 94))), (1, .inl n)] rfl rfl rfl ?_
            refine zw_push hm_217 dX12_findInSteps_70 (v := .inl (0 : Int32)) rfl ?_
            refine zw_if0 hm_217 dX12_findInSteps_71 (t := 81) rfl zc0_eq (fun _ => ?_) (fun hc => absurd (by decide) hc)
            refine zw_push hm_217 dX12_findInSteps_81 (v := .inr (.inr (some 94))) rfl ?_
            refine zw_cv hm_217 dX12_findInSteps_82 v_12_411_12 hm_230 [] [] rfl (zT_rt (zT_zst hS m51) s_94 rfl) ⟨by omega, by omega⟩ rfl (h _ _ (zst S m51) _ (by omega) (by omega) (zT_zst hS m51) rfl (fun o9 m53 hv => ?_))
            obtain ⟨v54, rfl, h⟩ := zmi_of hv
            show ma_wp X d w 217 85 [(3, .inl (0 : Int32)), (2, .inl v52), (0, .inr (.inr (some 94))), (1, .inl n)] [.inl v54] (zst S m53) _
            refine zw_sto hm_217 dX12_findInSteps_85 [(4, .inl v54), (3, .inl (0 : Int32)), (2, .inl v52), (0, .inr (.inr (some 94))), (1, .inl n)] rfl rfl rfl ?_
            refine zw_push hm_217 dX12_findInSteps_87 (v := .inr (.inr (some 94))) rfl ?_
            refine zw_push hm_217 dX12_findInSteps_88 (v := .inl n) rfl ?_
            refine zw_cv hm_217 dX12_findInSteps_89 v_12_436_12 hm_224 [.inl n] [] rfl (zT_rt (zT_zst hS m53) s_94 rfl) ⟨by omega, by omega⟩ rfl (h _ _ (zst S m53) _ (by omega) (by omega) (zT_zst hS m53) rfl (fun o9 m55 hv => ?_))
            obtain ⟨v56, rfl, h⟩ := zmi_of hv
            show ma_wp X d w 217 92 [(4, .inl v54), (3, .inl (0 : Int32)), (2, .inl v52), (0, .inr (.inr (some 94))), (1, .inl n)] [.inl v56] (zst S m55) _
            refine zw_sto hm_217 dX12_findInSteps_92 [(2, .inl v56), (4, .inl v54), (3, .inl (0 : Int32)), (0, .inr (.inr (some 94))), (1, .inl n)] rfl rfl rfl ?_
            refine zw_push hm_217 dX12_findInSteps_93 (v := .inl v56) rfl ?_
            refine zw_if0 hm_217 dX12_findInSteps_94 (t := 101) rfl zc0_ge ?_ ?_
            · intro hc
              rw [if_pos hc] at h
              refine zw_push hm_217 dX12_findInSteps_101 (v := .inl v56) rfl ?_
              exact zw_iret hm_217 dX12_findInSteps_102 (HQ _ _ h)
            · intro hc
              rw [if_neg hc] at h
              refine zw_push hm_217 dX12_findInSteps_97 (v := .inl (0 : Int32)) rfl ?_
              refine zw_if0 hm_217 dX12_findInSteps_98 (t := 103) rfl zc0_eq (fun _ => ?_) (fun hc => absurd (by decide) hc)
              refine zw_push hm_217 dX12_findInSteps_103 (v := .inr (.inr (some 94))) rfl ?_
              refine zw_cv hm_217 dX12_findInSteps_104 v_12_442_12 hm_229 [] [] rfl (zT_rt (zT_zst hS m55) s_94 rfl) ⟨by omega, by omega⟩ rfl (h _ _ (zst S m55) _ (by omega) (by omega) (zT_zst hS m55) rfl (fun o9 m57 hv => ?_))
              obtain ⟨v58, rfl, h⟩ := zmi_of hv
              show ma_wp X d w 217 107 [(2, .inl v56), (4, .inl v54), (3, .inl (0 : Int32)), (0, .inr (.inr (some 94))), (1, .inl n)] [.inl v58] (zst S m57) _
              refine zw_sto hm_217 dX12_findInSteps_107 [(4, .inl v58), (2, .inl v56), (3, .inl (0 : Int32)), (0, .inr (.inr (some 94))), (1, .inl n)] rfl rfl rfl ?_
              refine zw_push hm_217 dX12_findInSteps_109 (v := .inr (.inr (some 94))) rfl ?_
              refine zw_push hm_217 dX12_findInSteps_110 (v := .inl n) rfl ?_
              refine zw_cv hm_217 dX12_findInSteps_111 v_12_436_12 hm_224 [.inl n] [] rfl (zT_rt (zT_zst hS m57) s_94 rfl) ⟨by omega, by omega⟩ rfl (h _ _ (zst S m57) _ (by omega) (by omega) (zT_zst hS m57) rfl (fun o9 m59 hv => ?_))
              obtain ⟨v60, rfl, h⟩ := zmi_of hv
              show ma_wp X d w 217 114 [(4, .inl v58), (2, .inl v56), (3, .inl (0 : Int32)), (0, .inr (.inr (some 94))), (1, .inl n)] [.inl v60] (zst S m59) _
              exact zw_iret hm_217 dX12_findInSteps_114 (HQ _ _ h)
          · intro hc
            rw [if_pos (Classical.not_not.mp hc)] at h
            refine zw_push hm_217 dX12_findInSteps_64 (v := .inl (1 : Int32)) rfl ?_
            refine zw_goto hm_217 dX12_findInSteps_65 (t := 69) rfl ?_
            refine zw_sto hm_217 dX12_findInSteps_69 [(3, .inl (1 : Int32)), (2, .inl v52), (0, .inr (.inr (some 94))), (1, .inl n)] rfl rfl rfl ?_
            refine zw_push hm_217 dX12_findInSteps_70 (v := .inl (1 : Int32)) rfl ?_
            refine zw_if0 hm_217 dX12_findInSteps_71 (t := 81) rfl zc0_eq (fun hc => absurd hc (by decide)) (fun _ => ?_)
            refine zw_push hm_217 dX12_findInSteps_74 (v := .inr (.inr (some 94))) rfl ?_
            refine zw_cv hm_217 dX12_findInSteps_75 v_12_442_12 hm_229 [] [] rfl (zT_rt (zT_zst hS m51) s_94 rfl) ⟨by omega, by omega⟩ rfl (h _ _ (zst S m51) _ (by omega) (by omega) (zT_zst hS m51) rfl (fun o9 m61 hv => ?_))
            obtain ⟨v62, rfl, h⟩ := zmi_of hv
            show ma_wp X d w 217 78 [(3, .inl (1 : Int32)), (2, .inl v52), (0, .inr (.inr (some 94))), (1, .inl n)] [.inl v62] (zst S m61) _
            refine zw_goto hm_217 dX12_findInSteps_78 (t := 85) rfl ?_
            refine zw_sto hm_217 dX12_findInSteps_85 [(4, .inl v62), (3, .inl (1 : Int32)), (2, .inl v52), (0, .inr (.inr (some 94))), (1, .inl n)] rfl rfl rfl ?_
            refine zw_push hm_217 dX12_findInSteps_87 (v := .inr (.inr (some 94))) rfl ?_
            refine zw_push hm_217 dX12_findInSteps_88 (v := .inl n) rfl ?_
            refine zw_cv hm_217 dX12_findInSteps_89 v_12_436_12 hm_224 [.inl n] [] rfl (zT_rt (zT_zst hS m61) s_94 rfl) ⟨by omega, by omega⟩ rfl (h _ _ (zst S m61) _ (by omega) (by omega) (zT_zst hS m61) rfl (fun o9 m63 hv => ?_))
            obtain ⟨v64, rfl, h⟩ := zmi_of hv
            show ma_wp X d w 217 92 [(4, .inl v62), (3, .inl (1 : Int32)), (2, .inl v52), (0, .inr (.inr (some 94))), (1, .inl n)] [.inl v64] (zst S m63) _
            refine zw_sto hm_217 dX12_findInSteps_92 [(2, .inl v64), (4, .inl v62), (3, .inl (1 : Int32)), (0, .inr (.inr (some 94))), (1, .inl n)] rfl rfl rfl ?_
            refine zw_push hm_217 dX12_findInSteps_93 (v := .inl v64) rfl ?_
            refine zw_if0 hm_217 dX12_findInSteps_94 (t := 101) rfl zc0_ge ?_ ?_
            · intro hc
              rw [if_pos hc] at h
              refine zw_push hm_217 dX12_findInSteps_101 (v := .inl v64) rfl ?_
              exact zw_iret hm_217 dX12_findInSteps_102 (HQ _ _ h)
            · intro hc
              rw [if_neg hc] at h
              refine zw_push hm_217 dX12_findInSteps_97 (v := .inl (1 : Int32)) rfl ?_
              refine zw_if0 hm_217 dX12_findInSteps_98 (t := 103) rfl zc0_eq (fun hc => absurd hc (by decide)) (fun _ => ?_)
              refine zw_push hm_217 dX12_findInSteps_101 (v := .inl v64) rfl ?_
              exact zw_iret hm_217 dX12_findInSteps_102 (HQ _ _ h)
        · intro hc
          rw [if_neg hc] at h
          refine zw_push hm_217 dX12_findInSteps_55 (v := .inl v52) rfl ?_
          exact zw_iret hm_217 dX12_findInSteps_56 (HQ _ _ h)
    · intro hc
      rw [if_neg hc] at h
      refine zw_push hm_217 dX12_findInSteps_20 (v := .inr (.inr (some 94))) rfl ?_
      refine zw_cv hm_217 dX12_findInSteps_21 v_12_408_12 hm_219 [] [] rfl (zT_rt hS s_94 rfl) ⟨by omega, by omega⟩ rfl (h _ _ S _ (by omega) (by omega) hS rfl (fun o9 m65 hv => ?_))
      obtain ⟨rfl, h⟩ := zmv_of hv
      show ma_wp X d w 217 24 [(0, .inr (.inr (some 94))), (1, .inl n)] [] (zst S m65) _
      refine zw_push hm_217 dX12_findInSteps_24 (v := .inr (.inr (some 94))) rfl ?_
      refine zw_gf hm_217 dX12_findInSteps_25 (v := .inl (m65 94 58)) (zT_is (zT_zst hS m65) s_94) (zT_t (zT_zst hS m65) s_94) rfl f_12_270_12 rfl ?_
      refine zw_if0 hm_217 dX12_findInSteps_28 (t := 45) rfl zc0_eq ?_ ?_
      · intro hc
        rw [if_pos hc] at h
        refine zw_push hm_217 dX12_findInSteps_45 (v := .inr (.inr (some 94))) rfl ?_
        refine zw_push hm_217 dX12_findInSteps_46 (v := .inl n) rfl ?_
        refine zw_cv hm_217 dX12_findInSteps_47 v_12_436_12 hm_224 [.inl n] [] rfl (zT_rt (zT_zst hS m65) s_94 rfl) ⟨by omega, by omega⟩ rfl (h _ _ (zst S m65) _ (by omega) (by omega) (zT_zst hS m65) rfl (fun o9 m67 hv => ?_))
        obtain ⟨v68, rfl, h⟩ := zmi_of hv
        show ma_wp X d w 217 50 [(0, .inr (.inr (some 94))), (1, .inl n)] [.inl v68] (zst S m67) _
        refine zw_sto hm_217 dX12_findInSteps_50 [(2, .inl v68), (0, .inr (.inr (some 94))), (1, .inl n)] rfl rfl rfl ?_
        refine zw_push hm_217 dX12_findInSteps_51 (v := .inl v68) rfl ?_
        refine zw_if0 hm_217 dX12_findInSteps_52 (t := 57) rfl zc0_lt ?_ ?_
        · intro hc
          rw [if_pos hc] at h
          refine zw_push hm_217 dX12_findInSteps_57 (v := .inr (.inr (some 94))) rfl ?_
          refine zw_gf hm_217 dX12_findInSteps_58 (v := .inl (m67 94 58)) (zT_is (zT_zst hS m67) s_94) (zT_t (zT_zst hS m67) s_94) rfl f_12_270_12 rfl ?_
          refine zw_if0 hm_217 dX12_findInSteps_61 (t := 68) rfl zc0_ne ?_ ?_
          · intro hc
            rw [if_neg hc] at h
            refine zw_push hm_217 dX12_findInSteps_68 (v := .inl (0 : Int32)) rfl ?_
            refine zw_sto hm_217 dX12_findInSteps_69 [(3, .inl (0 : Int32)), (2, .inl v68), (0, .inr (.inr (some 94))), (1, .inl n)] rfl rfl rfl ?_
            refine zw_push hm_217 dX12_findInSteps_70 (v := .inl (0 : Int32)) rfl ?_
            refine zw_if0 hm_217 dX12_findInSteps_71 (t := 81) rfl zc0_eq (fun _ => ?_) (fun hc => absurd (by decide) hc)
            refine zw_push hm_217 dX12_findInSteps_81 (v := .inr (.inr (some 94))) rfl ?_
            refine zw_cv hm_217 dX12_findInSteps_82 v_12_411_12 hm_230 [] [] rfl (zT_rt (zT_zst hS m67) s_94 rfl) ⟨by omega, by omega⟩ rfl (h _ _ (zst S m67) _ (by omega) (by omega) (zT_zst hS m67) rfl (fun o9 m69 hv => ?_))
            obtain ⟨v70, rfl, h⟩ := zmi_of hv
            show ma_wp X d w 217 85 [(3, .inl (0 : Int32)), (2, .inl v68), (0, .inr (.inr (some 94))), (1, .inl n)] [.inl v70] (zst S m69) _
            refine zw_sto hm_217 dX12_findInSteps_85 [(4, .inl v70), (3, .inl (0 : Int32)), (2, .inl v68), (0, .inr (.inr (some 94))), (1, .inl n)] rfl rfl rfl ?_
            refine zw_push hm_217 dX12_findInSteps_87 (v := .inr (.inr (some 94))) rfl ?_
            refine zw_push hm_217 dX12_findInSteps_88 (v := .inl n) rfl ?_
            refine zw_cv hm_217 dX12_findInSteps_89 v_12_436_12 hm_224 [.inl n] [] rfl (zT_rt (zT_zst hS m69) s_94 rfl) ⟨by omega, by omega⟩ rfl (h _ _ (zst S m69) _ (by omega) (by omega) (zT_zst hS m69) rfl (fun o9 m71 hv => ?_))
            obtain ⟨v72, rfl, h⟩ := zmi_of hv
            show ma_wp X d w 217 92 [(4, .inl v70), (3, .inl (0 : Int32)), (2, .inl v68), (0, .inr (.inr (some 94))), (1, .inl n)] [.inl v72] (zst S m71) _
            refine zw_sto hm_217 dX12_findInSteps_92 [(2, .inl v72), (4, .inl v70), (3, .inl (0 : Int32)), (0, .inr (.inr (some 94))), (1, .inl n)] rfl rfl rfl ?_
            refine zw_push hm_217 dX12_findInSteps_93 (v := .inl v72) rfl ?_
            refine zw_if0 hm_217 dX12_findInSteps_94 (t := 101) rfl zc0_ge ?_ ?_
            · intro hc
              rw [if_pos hc] at h
              refine zw_push hm_217 dX12_findInSteps_101 (v := .inl v72) rfl ?_
              exact zw_iret hm_217 dX12_findInSteps_102 (HQ _ _ h)
            · intro hc
              rw [if_neg hc] at h
              refine zw_push hm_217 dX12_findInSteps_97 (v := .inl (0 : Int32)) rfl ?_
              refine zw_if0 hm_217 dX12_findInSteps_98 (t := 103) rfl zc0_eq (fun _ => ?_) (fun hc => absurd (by decide) hc)
              refine zw_push hm_217 dX12_findInSteps_103 (v := .inr (.inr (some 94))) rfl ?_
              refine zw_cv hm_217 dX12_findInSteps_104 v_12_442_12 hm_229 [] [] rfl (zT_rt (zT_zst hS m71) s_94 rfl) ⟨by omega, by omega⟩ rfl (h _ _ (zst S m71) _ (by omega) (by omega) (zT_zst hS m71) rfl (fun o9 m73 hv => ?_))
              obtain ⟨v74, rfl, h⟩ := zmi_of hv
              show ma_wp X d w 217 107 [(2, .inl v72), (4, .inl v70), (3, .inl (0 : Int32)), (0, .inr (.inr (some 94))), (1, .inl n)] [.inl v74] (zst S m73) _
              refine zw_sto hm_217 dX12_findInSteps_107 [(4, .inl v74), (2, .inl v72), (3, .inl (0 : Int32)), (0, .inr (.inr (some 94))), (1, .inl n)] rfl rfl rfl ?_
              refine zw_push hm_217 dX12_findInSteps_109 (v := .inr (.inr (some 94))) rfl ?_
              refine zw_push hm_217 dX12_findInSteps_110 (v := .inl n) rfl ?_
              refine zw_cv hm_217 dX12_findInSteps_111 v_12_436_12 hm_224 [.inl n] [] rfl (zT_rt (zT_zst hS m73) s_94 rfl) ⟨by omega, by omega⟩ rfl (h _ _ (zst S m73) _ (by omega) (by omega) (zT_zst hS m73) rfl (fun o9 m75 hv => ?_))
              obtain ⟨v76, rfl, h⟩ := zmi_of hv
              show ma_wp X d w 217 114 [(4, .inl v74), (2, .inl v72), (3, .inl (0 : Int32)), (0, .inr (.inr (some 94))), (1, .inl n)] [.inl v76] (zst S m75) _
              exact zw_iret hm_217 dX12_findInSteps_114 (HQ _ _ h)
          · intro hc
            rw [if_pos (Classical.not_not.mp hc)] at h
            refine zw_push hm_217 dX12_findInSteps_64 (v := .inl (1 : Int32)) rfl ?_
            refine zw_goto hm_217 dX12_findInSteps_65 (t := 69) rfl ?_
            refine zw_sto hm_217 dX12_findInSteps_69 [(3, .inl (1 : Int32)), (2, .inl v68), (0, .inr (.inr (some 94))), (1, .inl n)] rfl rfl rfl ?_
            refine zw_push hm_217 dX12_findInSteps_70 (v := .inl (1 : Int32)) rfl ?_
            refine zw_if0 hm_217 dX12_findInSteps_71 (t := 81) rfl zc0_eq (fun hc => absurd hc (by decide)) (fun _ => ?_)
            refine zw_push hm_217 dX12_findInSteps_74 (v := .inr (.inr (some 94))) rfl ?_
            refine zw_cv hm_217 dX12_findInSteps_75 v_12_442_12 hm_229 [] [] rfl (zT_rt (zT_zst hS m67) s_94 rfl) ⟨by omega, by omega⟩ rfl (h _ _ (zst S m67) _ (by omega) (by omega) (zT_zst hS m67) rfl (fun o9 m77 hv => ?_))
            obtain ⟨v78, rfl, h⟩ := zmi_of hv
            show ma_wp X d w 217 78 [(3, .inl (1 : Int32)), (2, .inl v68), (0, .inr (.inr (some 94))), (1, .inl n)] [.inl v78] (zst S m77) _
            refine zw_goto hm_217 dX12_findInSteps_78 (t := 85) rfl ?_
            refine zw_sto hm_217 dX12_findInSteps_85 [(4, .inl v78), (3, .inl (1 : Int32)), (2, .inl v68), (0, .inr (.inr (some 94))), (1, .inl n)] rfl rfl rfl ?_
            refine zw_push hm_217 dX12_findInSteps_87 (v := .inr (.inr (some 94))) rfl ?_
            refine zw_push hm_217 dX12_findInSteps_88 (v := .inl n) rfl ?_
            refine zw_cv hm_217 dX12_findInSteps_89 v_12_436_12 hm_224 [.inl n] [] rfl (zT_rt (zT_zst hS m77) s_94 rfl) ⟨by omega, by omega⟩ rfl (h _ _ (zst S m77) _ (by omega) (by omega) (zT_zst hS m77) rfl (fun o9 m79 hv => ?_))
            obtain ⟨v80, rfl, h⟩ := zmi_of hv
            show ma_wp X d w 217 92 [(4, .inl v78), (3, .inl (1 : Int32)), (2, .inl v68), (0, .inr (.inr (some 94))), (1, .inl n)] [.inl v80] (zst S m79) _
            refine zw_sto hm_217 dX12_findInSteps_92 [(2, .inl v80), (4, .inl v78), (3, .inl (1 : Int32)), (0, .inr (.inr (some 94))), (1, .inl n)] rfl rfl rfl ?_
            refine zw_push hm_217 dX12_findInSteps_93 (v := .inl v80) rfl ?_
            refine zw_if0 hm_217 dX12_findInSteps_94 (t := 101) rfl zc0_ge ?_ ?_
            · intro hc
              rw [if_pos hc] at h
              refine zw_push hm_217 dX12_findInSteps_101 (v := .inl v80) rfl ?_
              exact zw_iret hm_217 dX12_findInSteps_102 (HQ _ _ h)
            · intro hc
              rw [if_neg hc] at h
              refine zw_push hm_217 dX12_findInSteps_97 (v := .inl (1 : Int32)) rfl ?_
              refine zw_if0 hm_217 dX12_findInSteps_98 (t := 103) rfl zc0_eq (fun hc => absurd hc (by decide)) (fun _ => ?_)
              refine zw_push hm_217 dX12_findInSteps_101 (v := .inl v80) rfl ?_
              exact zw_iret hm_217 dX12_findInSteps_102 (HQ _ _ h)
        · intro hc
          rw [if_neg hc] at h
          refine zw_push hm_217 dX12_findInSteps_55 (v := .inl v68) rfl ?_
          exact zw_iret hm_217 dX12_findInSteps_56 (HQ _ _ h)
      · intro hc
        rw [if_neg hc] at h
        refine zw_push hm_217 dX12_findInSteps_31 (v := .inr (.inr (some 94))) rfl ?_
        refine zw_push hm_217 dX12_findInSteps_32 (v := .inr (.inr (some 94))) rfl ?_
        refine zw_gf hm_217 dX12_findInSteps_33 (v := .inl (m65 94 17)) (zT_is (zT_zst hS m65) s_94) (zT_t (zT_zst hS m65) s_94) rfl f_12_219_12 rfl ?_
        refine zw_cv hm_217 dX12_findInSteps_36 v_12_402_12 hm_222 [.inl (m65 94 17)] [] rfl (zT_rt (zT_zst hS m65) s_94 rfl) ⟨by omega, by omega⟩ rfl (h _ _ (zst S m65) _ (by omega) (by omega) (zT_zst hS m65) rfl (fun o9 m81 hv => ?_))
        obtain ⟨v82, rfl, h⟩ := zmi_of hv
        show ma_wp X d w 217 39 [(0, .inr (.inr (some 94))), (1, .inl n)] [.inl v82] (zst S m81) _
        refine zw_sto hm_217 dX12_findInSteps_39 [(2, .inl v82), (0, .inr (.inr (some 94))), (1, .inl n)] rfl rfl rfl ?_
        refine zw_push hm_217 dX12_findInSteps_40 (v := .inr (.inr (some 94))) rfl ?_
        refine zw_cv hm_217 dX12_findInSteps_41 v_12_405_12 hm_223 [] [] rfl (zT_rt (zT_zst hS m81) s_94 rfl) ⟨by omega, by omega⟩ rfl (h _ _ (zst S m81) _ (by omega) (by omega) (zT_zst hS m81) rfl (fun o9 m83 hv => ?_))
        obtain ⟨v84, rfl, h⟩ := zmi_of hv
        show ma_wp X d w 217 44 [(2, .inl v82), (0, .inr (.inr (some 94))), (1, .inl n)] [.inl v84] (zst S m83) _
        refine zw_sto hm_217 dX12_findInSteps_44 [(3, .inl v84), (2, .inl v82), (0, .inr (.inr (some 94))), (1, .inl n)] rfl rfl rfl ?_
        refine zw_push hm_217 dX12_findInSteps_45 (v := .inr (.inr (some 94))) rfl ?_
        refine zw_push hm_217 dX12_findInSteps_46 (v := .inl n) rfl ?_
        refine zw_cv hm_217 dX12_findInSteps_47 v_12_436_12 hm_224 [.inl n] [] rfl (zT_rt (zT_zst hS m83) s_94 rfl) ⟨by omega, by omega⟩ rfl (h _ _ (zst S m83) _ (by omega) (by omega) (zT_zst hS m83) rfl (fun o9 m85 hv => ?_))
        obtain ⟨v86, rfl, h⟩ := zmi_of hv
        show ma_wp X d w 217 50 [(3, .inl v84), (2, .inl v82), (0, .inr (.inr (some 94))), (1, .inl n)] [.inl v86] (zst S m85) _
        refine zw_sto hm_217 dX12_findInSteps_50 [(2, .inl v86), (3, .inl v84), (0, .inr (.inr (some 94))), (1, .inl n)] rfl rfl rfl ?_
        refine zw_push hm_217 dX12_findInSteps_51 (v := .inl v86) rfl ?_
        refine zw_if0 hm_217 dX12_findInSteps_52 (t := 57) rfl zc0_lt ?_ ?_
        · intro hc
          rw [if_pos hc] at h
          refine zw_push hm_217 dX12_findInSteps_57 (v := .inr (.inr (some 94))) rfl ?_
          refine zw_gf hm_217 dX12_findInSteps_58 (v := .inl (m85 94 58)) (zT_is (zT_zst hS m85) s_94) (zT_t (zT_zst hS m85) s_94) rfl f_12_270_12 rfl ?_
          refine zw_if0 hm_217 dX12_findInSteps_61 (t := 68) rfl zc0_ne ?_ ?_
          · intro hc
            rw [if_neg hc] at h
            refine zw_push hm_217 dX12_findInSteps_68 (v := .inl (0 : Int32)) rfl ?_
            refine zw_sto hm_217 dX12_findInSteps_69 [(3, .inl (0 : Int32)), (2, .inl v86), (0, .inr (.inr (some 94))), (1, .inl n)] rfl rfl rfl ?_
            refine zw_push hm_217 dX12_findInSteps_70 (v := .inl (0 : Int32)) rfl ?_
            refine zw_if0 hm_217 dX12_findInSteps_71 (t := 81) rfl zc0_eq (fun _ => ?_) (fun hc => absurd (by decide) hc)
            refine zw_push hm_217 dX12_findInSteps_81 (v := .inr (.inr (some 94))) rfl ?_
            refine zw_cv hm_217 dX12_findInSteps_82 v_12_411_12 hm_230 [] [] rfl (zT_rt (zT_zst hS m85) s_94 rfl) ⟨by omega, by omega⟩ rfl (h _ _ (zst S m85) _ (by omega) (by omega) (zT_zst hS m85) rfl (fun o9 m87 hv => ?_))
            obtain ⟨v88, rfl, h⟩ := zmi_of hv
            show ma_wp X d w 217 85 [(3, .inl (0 : Int32)), (2, .inl v86), (0, .inr (.inr (some 94))), (1, .inl n)] [.inl v88] (zst S m87) _
            refine zw_sto hm_217 dX12_findInSteps_85 [(4, .inl v88), (3, .inl (0 : Int32)), (2, .inl v86), (0, .inr (.inr (some 94))), (1, .inl n)] rfl rfl rfl ?_
            refine zw_push hm_217 dX12_findInSteps_87 (v := .inr (.inr (some 94))) rfl ?_
            refine zw_push hm_217 dX12_findInSteps_88 (v := .inl n) rfl ?_
            refine zw_cv hm_217 dX12_findInSteps_89 v_12_436_12 hm_224 [.inl n] [] rfl (zT_rt (zT_zst hS m87) s_94 rfl) ⟨by omega, by omega⟩ rfl (h _ _ (zst S m87) _ (by omega) (by omega) (zT_zst hS m87) rfl (fun o9 m89 hv => ?_))
            obtain ⟨v90, rfl, h⟩ := zmi_of hv
            show ma_wp X d w 217 92 [(4, .inl v88), (3, .inl (0 : Int32)), (2, .inl v86), (0, .inr (.inr (some 94))), (1, .inl n)] [.inl v90] (zst S m89) _
            refine zw_sto hm_217 dX12_findInSteps_92 [(2, .inl v90), (4, .inl v88), (3, .inl (0 : Int32)), (0, .inr (.inr (some 94))), (1, .inl n)] rfl rfl rfl ?_
            refine zw_push hm_217 dX12_findInSteps_93 (v := .inl v90) rfl ?_
            refine zw_if0 hm_217 dX12_findInSteps_94 (t := 101) rfl zc0_ge ?_ ?_
            · intro hc
              rw [if_pos hc] at h
              refine zw_push hm_217 dX12_findInSteps_101 (v := .inl v90) rfl ?_
              exact zw_iret hm_217 dX12_findInSteps_102 (HQ _ _ h)
            · intro hc
              rw [if_neg hc] at h
              refine zw_push hm_217 dX12_findInSteps_97 (v := .inl (0 : Int32)) rfl ?_
              refine zw_if0 hm_217 dX12_findInSteps_98 (t := 103) rfl zc0_eq (fun _ => ?_) (fun hc => absurd (by decide) hc)
              refine zw_push hm_217 dX12_findInSteps_103 (v := .inr (.inr (some 94))) rfl ?_
              refine zw_cv hm_217 dX12_findInSteps_104 v_12_442_12 hm_229 [] [] rfl (zT_rt (zT_zst hS m89) s_94 rfl) ⟨by omega, by omega⟩ rfl (h _ _ (zst S m89) _ (by omega) (by omega) (zT_zst hS m89) rfl (fun o9 m91 hv => ?_))
              obtain ⟨v92, rfl, h⟩ := zmi_of hv
              show ma_wp X d w 217 107 [(2, .inl v90), (4, .inl v88), (3, .inl (0 : Int32)), (0, .inr (.inr (some 94))), (1, .inl n)] [.inl v92] (zst S m91) _
              refine zw_sto hm_217 dX12_findInSteps_107 [(4, .inl v92), (2, .inl v90), (3, .inl (0 : Int32)), (0, .inr (.inr (some 94))), (1, .inl n)] rfl rfl rfl ?_
              refine zw_push hm_217 dX12_findInSteps_109 (v := .inr (.inr (some 94))) rfl ?_
              refine zw_push hm_217 dX12_findInSteps_110 (v := .inl n) rfl ?_
              refine zw_cv hm_217 dX12_findInSteps_111 v_12_436_12 hm_224 [.inl n] [] rfl (zT_rt (zT_zst hS m91) s_94 rfl) ⟨by omega, by omega⟩ rfl (h _ _ (zst S m91) _ (by omega) (by omega) (zT_zst hS m91) rfl (fun o9 m93 hv => ?_))
              obtain ⟨v94, rfl, h⟩ := zmi_of hv
              show ma_wp X d w 217 114 [(4, .inl v92), (2, .inl v90), (3, .inl (0 : Int32)), (0, .inr (.inr (some 94))), (1, .inl n)] [.inl v94] (zst S m93) _
              exact zw_iret hm_217 dX12_findInSteps_114 (HQ _ _ h)
          · intro hc
            rw [if_pos (Classical.not_not.mp hc)] at h
            refine zw_push hm_217 dX12_findInSteps_64 (v := .inl (1 : Int32)) rfl ?_
            refine zw_goto hm_217 dX12_findInSteps_65 (t := 69) rfl ?_
            refine zw_sto hm_217 dX12_findInSteps_69 [(3, .inl (1 : Int32)), (2, .inl v86), (0, .inr (.inr (some 94))), (1, .inl n)] rfl rfl rfl ?_
            refine zw_push hm_217 dX12_findInSteps_70 (v := .inl (1 : Int32)) rfl ?_
            refine zw_if0 hm_217 dX12_findInSteps_71 (t := 81) rfl zc0_eq (fun hc => absurd hc (by decide)) (fun _ => ?_)
            refine zw_push hm_217 dX12_findInSteps_74 (v := .inr (.inr (some 94))) rfl ?_
            refine zw_cv hm_217 dX12_findInSteps_75 v_12_442_12 hm_229 [] [] rfl (zT_rt (zT_zst hS m85) s_94 rfl) ⟨by omega, by omega⟩ rfl (h _ _ (zst S m85) _ (by omega) (by omega) (zT_zst hS m85) rfl (fun o9 m95 hv => ?_))
            obtain ⟨v96, rfl, h⟩ := zmi_of hv
            show ma_wp X d w 217 78 [(3, .inl (1 : Int32)), (2, .inl v86), (0, .inr (.inr (some 94))), (1, .inl n)] [.inl v96] (zst S m95) _
            refine zw_goto hm_217 dX12_findInSteps_78 (t := 85) rfl ?_
            refine zw_sto hm_217 dX12_findInSteps_85 [(4, .inl v96), (3, .inl (1 : Int32)), (2, .inl v86), (0, .inr (.inr (some 94))), (1, .inl n)] rfl rfl rfl ?_
            refine zw_push hm_217 dX12_findInSteps_87 (v := .inr (.inr (some 94))) rfl ?_
            refine zw_push hm_217 dX12_findInSteps_88 (v := .inl n) rfl ?_
            refine zw_cv hm_217 dX12_findInSteps_89 v_12_436_12 hm_224 [.inl n] [] rfl (zT_rt (zT_zst hS m95) s_94 rfl) ⟨by omega, by omega⟩ rfl (h _ _ (zst S m95) _ (by omega) (by omega) (zT_zst hS m95) rfl (fun o9 m97 hv => ?_))
            obtain ⟨v98, rfl, h⟩ := zmi_of hv
            show ma_wp X d w 217 92 [(4, .inl v96), (3, .inl (1 : Int32)), (2, .inl v86), (0, .inr (.inr (some 94))), (1, .inl n)] [.inl v98] (zst S m97) _
            refine zw_sto hm_217 dX12_findInSteps_92 [(2, .inl v98), (4, .inl v96), (3, .inl (1 : Int32)), (0, .inr (.inr (some 94))), (1, .inl n)] rfl rfl rfl ?_
            refine zw_push hm_217 dX12_findInSteps_93 (v := .inl v98) rfl ?_
            refine zw_if0 hm_217 dX12_findInSteps_94 (t := 101) rfl zc0_ge ?_ ?_
            · intro hc
              rw [if_pos hc] at h
              refine zw_push hm_217 dX12_findInSteps_101 (v := .inl v98) rfl ?_
              exact zw_iret hm_217 dX12_findInSteps_102 (HQ _ _ h)
            · intro hc
              rw [if_neg hc] at h
              refine zw_push hm_217 dX12_findInSteps_97 (v := .inl (1 : Int32)) rfl ?_
              refine zw_if0 hm_217 dX12_findInSteps_98 (t := 103) rfl zc0_eq (fun hc => absurd hc (by decide)) (fun _ => ?_)
              refine zw_push hm_217 dX12_findInSteps_101 (v := .inl v98) rfl ?_
              exact zw_iret hm_217 dX12_findInSteps_102 (HQ _ _ h)
        · intro hc
          rw [if_neg hc] at h
          refine zw_push hm_217 dX12_findInSteps_55 (v := .inl v86) rfl ?_
          exact zw_iret hm_217 dX12_findInSteps_56 (HQ _ _ h)
theorem sp_217 {X : Nat × (Nat → Int32)} {P : Option ma_V → (Nat → Nat → Int32) → Prop} {T : Nat} {m : Nat → Nat → Int32} (n : Int32) (hV : zV m) (r_W : zW (m 94 7) (m 98) (m 101) (m 102) (m 108)) (r_GW : zGW T (m 94 55) (m 109)) (r_GU : zGU T (m 94 46) (m 99)) (r_OW : zOw (m 99) (m 103) (m 111)) (r_DX : zDX (m 94 10) (m 99) (m 112) (m 113) (m 114) (m 94 55) (m 98) (m 101) (m 102) (m 108)) (r_GG : zGG (m 94 58) (m 94 56) (m 94 57) (m 106)) (hpre6 : (m 94 10).toInt = 5) (KZ : ∀ v m₉, zV (zov wr_217 m m₉) → (zGW T (m₉ 94 55) (m₉ 109)) → (zGU T (m 94 46) (m₉ 99)) → (zOw (m₉ 99) (m 103) (m₉ 111)) → (zDX (m 94 10) (m₉ 99) (m 112) (m₉ 113) (m₉ 114) (m₉ 94 55) (m 98) (m 101) (m 102) (m 108)) → (zGG (m₉ 94 58) (m₉ 94 56) (m₉ 94 57) (m₉ 106)) → (-1 ≤ v.toInt ∧ v.toInt ≤ 1500) → P (some (.inl v)) (zov wr_217 m m₉)) : zm X 7 151 217 0 [(0, .inr (.inr (some 94))), (1, .inl n)] m P := by
  have K : ∀ v m₉, zF wr_217 m m₉ → zV m₉ → (zGW T (m₉ 94 55) (m₉ 109)) → (zGU T (m₉ 94 46) (m₉ 99)) → (zOw (m₉ 99) (m₉ 103) (m₉ 111)) → (zDX (m₉ 94 10) (m₉ 99) (m₉ 112) (m₉ 113) (m₉ 114) (m₉ 94 55) (m₉ 98) (m₉ 101) (m₉ 102) (m₉ 108)) → (zGG (m₉ 94 58) (m₉ 94 56) (m₉ 94 57) (m₉ 106)) → (-1 ≤ v.toInt ∧ v.toInt ≤ 1500) → P (some (.inl v)) m₉ := by
    intro v m₉ hf z q0 q1 q2 q3 q4 q5
    have e := zov_eq hf
    rw [e] at z ⊢
    try rw [e] at q0
    try rw [e] at q1
    try rw [e] at q2
    try rw [e] at q3
    try rw [e] at q4
    skip
    exact KZ v m₉ z q0 q1 q2 q3 q4 q5
  refine g_217_0 n ?_
  have f1 : 0 ≤ (m 94 10).toInt ∧ (m 94 10).toInt ≤ 6 := rs_94_10 (m := m) hV
  have f2 : 0 ≤ (m 94 58).toInt ∧ (m 94 58).toInt ≤ 1 := rs_94_58 (m := m) hV
  have li3 : (0 : Int32).toInt = 0 := rfl
  refine zd (fun (h4 : (m 94 58) = (0 : Int32)) => ?_) (fun (h4 : ¬ (m 94 58) = (0 : Int32)) => ?_)
  · skip
    have g5 := i_eq h4
    have f6 : 0 ≤ (m 94 11).toInt ∧ (m 94 11).toInt ≤ 1500 := rs_94_11 (m := m) hV
    have b7 := i_bd (m 94 45)
    first | have b9 := i_bd ((m 94 11) - (m 94 45)) | have e8 : ((m 94 11) - (m 94 45)).toInt = (m 94 11).toInt - (m 94 45).toInt := i_sub (by omega) (by omega)
    have li10 : (4 : Int32).toInt = 4 := rfl
    first | have b12 := i_bd (((m 94 11) - (m 94 45)) * (4 : Int32)) | have e11 : (((m 94 11) - (m 94 45)) * (4 : Int32)).toInt = ((m 94 11) - (m 94 45)).toInt * 4 := i_mulk rfl (by omega) (by omega)
    refine zd (fun (h13 : (m 94 11) ≤ (((m 94 11) - (m 94 45)) * (4 : Int32))) => ?_) (fun (h13 : ¬ (m 94 11) ≤ (((m 94 11) - (m 94 45)) * (4 : Int32))) => ?_)
    · skip
      have g14 := i_le h13
      refine zd (fun (h15 : (m 94 58) = (0 : Int32)) => ?_) (fun (h15 : ¬ (m 94 58) = (0 : Int32)) => ?_)
      · skip
        have g16 := i_eq h15
        have b17 := i_bd n
        refine sp_224 (n) hV  (fun v34 m33 hV_m33 p0_m33 => zmi_n ?_)
        have p0_m33 : -1 ≤ v34.toInt ∧ v34.toInt ≤ 1500 := p0_m33
        have b18 := i_bd v34
        refine zd (fun (h19 : v34 < (0 : Int32)) => ?_) (fun (h19 : ¬ v34 < (0 : Int32)) => ?_)
        · skip
          have g20 := i_lt h19
          refine zd (fun (h21 : (m 94 58) = (0 : Int32)) => ?_) (fun (h21 : ¬ (m 94 58) = (0 : Int32)) => ?_)
          · skip
            have g22 := i_eq h21
            refine sp_229  hV_m33 r_W r_GW r_GU r_OW r_DX (show (m 94 10).toInt = 5 from by omega) (fun v44 m43 hV_m43 p0_m43 p1_m43 p2_m43 p3_m43 p4_m43 p5_m43 => zmi_n ?_)
            have p0_m43 : zGW T (m43 94 55) (m43 109) := p0_m43
            have p1_m43 : zGU T (m 94 46) (m43 99) := p1_m43
            have p2_m43 : zOw (m43 99) (m 103) (m43 111) := p2_m43
            have p3_m43 : zDX (m 94 10) (m43 99) (m 112) (m43 113) (m43 114) (m43 94 55) (m 98) (m 101) (m 102) (m 108) := p3_m43
            have p4_m43 : zGG (m43 94 58) (m43 94 56) (m43 94 57) (m43 106) := p4_m43
            have p5_m43 : (m43 94 58).toInt = 0 := p5_m43
            have f23 : 0 ≤ (m43 94 58).toInt ∧ (m43 94 58).toInt ≤ 1 := rs_94_58 (m := (zov wr_229 (zov wr_224 m m33) m43)) hV_m43
            refine sp_224 (n) hV_m43  (fun v46 m45 hV_m45 p0_m45 => zmi_n ?_)
            have p0_m45 : -1 ≤ v46.toInt ∧ v46.toInt ≤ 1500 := p0_m45
            have b24 := i_bd v46
            refine zd (fun (h25 : (0 : Int32) ≤ v46) => ?_) (fun (h25 : ¬ (0 : Int32) ≤ v46) => ?_)
            · skip
              have g26 := i_le h25
              exact K (v46) _ (zF_zov (zF_zov (zF_zov zF_rfl ws_224_217) ws_229_217) ws_224_217) hV_m45 p0_m43 p1_m43 p2_m43 p3_m43 p4_m43 (show -1 ≤ v46.toInt ∧ v46.toInt ≤ 1500 from by omega)
            · skip
              have g27 := i_nle h25
              exact K (v46) _ (zF_zov (zF_zov (zF_zov zF_rfl ws_224_217) ws_229_217) ws_224_217) hV_m45 p0_m43 p1_m43 p2_m43 p3_m43 p4_m43 (show -1 ≤ v46.toInt ∧ v46.toInt ≤ 1500 from by omega)
          · skip
            have g28 := i_ne h21
            refine sp_230  hV_m33 r_W r_GW r_GU r_OW r_DX r_GG (show (m 94 10).toInt = 5 from by omega) (fun v36 m35 hV_m35 p0_m35 p1_m35 p2_m35 p3_m35 p4_m35 p5_m35 => zmi_n ?_)
            have p0_m35 : zGW T (m35 94 55) (m35 109) := p0_m35
            have p1_m35 : zGU T (m 94 46) (m35 99) := p1_m35
            have p2_m35 : zOw (m35 99) (m 103) (m35 111) := p2_m35
            have p3_m35 : zDX (m 94 10) (m35 99) (m 112) (m35 113) (m35 114) (m35 94 55) (m 98) (m 101) (m 102) (m 108) := p3_m35
            have p4_m35 : zGG (m35 94 58) (m35 94 56) (m35 94 57) (m35 106) := p4_m35
            have p5_m35 : (m35 94 58).toInt = 0 := p5_m35
            have f29 : 0 ≤ (m35 94 58).toInt ∧ (m35 94 58).toInt ≤ 1 := rs_94_58 (m := (zov wr_230 (zov wr_224 m m33) m35)) hV_m35
            refine sp_224 (n) hV_m35  (fun v38 m37 hV_m37 p0_m37 => zmi_n ?_)
            have p0_m37 : -1 ≤ v38.toInt ∧ v38.toInt ≤ 1500 := p0_m37
            have b30 := i_bd v38
            refine zd (fun (h31 : (0 : Int32) ≤ v38) => ?_) (fun (h31 : ¬ (0 : Int32) ≤ v38) => ?_)
            · skip
              have g32 := i_le h31
              exact K (v38) _ (zF_zov (zF_zov (zF_zov zF_rfl ws_224_217) ws_230_217) ws_224_217) hV_m37 p0_m35 p1_m35 p2_m35 p3_m35 p4_m35 (show -1 ≤ v38.toInt ∧ v38.toInt ≤ 1500 from by omega)
            · skip
              have g33 := i_nle h31
              refine sp_229  hV_m37 r_W p0_m35 p1_m35 p2_m35 p3_m35 (show (m 94 10).toInt = 5 from by omega) (fun v40 m39 hV_m39 p0_m39 p1_m39 p2_m39 p3_m39 p4_m39 p5_m39 => zmi_n ?_)
              have p0_m39 : zGW T (m39 94 55) (m39 109) := p0_m39
              have p1_m39 : zGU T (m 94 46) (m39 99) := p1_m39
              have p2_m39 : zOw (m39 99) (m 103) (m39 111) := p2_m39
              have p3_m39 : zDX (m 94 10) (m39 99) (m 112) (m39 113) (m39 114) (m39 94 55) (m 98) (m 101) (m 102) (m 108) := p3_m39
              have p4_m39 : zGG (m39 94 58) (m39 94 56) (m39 94 57) (m39 106) := p4_m39
              have p5_m39 : (m39 94 58).toInt = 0 := p5_m39
              have f34 : 0 ≤ (m39 94 58).toInt ∧ (m39 94 58).toInt ≤ 1 := rs_94_58 (m := (zov wr_229 (zov wr_224 (zov wr_230 (zov wr_224 m m33) m35) m37) m39)) hV_m39
              refine sp_224 (n) hV_m39  (fun v42 m41 hV_m41 p0_m41 => zmi_n ?_)
              have p0_m41 : -1 ≤ v42.toInt ∧ v42.toInt ≤ 1500 := p0_m41
              have b35 := i_bd v42
              exact K (v42) _ (zF_zov (zF_zov (zF_zov (zF_zov (zF_zov zF_rfl ws_224_217) ws_230_217) ws_224_217) ws_229_217) ws_224_217) hV_m41 p0_m39 p1_m39 p2_m39 p3_m39 p4_m39 (show -1 ≤ v42.toInt ∧ v42.toInt ≤ 1500 from by omega)
        · skip
          have g36 := i_nlt h19
          exact K (v34) _ (zF_zov zF_rfl ws_224_217) hV_m33 r_GW r_GU r_OW r_DX r_GG (show -1 ≤ v34.toInt ∧ v34.toInt ≤ 1500 from by omega)
      · skip
        have g37 := i_ne h15
        have b38 := i_bd (m 94 17)
        refine sp_222 ((m 94 17)) hV r_W (show zG1 (m 94 56) (m 94 57) (m 106) from by first | (exact G1_0 (by omega) (by omega)) | (exact r_GG (by omega)) | (exfalso; omega; done) | (exfalso; contradiction; done)) (fun v48 m47 hV_m47 p0_m47 p1_m47 p2_m47 => zmi_n ?_)
        have p0_m47 : zG1 (m47 94 56) (m47 94 57) (m47 106) := p0_m47
        have p1_m47 : (m 94 56).toInt ≤ (m47 94 56).toInt := p1_m47
        have p2_m47 : (m 94 57).toInt ≤ (m47 94 57).toInt ∧ ((m47 94 56).toInt ≤ (m47 94 57).toInt ∨ (m 94 57).toInt + (m 94 17).toInt ≤ (m47 94 57).toInt) := p2_m47
        have f39 : 0 ≤ (m 94 56).toInt ∧ (m 94 56).toInt ≤ 3100 := rs_94_56 (m := m) hV
        have f40 : 0 ≤ (m47 94 56).toInt ∧ (m47 94 56).toInt ≤ 3100 := rs_94_56 (m := (zov wr_222 m m47)) hV_m47
        have f41 : 0 ≤ (m 94 57).toInt ∧ (m 94 57).toInt ≤ 3100 := rs_94_57 (m := m) hV
        have f42 : 0 ≤ (m47 94 57).toInt ∧ (m47 94 57).toInt ≤ 3100 := rs_94_57 (m := (zov wr_222 m m47)) hV_m47
        refine sp_223  hV_m47 r_W r_GW r_GU r_OW r_DX p0_m47 (show (m 94 10).toInt = 5 from by omega) (show (m 94 58).toInt = 1 from by omega) (fun v50 m49 hV_m49 p0_m49 p1_m49 p2_m49 p3_m49 p4_m49 p5_m49 => zmi_n ?_)
        have p0_m49 : zGW T (m49 94 55) (m49 109) := p0_m49
        have p1_m49 : zGU T (m 94 46) (m49 99) := p1_m49
        have p2_m49 : zOw (m49 99) (m 103) (m49 111) := p2_m49
        have p3_m49 : zDX (m 94 10) (m49 99) (m 112) (m49 113) (m49 114) (m49 94 55) (m 98) (m 101) (m 102) (m 108) := p3_m49
        have p4_m49 : zGG (m49 94 58) (m49 94 56) (m47 94 57) (m49 106) := p4_m49
        have p5_m49 : (m49 94 58).toInt = 0 ∨ ((m49 94 58).toInt = 1 ∧ (m47 94 57).toInt < (m49 94 56).toInt ∧ (m47 94 57).toInt = (m47 94 57).toInt) := p5_m49
        have f43 : 0 ≤ (m49 94 58).toInt ∧ (m49 94 58).toInt ≤ 1 := rs_94_58 (m := (zov wr_223 (zov wr_222 m m47) m49)) hV_m49
        have f44 : 0 ≤ (m49 94 56).toInt ∧ (m49 94 56).toInt ≤ 3100 := rs_94_56 (m := (zov wr_223 (zov wr_222 m m47) m49)) hV_m49
        have b45 := i_bd n
        refine sp_224 (n) hV_m49  (fun v52 m51 hV_m51 p0_m51 => zmi_n ?_)
        have p0_m51 : -1 ≤ v52.toInt ∧ v52.toInt ≤ 1500 := p0_m51
        have b46 := i_bd v52
        refine zd (fun (h47 : v52 < (0 : Int32)) => ?_) (fun (h47 : ¬ v52 < (0 : Int32)) => ?_)
        · skip
          have g48 := i_lt h47
          refine zd (fun (h49 : (m49 94 58) = (0 : Int32)) => ?_) (fun (h49 : ¬ (m49 94 58) = (0 : Int32)) => ?_)
          · skip
            have g50 := i_eq h49
            refine sp_229  hV_m51 r_W p0_m49 p1_m49 p2_m49 p3_m49 (show (m 94 10).toInt = 5 from by omega) (fun v62 m61 hV_m61 p0_m61 p1_m61 p2_m61 p3_m61 p4_m61 p5_m61 => zmi_n ?_)
            have p0_m61 : zGW T (m61 94 55) (m61 109) := p0_m61
            have p1_m61 : zGU T (m 94 46) (m61 99) := p1_m61
            have p2_m61 : zOw (m61 99) (m 103) (m61 111) := p2_m61
            have p3_m61 : zDX (m 94 10) (m61 99) (m 112) (m61 113) (m61 114) (m61 94 55) (m 98) (m 101) (m 102) (m 108) := p3_m61
            have p4_m61 : zGG (m61 94 58) (m61 94 56) (m61 94 57) (m61 106) := p4_m61
            have p5_m61 : (m61 94 58).toInt = 0 := p5_m61
            have f51 : 0 ≤ (m61 94 58).toInt ∧ (m61 94 58).toInt ≤ 1 := rs_94_58 (m := (zov wr_229 (zov wr_224 (zov wr_223 (zov wr_222 m m47) m49) m51) m61)) hV_m61
            refine sp_224 (n) hV_m61  (fun v64 m63 hV_m63 p0_m63 => zmi_n ?_)
            have p0_m63 : -1 ≤ v64.toInt ∧ v64.toInt ≤ 1500 := p0_m63
            have b52 := i_bd v64
            refine zd (fun (h53 : (0 : Int32) ≤ v64) => ?_) (fun (h53 : ¬ (0 : Int32) ≤ v64) => ?_)
            · skip
              have g54 := i_le h53
              exact K (v64) _ (zF_zov (zF_zov (zF_zov (zF_zov (zF_zov zF_rfl ws_222_217) ws_223_217) ws_224_217) ws_229_217) ws_224_217) hV_m63 p0_m61 p1_m61 p2_m61 p3_m61 p4_m61 (show -1 ≤ v64.toInt ∧ v64.toInt ≤ 1500 from by omega)
            · skip
              have g55 := i_nle h53
              exact K (v64) _ (zF_zov (zF_zov (zF_zov (zF_zov (zF_zov zF_rfl ws_222_217) ws_223_217) ws_224_217) ws_229_217) ws_224_217) hV_m63 p0_m61 p1_m61 p2_m61 p3_m61 p4_m61 (show -1 ≤ v64.toInt ∧ v64.toInt ≤ 1500 from by omega)
          · skip
            have g56 := i_ne h49
            refine sp_230  hV_m51 r_W p0_m49 p1_m49 p2_m49 p3_m49 p4_m49 (show (m 94 10).toInt = 5 from by omega) (fun v54 m53 hV_m53 p0_m53 p1_m53 p2_m53 p3_m53 p4_m53 p5_m53 => zmi_n ?_)
            have p0_m53 : zGW T (m53 94 55) (m53 109) := p0_m53
            have p1_m53 : zGU T (m 94 46) (m53 99) := p1_m53
            have p2_m53 : zOw (m53 99) (m 103) (m53 111) := p2_m53
            have p3_m53 : zDX (m 94 10) (m53 99) (m 112) (m53 113) (m53 114) (m53 94 55) (m 98) (m 101) (m 102) (m 108) := p3_m53
            have p4_m53 : zGG (m53 94 58) (m53 94 56) (m53 94 57) (m53 106) := p4_m53
            have p5_m53 : (m53 94 58).toInt = 0 := p5_m53
            have f57 : 0 ≤ (m53 94 58).toInt ∧ (m53 94 58).toInt ≤ 1 := rs_94_58 (m := (zov wr_230 (zov wr_224 (zov wr_223 (zov wr_222 m m47) m49) m51) m53)) hV_m53
            refine sp_224 (n) hV_m53  (fun v56 m55 hV_m55 p0_m55 => zmi_n ?_)
            have p0_m55 : -1 ≤ v56.toInt ∧ v56.toInt ≤ 1500 := p0_m55
            have b58 := i_bd v56
            refine zd (fun (h59 : (0 : Int32) ≤ v56) => ?_) (fun (h59 : ¬ (0 : Int32) ≤ v56) => ?_)
            · skip
              have g60 := i_le h59
              exact K (v56) _ (zF_zov (zF_zov (zF_zov (zF_zov (zF_zov zF_rfl ws_222_217) ws_223_217) ws_224_217) ws_230_217) ws_224_217) hV_m55 p0_m53 p1_m53 p2_m53 p3_m53 p4_m53 (show -1 ≤ v56.toInt ∧ v56.toInt ≤ 1500 from by omega)
            · skip
              have g61 := i_nle h59
              refine sp_229  hV_m55 r_W p0_m53 p1_m53 p2_m53 p3_m53 (show (m 94 10).toInt = 5 from by omega) (fun v58 m57 hV_m57 p0_m57 p1_m57 p2_m57 p3_m57 p4_m57 p5_m57 => zmi_n ?_)
              have p0_m57 : zGW T (m57 94 55) (m57 109) := p0_m57
              have p1_m57 : zGU T (m 94 46) (m57 99) := p1_m57
              have p2_m57 : zOw (m57 99) (m 103) (m57 111) := p2_m57
              have p3_m57 : zDX (m 94 10) (m57 99) (m 112) (m57 113) (m57 114) (m57 94 55) (m 98) (m 101) (m 102) (m 108) := p3_m57
              have p4_m57 : zGG (m57 94 58) (m57 94 56) (m57 94 57) (m57 106) := p4_m57
              have p5_m57 : (m57 94 58).toInt = 0 := p5_m57
              have f62 : 0 ≤ (m57 94 58).toInt ∧ (m57 94 58).toInt ≤ 1 := rs_94_58 (m := (zov wr_229 (zov wr_224 (zov wr_230 (zov wr_224 (zov wr_223 (zov wr_222 m m47) m49) m51) m53) m55) m57)) hV_m57
              refine sp_224 (n) hV_m57  (fun v60 m59 hV_m59 p0_m59 => zmi_n ?_)
              have p0_m59 : -1 ≤ v60.toInt ∧ v60.toInt ≤ 1500 := p0_m59
              have b63 := i_bd v60
              exact K (v60) _ (zF_zov (zF_zov (zF_zov (zF_zov (zF_zov (zF_zov (zF_zov zF_rfl ws_222_217) ws_223_217) ws_224_217) ws_230_217) ws_224_217) ws_229_217) ws_224_217) hV_m59 p0_m57 p1_m57 p2_m57 p3_m57 p4_m57 (show -1 ≤ v60.toInt ∧ v60.toInt ≤ 1500 from by omega)
        · skip
          have g64 := i_nlt h47
          exact K (v52) _ (zF_zov (zF_zov (zF_zov zF_rfl ws_222_217) ws_223_217) ws_224_217) hV_m51 p0_m49 p1_m49 p2_m49 p3_m49 p4_m49 (show -1 ≤ v52.toInt ∧ v52.toInt ≤ 1500 from by omega)
    · skip
      have g65 := i_nle h13
      refine sp_219  hV  (fun m65 hV_m65 p0_m65 p1_m65 => zmv_n ?_)
      have p0_m65 : zG1 (m65 94 56) (m65 94 57) (m65 106) := p0_m65
      have p1_m65 : (m65 94 58).toInt = 1 := p1_m65
      have f66 : 0 ≤ (m65 94 58).toInt ∧ (m65 94 58).toInt ≤ 1 := rs_94_58 (m := (zov wr_219 m m65)) hV_m65
      refine zd (fun (h67 : (m65 94 58) = (0 : Int32)) => ?_) (fun (h67 : ¬ (m65 94 58) = (0 : Int32)) => ?_)
      · skip
        have g68 := i_eq h67
        have b69 := i_bd n
        refine sp_224 (n) hV_m65  (fun v68 m67 hV_m67 p0_m67 => zmi_n ?_)
        have p0_m67 : -1 ≤ v68.toInt ∧ v68.toInt ≤ 1500 := p0_m67
        have b70 := i_bd v68
        refine zd (fun (h71 : v68 < (0 : Int32)) => ?_) (fun (h71 : ¬ v68 < (0 : Int32)) => ?_)
        · skip
          have g72 := i_lt h71
          refine zd (fun (h73 : (m65 94 58) = (0 : Int32)) => ?_) (fun (h73 : ¬ (m65 94 58) = (0 : Int32)) => ?_)
          · skip
            have g74 := i_eq h73
            refine sp_229  hV_m67 r_W r_GW r_GU r_OW r_DX (show (m 94 10).toInt = 5 from by omega) (fun v78 m77 hV_m77 p0_m77 p1_m77 p2_m77 p3_m77 p4_m77 p5_m77 => zmi_n ?_)
            have p0_m77 : zGW T (m77 94 55) (m77 109) := p0_m77
            have p1_m77 : zGU T (m 94 46) (m77 99) := p1_m77
            have p2_m77 : zOw (m77 99) (m 103) (m77 111) := p2_m77
            have p3_m77 : zDX (m 94 10) (m77 99) (m 112) (m77 113) (m77 114) (m77 94 55) (m 98) (m 101) (m 102) (m 108) := p3_m77
            have p4_m77 : zGG (m77 94 58) (m77 94 56) (m77 94 57) (m77 106) := p4_m77
            have p5_m77 : (m77 94 58).toInt = 0 := p5_m77
            have f75 : 0 ≤ (m77 94 58).toInt ∧ (m77 94 58).toInt ≤ 1 := rs_94_58 (m := (zov wr_229 (zov wr_224 (zov wr_219 m m65) m67) m77)) hV_m77
            refine sp_224 (n) hV_m77  (fun v80 m79 hV_m79 p0_m79 => zmi_n ?_)
            have p0_m79 : -1 ≤ v80.toInt ∧ v80.toInt ≤ 1500 := p0_m79
            have b76 := i_bd v80
            refine zd (fun (h77 : (0 : Int32) ≤ v80) => ?_) (fun (h77 : ¬ (0 : Int32) ≤ v80) => ?_)
            · skip
              have g78 := i_le h77
              exact K (v80) _ (zF_zov (zF_zov (zF_zov (zF_zov zF_rfl ws_219_217) ws_224_217) ws_229_217) ws_224_217) hV_m79 p0_m77 p1_m77 p2_m77 p3_m77 p4_m77 (show -1 ≤ v80.toInt ∧ v80.toInt ≤ 1500 from by omega)
            · skip
              have g79 := i_nle h77
              exact K (v80) _ (zF_zov (zF_zov (zF_zov (zF_zov zF_rfl ws_219_217) ws_224_217) ws_229_217) ws_224_217) hV_m79 p0_m77 p1_m77 p2_m77 p3_m77 p4_m77 (show -1 ≤ v80.toInt ∧ v80.toInt ≤ 1500 from by omega)
          · skip
            have g80 := i_ne h73
            refine sp_230  hV_m67 r_W r_GW r_GU r_OW r_DX (show zGG (m65 94 58) (m65 94 56) (m65 94 57) (m65 106) from by first | (exact fun _ => p0_m65) | (exact fun z => absurd z (by decide)) | (exact fun z => absurd z (by omega)) | (exfalso; omega; done) | (exfalso; contradiction; done)) (show (m 94 10).toInt = 5 from by omega) (fun v70 m69 hV_m69 p0_m69 p1_m69 p2_m69 p3_m69 p4_m69 p5_m69 => zmi_n ?_)
            have p0_m69 : zGW T (m69 94 55) (m69 109) := p0_m69
            have p1_m69 : zGU T (m 94 46) (m69 99) := p1_m69
            have p2_m69 : zOw (m69 99) (m 103) (m69 111) := p2_m69
            have p3_m69 : zDX (m 94 10) (m69 99) (m 112) (m69 113) (m69 114) (m69 94 55) (m 98) (m 101) (m 102) (m 108) := p3_m69
            have p4_m69 : zGG (m69 94 58) (m69 94 56) (m69 94 57) (m69 106) := p4_m69
            have p5_m69 : (m69 94 58).toInt = 0 := p5_m69
            have f81 : 0 ≤ (m69 94 58).toInt ∧ (m69 94 58).toInt ≤ 1 := rs_94_58 (m := (zov wr_230 (zov wr_224 (zov wr_219 m m65) m67) m69)) hV_m69
            refine sp_224 (n) hV_m69  (fun v72 m71 hV_m71 p0_m71 => zmi_n ?_)
            have p0_m71 : -1 ≤ v72.toInt ∧ v72.toInt ≤ 1500 := p0_m71
            have b82 := i_bd v72
            refine zd (fun (h83 : (0 : Int32) ≤ v72) => ?_) (fun (h83 : ¬ (0 : Int32) ≤ v72) => ?_)
            · skip
              have g84 := i_le h83
              exact K (v72) _ (zF_zov (zF_zov (zF_zov (zF_zov zF_rfl ws_219_217) ws_224_217) ws_230_217) ws_224_217) hV_m71 p0_m69 p1_m69 p2_m69 p3_m69 p4_m69 (show -1 ≤ v72.toInt ∧ v72.toInt ≤ 1500 from by omega)
            · skip
              have g85 := i_nle h83
              refine sp_229  hV_m71 r_W p0_m69 p1_m69 p2_m69 p3_m69 (show (m 94 10).toInt = 5 from by omega) (fun v74 m73 hV_m73 p0_m73 p1_m73 p2_m73 p3_m73 p4_m73 p5_m73 => zmi_n ?_)
              have p0_m73 : zGW T (m73 94 55) (m73 109) := p0_m73
              have p1_m73 : zGU T (m 94 46) (m73 99) := p1_m73
              have p2_m73 : zOw (m73 99) (m 103) (m73 111) := p2_m73
              have p3_m73 : zDX (m 94 10) (m73 99) (m 112) (m73 113) (m73 114) (m73 94 55) (m 98) (m 101) (m 102) (m 108) := p3_m73
              have p4_m73 : zGG (m73 94 58) (m73 94 56) (m73 94 57) (m73 106) := p4_m73
              have p5_m73 : (m73 94 58).toInt = 0 := p5_m73
              have f86 : 0 ≤ (m73 94 58).toInt ∧ (m73 94 58).toInt ≤ 1 := rs_94_58 (m := (zov wr_229 (zov wr_224 (zov wr_230 (zov wr_224 (zov wr_219 m m65) m67) m69) m71) m73)) hV_m73
              refine sp_224 (n) hV_m73  (fun v76 m75 hV_m75 p0_m75 => zmi_n ?_)
              have p0_m75 : -1 ≤ v76.toInt ∧ v76.toInt ≤ 1500 := p0_m75
              have b87 := i_bd v76
              exact K (v76) _ (zF_zov (zF_zov (zF_zov (zF_zov (zF_zov (zF_zov zF_rfl ws_219_217) ws_224_217) ws_230_217) ws_224_217) ws_229_217) ws_224_217) hV_m75 p0_m73 p1_m73 p2_m73 p3_m73 p4_m73 (show -1 ≤ v76.toInt ∧ v76.toInt ≤ 1500 from by omega)
        · skip
          have g88 := i_nlt h71
          exact K (v68) _ (zF_zov (zF_zov zF_rfl ws_219_217) ws_224_217) hV_m67 r_GW r_GU r_OW r_DX (show zGG (m65 94 58) (m65 94 56) (m65 94 57) (m65 106) from by first | (exact fun _ => p0_m65) | (exact fun z => absurd z (by decide)) | (exact fun z => absurd z (by omega)) | (exfalso; omega; done) | (exfalso; contradiction; done)) (show -1 ≤ v68.toInt ∧ v68.toInt ≤ 1500 from by omega)
      · skip
        have g89 := i_ne h67
        have b90 := i_bd (m 94 17)
        refine sp_222 ((m 94 17)) hV_m65 r_W p0_m65 (fun v82 m81 hV_m81 p0_m81 p1_m81 p2_m81 => zmi_n ?_)
        have p0_m81 : zG1 (m81 94 56) (m81 94 57) (m81 106) := p0_m81
        have p1_m81 : (m65 94 56).toInt ≤ (m81 94 56).toInt := p1_m81
        have p2_m81 : (m65 94 57).toInt ≤ (m81 94 57).toInt ∧ ((m81 94 56).toInt ≤ (m81 94 57).toInt ∨ (m65 94 57).toInt + (m 94 17).toInt ≤ (m81 94 57).toInt) := p2_m81
        have f91 : 0 ≤ (m65 94 56).toInt ∧ (m65 94 56).toInt ≤ 3100 := rs_94_56 (m := (zov wr_219 m m65)) hV_m65
        have f92 : 0 ≤ (m81 94 56).toInt ∧ (m81 94 56).toInt ≤ 3100 := rs_94_56 (m := (zov wr_222 (zov wr_219 m m65) m81)) hV_m81
        have f93 : 0 ≤ (m65 94 57).toInt ∧ (m65 94 57).toInt ≤ 3100 := rs_94_57 (m := (zov wr_219 m m65)) hV_m65
        have f94 : 0 ≤ (m81 94 57).toInt ∧ (m81 94 57).toInt ≤ 3100 := rs_94_57 (m := (zov wr_222 (zov wr_219 m m65) m81)) hV_m81
        refine sp_223  hV_m81 r_W r_GW r_GU r_OW r_DX p0_m81 (show (m 94 10).toInt = 5 from by omega) (show (m65 94 58).toInt = 1 from by omega) (fun v84 m83 hV_m83 p0_m83 p1_m83 p2_m83 p3_m83 p4_m83 p5_m83 => zmi_n ?_)
        have p0_m83 : zGW T (m83 94 55) (m83 109) := p0_m83
        have p1_m83 : zGU T (m 94 46) (m83 99) := p1_m83
        have p2_m83 : zOw (m83 99) (m 103) (m83 111) := p2_m83
        have p3_m83 : zDX (m 94 10) (m83 99) (m 112) (m83 113) (m83 114) (m83 94 55) (m 98) (m 101) (m 102) (m 108) := p3_m83
        have p4_m83 : zGG (m83 94 58) (m83 94 56) (m81 94 57) (m83 106) := p4_m83
        have p5_m83 : (m83 94 58).toInt = 0 ∨ ((m83 94 58).toInt = 1 ∧ (m81 94 57).toInt < (m83 94 56).toInt ∧ (m81 94 57).toInt = (m81 94 57).toInt) := p5_m83
        have f95 : 0 ≤ (m83 94 58).toInt ∧ (m83 94 58).toInt ≤ 1 := rs_94_58 (m := (zov wr_223 (zov wr_222 (zov wr_219 m m65) m81) m83)) hV_m83
        have f96 : 0 ≤ (m83 94 56).toInt ∧ (m83 94 56).toInt ≤ 3100 := rs_94_56 (m := (zov wr_223 (zov wr_222 (zov wr_219 m m65) m81) m83)) hV_m83
        have b97 := i_bd n
        refine sp_224 (n) hV_m83  (fun v86 m85 hV_m85 p0_m85 => zmi_n ?_)
        have p0_m85 : -1 ≤ v86.toInt ∧ v86.toInt ≤ 1500 := p0_m85
        have b98 := i_bd v86
        refine zd (fun (h99 : v86 < (0 : Int32)) => ?_) (fun (h99 : ¬ v86 < (0 : Int32)) => ?_)
        · skip
          have g100 := i_lt h99
          refine zd (fun (h101 : (m83 94 58) = (0 : Int32)) => ?_) (fun (h101 : ¬ (m83 94 58) = (0 : Int32)) => ?_)
          · skip
            have g102 := i_eq h101
            refine sp_229  hV_m85 r_W p0_m83 p1_m83 p2_m83 p3_m83 (show (m 94 10).toInt = 5 from by omega) (fun v96 m95 hV_m95 p0_m95 p1_m95 p2_m95 p3_m95 p4_m95 p5_m95 => zmi_n ?_)
            have p0_m95 : zGW T (m95 94 55) (m95 109) := p0_m95
            have p1_m95 : zGU T (m 94 46) (m95 99) := p1_m95
            have p2_m95 : zOw (m95 99) (m 103) (m95 111) := p2_m95
            have p3_m95 : zDX (m 94 10) (m95 99) (m 112) (m95 113) (m95 114) (m95 94 55) (m 98) (m 101) (m 102) (m 108) := p3_m95
            have p4_m95 : zGG (m95 94 58) (m95 94 56) (m95 94 57) (m95 106) := p4_m95
            have p5_m95 : (m95 94 58).toInt = 0 := p5_m95
            have f103 : 0 ≤ (m95 94 58).toInt ∧ (m95 94 58).toInt ≤ 1 := rs_94_58 (m := (zov wr_229 (zov wr_224 (zov wr_223 (zov wr_222 (zov wr_219 m m65) m81) m83) m85) m95)) hV_m95
            refine sp_224 (n) hV_m95  (fun v98 m97 hV_m97 p0_m97 => zmi_n ?_)
            have p0_m97 : -1 ≤ v98.toInt ∧ v98.toInt ≤ 1500 := p0_m97
            have b104 := i_bd v98
            refine zd (fun (h105 : (0 : Int32) ≤ v98) => ?_) (fun (h105 : ¬ (0 : Int32) ≤ v98) => ?_)
            · skip
              have g106 := i_le h105
              exact K (v98) _ (zF_zov (zF_zov (zF_zov (zF_zov (zF_zov (zF_zov zF_rfl ws_219_217) ws_222_217) ws_223_217) ws_224_217) ws_229_217) ws_224_217) hV_m97 p0_m95 p1_m95 p2_m95 p3_m95 p4_m95 (show -1 ≤ v98.toInt ∧ v98.toInt ≤ 1500 from by omega)
            · skip
              have g107 := i_nle h105
              exact K (v98) _ (zF_zov (zF_zov (zF_zov (zF_zov (zF_zov (zF_zov zF_rfl ws_219_217) ws_222_217) ws_223_217) ws_224_217) ws_229_217) ws_224_217) hV_m97 p0_m95 p1_m95 p2_m95 p3_m95 p4_m95 (show -1 ≤ v98.toInt ∧ v98.toInt ≤ 1500 from by omega)
          · skip
            have g108 := i_ne h101
            refine sp_230  hV_m85 r_W p0_m83 p1_m83 p2_m83 p3_m83 p4_m83 (show (m 94 10).toInt = 5 from by omega) (fun v88 m87 hV_m87 p0_m87 p1_m87 p2_m87 p3_m87 p4_m87 p5_m87 => zmi_n ?_)
            have p0_m87 : zGW T (m87 94 55) (m87 109) := p0_m87
            have p1_m87 : zGU T (m 94 46) (m87 99) := p1_m87
            have p2_m87 : zOw (m87 99) (m 103) (m87 111) := p2_m87
            have p3_m87 : zDX (m 94 10) (m87 99) (m 112) (m87 113) (m87 114) (m87 94 55) (m 98) (m 101) (m 102) (m 108) := p3_m87
            have p4_m87 : zGG (m87 94 58) (m87 94 56) (m87 94 57) (m87 106) := p4_m87
            have p5_m87 : (m87 94 58).toInt = 0 := p5_m87
            have f109 : 0 ≤ (m87 94 58).toInt ∧ (m87 94 58).toInt ≤ 1 := rs_94_58 (m := (zov wr_230 (zov wr_224 (zov wr_223 (zov wr_222 (zov wr_219 m m65) m81) m83) m85) m87)) hV_m87
            refine sp_224 (n) hV_m87  (fun v90 m89 hV_m89 p0_m89 => zmi_n ?_)
            have p0_m89 : -1 ≤ v90.toInt ∧ v90.toInt ≤ 1500 := p0_m89
            have b110 := i_bd v90
            refine zd (fun (h111 : (0 : Int32) ≤ v90) => ?_) (fun (h111 : ¬ (0 : Int32) ≤ v90) => ?_)
            · skip
              have g112 := i_le h111
              exact K (v90) _ (zF_zov (zF_zov (zF_zov (zF_zov (zF_zov (zF_zov zF_rfl ws_219_217) ws_222_217) ws_223_217) ws_224_217) ws_230_217) ws_224_217) hV_m89 p0_m87 p1_m87 p2_m87 p3_m87 p4_m87 (show -1 ≤ v90.toInt ∧ v90.toInt ≤ 1500 from by omega)
            · skip
              have g113 := i_nle h111
              refine sp_229  hV_m89 r_W p0_m87 p1_m87 p2_m87 p3_m87 (show (m 94 10).toInt = 5 from by omega) (fun v92 m91 hV_m91 p0_m91 p1_m91 p2_m91 p3_m91 p4_m91 p5_m91 => zmi_n ?_)
              have p0_m91 : zGW T (m91 94 55) (m91 109) := p0_m91
              have p1_m91 : zGU T (m 94 46) (m91 99) := p1_m91
              have p2_m91 : zOw (m91 99) (m 103) (m91 111) := p2_m91
              have p3_m91 : zDX (m 94 10) (m91 99) (m 112) (m91 113) (m91 114) (m91 94 55) (m 98) (m 101) (m 102) (m 108) := p3_m91
              have p4_m91 : zGG (m91 94 58) (m91 94 56) (m91 94 57) (m91 106) := p4_m91
              have p5_m91 : (m91 94 58).toInt = 0 := p5_m91
              have f114 : 0 ≤ (m91 94 58).toInt ∧ (m91 94 58).toInt ≤ 1 := rs_94_58 (m := (zov wr_229 (zov wr_224 (zov wr_230 (zov wr_224 (zov wr_223 (zov wr_222 (zov wr_219 m m65) m81) m83) m85) m87) m89) m91)) hV_m91
              refine sp_224 (n) hV_m91  (fun v94 m93 hV_m93 p0_m93 => zmi_n ?_)
              have p0_m93 : -1 ≤ v94.toInt ∧ v94.toInt ≤ 1500 := p0_m93
              have b115 := i_bd v94
              exact K (v94) _ (zF_zov (zF_zov (zF_zov (zF_zov (zF_zov (zF_zov (zF_zov (zF_zov zF_rfl ws_219_217) ws_222_217) ws_223_217) ws_224_217) ws_230_217) ws_224_217) ws_229_217) ws_224_217) hV_m93 p0_m91 p1_m91 p2_m91 p3_m91 p4_m91 (show -1 ≤ v94.toInt ∧ v94.toInt ≤ 1500 from by omega)
        · skip
          have g116 := i_nlt h99
          exact K (v86) _ (zF_zov (zF_zov (zF_zov (zF_zov zF_rfl ws_219_217) ws_222_217) ws_223_217) ws_224_217) hV_m85 p0_m83 p1_m83 p2_m83 p3_m83 p4_m83 (show -1 ≤ v86.toInt ∧ v86.toInt ≤ 1500 from by omega)
  · skip
    have g117 := i_ne h4
    refine zd (fun (h118 : (m 94 58) = (0 : Int32)) => ?_) (fun (h118 : ¬ (m 94 58) = (0 : Int32)) => ?_)
    · skip
      have g119 := i_eq h118
      have b120 := i_bd n
      refine sp_224 (n) hV  (fun v2 m1 hV_m1 p0_m1 => zmi_n ?_)
      have p0_m1 : -1 ≤ v2.toInt ∧ v2.toInt ≤ 1500 := p0_m1
      have b121 := i_bd v2
      refine zd (fun (h122 : v2 < (0 : Int32)) => ?_) (fun (h122 : ¬ v2 < (0 : Int32)) => ?_)
      · skip
        have g123 := i_lt h122
        refine zd (fun (h124 : (m 94 58) = (0 : Int32)) => ?_) (fun (h124 : ¬ (m 94 58) = (0 : Int32)) => ?_)
        · skip
          have g125 := i_eq h124
          refine sp_229  hV_m1 r_W r_GW r_GU r_OW r_DX (show (m 94 10).toInt = 5 from by omega) (fun v12 m11 hV_m11 p0_m11 p1_m11 p2_m11 p3_m11 p4_m11 p5_m11 => zmi_n ?_)
          have p0_m11 : zGW T (m11 94 55) (m11 109) := p0_m11
          have p1_m11 : zGU T (m 94 46) (m11 99) := p1_m11
          have p2_m11 : zOw (m11 99) (m 103) (m11 111) := p2_m11
          have p3_m11 : zDX (m 94 10) (m11 99) (m 112) (m11 113) (m11 114) (m11 94 55) (m 98) (m 101) (m 102) (m 108) := p3_m11
          have p4_m11 : zGG (m11 94 58) (m11 94 56) (m11 94 57) (m11 106) := p4_m11
          have p5_m11 : (m11 94 58).toInt = 0 := p5_m11
          have f126 : 0 ≤ (m11 94 58).toInt ∧ (m11 94 58).toInt ≤ 1 := rs_94_58 (m := (zov wr_229 (zov wr_224 m m1) m11)) hV_m11
          refine sp_224 (n) hV_m11  (fun v14 m13 hV_m13 p0_m13 => zmi_n ?_)
          have p0_m13 : -1 ≤ v14.toInt ∧ v14.toInt ≤ 1500 := p0_m13
          have b127 := i_bd v14
          refine zd (fun (h128 : (0 : Int32) ≤ v14) => ?_) (fun (h128 : ¬ (0 : Int32) ≤ v14) => ?_)
          · skip
            have g129 := i_le h128
            exact K (v14) _ (zF_zov (zF_zov (zF_zov zF_rfl ws_224_217) ws_229_217) ws_224_217) hV_m13 p0_m11 p1_m11 p2_m11 p3_m11 p4_m11 (show -1 ≤ v14.toInt ∧ v14.toInt ≤ 1500 from by omega)
          · skip
            have g130 := i_nle h128
            exact K (v14) _ (zF_zov (zF_zov (zF_zov zF_rfl ws_224_217) ws_229_217) ws_224_217) hV_m13 p0_m11 p1_m11 p2_m11 p3_m11 p4_m11 (show -1 ≤ v14.toInt ∧ v14.toInt ≤ 1500 from by omega)
        · skip
          have g131 := i_ne h124
          refine sp_230  hV_m1 r_W r_GW r_GU r_OW r_DX r_GG (show (m 94 10).toInt = 5 from by omega) (fun v4 m3 hV_m3 p0_m3 p1_m3 p2_m3 p3_m3 p4_m3 p5_m3 => zmi_n ?_)
          have p0_m3 : zGW T (m3 94 55) (m3 109) := p0_m3
          have p1_m3 : zGU T (m 94 46) (m3 99) := p1_m3
          have p2_m3 : zOw (m3 99) (m 103) (m3 111) := p2_m3
          have p3_m3 : zDX (m 94 10) (m3 99) (m 112) (m3 113) (m3 114) (m3 94 55) (m 98) (m 101) (m 102) (m 108) := p3_m3
          have p4_m3 : zGG (m3 94 58) (m3 94 56) (m3 94 57) (m3 106) := p4_m3
          have p5_m3 : (m3 94 58).toInt = 0 := p5_m3
          have f132 : 0 ≤ (m3 94 58).toInt ∧ (m3 94 58).toInt ≤ 1 := rs_94_58 (m := (zov wr_230 (zov wr_224 m m1) m3)) hV_m3
          refine sp_224 (n) hV_m3  (fun v6 m5 hV_m5 p0_m5 => zmi_n ?_)
          have p0_m5 : -1 ≤ v6.toInt ∧ v6.toInt ≤ 1500 := p0_m5
          have b133 := i_bd v6
          refine zd (fun (h134 : (0 : Int32) ≤ v6) => ?_) (fun (h134 : ¬ (0 : Int32) ≤ v6) => ?_)
          · skip
            have g135 := i_le h134
            exact K (v6) _ (zF_zov (zF_zov (zF_zov zF_rfl ws_224_217) ws_230_217) ws_224_217) hV_m5 p0_m3 p1_m3 p2_m3 p3_m3 p4_m3 (show -1 ≤ v6.toInt ∧ v6.toInt ≤ 1500 from by omega)
          · skip
            have g136 := i_nle h134
            refine sp_229  hV_m5 r_W p0_m3 p1_m3 p2_m3 p3_m3 (show (m 94 10).toInt = 5 from by omega) (fun v8 m7 hV_m7 p0_m7 p1_m7 p2_m7 p3_m7 p4_m7 p5_m7 => zmi_n ?_)
            have p0_m7 : zGW T (m7 94 55) (m7 109) := p0_m7
            have p1_m7 : zGU T (m 94 46) (m7 99) := p1_m7
            have p2_m7 : zOw (m7 99) (m 103) (m7 111) := p2_m7
            have p3_m7 : zDX (m 94 10) (m7 99) (m 112) (m7 113) (m7 114) (m7 94 55) (m 98) (m 101) (m 102) (m 108) := p3_m7
            have p4_m7 : zGG (m7 94 58) (m7 94 56) (m7 94 57) (m7 106) := p4_m7
            have p5_m7 : (m7 94 58).toInt = 0 := p5_m7
            have f137 : 0 ≤ (m7 94 58).toInt ∧ (m7 94 58).toInt ≤ 1 := rs_94_58 (m := (zov wr_229 (zov wr_224 (zov wr_230 (zov wr_224 m m1) m3) m5) m7)) hV_m7
            refine sp_224 (n) hV_m7  (fun v10 m9 hV_m9 p0_m9 => zmi_n ?_)
            have p0_m9 : -1 ≤ v10.toInt ∧ v10.toInt ≤ 1500 := p0_m9
            have b138 := i_bd v10
            exact K (v10) _ (zF_zov (zF_zov (zF_zov (zF_zov (zF_zov zF_rfl ws_224_217) ws_230_217) ws_224_217) ws_229_217) ws_224_217) hV_m9 p0_m7 p1_m7 p2_m7 p3_m7 p4_m7 (show -1 ≤ v10.toInt ∧ v10.toInt ≤ 1500 from by omega)
      · skip
        have g139 := i_nlt h122
        exact K (v2) _ (zF_zov zF_rfl ws_224_217) hV_m1 r_GW r_GU r_OW r_DX r_GG (show -1 ≤ v2.toInt ∧ v2.toInt ≤ 1500 from by omega)
    · skip
      have g140 := i_ne h118
      have b141 := i_bd (m 94 17)
      refine sp_222 ((m 94 17)) hV r_W (show zG1 (m 94 56) (m 94 57) (m 106) from by first | (exact r_GG (by omega)) | (exact G1_0 (by omega) (by omega)) | (exfalso; omega; done) | (exfalso; contradiction; done)) (fun v16 m15 hV_m15 p0_m15 p1_m15 p2_m15 => zmi_n ?_)
      have p0_m15 : zG1 (m15 94 56) (m15 94 57) (m15 106) := p0_m15
      have p1_m15 : (m 94 56).toInt ≤ (m15 94 56).toInt := p1_m15
      have p2_m15 : (m 94 57).toInt ≤ (m15 94 57).toInt ∧ ((m15 94 56).toInt ≤ (m15 94 57).toInt ∨ (m 94 57).toInt + (m 94 17).toInt ≤ (m15 94 57).toInt) := p2_m15
      have f142 : 0 ≤ (m 94 56).toInt ∧ (m 94 56).toInt ≤ 3100 := rs_94_56 (m := m) hV
      have f143 : 0 ≤ (m15 94 56).toInt ∧ (m15 94 56).toInt ≤ 3100 := rs_94_56 (m := (zov wr_222 m m15)) hV_m15
      have f144 : 0 ≤ (m 94 57).toInt ∧ (m 94 57).toInt ≤ 3100 := rs_94_57 (m := m) hV
      have f145 : 0 ≤ (m15 94 57).toInt ∧ (m15 94 57).toInt ≤ 3100 := rs_94_57 (m := (zov wr_222 m m15)) hV_m15
      refine sp_223  hV_m15 r_W r_GW r_GU r_OW r_DX p0_m15 (show (m 94 10).toInt = 5 from by omega) (show (m 94 58).toInt = 1 from by omega) (fun v18 m17 hV_m17 p0_m17 p1_m17 p2_m17 p3_m17 p4_m17 p5_m17 => zmi_n ?_)
      have p0_m17 : zGW T (m17 94 55) (m17 109) := p0_m17
      have p1_m17 : zGU T (m 94 46) (m17 99) := p1_m17
      have p2_m17 : zOw (m17 99) (m 103) (m17 111) := p2_m17
      have p3_m17 : zDX (m 94 10) (m17 99) (m 112) (m17 113) (m17 114) (m17 94 55) (m 98) (m 101) (m 102) (m 108) := p3_m17
      have p4_m17 : zGG (m17 94 58) (m17 94 56) (m15 94 57) (m17 106) := p4_m17
      have p5_m17 : (m17 94 58).toInt = 0 ∨ ((m17 94 58).toInt = 1 ∧ (m15 94 57).toInt < (m17 94 56).toInt ∧ (m15 94 57).toInt = (m15 94 57).toInt) := p5_m17
      have f146 : 0 ≤ (m17 94 58).toInt ∧ (m17 94 58).toInt ≤ 1 := rs_94_58 (m := (zov wr_223 (zov wr_222 m m15) m17)) hV_m17
      have f147 : 0 ≤ (m17 94 56).toInt ∧ (m17 94 56).toInt ≤ 3100 := rs_94_56 (m := (zov wr_223 (zov wr_222 m m15) m17)) hV_m17
      have b148 := i_bd n
      refine sp_224 (n) hV_m17  (fun v20 m19 hV_m19 p0_m19 => zmi_n ?_)
      have p0_m19 : -1 ≤ v20.toInt ∧ v20.toInt ≤ 1500 := p0_m19
      have b149 := i_bd v20
      refine zd (fun (h150 : v20 < (0 : Int32)) => ?_) (fun (h150 : ¬ v20 < (0 : Int32)) => ?_)
      · skip
        have g151 := i_lt h150
        refine zd (fun (h152 : (m17 94 58) = (0 : Int32)) => ?_) (fun (h152 : ¬ (m17 94 58) = (0 : Int32)) => ?_)
        · skip
          have g153 := i_eq h152
          refine sp_229  hV_m19 r_W p0_m17 p1_m17 p2_m17 p3_m17 (show (m 94 10).toInt = 5 from by omega) (fun v30 m29 hV_m29 p0_m29 p1_m29 p2_m29 p3_m29 p4_m29 p5_m29 => zmi_n ?_)
          have p0_m29 : zGW T (m29 94 55) (m29 109) := p0_m29
          have p1_m29 : zGU T (m 94 46) (m29 99) := p1_m29
          have p2_m29 : zOw (m29 99) (m 103) (m29 111) := p2_m29
          have p3_m29 : zDX (m 94 10) (m29 99) (m 112) (m29 113) (m29 114) (m29 94 55) (m 98) (m 101) (m 102) (m 108) := p3_m29
          have p4_m29 : zGG (m29 94 58) (m29 94 56) (m29 94 57) (m29 106) := p4_m29
          have p5_m29 : (m29 94 58).toInt = 0 := p5_m29
          have f154 : 0 ≤ (m29 94 58).toInt ∧ (m29 94 58).toInt ≤ 1 := rs_94_58 (m := (zov wr_229 (zov wr_224 (zov wr_223 (zov wr_222 m m15) m17) m19) m29)) hV_m29
          refine sp_224 (n) hV_m29  (fun v32 m31 hV_m31 p0_m31 => zmi_n ?_)
          have p0_m31 : -1 ≤ v32.toInt ∧ v32.toInt ≤ 1500 := p0_m31
          have b155 := i_bd v32
          refine zd (fun (h156 : (0 : Int32) ≤ v32) => ?_) (fun (h156 : ¬ (0 : Int32) ≤ v32) => ?_)
          · skip
            have g157 := i_le h156
            exact K (v32) _ (zF_zov (zF_zov (zF_zov (zF_zov (zF_zov zF_rfl ws_222_217) ws_223_217) ws_224_217) ws_229_217) ws_224_217) hV_m31 p0_m29 p1_m29 p2_m29 p3_m29 p4_m29 (show -1 ≤ v32.toInt ∧ v32.toInt ≤ 1500 from by omega)
          · skip
            have g158 := i_nle h156
            exact K (v32) _ (zF_zov (zF_zov (zF_zov (zF_zov (zF_zov zF_rfl ws_222_217) ws_223_217) ws_224_217) ws_229_217) ws_224_217) hV_m31 p0_m29 p1_m29 p2_m29 p3_m29 p4_m29 (show -1 ≤ v32.toInt ∧ v32.toInt ≤ 1500 from by omega)
        · skip
          have g159 := i_ne h152
          refine sp_230  hV_m19 r_W p0_m17 p1_m17 p2_m17 p3_m17 p4_m17 (show (m 94 10).toInt = 5 from by omega) (fun v22 m21 hV_m21 p0_m21 p1_m21 p2_m21 p3_m21 p4_m21 p5_m21 => zmi_n ?_)
          have p0_m21 : zGW T (m21 94 55) (m21 109) := p0_m21
          have p1_m21 : zGU T (m 94 46) (m21 99) := p1_m21
          have p2_m21 : zOw (m21 99) (m 103) (m21 111) := p2_m21
          have p3_m21 : zDX (m 94 10) (m21 99) (m 112) (m21 113) (m21 114) (m21 94 55) (m 98) (m 101) (m 102) (m 108) := p3_m21
          have p4_m21 : zGG (m21 94 58) (m21 94 56) (m21 94 57) (m21 106) := p4_m21
          have p5_m21 : (m21 94 58).toInt = 0 := p5_m21
          have f160 : 0 ≤ (m21 94 58).toInt ∧ (m21 94 58).toInt ≤ 1 := rs_94_58 (m := (zov wr_230 (zov wr_224 (zov wr_223 (zov wr_222 m m15) m17) m19) m21)) hV_m21
          refine sp_224 (n) hV_m21  (fun v24 m23 hV_m23 p0_m23 => zmi_n ?_)
          have p0_m23 : -1 ≤ v24.toInt ∧ v24.toInt ≤ 1500 := p0_m23
          have b161 := i_bd v24
          refine zd (fun (h162 : (0 : Int32) ≤ v24) => ?_) (fun (h162 : ¬ (0 : Int32) ≤ v24) => ?_)
          · skip
            have g163 := i_le h162
            exact K (v24) _ (zF_zov (zF_zov (zF_zov (zF_zov (zF_zov zF_rfl ws_222_217) ws_223_217) ws_224_217) ws_230_217) ws_224_217) hV_m23 p0_m21 p1_m21 p2_m21 p3_m21 p4_m21 (show -1 ≤ v24.toInt ∧ v24.toInt ≤ 1500 from by omega)
          · skip
            have g164 := i_nle h162
            refine sp_229  hV_m23 r_W p0_m21 p1_m21 p2_m21 p3_m21 (show (m 94 10).toInt = 5 from by omega) (fun v26 m25 hV_m25 p0_m25 p1_m25 p2_m25 p3_m25 p4_m25 p5_m25 => zmi_n ?_)
            have p0_m25 : zGW T (m25 94 55) (m25 109) := p0_m25
            have p1_m25 : zGU T (m 94 46) (m25 99) := p1_m25
            have p2_m25 : zOw (m25 99) (m 103) (m25 111) := p2_m25
            have p3_m25 : zDX (m 94 10) (m25 99) (m 112) (m25 113) (m25 114) (m25 94 55) (m 98) (m 101) (m 102) (m 108) := p3_m25
            have p4_m25 : zGG (m25 94 58) (m25 94 56) (m25 94 57) (m25 106) := p4_m25
            have p5_m25 : (m25 94 58).toInt = 0 := p5_m25
            have f165 : 0 ≤ (m25 94 58).toInt ∧ (m25 94 58).toInt ≤ 1 := rs_94_58 (m := (zov wr_229 (zov wr_224 (zov wr_230 (zov wr_224 (zov wr_223 (zov wr_222 m m15) m17) m19) m21) m23) m25)) hV_m25
            refine sp_224 (n) hV_m25  (fun v28 m27 hV_m27 p0_m27 => zmi_n ?_)
            have p0_m27 : -1 ≤ v28.toInt ∧ v28.toInt ≤ 1500 := p0_m27
            have b166 := i_bd v28
            exact K (v28) _ (zF_zov (zF_zov (zF_zov (zF_zov (zF_zov (zF_zov (zF_zov zF_rfl ws_222_217) ws_223_217) ws_224_217) ws_230_217) ws_224_217) ws_229_217) ws_224_217) hV_m27 p0_m25 p1_m25 p2_m25 p3_m25 p4_m25 (show -1 ≤ v28.toInt ∧ v28.toInt ≤ 1500 from by omega)
      · skip
        have g167 := i_nlt h150
        exact K (v20) _ (zF_zov (zF_zov (zF_zov zF_rfl ws_222_217) ws_223_217) ws_224_217) hV_m19 p0_m17 p1_m17 p2_m17 p3_m17 p4_m17 (show -1 ≤ v20.toInt ∧ v20.toInt ≤ 1500 from by omega)

/-! from 94.427 -/
/-! the reference (written by wip/tools/gen94m.py) -/
set_option maxRecDepth 100000 in
theorem hm_237 : ma_md 237 = some (12, yX12_findByForm, cX12_findByForm, 4, (some (FieldType.int))) := rfl
theorem v_12_346_12 : ma_vl 12 346 12 = some (1, 187, 0) := by decide +kernel
theorem dX12_findByForm_0 : decode cX12_findByForm 0 = .ok (.aload_n 0, 1) := by decide +kernel
theorem dX12_findByForm_1 : decode cX12_findByForm 1 = .ok (.iload_n 1, 1) := by decide +kernel
theorem dX12_findByForm_2 : decode cX12_findByForm 2 = .ok (.invokevirtual 436, 3) := by decide +kernel
theorem dX12_findByForm_5 : decode cX12_findByForm 5 = .ok (.istore_n 2, 1) := by decide +kernel
theorem dX12_findByForm_6 : decode cX12_findByForm 6 = .ok (.iload_n 2, 1) := by decide +kernel
theorem dX12_findByForm_12 : decode cX12_findByForm 12 = .ok (.aload_n 0, 1) := by decide +kernel
theorem dX12_findByForm_13 : decode cX12_findByForm 13 = .ok (.invokevirtual 346, 3) := by decide +kernel
theorem dX12_findByForm_16 : decode cX12_findByForm 16 = .ok (.istore_n 3, 1) := by decide +kernel
theorem dX12_findByForm_17 : decode cX12_findByForm 17 = .ok (.aload_n 0, 1) := by decide +kernel
theorem dX12_findByForm_18 : decode cX12_findByForm 18 = .ok (.iload_n 1, 1) := by decide +kernel
theorem dX12_findByForm_19 : decode cX12_findByForm 19 = .ok (.invokevirtual 436, 3) := by decide +kernel
theorem dX12_findByForm_22 : decode cX12_findByForm 22 = .ok (.ireturn, 1) := by decide +kernel
theorem dX12_findByForm_10 : decode cX12_findByForm 10 = .ok (.iload_n 2, 1) := by decide +kernel
theorem dX12_findByForm_11 : decode cX12_findByForm 11 = .ok (.ireturn, 1) := by decide +kernel
theorem dX12_findByForm_7 : decode cX12_findByForm 7 = .ok (.ifCond .lt 5, 3) := by decide +kernel
def wr_237 (c k : Nat) : Bool := Nat.beq c 99 || Nat.beq c 105 || Nat.beq c 109 || Nat.beq c 110 || Nat.beq c 111 || Nat.beq c 113 || Nat.beq c 114 || Nat.beq c 118 || (Nat.beq c 94 && (Nat.beq k 44 || Nat.beq k 45 || Nat.beq k 47 || Nat.beq k 49 || Nat.beq k 50 || Nat.beq k 55 || Nat.beq k 73 || Nat.beq k 84))
theorem ws_187_237 : ∀ c k, wr_187 c k = true → wr_237 c k = true := by
  intro c k h
  simp only [wr_187, Bool.or_eq_true, Bool.and_eq_true, Nat.beq_eq] at h
  rcases h with (((((((rfl | rfl) | rfl) | rfl) | rfl) | rfl) | rfl) | rfl) | ⟨rfl, (((((rfl | rfl) | rfl) | rfl) | rfl) | rfl)⟩ <;> rfl
theorem ws_224_237 : ∀ c k, wr_224 c k = true → wr_237 c k = true := by
  intro c k h
  simp only [wr_224, Bool.or_eq_true, Bool.and_eq_true, Nat.beq_eq] at h
  rcases h with ⟨rfl, (rfl | rfl)⟩ <;> rfl
theorem g_237_0 {X : Nat × (Nat → Int32)} {m : Nat → Nat → Int32} {P : Option ma_V → (Nat → Nat → Int32) → Prop} (n : Int32) (h : zm X 3 69 224 0 [(0, .inr (.inr (some 94))), (1, .inl n)] m (zmi (fun v2 m1 => if v2 < 0 then (zm X 4 88 187 0 [(0, .inr (.inr (some 94)))] m1 (zmi (fun v4 m3 => zm X 3 69 224 0 [(0, .inr (.inr (some 94))), (1, .inl n)] m3 (zmi (fun v6 m5 => P (some (.inl v6)) m5))))) else (P (some (.inl v2)) m1)))) : zm X 5 108 237 0 [(0, .inr (.inr (some 94))), (1, .inl n)] m P := by
  intro d w S Q hd hw hS hm HQ
  subst hm
  refine zw_push hm_237 dX12_findByForm_0 (v := .inr (.inr (some 94))) rfl ?_
  refine zw_push hm_237 dX12_findByForm_1 (v := .inl n) rfl ?_
  refine zw_cv hm_237 dX12_findByForm_2 v_12_436_12 hm_224 [.inl n] [] rfl (zT_rt hS s_94 rfl) ⟨by omega, by omega⟩ rfl (h _ _ S _ (by omega) (by omega) hS rfl (fun o9 m1 hv => ?_))
  obtain ⟨v2, rfl, h⟩ := zmi_of hv
  show ma_wp X d w 237 5 [(0, .inr (.inr (some 94))), (1, .inl n)] [.inl v2] (zst S m1) _
  refine zw_sto hm_237 dX12_findByForm_5 [(2, .inl v2), (0, .inr (.inr (some 94))), (1, .inl n)] rfl rfl rfl ?_
  refine zw_push hm_237 dX12_findByForm_6 (v := .inl v2) rfl ?_
  refine zw_if0 hm_237 dX12_findByForm_7 (t := 12) rfl zc0_lt ?_ ?_
  · intro hc
    rw [if_pos hc] at h
    refine zw_push hm_237 dX12_findByForm_12 (v := .inr (.inr (some 94))) rfl ?_
    refine zw_cv hm_237 dX12_findByForm_13 v_12_346_12 hm_187 [] [] rfl (zT_rt (zT_zst hS m1) s_94 rfl) ⟨by omega, by omega⟩ rfl (h _ _ (zst S m1) _ (by omega) (by omega) (zT_zst hS m1) rfl (fun o9 m3 hv => ?_))
    obtain ⟨v4, rfl, h⟩ := zmi_of hv
    show ma_wp X d w 237 16 [(2, .inl v2), (0, .inr (.inr (some 94))), (1, .inl n)] [.inl v4] (zst S m3) _
    refine zw_sto hm_237 dX12_findByForm_16 [(3, .inl v4), (2, .inl v2), (0, .inr (.inr (some 94))), (1, .inl n)] rfl rfl rfl ?_
    refine zw_push hm_237 dX12_findByForm_17 (v := .inr (.inr (some 94))) rfl ?_
    refine zw_push hm_237 dX12_findByForm_18 (v := .inl n) rfl ?_
    refine zw_cv hm_237 dX12_findByForm_19 v_12_436_12 hm_224 [.inl n] [] rfl (zT_rt (zT_zst hS m3) s_94 rfl) ⟨by omega, by omega⟩ rfl (h _ _ (zst S m3) _ (by omega) (by omega) (zT_zst hS m3) rfl (fun o9 m5 hv => ?_))
    obtain ⟨v6, rfl, h⟩ := zmi_of hv
    show ma_wp X d w 237 22 [(3, .inl v4), (2, .inl v2), (0, .inr (.inr (some 94))), (1, .inl n)] [.inl v6] (zst S m5) _
    exact zw_iret hm_237 dX12_findByForm_22 (HQ _ _ h)
  · intro hc
    rw [if_neg hc] at h
    refine zw_push hm_237 dX12_findByForm_10 (v := .inl v2) rfl ?_
    exact zw_iret hm_237 dX12_findByForm_11 (HQ _ _ h)
theorem sp_237 {X : Nat × (Nat → Int32)} {P : Option ma_V → (Nat → Nat → Int32) → Prop} {T : Nat} {m : Nat → Nat → Int32} (n : Int32) (hV : zV m) (r_W : zW (m 94 7) (m 98) (m 101) (m 102) (m 108)) (r_GW : zGW T (m 94 55) (m 109)) (r_GU : zGU T (m 94 46) (m 99)) (r_OW : zOw (m 99) (m 103) (m 111)) (r_DX : zDX (m 94 10) (m 99) (m 112) (m 113) (m 114) (m 94 55) (m 98) (m 101) (m 102) (m 108)) (KZ : ∀ v m₉, zV (zov wr_237 m m₉) → (zGW T (m₉ 94 55) (m₉ 109)) → (zGU T (m 94 46) (m₉ 99)) → (zOw (m₉ 99) (m 103) (m₉ 111)) → (zDX (m 94 10) (m₉ 99) (m 112) (m₉ 113) (m₉ 114) (m₉ 94 55) (m 98) (m 101) (m 102) (m 108)) → (-1 ≤ v.toInt ∧ v.toInt ≤ 1500) → P (some (.inl v)) (zov wr_237 m m₉)) : zm X 5 108 237 0 [(0, .inr (.inr (some 94))), (1, .inl n)] m P := by
  have K : ∀ v m₉, zF wr_237 m m₉ → zV m₉ → (zGW T (m₉ 94 55) (m₉ 109)) → (zGU T (m₉ 94 46) (m₉ 99)) → (zOw (m₉ 99) (m₉ 103) (m₉ 111)) → (zDX (m₉ 94 10) (m₉ 99) (m₉ 112) (m₉ 113) (m₉ 114) (m₉ 94 55) (m₉ 98) (m₉ 101) (m₉ 102) (m₉ 108)) → (-1 ≤ v.toInt ∧ v.toInt ≤ 1500) → P (some (.inl v)) m₉ := by
    intro v m₉ hf z q0 q1 q2 q3 q4
    have e := zov_eq hf
    rw [e] at z ⊢
    try rw [e] at q0
    try rw [e] at q1
    try rw [e] at q2
    try rw [e] at q3
    skip
    exact KZ v m₉ z q0 q1 q2 q3 q4
  refine g_237_0 n ?_
  have b1 := i_bd n
  refine sp_224 (n) hV  (fun v2 m1 hV_m1 p0_m1 => zmi_n ?_)
  have p0_m1 : -1 ≤ v2.toInt ∧ v2.toInt ≤ 1500 := p0_m1
  have b2 := i_bd v2
  have li3 : (0 : Int32).toInt = 0 := rfl
  refine zd (fun (h4 : v2 < (0 : Int32)) => ?_) (fun (h4 : ¬ v2 < (0 : Int32)) => ?_)
  · skip
    have g5 := i_lt h4
    refine sp_187  hV_m1 r_W r_GW r_GU r_OW r_DX (fun v4 m3 hV_m3 p0_m3 p1_m3 p2_m3 p3_m3 p4_m3 => zmi_n ?_)
    have p0_m3 : zGW T (m3 94 55) (m3 109) := p0_m3
    have p1_m3 : zGU T (m 94 46) (m3 99) := p1_m3
    have p2_m3 : zOw (m3 99) (m 103) (m3 111) := p2_m3
    have p3_m3 : zDX (m 94 10) (m3 99) (m 112) (m3 113) (m3 114) (m3 94 55) (m 98) (m 101) (m 102) (m 108) := p3_m3
    have p4_m3 : zsw (m 99) (m3 99) (m 111) (m3 111) (m 103) := p4_m3
    refine sp_224 (n) hV_m3  (fun v6 m5 hV_m5 p0_m5 => zmi_n ?_)
    have p0_m5 : -1 ≤ v6.toInt ∧ v6.toInt ≤ 1500 := p0_m5
    have b6 := i_bd v6
    exact K (v6) _ (zF_zov (zF_zov (zF_zov zF_rfl ws_224_237) ws_187_237) ws_224_237) hV_m5 p0_m3 p1_m3 p2_m3 p3_m3 (show -1 ≤ v6.toInt ∧ v6.toInt ≤ 1500 from by omega)
  · skip
    have g7 := i_nlt h4
    exact K (v2) _ (zF_zov zF_rfl ws_224_237) hV_m1 r_GW r_GU r_OW r_DX (show -1 ≤ v2.toInt ∧ v2.toInt ≤ 1500 from by omega)

/-! from 94.428 -/
/-! counts that fall -/
def zgo (gm : Int32) (us : Nat → Int32) : Prop := gm.toInt + (cnt us 3100 : Int) ≤ 3100
def zgw (gw go ws : Nat → Int32) (gm : Int32) : Prop := ∀ j : Nat, (j : Int) < gm.toInt → (gw j).toInt ≤ (ws (go j).toNatClampNeg).toInt
def zlm (us gw : Nat → Int32) (gm : Int32) : Nat := cnt us 3100 * 400000 + gm.toInt.toNat * 100 + (if gm.toInt ≤ 0 then 0 else (61 - (gw (gm.toInt - 1).toNat).toInt).toNat)
section LE1
variable {m mg : Nat → Nat → Int32} {c d k : Nat} {gm gm₉ x y v i : Int32} {us gw go ws : Nat → Int32}
theorem go_room (h : zgo gm us) (hu : us k ≠ 0) (hk : k < 3100) : gm.toInt < 3100 := by
  have := cnt_pos hk hu
  unfold zgo at h
  omega
theorem go_push (h : zgo gm (m c)) (hu : m c k ≠ 0) (hk : k < 3100) (hy : gm₉.toInt = gm.toInt + 1) : zgo gm₉ (ma_u m c k 0 c) := by
  have := cnt_dn hk hu
  unfold zgo at h ⊢
  omega
theorem go_pop (h : zgo gm us) (hy : gm₉.toInt ≤ gm.toInt) : zgo gm₉ us := by
  unfold zgo at h ⊢
  omega
theorem go_0 (h : gm.toInt ≤ 0) : zgo gm us := by
  have := cnt_le (r := us) (n := 3100)
  unfold zgo
  omega
theorem gw_0 (h : gm.toInt ≤ 0) : zgw gw go ws gm := fun j hj => by omega
theorem gw_pop (h : zgw gw go ws gm) (hy : gm₉.toInt ≤ gm.toInt) : zgw gw go ws gm₉ := fun j hj => h j (by omega)
theorem gw_push (h : zgw (m c) (mg d) ws gm) (h0 : 0 ≤ gm.toInt) (hy : gm₉.toInt = gm.toInt + 1) (hx : x.toInt ≤ (ws v.toNatClampNeg).toInt) : zgw (ma_u m c gm.toNatClampNeg x c) (ma_u mg d gm.toNatClampNeg v d) ws gm₉ := by
  have e : gm.toNatClampNeg = gm.toInt.toNat := rfl
  intro j hj
  by_cases q : j = gm.toNatClampNeg
  · rw [q, mu_self, mu_self]; exact hx
  · rw [mu_ne q, mu_ne q]; exact h j (by omega)
theorem gw_adv (h : zgw (m c) go ws gm) (hx : x.toInt ≤ (ws (go k).toNatClampNeg).toInt) : zgw (ma_u m c k x c) go ws gm := by
  intro j hj
  rw [mu_at]
  split
  · next e => rw [e]; exact hx
  · exact h j hj
theorem lm_pop (h1 : 1 ≤ gm.toInt) (hy : gm₉.toInt = gm.toInt - 1) (hb : ∀ j : Nat, (j : Int) < gm.toInt → 0 ≤ (gw j).toInt ∧ (gw j).toInt ≤ 60) : zlm us gw gm₉ < zlm us gw gm := by
  unfold zlm
  rw [if_neg (show ¬ gm.toInt ≤ 0 by omega)]
  have b1 := hb (gm.toInt - 1).toNat (by omega)
  split
  · omega
  · have b2 := hb (gm₉.toInt - 1).toNat (by omega)
    omega
theorem lm_adv (h1 : 1 ≤ gm.toInt) (hk : (k : Int) = gm.toInt - 1) (hx : x.toInt = (m c k).toInt + 1) (hb : (m c k).toInt ≤ 60) : zlm us (ma_u m c k x c) gm < zlm us (m c) gm := by
  unfold zlm
  have e : (gm.toInt - 1).toNat = k := by omega
  rw [if_neg (show ¬ gm.toInt ≤ 0 by omega), if_neg (show ¬ gm.toInt ≤ 0 by omega), e, mu_self]
  omega
theorem lm_push (hu : m c k ≠ 0) (hk : k < 3100) (h0 : 0 ≤ gm.toInt) (h1 : gm.toInt < 3100) (hy : gm₉.toInt = gm.toInt + 1) (hx : x.toInt = 0) : zlm (ma_u m c k 0 c) (ma_u mg d gm.toNatClampNeg x d) gm₉ ≤ zlm (m c) (mg d) gm := by
  have e := cnt_dn hk hu
  unfold zlm
  have e1 : (gm₉.toInt - 1).toNat = gm.toNatClampNeg := by rw [tn_eq]; omega
  rw [if_neg (show ¬ gm₉.toInt ≤ 0 by omega), e1, mu_self]
  have e2 : cnt (m c) 3100 * 400000 = cnt (ma_u m c k 0 c) 3100 * 400000 + 400000 := by omega
  omega
end LE1

/-! from 94.429 -/
/-! the reference (written by wip/tools/gen94m.py) -/
set_option maxRecDepth 100000 in
theorem hm_242 : ma_md 242 = some (12, yX12_fall, cX12_fall, 2, none) := rfl
theorem s_120 : zs 120 = some (20, 3100) := rfl
theorem s_121 : zs 121 = some (20, 3100) := rfl
theorem r_94_78 : zfi 94 78 = some 120 := rfl
theorem r_94_79 : zfi 94 79 = some 121 := rfl
theorem f_12_92_12 : ma_fld 12 92 12 = some 78 := by decide +kernel
theorem f_12_95_12 : ma_fld 12 95 12 = some 79 := by decide +kernel
theorem f_12_390_12 : ma_fld 12 390 12 = some 80 := by decide +kernel
theorem p_12_390_12 : ma_pk 12 390 12 80 = true := by decide +kernel
theorem dX12_fall_0 : decode cX12_fall 0 = .ok (.aload_n 0, 1) := by decide +kernel
theorem dX12_fall_4 : decode cX12_fall 4 = .ok (.iload_n 1, 1) := by decide +kernel
theorem dX12_fall_5 : decode cX12_fall 5 = .ok (.dup2, 1) := by decide +kernel
theorem dX12_fall_7 : decode cX12_fall 7 = .ok (.iconst 1, 1) := by decide +kernel
theorem dX12_fall_8 : decode cX12_fall 8 = .ok (.isub, 1) := by decide +kernel
theorem dX12_fall_10 : decode cX12_fall 10 = .ok (.aload_n 0, 1) := by decide +kernel
theorem dX12_fall_14 : decode cX12_fall 14 = .ok (.iload_n 1, 1) := by decide +kernel
theorem dX12_fall_28 : decode cX12_fall 28 = .ok (.return_, 1) := by decide +kernel
theorem dX12_fall_19 : decode cX12_fall 19 = .ok (.aload_n 0, 1) := by decide +kernel
theorem dX12_fall_23 : decode cX12_fall 23 = .ok (.iload_n 1, 1) := by decide +kernel
theorem dX12_fall_29 : decode cX12_fall 29 = .ok (.aload_n 0, 1) := by decide +kernel
theorem dX12_fall_33 : decode cX12_fall 33 = .ok (.iload_n 1, 1) := by decide +kernel
theorem dX12_fall_44 : decode cX12_fall 44 = .ok (.aload_n 0, 1) := by decide +kernel
theorem dX12_fall_45 : decode cX12_fall 45 = .ok (.iload_n 1, 1) := by decide +kernel
theorem dX12_fall_46 : decode cX12_fall 46 = .ok (.invokevirtual 317, 3) := by decide +kernel
theorem dX12_fall_49 : decode cX12_fall 49 = .ok (.aload_n 0, 1) := by decide +kernel
theorem dX12_fall_50 : decode cX12_fall 50 = .ok (.iload_n 1, 1) := by decide +kernel
theorem dX12_fall_51 : decode cX12_fall 51 = .ok (.invokevirtual 333, 3) := by decide +kernel
theorem dX12_fall_54 : decode cX12_fall 54 = .ok (.aload_n 0, 1) := by decide +kernel
theorem dX12_fall_58 : decode cX12_fall 58 = .ok (.aload_n 0, 1) := by decide +kernel
theorem dX12_fall_62 : decode cX12_fall 62 = .ok (.iload_n 1, 1) := by decide +kernel
theorem dX12_fall_64 : decode cX12_fall 64 = .ok (.aload_n 0, 1) := by decide +kernel
theorem dX12_fall_68 : decode cX12_fall 68 = .ok (.aload_n 0, 1) := by decide +kernel
theorem dX12_fall_72 : decode cX12_fall 72 = .ok (.iconst 0, 1) := by decide +kernel
theorem dX12_fall_74 : decode cX12_fall 74 = .ok (.aload_n 0, 1) := by decide +kernel
theorem dX12_fall_75 : decode cX12_fall 75 = .ok (.dup, 1) := by decide +kernel
theorem dX12_fall_79 : decode cX12_fall 79 = .ok (.iconst 1, 1) := by decide +kernel
theorem dX12_fall_80 : decode cX12_fall 80 = .ok (.iadd, 1) := by decide +kernel
theorem dX12_fall_84 : decode cX12_fall 84 = .ok (.return_, 1) := by decide +kernel
theorem dX12_fall_81 : decode cX12_fall 81 = .ok (.putfield 390, 3) := by decide +kernel
theorem dX12_fall_76 : decode cX12_fall 76 = .ok (.getfield 390, 3) := by decide +kernel
theorem dX12_fall_73 : decode cX12_fall 73 = .ok (.iastore, 1) := by decide +kernel
theorem dX12_fall_69 : decode cX12_fall 69 = .ok (.getfield 390, 3) := by decide +kernel
theorem dX12_fall_65 : decode cX12_fall 65 = .ok (.getfield 95, 3) := by decide +kernel
theorem dX12_fall_63 : decode cX12_fall 63 = .ok (.iastore, 1) := by decide +kernel
theorem dX12_fall_59 : decode cX12_fall 59 = .ok (.getfield 390, 3) := by decide +kernel
theorem dX12_fall_55 : decode cX12_fall 55 = .ok (.getfield 92, 3) := by decide +kernel
theorem dX12_fall_38 : decode cX12_fall 38 = .ok (.aload_n 0, 1) := by decide +kernel
theorem dX12_fall_39 : decode cX12_fall 39 = .ok (.iload_n 1, 1) := by decide +kernel
theorem dX12_fall_40 : decode cX12_fall 40 = .ok (.invokevirtual 324, 3) := by decide +kernel
theorem dX12_fall_43 : decode cX12_fall 43 = .ok (.return_, 1) := by decide +kernel
theorem dX12_fall_35 : decode cX12_fall 35 = .ok (.ifCond .eq 9, 3) := by decide +kernel
theorem dX12_fall_34 : decode cX12_fall 34 = .ok (.baload, 1) := by decide +kernel
theorem dX12_fall_30 : decode cX12_fall 30 = .ok (.getfield 59, 3) := by decide +kernel
theorem dX12_fall_25 : decode cX12_fall 25 = .ok (.ifCond .ne 4, 3) := by decide +kernel
theorem dX12_fall_24 : decode cX12_fall 24 = .ok (.baload, 1) := by decide +kernel
theorem dX12_fall_20 : decode cX12_fall 20 = .ok (.getfield 27, 3) := by decide +kernel
theorem dX12_fall_16 : decode cX12_fall 16 = .ok (.ifCond .gt 12, 3) := by decide +kernel
theorem dX12_fall_15 : decode cX12_fall 15 = .ok (.iaload, 1) := by decide +kernel
theorem dX12_fall_11 : decode cX12_fall 11 = .ok (.getfield 46, 3) := by decide +kernel
theorem dX12_fall_9 : decode cX12_fall 9 = .ok (.iastore, 1) := by decide +kernel
theorem dX12_fall_6 : decode cX12_fall 6 = .ok (.iaload, 1) := by decide +kernel
theorem dX12_fall_1 : decode cX12_fall 1 = .ok (.getfield 46, 3) := by decide +kernel
def wr_242 (c k : Nat) : Bool := Nat.beq c 99 || Nat.beq c 105 || Nat.beq c 109 || Nat.beq c 111 || Nat.beq c 113 || Nat.beq c 114 || Nat.beq c 120 || Nat.beq c 121 || (Nat.beq c 94 && (Nat.beq k 44 || Nat.beq k 45 || Nat.beq k 49 || Nat.beq k 55 || Nat.beq k 80))
theorem ws_197_242 : ∀ c k, wr_197 c k = true → wr_242 c k = true := by
  intro c k h
  simp only [wr_197, Bool.or_eq_true, Bool.and_eq_true, Nat.beq_eq] at h
  rcases h with (((rfl | rfl) | rfl) | rfl) | ⟨rfl, rfl⟩ <;> rfl
theorem ws_198_242 : ∀ c k, wr_198 c k = true → wr_242 c k = true := by
  intro c k h
  simp only [wr_198, wr_242, Bool.or_eq_true, Bool.and_eq_true, Nat.beq_eq] at h ⊢
  omega
theorem g_242_0 {X : Nat × (Nat → Int32)} {m : Nat → Nat → Int32} {P : Option ma_V → (Nat → Nat → Int32) → Prop} (s : Int32) (h : (0 ≤ s ∧ s.toNatClampNeg < 3100) ∧ ((0 ≤ s ∧ s.toNatClampNeg < 3100) ∧ ((0 ≤ s ∧ s.toNatClampNeg < 3100) ∧ (if 0 < ((ma_u m 105 s.toNatClampNeg ((m 105 s.toNatClampNeg) - (1 : Int32))) 105 s.toNatClampNeg) then (P none (ma_u m 105 s.toNatClampNeg ((m 105 s.toNatClampNeg) - (1 : Int32)))) else ((0 ≤ s ∧ s.toNatClampNeg < 3100) ∧ (if (m 99 s.toNatClampNeg) = 0 then (P none (ma_u m 105 s.toNatClampNeg ((m 105 s.toNatClampNeg) - (1 : Int32)))) else ((0 ≤ s ∧ s.toNatClampNeg < 3100) ∧ (if (m 109 s.toNatClampNeg) = 0 then (zm X 0 0 198 0 [(0, .inr (.inr (some 94))), (1, .inl s)] (ma_u m 105 s.toNatClampNeg ((m 105 s.toNatClampNeg) - (1 : Int32))) (zmv (fun m1 => (0 ≤ s ∧ s.toNatClampNeg < 3100) ∧ ((0 ≤ s ∧ s.toNatClampNeg < 3100) ∧ ((0 ≤ (m1 103 s.toNatClampNeg) ∧ (m1 103 s.toNatClampNeg).toNatClampNeg < 4600) ∧ ((0 ≤ s ∧ s.toNatClampNeg < 3100) ∧ ((0 ≤ s ∧ s.toNatClampNeg < 3100) ∧ ((0 ≤ (m1 94 80) ∧ (m1 94 80).toNatClampNeg < 3100) ∧ ((0 ≤ (m1 94 80) ∧ (m1 94 80).toNatClampNeg < 3100) ∧ (P none (ma_u (ma_u (ma_u (ma_u (ma_u (ma_u (ma_u (ma_u m1 99 s.toNatClampNeg (0 : Int32)) 111 (m1 103 s.toNatClampNeg).toNatClampNeg (-1 : Int32)) 94 44 ((m1 94 44) - (1 : Int32))) 94 45 ((m1 94 45) - ((m1 102 s.toNatClampNeg) + (1 : Int32)))) 94 49 ((m1 94 49) + ((m1 102 s.toNatClampNeg) + (1 : Int32)))) 120 (m1 94 80).toNatClampNeg s) 121 (m1 94 80).toNatClampNeg (0 : Int32)) 94 80 ((m1 94 80) + (1 : Int32))))))))))))) else (zm X 1 22 197 0 [(0, .inr (.inr (some 94))), (1, .inl s)] (ma_u m 105 s.toNatClampNeg ((m 105 s.toNatClampNeg) - (1 : Int32))) (zmv (fun m3 => P none m3))))))))))) : zm X 2 43 242 0 [(0, .inr (.inr (some 94))), (1, .inl s)] m P := by
  intro d w S Q hd hw hS hm HQ
  subst hm
  refine zw_push hm_242 dX12_fall_0 (v := .inr (.inr (some 94))) rfl ?_
  refine zw_gf hm_242 dX12_fall_1 (v := .inr (.inr (some 105))) (zT_is hS s_94) (zT_t hS s_94) rfl f_12_46_12 (zT_f hS r_94_37) ?_
  refine zw_push hm_242 dX12_fall_4 (v := .inl s) rfl ?_
  refine zw_stk hm_242 dX12_fall_5 (st₉ := [.inl s, .inr (.inr (some 105)), .inl s, .inr (.inr (some 105))]) rfl rfl ?_
  obtain ⟨hg, h⟩ := h
  refine zw_ia hm_242 dX12_fall_6 (zT_is hS s_105) (zT_h hS s_105) rfl hg ?_
  show ma_wp X d w 242 7 [(0, .inr (.inr (some 94))), (1, .inl s)] [.inl ((mI S) 105 s.toNatClampNeg), .inl s, .inr (.inr (some 105))] S _
  refine zw_push hm_242 dX12_fall_7 (v := .inl (1 : Int32)) rfl ?_
  refine zw_stk hm_242 dX12_fall_8 (st₉ := [.inl (((mI S) 105 s.toNatClampNeg) - (1 : Int32)), .inl s, .inr (.inr (some 105))]) rfl rfl ?_
  obtain ⟨hg, h⟩ := h
  refine zw_ias hm_242 dX12_fall_9 (zT_is hS s_105) (zT_h hS s_105) rfl hg ?_
  refine zw_push hm_242 dX12_fall_10 (v := .inr (.inr (some 94))) rfl ?_
  refine zw_gf hm_242 dX12_fall_11 (v := .inr (.inr (some 105))) (zT_is (zT_pi hS) s_94) (zT_t (zT_pi hS) s_94) rfl f_12_46_12 (zT_f (zT_pi hS) r_94_37) ?_
  refine zw_push hm_242 dX12_fall_14 (v := .inl s) rfl ?_
  obtain ⟨hg, h⟩ := h
  refine zw_ia hm_242 dX12_fall_15 (zT_is (zT_pi hS) s_105) (zT_h (zT_pi hS) s_105) rfl hg ?_
  show ma_wp X d w 242 16 [(0, .inr (.inr (some 94))), (1, .inl s)] [.inl ((ma_u (mI S) 105 s.toNatClampNeg (((mI S) 105 s.toNatClampNeg) - (1 : Int32))) 105 s.toNatClampNeg)] (ma_put S 105 s.toNatClampNeg (.inl (((mI S) 105 s.toNatClampNeg) - (1 : Int32)))) _
  refine zw_if0 hm_242 dX12_fall_16 (t := 28) rfl zc0_gt ?_ ?_
  · intro hc
    rw [if_pos hc] at h
    exact zw_vret hm_242 dX12_fall_28 (HQ _ _ h)
  · intro hc
    rw [if_neg hc] at h
    refine zw_push hm_242 dX12_fall_19 (v := .inr (.inr (some 94))) rfl ?_
    refine zw_gf hm_242 dX12_fall_20 (v := .inr (.inr (some 99))) (zT_is (zT_pi hS) s_94) (zT_t (zT_pi hS) s_94) rfl f_12_27_12 (zT_f (zT_pi hS) r_94_31) ?_
    refine zw_push hm_242 dX12_fall_23 (v := .inl s) rfl ?_
    obtain ⟨hg, h⟩ := h
    refine zw_ba hm_242 dX12_fall_24 (zT_is (zT_pi hS) s_99) (zT_h (zT_pi hS) s_99) rfl rfl hg ?_
    show ma_wp X d w 242 25 [(0, .inr (.inr (some 94))), (1, .inl s)] [.inl ((mI S) 99 s.toNatClampNeg)] (ma_put S 105 s.toNatClampNeg (.inl (((mI S) 105 s.toNatClampNeg) - (1 : Int32)))) _
    refine zw_if0 hm_242 dX12_fall_25 (t := 29) rfl zc0_ne ?_ ?_
    · intro hc
      rw [if_neg hc] at h
      refine zw_push hm_242 dX12_fall_29 (v := .inr (.inr (some 94))) rfl ?_
      refine zw_gf hm_242 dX12_fall_30 (v := .inr (.inr (some 109))) (zT_is (zT_pi hS) s_94) (zT_t (zT_pi hS) s_94) rfl f_12_59_12 (zT_f (zT_pi hS) r_94_41) ?_
      refine zw_push hm_242 dX12_fall_33 (v := .inl s) rfl ?_
      obtain ⟨hg, h⟩ := h
      refine zw_ba hm_242 dX12_fall_34 (zT_is (zT_pi hS) s_109) (zT_h (zT_pi hS) s_109) rfl rfl hg ?_
      show ma_wp X d w 242 35 [(0, .inr (.inr (some 94))), (1, .inl s)] [.inl ((mI S) 109 s.toNatClampNeg)] (ma_put S 105 s.toNatClampNeg (.inl (((mI S) 105 s.toNatClampNeg) - (1 : Int32)))) _
      refine zw_if0 hm_242 dX12_fall_35 (t := 44) rfl zc0_eq ?_ ?_
      · intro hc
        rw [if_pos hc] at h
        refine zw_push hm_242 dX12_fall_44 (v := .inr (.inr (some 94))) rfl ?_
        refine zw_push hm_242 dX12_fall_45 (v := .inl s) rfl ?_
        refine zw_cv hm_242 dX12_fall_46 v_12_317_12 hm_198 [.inl s] [] rfl (zT_rt (zT_pi hS) s_94 rfl) ⟨by omega, by omega⟩ rfl (h _ _ (ma_put S 105 s.toNatClampNeg (.inl (((mI S) 105 s.toNatClampNeg) - (1 : Int32)))) _ (by omega) (by omega) (zT_pi hS) rfl (fun o9 m1 hv => ?_))
        obtain ⟨rfl, h⟩ := zmv_of hv
        show ma_wp X d w 242 49 [(0, .inr (.inr (some 94))), (1, .inl s)] [] (zst S m1) _
        refine zw_push hm_242 dX12_fall_49 (v := .inr (.inr (some 94))) rfl ?_
        refine zw_push hm_242 dX12_fall_50 (v := .inl s) rfl ?_
        refine zw_cv hm_242 dX12_fall_51 v_12_333_12 hm_203 [.inl s] [] rfl (zT_rt (zT_zst hS m1) s_94 rfl) ⟨by omega, by omega⟩ rfl ?_
        show ma_wp X (d - 1) (w - 21) 203 0 [(0, .inr (.inr (some 94))), (1, .inl s)] [] (zst S m1) _
        refine zw_push hm_203 dX12_remove_0 (v := .inr (.inr (some 94))) rfl ?_
        refine zw_gf hm_203 dX12_remove_1 (v := .inr (.inr (some 99))) (zT_is (zT_zst hS m1) s_94) (zT_t (zT_zst hS m1) s_94) rfl f_12_27_12 (zT_f (zT_zst hS m1) r_94_31) ?_
        refine zw_push hm_203 dX12_remove_4 (v := .inl s) rfl ?_
        refine zw_push hm_203 dX12_remove_5 (v := .inl (0 : Int32)) rfl ?_
        obtain ⟨hg, h⟩ := h
        refine zw_bas22l hm_203 dX12_remove_6 (hx := by decide) (yv := (0 : Int32)) (zT_is (zT_zst hS m1) s_99) (zT_h (zT_zst hS m1) s_99) rfl hg ?_
        refine zw_push hm_203 dX12_remove_7 (v := .inr (.inr (some 94))) rfl ?_
        refine zw_gf hm_203 dX12_remove_8 (v := .inr (.inr (some 111))) (zT_is (zT_pi (zT_zst hS m1)) s_94) (zT_t (zT_pi (zT_zst hS m1)) s_94) rfl f_12_65_12 (zT_f (zT_pi (zT_zst hS m1)) r_94_43) ?_
        refine zw_push hm_203 dX12_remove_11 (v := .inr (.inr (some 94))) rfl ?_
        refine zw_gf hm_203 dX12_remove_12 (v := .inr (.inr (some 103))) (zT_is (zT_pi (zT_zst hS m1)) s_94) (zT_t (zT_pi (zT_zst hS m1)) s_94) rfl f_12_40_12 (zT_f (zT_pi (zT_zst hS m1)) r_94_35) ?_
        refine zw_push hm_203 dX12_remove_15 (v := .inl s) rfl ?_
        obtain ⟨hg, h⟩ := h
        refine zw_ia hm_203 dX12_remove_16 (zT_is (zT_pi (zT_zst hS m1)) s_103) (zT_h (zT_pi (zT_zst hS m1)) s_103) rfl hg ?_
        show ma_wp X (d - 1) (w - 21) 203 17 [(0, .inr (.inr (some 94))), (1, .inl s)] [.inl (m1 103 s.toNatClampNeg), .inr (.inr (some 111))] (ma_put (zst S m1) 99 s.toNatClampNeg (.inl (0 : Int32))) _
        refine zw_push hm_203 dX12_remove_17 (v := .inl (-1 : Int32)) rfl ?_
        obtain ⟨hg, h⟩ := h
        refine zw_ias hm_203 dX12_remove_18 (zT_is (zT_pi (zT_zst hS m1)) s_111) (zT_h (zT_pi (zT_zst hS m1)) s_111) rfl hg ?_
        refine zw_push hm_203 dX12_remove_19 (v := .inr (.inr (some 94))) rfl ?_
        refine zw_stk hm_203 dX12_remove_20 (st₉ := [.inr (.inr (some 94)), .inr (.inr (some 94))]) rfl rfl ?_
        refine zw_gf hm_203 dX12_remove_21 (v := .inl (m1 94 44)) (zT_is (zT_pi (zT_pi (zT_zst hS m1))) s_94) (zT_t (zT_pi (zT_pi (zT_zst hS m1))) s_94) rfl f_12_240_12 rfl ?_
        refine zw_push hm_203 dX12_remove_24 (v := .inl (1 : Int32)) rfl ?_
        refine zw_stk hm_203 dX12_remove_25 (st₉ := [.inl ((m1 94 44) - (1 : Int32)), .inr (.inr (some 94))]) rfl rfl ?_
        refine zw_pf hm_203 dX12_remove_26 (zT_is (zT_pi (zT_pi (zT_zst hS m1))) s_94) (zT_t (zT_pi (zT_pi (zT_zst hS m1))) s_94) p_12_240_12 zk_int ?_
        refine zw_push hm_203 dX12_remove_29 (v := .inr (.inr (some 94))) rfl ?_
        refine zw_stk hm_203 dX12_remove_30 (st₉ := [.inr (.inr (some 94)), .inr (.inr (some 94))]) rfl rfl ?_
        refine zw_gf hm_203 dX12_remove_31 (v := .inl (m1 94 45)) (zT_is (zT_pi (zT_pi (zT_pi (zT_zst hS m1)))) s_94) (zT_t (zT_pi (zT_pi (zT_pi (zT_zst hS m1)))) s_94) rfl f_12_243_12 rfl ?_
        refine zw_push hm_203 dX12_remove_34 (v := .inr (.inr (some 94))) rfl ?_
        refine zw_push hm_203 dX12_remove_35 (v := .inl s) rfl ?_
        refine zw_cv hm_203 dX12_remove_36 v_12_327_12 hm_201 [.inl s] [.inl (m1 94 45), .inr (.inr (some 94))] rfl (zT_rt (zT_pi (zT_pi (zT_pi (zT_zst hS m1)))) s_94 rfl) ⟨by omega, by omega⟩ rfl ?_
        show ma_wp X ((d - 1) - 1) ((w - 21) - 21) 201 0 [(0, .inr (.inr (some 94))), (1, .inl s)] [] (ma_put (ma_put (ma_put (zst S m1) 99 s.toNatClampNeg (.inl (0 : Int32))) 111 (m1 103 s.toNatClampNeg).toNatClampNeg (.inl (-1 : Int32))) 94 44 (.inl ((m1 94 44) - (1 : Int32)))) _
        refine zw_push hm_201 dX12_sizeOf_0 (v := .inr (.inr (some 94))) rfl ?_
        refine zw_gf hm_201 dX12_sizeOf_1 (v := .inr (.inr (some 102))) (zT_is (zT_pi (zT_pi (zT_pi (zT_zst hS m1)))) s_94) (zT_t (zT_pi (zT_pi (zT_pi (zT_zst hS m1)))) s_94) rfl f_12_37_12 (zT_f (zT_pi (zT_pi (zT_pi (zT_zst hS m1)))) r_94_34) ?_
        refine zw_push hm_201 dX12_sizeOf_4 (v := .inl s) rfl ?_
        obtain ⟨hg, h⟩ := h
        refine zw_ia hm_201 dX12_sizeOf_5 (zT_is (zT_pi (zT_pi (zT_pi (zT_zst hS m1)))) s_102) (zT_h (zT_pi (zT_pi (zT_pi (zT_zst hS m1)))) s_102) rfl hg ?_
        show ma_wp X ((d - 1) - 1) ((w - 21) - 21) 201 6 [(0, .inr (.inr (some 94))), (1, .inl s)] [.inl (m1 102 s.toNatClampNeg)] (ma_put (ma_put (ma_put (zst S m1) 99 s.toNatClampNeg (.inl (0 : Int32))) 111 (m1 103 s.toNatClampNeg).toNatClampNeg (.inl (-1 : Int32))) 94 44 (.inl ((m1 94 44) - (1 : Int32)))) _
        refine zw_push hm_201 dX12_sizeOf_6 (v := .inl (1 : Int32)) rfl ?_
        refine zw_stk hm_201 dX12_sizeOf_7 (st₉ := [.inl ((m1 102 s.toNatClampNeg) + (1 : Int32))]) rfl rfl ?_
        refine zw_iret hm_201 dX12_sizeOf_8 ?_
        show ma_wp X (d - 1) (w - 21) 203 39 [(0, .inr (.inr (some 94))), (1, .inl s)] [.inl ((m1 102 s.toNatClampNeg) + (1 : Int32)), .inl (m1 94 45), .inr (.inr (some 94))] (ma_put (ma_put (ma_put (zst S m1) 99 s.toNatClampNeg (.inl (0 : Int32))) 111 (m1 103 s.toNatClampNeg).toNatClampNeg (.inl (-1 : Int32))) 94 44 (.inl ((m1 94 44) - (1 : Int32)))) _
        refine zw_stk hm_203 dX12_remove_39 (st₉ := [.inl ((m1 94 45) - ((m1 102 s.toNatClampNeg) + (1 : Int32))), .inr (.inr (some 94))]) rfl rfl ?_
        refine zw_pf hm_203 dX12_remove_40 (zT_is (zT_pi (zT_pi (zT_pi (zT_zst hS m1)))) s_94) (zT_t (zT_pi (zT_pi (zT_pi (zT_zst hS m1)))) s_94) p_12_243_12 zk_int ?_
        refine zw_push hm_203 dX12_remove_43 (v := .inr (.inr (some 94))) rfl ?_
        refine zw_stk hm_203 dX12_remove_44 (st₉ := [.inr (.inr (some 94)), .inr (.inr (some 94))]) rfl rfl ?_
        refine zw_gf hm_203 dX12_remove_45 (v := .inl (m1 94 49)) (zT_is (zT_pi (zT_pi (zT_pi (zT_pi (zT_zst hS m1))))) s_94) (zT_t (zT_pi (zT_pi (zT_pi (zT_pi (zT_zst hS m1))))) s_94) rfl f_12_255_12 rfl ?_
        refine zw_push hm_203 dX12_remove_48 (v := .inr (.inr (some 94))) rfl ?_
        refine zw_push hm_203 dX12_remove_49 (v := .inl s) rfl ?_
        refine zw_cv hm_203 dX12_remove_50 v_12_327_12 hm_201 [.inl s] [.inl (m1 94 49), .inr (.inr (some 94))] rfl (zT_rt (zT_pi (zT_pi (zT_pi (zT_pi (zT_zst hS m1))))) s_94 rfl) ⟨by omega, by omega⟩ rfl ?_
        show ma_wp X ((d - 1) - 1) ((w - 21) - 21) 201 0 [(0, .inr (.inr (some 94))), (1, .inl s)] [] (ma_put (ma_put (ma_put (ma_put (zst S m1) 99 s.toNatClampNeg (.inl (0 : Int32))) 111 (m1 103 s.toNatClampNeg).toNatClampNeg (.inl (-1 : Int32))) 94 44 (.inl ((m1 94 44) - (1 : Int32)))) 94 45 (.inl ((m1 94 45) - ((m1 102 s.toNatClampNeg) + (1 : Int32))))) _
        refine zw_push hm_201 dX12_sizeOf_0 (v := .inr (.inr (some 94))) rfl ?_
        refine zw_gf hm_201 dX12_sizeOf_1 (v := .inr (.inr (some 102))) (zT_is (zT_pi (zT_pi (zT_pi (zT_pi (zT_zst hS m1))))) s_94) (zT_t (zT_pi (zT_pi (zT_pi (zT_pi (zT_zst hS m1))))) s_94) rfl f_12_37_12 (zT_f (zT_pi (zT_pi (zT_pi (zT_pi (zT_zst hS m1))))) r_94_34) ?_
        refine zw_push hm_201 dX12_sizeOf_4 (v := .inl s) rfl ?_
        obtain ⟨hg, h⟩ := h
        refine zw_ia hm_201 dX12_sizeOf_5 (zT_is (zT_pi (zT_pi (zT_pi (zT_pi (zT_zst hS m1))))) s_102) (zT_h (zT_pi (zT_pi (zT_pi (zT_pi (zT_zst hS m1))))) s_102) rfl hg ?_
        show ma_wp X ((d - 1) - 1) ((w - 21) - 21) 201 6 [(0, .inr (.inr (some 94))), (1, .inl s)] [.inl (m1 102 s.toNatClampNeg)] (ma_put (ma_put (ma_put (ma_put (zst S m1) 99 s.toNatClampNeg (.inl (0 : Int32))) 111 (m1 103 s.toNatClampNeg).toNatClampNeg (.inl (-1 : Int32))) 94 44 (.inl ((m1 94 44) - (1 : Int32)))) 94 45 (.inl ((m1 94 45) - ((m1 102 s.toNatClampNeg) + (1 : Int32))))) _
        refine zw_push hm_201 dX12_sizeOf_6 (v := .inl (1 : Int32)) rfl ?_
        refine zw_stk hm_201 dX12_sizeOf_7 (st₉ := [.inl ((m1 102 s.toNatClampNeg) + (1 : Int32))]) rfl rfl ?_
        refine zw_iret hm_201 dX12_sizeOf_8 ?_
        show ma_wp X (d - 1) (w - 21) 203 53 [(0, .inr (.inr (some 94))), (1, .inl s)] [.inl ((m1 102 s.toNatClampNeg) + (1 : Int32)), .inl (m1 94 49), .inr (.inr (some 94))] (ma_put (ma_put (ma_put (ma_put (zst S m1) 99 s.toNatClampNeg (.inl (0 : Int32))) 111 (m1 103 s.toNatClampNeg).toNatClampNeg (.inl (-1 : Int32))) 94 44 (.inl ((m1 94 44) - (1 : Int32)))) 94 45 (.inl ((m1 94 45) - ((m1 102 s.toNatClampNeg) + (1 : Int32))))) _
        refine zw_stk hm_203 dX12_remove_53 (st₉ := [.inl ((m1 94 49) + ((m1 102 s.toNatClampNeg) + (1 : Int32))), .inr (.inr (some 94))]) rfl rfl ?_
        refine zw_pf hm_203 dX12_remove_54 (zT_is (zT_pi (zT_pi (zT_pi (zT_pi (zT_zst hS m1))))) s_94) (zT_t (zT_pi (zT_pi (zT_pi (zT_pi (zT_zst hS m1))))) s_94) p_12_255_12 zk_int ?_
        refine zw_vret hm_203 dX12_remove_57 ?_
        show ma_wp X d w 242 54 [(0, .inr (.inr (some 94))), (1, .inl s)] [] (ma_put (ma_put (ma_put (ma_put (ma_put (zst S m1) 99 s.toNatClampNeg (.inl (0 : Int32))) 111 (m1 103 s.toNatClampNeg).toNatClampNeg (.inl (-1 : Int32))) 94 44 (.inl ((m1 94 44) - (1 : Int32)))) 94 45 (.inl ((m1 94 45) - ((m1 102 s.toNatClampNeg) + (1 : Int32))))) 94 49 (.inl ((m1 94 49) + ((m1 102 s.toNatClampNeg) + (1 : Int32))))) _
        refine zw_push hm_242 dX12_fall_54 (v := .inr (.inr (some 94))) rfl ?_
        refine zw_gf hm_242 dX12_fall_55 (v := .inr (.inr (some 120))) (zT_is (zT_pi (zT_pi (zT_pi (zT_pi (zT_pi (zT_zst hS m1)))))) s_94) (zT_t (zT_pi (zT_pi (zT_pi (zT_pi (zT_pi (zT_zst hS m1)))))) s_94) rfl f_12_92_12 (zT_f (zT_pi (zT_pi (zT_pi (zT_pi (zT_pi (zT_zst hS m1)))))) r_94_78) ?_
        refine zw_push hm_242 dX12_fall_58 (v := .inr (.inr (some 94))) rfl ?_
        refine zw_gf hm_242 dX12_fall_59 (v := .inl (m1 94 80)) (zT_is (zT_pi (zT_pi (zT_pi (zT_pi (zT_pi (zT_zst hS m1)))))) s_94) (zT_t (zT_pi (zT_pi (zT_pi (zT_pi (zT_pi (zT_zst hS m1)))))) s_94) rfl f_12_390_12 rfl ?_
        refine zw_push hm_242 dX12_fall_62 (v := .inl s) rfl ?_
        obtain ⟨hg, h⟩ := h
        refine zw_ias hm_242 dX12_fall_63 (zT_is (zT_pi (zT_pi (zT_pi (zT_pi (zT_pi (zT_zst hS m1)))))) s_120) (zT_h (zT_pi (zT_pi (zT_pi (zT_pi (zT_pi (zT_zst hS m1)))))) s_120) rfl hg ?_
        refine zw_push hm_242 dX12_fall_64 (v := .inr (.inr (some 94))) rfl ?_
        refine zw_gf hm_242 dX12_fall_65 (v := .inr (.inr (some 121))) (zT_is (zT_pi (zT_pi (zT_pi (zT_pi (zT_pi (zT_pi (zT_zst hS m1))))))) s_94) (zT_t (zT_pi (zT_pi (zT_pi (zT_pi (zT_pi (zT_pi (zT_zst hS m1))))))) s_94) rfl f_12_95_12 (zT_f (zT_pi (zT_pi (zT_pi (zT_pi (zT_pi (zT_pi (zT_zst hS m1))))))) r_94_79) ?_
        refine zw_push hm_242 dX12_fall_68 (v := .inr (.inr (some 94))) rfl ?_
        refine zw_gf hm_242 dX12_fall_69 (v := .inl (m1 94 80)) (zT_is (zT_pi (zT_pi (zT_pi (zT_pi (zT_pi (zT_pi (zT_zst hS m1))))))) s_94) (zT_t (zT_pi (zT_pi (zT_pi (zT_pi (zT_pi (zT_pi (zT_zst hS m1))))))) s_94) rfl f_12_390_12 rfl ?_
        refine zw_push hm_242 dX12_fall_72 (v := .inl (0 : Int32)) rfl ?_
        obtain ⟨hg, h⟩ := h
        refine zw_ias hm_242 dX12_fall_73 (zT_is (zT_pi (zT_pi (zT_pi (zT_pi (zT_pi (zT_pi (zT_zst hS m1))))))) s_121) (zT_h (zT_pi (zT_pi (zT_pi (zT_pi (zT_pi (zT_pi (zT_zst hS m1))))))) s_121) rfl hg ?_
        refine zw_push hm_242 dX12_fall_74 (v := .inr (.inr (some 94))) rfl ?_
        refine zw_stk hm_242 dX12_fall_75 (st₉ := [.inr (.inr (some 94)), .inr (.inr (some 94))]) rfl rfl ?_
        refine zw_gf hm_242 dX12_fall_76 (v := .inl (m1 94 80)) (zT_is (zT_pi (zT_pi (zT_pi (zT_pi (zT_pi (zT_pi (zT_pi (zT_zst hS m1)))))))) s_94) (zT_t (zT_pi (zT_pi (zT_pi (zT_pi (zT_pi (zT_pi (zT_pi (zT_zst hS m1)))))))) s_94) rfl f_12_390_12 rfl ?_
        refine zw_push hm_242 dX12_fall_79 (v := .inl (1 : Int32)) rfl ?_
        refine zw_stk hm_242 dX12_fall_80 (st₉ := [.inl ((m1 94 80) + (1 : Int32)), .inr (.inr (some 94))]) rfl rfl ?_
        refine zw_pf hm_242 dX12_fall_81 (zT_is (zT_pi (zT_pi (zT_pi (zT_pi (zT_pi (zT_pi (zT_pi (zT_zst hS m1)))))))) s_94) (zT_t (zT_pi (zT_pi (zT_pi (zT_pi (zT_pi (zT_pi (zT_pi (zT_zst hS m1)))))))) s_94) p_12_390_12 zk_int ?_
        exact zw_vret hm_242 dX12_fall_84 (HQ _ _ h)
      · intro hc
        rw [if_neg hc] at h
        refine zw_push hm_242 dX12_fall_38 (v := .inr (.inr (some 94))) rfl ?_
        refine zw_push hm_242 dX12_fall_39 (v := .inl s) rfl ?_
        refine zw_cv hm_242 dX12_fall_40 v_12_324_12 hm_197 [.inl s] [] rfl (zT_rt (zT_pi hS) s_94 rfl) ⟨by omega, by omega⟩ rfl (h _ _ (ma_put S 105 s.toNatClampNeg (.inl (((mI S) 105 s.toNatClampNeg) - (1 : Int32)))) _ (by omega) (by omega) (zT_pi hS) rfl (fun o9 m3 hv => ?_))
        obtain ⟨rfl, h⟩ := zmv_of hv
        show ma_wp X d w 242 43 [(0, .inr (.inr (some 94))), (1, .inl s)] [] (zst S m3) _
        exact zw_vret hm_242 dX12_fall_43 (HQ _ _ h)
    · intro hc
      rw [if_pos (Classical.not_not.mp hc)] at h
      exact zw_vret hm_242 dX12_fall_28 (HQ _ _ h)
theorem sp_242 {X : Nat × (Nat → Int32)} {P : Option ma_V → (Nat → Nat → Int32) → Prop} {T : Nat} {m : Nat → Nat → Int32} (s : Int32) (hV : zV m) (hpre0 : 0 ≤ s.toInt) (hpre1 : s.toInt ≤ 3099) (hpre2 : (m 94 10).toInt = 4) (r_GW : zGW T (m 94 55) (m 109)) (r_GU : zGU T (m 94 46) (m 99)) (r_OW : zOw (m 99) (m 103) (m 111)) (r_DX : zDX (m 94 10) (m 99) (m 112) (m 113) (m 114) (m 94 55) (m 98) (m 101) (m 102) (m 108)) (r_GO : zgo (m 94 80) (m 99)) (r_GWD : zgw (m 121) (m 120) (m 102) (m 94 80)) (KZ : ∀ m₉, zV (zov wr_242 m m₉) → (zGW T (m₉ 94 55) (m₉ 109)) → (zGU T (m 94 46) (m₉ 99)) → (zOw (m₉ 99) (m 103) (m₉ 111)) → (zDX (m 94 10) (m₉ 99) (m 112) (m₉ 113) (m₉ 114) (m₉ 94 55) (m 98) (m 101) (m 102) (m 108)) → (zgo (m₉ 94 80) (m₉ 99)) → (zgw (m₉ 121) (m₉ 120) (m 102) (m₉ 94 80)) → (zlm (m₉ 99) (m₉ 121) (m₉ 94 80) ≤ zlm (m 99) (m 121) (m 94 80)) → P none (zov wr_242 m m₉)) : zm X 2 43 242 0 [(0, .inr (.inr (some 94))), (1, .inl s)] m P := by
  have K : ∀ m₉, zF wr_242 m m₉ → zV m₉ → (zGW T (m₉ 94 55) (m₉ 109)) → (zGU T (m₉ 94 46) (m₉ 99)) → (zOw (m₉ 99) (m₉ 103) (m₉ 111)) → (zDX (m₉ 94 10) (m₉ 99) (m₉ 112) (m₉ 113) (m₉ 114) (m₉ 94 55) (m₉ 98) (m₉ 101) (m₉ 102) (m₉ 108)) → (zgo (m₉ 94 80) (m₉ 99)) → (zgw (m₉ 121) (m₉ 120) (m₉ 102) (m₉ 94 80)) → (zlm (m₉ 99) (m₉ 121) (m₉ 94 80) ≤ zlm (m 99) (m 121) (m 94 80)) → P none m₉ := by
    intro m₉ hf z q0 q1 q2 q3 q4 q5 q6
    have e := zov_eq hf
    rw [e] at z ⊢
    try rw [e] at q0
    try rw [e] at q1
    try rw [e] at q2
    try rw [e] at q3
    try rw [e] at q4
    try rw [e] at q5
    try rw [e] at q6
    exact KZ m₉ z q0 q1 q2 q3 q4 q5 q6
  refine g_242_0 s ?_
  have f1 : 0 ≤ (m 94 10).toInt ∧ (m 94 10).toInt ≤ 6 := rs_94_10 (m := m) hV
  have b2 := i_bd s
  have hg3 : (0 ≤ s ∧ s.toNatClampNeg < 3100) := i_ix (by omega) (by omega)
  refine ⟨hg3, ?_⟩
  have hg4 : (0 ≤ s ∧ s.toNatClampNeg < 3100) := i_ix (by omega) (by omega)
  refine ⟨hg4, ?_⟩
  have hg5 : (0 ≤ s ∧ s.toNatClampNeg < 3100) := i_ix (by omega) (by omega)
  refine ⟨hg5, ?_⟩
  have li6 : (0 : Int32).toInt = 0 := rfl
  have b7 := i_bd (m 105 s.toNatClampNeg)
  first | have b9 := i_bd ((m 105 s.toNatClampNeg) - (1 : Int32)) | have e8 : ((m 105 s.toNatClampNeg) - (1 : Int32)).toInt = (m 105 s.toNatClampNeg).toInt - (1) := i_subk rfl (by omega) (by omega)
  have q10 : ((ma_u m 105 s.toNatClampNeg ((m 105 s.toNatClampNeg) - (1 : Int32))) 105 s.toNatClampNeg).toInt = ((m 105 s.toNatClampNeg) - (1 : Int32)).toInt := congrArg Int32.toInt mu_self
  have b11 := i_bd ((ma_u m 105 s.toNatClampNeg ((m 105 s.toNatClampNeg) - (1 : Int32))) 105 s.toNatClampNeg)
  refine zd (fun (h12 : (0 : Int32) < ((ma_u m 105 s.toNatClampNeg ((m 105 s.toNatClampNeg) - (1 : Int32))) 105 s.toNatClampNeg)) => ?_) (fun (h12 : ¬ (0 : Int32) < ((ma_u m 105 s.toNatClampNeg ((m 105 s.toNatClampNeg) - (1 : Int32))) 105 s.toNatClampNeg)) => ?_)
  · skip
    have g13 := i_lt h12
    have hV14 : zV (ma_u m 105 s.toNatClampNeg ((m 105 s.toNatClampNeg) - (1 : Int32))) := ua_105 hV
    exact K _ (zF_u zF_rfl rfl) hV14 r_GW r_GU r_OW r_DX r_GO r_GWD (show zlm (m 99) (m 121) (m 94 80) ≤ zlm (m 99) (m 121) (m 94 80) from by first | (exact Nat.le_refl _) | (exfalso; omega; done) | (exfalso; contradiction; done))
  · skip
    have g15 := i_nlt h12
    have hg16 : (0 ≤ s ∧ s.toNatClampNeg < 3100) := i_ix (by omega) (by omega)
    refine ⟨hg16, ?_⟩
    first | have f17 : 0 ≤ (m 99 s.toNatClampNeg).toInt ∧ (m 99 s.toNatClampNeg).toInt ≤ 1 := ra_99 (m := m) hV (k := s.toNatClampNeg) (i_ix (n := 3100) (by omega) (by omega)).2 | have b18 := i_bd (m 99 s.toNatClampNeg)
    refine zd (fun (h19 : (m 99 s.toNatClampNeg) = (0 : Int32)) => ?_) (fun (h19 : ¬ (m 99 s.toNatClampNeg) = (0 : Int32)) => ?_)
    · skip
      have g20 := i_eq h19
      have hV21 : zV (ma_u m 105 s.toNatClampNeg ((m 105 s.toNatClampNeg) - (1 : Int32))) := ua_105 hV
      exact K _ (zF_u zF_rfl rfl) hV21 r_GW r_GU r_OW r_DX r_GO r_GWD (show zlm (m 99) (m 121) (m 94 80) ≤ zlm (m 99) (m 121) (m 94 80) from by first | (exact Nat.le_refl _) | (exfalso; omega; done) | (exfalso; contradiction; done))
    · skip
      have g22 := i_ne h19
      have hg23 : (0 ≤ s ∧ s.toNatClampNeg < 3100) := i_ix (by omega) (by omega)
      refine ⟨hg23, ?_⟩
      first | have f24 : 0 ≤ (m 109 s.toNatClampNeg).toInt ∧ (m 109 s.toNatClampNeg).toInt ≤ 1 := ra_109 (m := m) hV (k := s.toNatClampNeg) (i_ix (n := 3100) (by omega) (by omega)).2 | have b25 := i_bd (m 109 s.toNatClampNeg)
      refine zd (fun (h26 : (m 109 s.toNatClampNeg) = (0 : Int32)) => ?_) (fun (h26 : ¬ (m 109 s.toNatClampNeg) = (0 : Int32)) => ?_)
      · skip
        have g27 := i_eq h26
        have hV28 : zV (ma_u m 105 s.toNatClampNeg ((m 105 s.toNatClampNeg) - (1 : Int32))) := ua_105 hV
        refine sp_198 (s) hV28  (fun m1 hV_m1 p0_m1 => zmv_n ?_)
        have p0_m1 : zuw (m 113) (m1 113) := p0_m1
        have hg29 : (0 ≤ s ∧ s.toNatClampNeg < 3100) := i_ix (by omega) (by omega)
        refine ⟨hg29, ?_⟩
        have hg30 : (0 ≤ s ∧ s.toNatClampNeg < 3100) := i_ix (by omega) (by omega)
        refine ⟨hg30, ?_⟩
        first | have f31 : 0 ≤ (m 103 s.toNatClampNeg).toInt ∧ (m 103 s.toNatClampNeg).toInt ≤ 4599 := ra_103 (m := m) hV (k := s.toNatClampNeg) (i_ix (n := 3100) (by omega) (by omega)).2 | have b32 := i_bd (m 103 s.toNatClampNeg)
        have hg33 : (0 ≤ (m 103 s.toNatClampNeg) ∧ (m 103 s.toNatClampNeg).toNatClampNeg < 4600) := i_ix (by omega) (by omega)
        refine ⟨hg33, ?_⟩
        have hg34 : (0 ≤ s ∧ s.toNatClampNeg < 3100) := i_ix (by omega) (by omega)
        refine ⟨hg34, ?_⟩
        have hg35 : (0 ≤ s ∧ s.toNatClampNeg < 3100) := i_ix (by omega) (by omega)
        refine ⟨hg35, ?_⟩
        have f36 : 0 ≤ (m 94 80).toInt ∧ (m 94 80).toInt ≤ 3100 := rs_94_80 (m := m) hV
        try have gk := go_room r_GO (by assumption) (by omega)
        have hg37 : (0 ≤ (m 94 80) ∧ (m 94 80).toNatClampNeg < 3100) := i_ix (by omega) (by omega)
        refine ⟨hg37, ?_⟩
        try have gk := go_room r_GO (by assumption) (by omega)
        have hg38 : (0 ≤ (m 94 80) ∧ (m 94 80).toNatClampNeg < 3100) := i_ix (by omega) (by omega)
        refine ⟨hg38, ?_⟩
        have hV39 : zV (ma_u (zov wr_198 (ma_u m 105 s.toNatClampNeg ((m 105 s.toNatClampNeg) - (1 : Int32))) m1) 99 s.toNatClampNeg (0 : Int32)) := ua_99 hV_m1 (by omega) (by omega)
        have li41 : (-1 : Int32).toInt = -1 := rfl
        have hV40 : zV (ma_u (ma_u (zov wr_198 (ma_u m 105 s.toNatClampNeg ((m 105 s.toNatClampNeg) - (1 : Int32))) m1) 99 s.toNatClampNeg (0 : Int32)) 111 (m 103 s.toNatClampNeg).toNatClampNeg (-1 : Int32)) := ua_111 hV39 (by omega) (by omega)
        have hV42 : zV (ma_u (ma_u (ma_u (zov wr_198 (ma_u m 105 s.toNatClampNeg ((m 105 s.toNatClampNeg) - (1 : Int32))) m1) 99 s.toNatClampNeg (0 : Int32)) 111 (m 103 s.toNatClampNeg).toNatClampNeg (-1 : Int32)) 94 44 ((m 94 44) - (1 : Int32))) := uf_94_44 hV40
        have hV43 : zV (ma_u (ma_u (ma_u (ma_u (zov wr_198 (ma_u m 105 s.toNatClampNeg ((m 105 s.toNatClampNeg) - (1 : Int32))) m1) 99 s.toNatClampNeg (0 : Int32)) 111 (m 103 s.toNatClampNeg).toNatClampNeg (-1 : Int32)) 94 44 ((m 94 44) - (1 : Int32))) 94 45 ((m 94 45) - ((m 102 s.toNatClampNeg) + (1 : Int32)))) := uf_94_45 hV42
        have hV44 : zV (ma_u (ma_u (ma_u (ma_u (ma_u (zov wr_198 (ma_u m 105 s.toNatClampNeg ((m 105 s.toNatClampNeg) - (1 : Int32))) m1) 99 s.toNatClampNeg (0 : Int32)) 111 (m 103 s.toNatClampNeg).toNatClampNeg (-1 : Int32)) 94 44 ((m 94 44) - (1 : Int32))) 94 45 ((m 94 45) - ((m 102 s.toNatClampNeg) + (1 : Int32)))) 94 49 ((m 94 49) + ((m 102 s.toNatClampNeg) + (1 : Int32)))) := uf_94_49 hV43
        have hV45 : zV (ma_u (ma_u (ma_u (ma_u (ma_u (ma_u (zov wr_198 (ma_u m 105 s.toNatClampNeg ((m 105 s.toNatClampNeg) - (1 : Int32))) m1) 99 s.toNatClampNeg (0 : Int32)) 111 (m 103 s.toNatClampNeg).toNatClampNeg (-1 : Int32)) 94 44 ((m 94 44) - (1 : Int32))) 94 45 ((m 94 45) - ((m 102 s.toNatClampNeg) + (1 : Int32)))) 94 49 ((m 94 49) + ((m 102 s.toNatClampNeg) + (1 : Int32)))) 120 (m 94 80).toNatClampNeg s) := ua_120 hV44 (by omega) (by omega)
        have hV46 : zV (ma_u (ma_u (ma_u (ma_u (ma_u (ma_u (ma_u (zov wr_198 (ma_u m 105 s.toNatClampNeg ((m 105 s.toNatClampNeg) - (1 : Int32))) m1) 99 s.toNatClampNeg (0 : Int32)) 111 (m 103 s.toNatClampNeg).toNatClampNeg (-1 : Int32)) 94 44 ((m 94 44) - (1 : Int32))) 94 45 ((m 94 45) - ((m 102 s.toNatClampNeg) + (1 : Int32)))) 94 49 ((m 94 49) + ((m 102 s.toNatClampNeg) + (1 : Int32)))) 120 (m 94 80).toNatClampNeg s) 121 (m 94 80).toNatClampNeg (0 : Int32)) := ua_121 hV45 (by omega) (by omega)
        first | have e48 : ((m 94 80) + (1 : Int32)).toInt = (m 94 80).toInt + (1) := i_addk rfl (by omega) (by omega) | have b49 := i_bd ((m 94 80) + (1 : Int32))
        have hV47 : zV (ma_u (ma_u (ma_u (ma_u (ma_u (ma_u (ma_u (ma_u (zov wr_198 (ma_u m 105 s.toNatClampNeg ((m 105 s.toNatClampNeg) - (1 : Int32))) m1) 99 s.toNatClampNeg (0 : Int32)) 111 (m 103 s.toNatClampNeg).toNatClampNeg (-1 : Int32)) 94 44 ((m 94 44) - (1 : Int32))) 94 45 ((m 94 45) - ((m 102 s.toNatClampNeg) + (1 : Int32)))) 94 49 ((m 94 49) + ((m 102 s.toNatClampNeg) + (1 : Int32)))) 120 (m 94 80).toNatClampNeg s) 121 (m 94 80).toNatClampNeg (0 : Int32)) 94 80 ((m 94 80) + (1 : Int32))) := us_94_80 hV46 (by omega) (by omega)
        exact K _ (zF_u (zF_u (zF_u (zF_u (zF_u (zF_u (zF_u (zF_u (zF_zov (zF_u zF_rfl rfl) ws_198_242) rfl) rfl) rfl) rfl) rfl) rfl) rfl) rfl) hV47 r_GW (show zGU T (m 94 46) ((ma_u m 99 s.toNatClampNeg (0 : Int32)) 99) from by first | (exact GU_0 r_GU) | (exfalso; omega; done) | (exfalso; contradiction; done)) (show zOw ((ma_u m 99 s.toNatClampNeg (0 : Int32)) 99) (m 103) ((ma_u m 111 (m 103 s.toNatClampNeg).toNatClampNeg (-1 : Int32)) 111) from by first | (exact Ow_rm r_OW (by decide) (tn_cast (by omega)).symm) | (exfalso; omega; done) | (exfalso; contradiction; done)) (show zDX (m 94 10) ((ma_u m 99 s.toNatClampNeg (0 : Int32)) 99) (m 112) (m1 113) (m 114) (m 94 55) (m 98) (m 101) (m 102) (m 108) from by first | (exact fun hp => absurd hp (by omega)) | (exfalso; omega; done) | (exfalso; contradiction; done)) (show zgo ((m 94 80) + (1 : Int32)) ((ma_u m 99 s.toNatClampNeg (0 : Int32)) 99) from by first | (exact go_push r_GO (by assumption) (by omega) (by omega)) | (exfalso; omega; done) | (exfalso; contradiction; done)) (show zgw ((ma_u m 121 (m 94 80).toNatClampNeg (0 : Int32)) 121) ((ma_u m 120 (m 94 80).toNatClampNeg s) 120) (m 102) ((m 94 80) + (1 : Int32)) from by first | (exact gw_push r_GWD (by omega) (by omega) (by have := ra_102 (m := m) hV (k := s.toNatClampNeg) (by omega); have z : (0 : Int32).toInt = 0 := rfl; omega)) | (exfalso; omega; done) | (exfalso; contradiction; done)) (show zlm ((ma_u m 99 s.toNatClampNeg (0 : Int32)) 99) ((ma_u m 121 (m 94 80).toNatClampNeg (0 : Int32)) 121) ((m 94 80) + (1 : Int32)) ≤ zlm (m 99) (m 121) (m 94 80) from by first | (have zq := lm_push (m := m) (c := 99) (mg := m) (d := 121) (k := s.toNatClampNeg) (gm := m 94 80) (gm₉ := (m 94 80) + (1 : Int32)) (x := (0 : Int32)) (by assumption) (by omega) (by omega) (by omega) (by omega) (by decide); exact zq; done) | (exfalso; omega; done) | (exfalso; contradiction; done))
      · skip
        have g50 := i_ne h26
        have hV51 : zV (ma_u m 105 s.toNatClampNeg ((m 105 s.toNatClampNeg) - (1 : Int32))) := ua_105 hV
        refine sp_197 (s) hV51 (by omega) (by omega) (show (m 109) s.toNatClampNeg ≠ 0 from by first | (assumption; done) | (exfalso; omega; done) | (exfalso; contradiction; done)) r_GW (fun m3 hV_m3 p0_m3 p1_m3 p2_m3 p3_m3 => zmv_n ?_)
        have p0_m3 : zGW T (m3 94 55) (m3 109) := p0_m3
        have p1_m3 : zuw (m 113) (m3 113) := p1_m3
        have p2_m3 : zwx (m 114) (m3 114) (m 94 55) s := p2_m3
        have p3_m3 : (m3 94 55).toInt = (m 94 55).toInt + 1 := p3_m3
        have f52 : 0 ≤ (m3 94 55).toInt ∧ (m3 94 55).toInt ≤ 3100 := rs_94_55 (m := (zov wr_197 (ma_u m 105 s.toNatClampNeg ((m 105 s.toNatClampNeg) - (1 : Int32))) m3)) hV_m3
        have f53 : 0 ≤ (m 94 55).toInt ∧ (m 94 55).toInt ≤ 3100 := rs_94_55 (m := m) hV
        exact K _ (zF_zov (zF_u zF_rfl rfl) ws_197_242) hV_m3 p0_m3 r_GU r_OW (show zDX (m 94 10) (m 99) (m 112) (m3 113) (m3 114) (m3 94 55) (m 98) (m 101) (m 102) (m 108) from by first | (exact fun hp => absurd hp (by omega)) | (exfalso; omega; done) | (exfalso; contradiction; done)) r_GO r_GWD (show zlm (m 99) (m 121) (m 94 80) ≤ zlm (m 99) (m 121) (m 94 80) from by first | (exact Nat.le_refl _) | (exfalso; omega; done) | (exfalso; contradiction; done))

/-! from 94.430 -/
/-! the reference (written by wip/tools/gen94m.py) -/
set_option maxRecDepth 100000 in
theorem hm_241 : ma_md 241 = some (12, yX12_less, cX12_less, 5, none) := rfl
theorem v_12_393_12 : ma_vl 12 393 12 = some (1, 242, 1) := by decide +kernel
theorem dX12_less_0 : decode cX12_less 0 = .ok (.iload_n 1, 1) := by decide +kernel
theorem dX12_less_12 : decode cX12_less 12 = .ok (.return_, 1) := by decide +kernel
theorem dX12_less_4 : decode cX12_less 4 = .ok (.aload_n 0, 1) := by decide +kernel
theorem dX12_less_8 : decode cX12_less 8 = .ok (.iconst 4, 1) := by decide +kernel
theorem dX12_less_13 : decode cX12_less 13 = .ok (.aload_n 0, 1) := by decide +kernel
theorem dX12_less_14 : decode cX12_less 14 = .ok (.iconst 0, 1) := by decide +kernel
theorem dX12_less_18 : decode cX12_less 18 = .ok (.aload_n 0, 1) := by decide +kernel
theorem dX12_less_19 : decode cX12_less 19 = .ok (.iload_n 1, 1) := by decide +kernel
theorem dX12_less_20 : decode cX12_less 20 = .ok (.invokevirtual 393, 3) := by decide +kernel
theorem dX12_less_15 : decode cX12_less 15 = .ok (.putfield 390, 3) := by decide +kernel
theorem dX12_less_9 : decode cX12_less 9 = .ok (.if_icmp .eq 4, 3) := by decide +kernel
theorem dX12_less_5 : decode cX12_less 5 = .ok (.getfield 199, 3) := by decide +kernel
theorem dX12_less_1 : decode cX12_less 1 = .ok (.ifCond .lt 11, 3) := by decide +kernel
theorem dX12_less_23 : decode cX12_less 23 = .ok (.aload_n 0, 1) := by decide +kernel
theorem dX12_less_114 : decode cX12_less 114 = .ok (.return_, 1) := by decide +kernel
theorem dX12_less_30 : decode cX12_less 30 = .ok (.aload_n 0, 1) := by decide +kernel
theorem dX12_less_34 : decode cX12_less 34 = .ok (.aload_n 0, 1) := by decide +kernel
theorem dX12_less_38 : decode cX12_less 38 = .ok (.iconst 1, 1) := by decide +kernel
theorem dX12_less_39 : decode cX12_less 39 = .ok (.isub, 1) := by decide +kernel
theorem dX12_less_41 : decode cX12_less 41 = .ok (.istore_n 2, 1) := by decide +kernel
theorem dX12_less_42 : decode cX12_less 42 = .ok (.aload_n 0, 1) := by decide +kernel
theorem dX12_less_46 : decode cX12_less 46 = .ok (.aload_n 0, 1) := by decide +kernel
theorem dX12_less_50 : decode cX12_less 50 = .ok (.iconst 1, 1) := by decide +kernel
theorem dX12_less_51 : decode cX12_less 51 = .ok (.isub, 1) := by decide +kernel
theorem dX12_less_53 : decode cX12_less 53 = .ok (.istore_n 3, 1) := by decide +kernel
theorem dX12_less_54 : decode cX12_less 54 = .ok (.iload_n 3, 1) := by decide +kernel
theorem dX12_less_55 : decode cX12_less 55 = .ok (.aload_n 0, 1) := by decide +kernel
theorem dX12_less_59 : decode cX12_less 59 = .ok (.iload_n 2, 1) := by decide +kernel
theorem dX12_less_77 : decode cX12_less 77 = .ok (.aload_n 0, 1) := by decide +kernel
theorem dX12_less_81 : decode cX12_less 81 = .ok (.aload_n 0, 1) := by decide +kernel
theorem dX12_less_85 : decode cX12_less 85 = .ok (.iconst 1, 1) := by decide +kernel
theorem dX12_less_86 : decode cX12_less 86 = .ok (.isub, 1) := by decide +kernel
theorem dX12_less_87 : decode cX12_less 87 = .ok (.dup2, 1) := by decide +kernel
theorem dX12_less_89 : decode cX12_less 89 = .ok (.iconst 1, 1) := by decide +kernel
theorem dX12_less_90 : decode cX12_less 90 = .ok (.iadd, 1) := by decide +kernel
theorem dX12_less_92 : decode cX12_less 92 = .ok (.aload_n 0, 1) := by decide +kernel
theorem dX12_less_93 : decode cX12_less 93 = .ok (.iload_n 2, 1) := by decide +kernel
theorem dX12_less_94 : decode cX12_less 94 = .ok (.iload_n 3, 1) := by decide +kernel
theorem dX12_less_95 : decode cX12_less 95 = .ok (.invokevirtual 294, 3) := by decide +kernel
theorem dX12_less_98 : decode cX12_less 98 = .ok (.istore 4, 2) := by decide +kernel
theorem dX12_less_100 : decode cX12_less 100 = .ok (.iload 4, 2) := by decide +kernel
theorem dX12_less_111 : decode cX12_less 111 = .ok (.goto (-88), 3) := by decide +kernel
theorem dX12_less_105 : decode cX12_less 105 = .ok (.aload_n 0, 1) := by decide +kernel
theorem dX12_less_106 : decode cX12_less 106 = .ok (.iload 4, 2) := by decide +kernel
theorem dX12_less_108 : decode cX12_less 108 = .ok (.invokevirtual 393, 3) := by decide +kernel
theorem dX12_less_102 : decode cX12_less 102 = .ok (.ifCond .lt 9, 3) := by decide +kernel
theorem dX12_less_91 : decode cX12_less 91 = .ok (.iastore, 1) := by decide +kernel
theorem dX12_less_88 : decode cX12_less 88 = .ok (.iaload, 1) := by decide +kernel
theorem dX12_less_82 : decode cX12_less 82 = .ok (.getfield 390, 3) := by decide +kernel
theorem dX12_less_78 : decode cX12_less 78 = .ok (.getfield 95, 3) := by decide +kernel
theorem dX12_less_64 : decode cX12_less 64 = .ok (.aload_n 0, 1) := by decide +kernel
theorem dX12_less_65 : decode cX12_less 65 = .ok (.dup, 1) := by decide +kernel
theorem dX12_less_69 : decode cX12_less 69 = .ok (.iconst 1, 1) := by decide +kernel
theorem dX12_less_70 : decode cX12_less 70 = .ok (.isub, 1) := by decide +kernel
theorem dX12_less_74 : decode cX12_less 74 = .ok (.goto (-51), 3) := by decide +kernel
theorem dX12_less_71 : decode cX12_less 71 = .ok (.putfield 390, 3) := by decide +kernel
theorem dX12_less_66 : decode cX12_less 66 = .ok (.getfield 390, 3) := by decide +kernel
theorem dX12_less_61 : decode cX12_less 61 = .ok (.if_icmp .ne 16, 3) := by decide +kernel
theorem dX12_less_60 : decode cX12_less 60 = .ok (.iaload, 1) := by decide +kernel
theorem dX12_less_56 : decode cX12_less 56 = .ok (.getfield 37, 3) := by decide +kernel
theorem dX12_less_52 : decode cX12_less 52 = .ok (.iaload, 1) := by decide +kernel
theorem dX12_less_47 : decode cX12_less 47 = .ok (.getfield 390, 3) := by decide +kernel
theorem dX12_less_43 : decode cX12_less 43 = .ok (.getfield 95, 3) := by decide +kernel
theorem dX12_less_40 : decode cX12_less 40 = .ok (.iaload, 1) := by decide +kernel
theorem dX12_less_35 : decode cX12_less 35 = .ok (.getfield 390, 3) := by decide +kernel
theorem dX12_less_31 : decode cX12_less 31 = .ok (.getfield 92, 3) := by decide +kernel
theorem dX12_less_27 : decode cX12_less 27 = .ok (.ifCond .le 87, 3) := by decide +kernel
theorem dX12_less_24 : decode cX12_less 24 = .ok (.getfield 390, 3) := by decide +kernel
def wr_241 (c k : Nat) : Bool := Nat.beq c 99 || Nat.beq c 105 || Nat.beq c 109 || Nat.beq c 111 || Nat.beq c 113 || Nat.beq c 114 || Nat.beq c 120 || Nat.beq c 121 || (Nat.beq c 94 && (Nat.beq k 44 || Nat.beq k 45 || Nat.beq k 49 || Nat.beq k 55 || Nat.beq k 80))
theorem ws_192_241 : ∀ c k, wr_192 c k = true → wr_241 c k = true := fun _ _ h => by cases h
theorem ws_242_241 : ∀ c k, wr_242 c k = true → wr_241 c k = true := by
  intro c k h
  simp only [wr_242, Bool.or_eq_true, Bool.and_eq_true, Nat.beq_eq] at h
  rcases h with (((((((rfl | rfl) | rfl) | rfl) | rfl) | rfl) | rfl) | rfl) | ⟨rfl, ((((rfl | rfl) | rfl) | rfl) | rfl)⟩ <;> rfl
theorem g_241_0 {X : Nat × (Nat → Int32)} {m : Nat → Nat → Int32} {P : Option ma_V → (Nat → Nat → Int32) → Prop} (s : Int32) (h : if s < 0 then (P none m) else (if (m 94 10) = (4 : Int32) then (zm X 2 43 242 0 [(0, .inr (.inr (some 94))), (1, .inl s)] (ma_u m 94 80 (0 : Int32)) (zmv (fun m1 => zm X 3 64 241 23 [(0, .inr (.inr (some 94)))] m1 P))) else (P none m))) : zm X 3 64 241 0 [(0, .inr (.inr (some 94))), (1, .inl s)] m P := by
  intro d w S Q hd hw hS hm HQ
  subst hm
  refine zw_push hm_241 dX12_less_0 (v := .inl s) rfl ?_
  refine zw_if0 hm_241 dX12_less_1 (t := 12) rfl zc0_lt ?_ ?_
  · intro hc
    rw [if_pos hc] at h
    exact zw_vret hm_241 dX12_less_12 (HQ _ _ h)
  · intro hc
    rw [if_neg hc] at h
    refine zw_push hm_241 dX12_less_4 (v := .inr (.inr (some 94))) rfl ?_
    refine zw_gf hm_241 dX12_less_5 (v := .inl ((mI S) 94 10)) (zT_is hS s_94) (zT_t hS s_94) rfl f_12_199_12 rfl ?_
    refine zw_push hm_241 dX12_less_8 (v := .inl (4 : Int32)) rfl ?_
    refine zw_if2 hm_241 dX12_less_9 (t := 13) rfl zc2_eq ?_ ?_
    · intro hc
      rw [if_pos hc] at h
      refine zw_push hm_241 dX12_less_13 (v := .inr (.inr (some 94))) rfl ?_
      refine zw_push hm_241 dX12_less_14 (v := .inl (0 : Int32)) rfl ?_
      refine zw_pf hm_241 dX12_less_15 (zT_is hS s_94) (zT_t hS s_94) p_12_390_12 zk_int ?_
      refine zw_push hm_241 dX12_less_18 (v := .inr (.inr (some 94))) rfl ?_
      refine zw_push hm_241 dX12_less_19 (v := .inl s) rfl ?_
      refine zw_cv hm_241 dX12_less_20 v_12_393_12 hm_242 [.inl s] [] rfl (zT_rt (zT_pi hS) s_94 rfl) ⟨by omega, by omega⟩ rfl (h _ _ (ma_put S 94 80 (.inl (0 : Int32))) _ (by omega) (by omega) (zT_pi hS) rfl (fun o9 m1 hv => ?_))
      obtain ⟨rfl, h⟩ := zmv_of hv
      show ma_wp X d w 241 23 [(0, .inr (.inr (some 94))), (1, .inl s)] [] (zst S m1) _
      exact zw_sub (ma_nd_of (ks := [0]) rfl (by decide)) (ma_nd_of (ks := [0, 1]) rfl (by decide)) (ma_le_cons rfl (ma_le_nil _)) (h d w _ Q (by omega) (by omega) (zT_zst hS m1) rfl HQ)
    · intro hc
      rw [if_neg hc] at h
      exact zw_vret hm_241 dX12_less_12 (HQ _ _ h)
theorem g_241_23 {X : Nat × (Nat → Int32)} {m : Nat → Nat → Int32} {P : Option ma_V → (Nat → Nat → Int32) → Prop}  (h : if (m 94 80) ≤ 0 then (P none m) else ((0 ≤ ((m 94 80) - (1 : Int32)) ∧ ((m 94 80) - (1 : Int32)).toNatClampNeg < 3100) ∧ ((0 ≤ ((m 94 80) - (1 : Int32)) ∧ ((m 94 80) - (1 : Int32)).toNatClampNeg < 3100) ∧ ((0 ≤ (m 120 ((m 94 80) - (1 : Int32)).toNatClampNeg) ∧ (m 120 ((m 94 80) - (1 : Int32)).toNatClampNeg).toNatClampNeg < 3100) ∧ (if (m 121 ((m 94 80) - (1 : Int32)).toNatClampNeg) = (m 102 (m 120 ((m 94 80) - (1 : Int32)).toNatClampNeg).toNatClampNeg) then (zm X 3 64 241 23 [(0, .inr (.inr (some 94)))] (ma_u m 94 80 ((m 94 80) - (1 : Int32))) P) else ((0 ≤ ((m 94 80) - (1 : Int32)) ∧ ((m 94 80) - (1 : Int32)).toNatClampNeg < 3100) ∧ ((0 ≤ ((m 94 80) - (1 : Int32)) ∧ ((m 94 80) - (1 : Int32)).toNatClampNeg < 3100) ∧ (zm X 1 22 192 0 [(0, .inr (.inr (some 94))), (1, .inl (m 120 ((m 94 80) - (1 : Int32)).toNatClampNeg)), (2, .inl (m 121 ((m 94 80) - (1 : Int32)).toNatClampNeg))] (ma_u m 121 ((m 94 80) - (1 : Int32)).toNatClampNeg ((m 121 ((m 94 80) - (1 : Int32)).toNatClampNeg) + (1 : Int32))) (zmi (fun v2 m1 => if v2 < 0 then (zm X 3 64 241 23 [(0, .inr (.inr (some 94)))] m1 P) else (zm X 2 43 242 0 [(0, .inr (.inr (some 94))), (1, .inl v2)] m1 (zmv (fun m3 => zm X 3 64 241 23 [(0, .inr (.inr (some 94)))] m3 P))))))))))))) : zm X 3 64 241 23 [(0, .inr (.inr (some 94)))] m P := by
  intro d w S Q hd hw hS hm HQ
  subst hm
  refine zw_push hm_241 dX12_less_23 (v := .inr (.inr (some 94))) rfl ?_
  refine zw_gf hm_241 dX12_less_24 (v := .inl ((mI S) 94 80)) (zT_is hS s_94) (zT_t hS s_94) rfl f_12_390_12 rfl ?_
  refine zw_if0 hm_241 dX12_less_27 (t := 114) rfl zc0_le ?_ ?_
  · intro hc
    rw [if_pos hc] at h
    exact zw_vret hm_241 dX12_less_114 (HQ _ _ h)
  · intro hc
    rw [if_neg hc] at h
    refine zw_push hm_241 dX12_less_30 (v := .inr (.inr (some 94))) rfl ?_
    refine zw_gf hm_241 dX12_less_31 (v := .inr (.inr (some 120))) (zT_is hS s_94) (zT_t hS s_94) rfl f_12_92_12 (zT_f hS r_94_78) ?_
    refine zw_push hm_241 dX12_less_34 (v := .inr (.inr (some 94))) rfl ?_
    refine zw_gf hm_241 dX12_less_35 (v := .inl ((mI S) 94 80)) (zT_is hS s_94) (zT_t hS s_94) rfl f_12_390_12 rfl ?_
    refine zw_push hm_241 dX12_less_38 (v := .inl (1 : Int32)) rfl ?_
    refine zw_stk hm_241 dX12_less_39 (st₉ := [.inl (((mI S) 94 80) - (1 : Int32)), .inr (.inr (some 120))]) rfl rfl ?_
    obtain ⟨hg, h⟩ := h
    refine zw_ia hm_241 dX12_less_40 (zT_is hS s_120) (zT_h hS s_120) rfl hg ?_
    show ma_wp X d w 241 41 [(0, .inr (.inr (some 94)))] [.inl ((mI S) 120 (((mI S) 94 80) - (1 : Int32)).toNatClampNeg)] S _
    refine zw_sto hm_241 dX12_less_41 [(2, .inl ((mI S) 120 (((mI S) 94 80) - (1 : Int32)).toNatClampNeg)), (0, .inr (.inr (some 94)))] rfl rfl rfl ?_
    refine zw_push hm_241 dX12_less_42 (v := .inr (.inr (some 94))) rfl ?_
    refine zw_gf hm_241 dX12_less_43 (v := .inr (.inr (some 121))) (zT_is hS s_94) (zT_t hS s_94) rfl f_12_95_12 (zT_f hS r_94_79) ?_
    refine zw_push hm_241 dX12_less_46 (v := .inr (.inr (some 94))) rfl ?_
    refine zw_gf hm_241 dX12_less_47 (v := .inl ((mI S) 94 80)) (zT_is hS s_94) (zT_t hS s_94) rfl f_12_390_12 rfl ?_
    refine zw_push hm_241 dX12_less_50 (v := .inl (1 : Int32)) rfl ?_
    refine zw_stk hm_241 dX12_less_51 (st₉ := [.inl (((mI S) 94 80) - (1 : Int32)), .inr (.inr (some 121))]) rfl rfl ?_
    obtain ⟨hg, h⟩ := h
    refine zw_ia hm_241 dX12_less_52 (zT_is hS s_121) (zT_h hS s_121) rfl hg ?_
    show ma_wp X d w 241 53 [(2, .inl ((mI S) 120 (((mI S) 94 80) - (1 : Int32)).toNatClampNeg)), (0, .inr (.inr (some 94)))] [.inl ((mI S) 121 (((mI S) 94 80) - (1 : Int32)).toNatClampNeg)] S _
    refine zw_sto hm_241 dX12_less_53 [(3, .inl ((mI S) 121 (((mI S) 94 80) - (1 : Int32)).toNatClampNeg)), (2, .inl ((mI S) 120 (((mI S) 94 80) - (1 : Int32)).toNatClampNeg)), (0, .inr (.inr (some 94)))] rfl rfl rfl ?_
    refine zw_push hm_241 dX12_less_54 (v := .inl ((mI S) 121 (((mI S) 94 80) - (1 : Int32)).toNatClampNeg)) rfl ?_
    refine zw_push hm_241 dX12_less_55 (v := .inr (.inr (some 94))) rfl ?_
    refine zw_gf hm_241 dX12_less_56 (v := .inr (.inr (some 102))) (zT_is hS s_94) (zT_t hS s_94) rfl f_12_37_12 (zT_f hS r_94_34) ?_
    refine zw_push hm_241 dX12_less_59 (v := .inl ((mI S) 120 (((mI S) 94 80) - (1 : Int32)).toNatClampNeg)) rfl ?_
    obtain ⟨hg, h⟩ := h
    refine zw_ia hm_241 dX12_less_60 (zT_is hS s_102) (zT_h hS s_102) rfl hg ?_
    show ma_wp X d w 241 61 [(3, .inl ((mI S) 121 (((mI S) 94 80) - (1 : Int32)).toNatClampNeg)), (2, .inl ((mI S) 120 (((mI S) 94 80) - (1 : Int32)).toNatClampNeg)), (0, .inr (.inr (some 94)))] [.inl ((mI S) 102 ((mI S) 120 (((mI S) 94 80) - (1 : Int32)).toNatClampNeg).toNatClampNeg), .inl ((mI S) 121 (((mI S) 94 80) - (1 : Int32)).toNatClampNeg)] S _
    refine zw_if2 hm_241 dX12_less_61 (t := 77) rfl zc2_ne ?_ ?_
    · intro hc
      rw [if_neg hc] at h
      refine zw_push hm_241 dX12_less_77 (v := .inr (.inr (some 94))) rfl ?_
      refine zw_gf hm_241 dX12_less_78 (v := .inr (.inr (some 121))) (zT_is hS s_94) (zT_t hS s_94) rfl f_12_95_12 (zT_f hS r_94_79) ?_
      refine zw_push hm_241 dX12_less_81 (v := .inr (.inr (some 94))) rfl ?_
      refine zw_gf hm_241 dX12_less_82 (v := .inl ((mI S) 94 80)) (zT_is hS s_94) (zT_t hS s_94) rfl f_12_390_12 rfl ?_
      refine zw_push hm_241 dX12_less_85 (v := .inl (1 : Int32)) rfl ?_
      refine zw_stk hm_241 dX12_less_86 (st₉ := [.inl (((mI S) 94 80) - (1 : Int32)), .inr (.inr (some 121))]) rfl rfl ?_
      refine zw_stk hm_241 dX12_less_87 (st₉ := [.inl (((mI S) 94 80) - (1 : Int32)), .inr (.inr (some 121)), .inl (((mI S) 94 80) - (1 : Int32)), .inr (.inr (some 121))]) rfl rfl ?_
      obtain ⟨hg, h⟩ := h
      refine zw_ia hm_241 dX12_less_88 (zT_is hS s_121) (zT_h hS s_121) rfl hg ?_
      show ma_wp X d w 241 89 [(3, .inl ((mI S) 121 (((mI S) 94 80) - (1 : Int32)).toNatClampNeg)), (2, .inl ((mI S) 120 (((mI S) 94 80) - (1 : Int32)).toNatClampNeg)), (0, .inr (.inr (some 94)))] [.inl ((mI S) 121 (((mI S) 94 80) - (1 : Int32)).toNatClampNeg), .inl (((mI S) 94 80) - (1 : Int32)), .inr (.inr (some 121))] S _
      refine zw_push hm_241 dX12_less_89 (v := .inl (1 : Int32)) rfl ?_
      refine zw_stk hm_241 dX12_less_90 (st₉ := [.inl (((mI S) 121 (((mI S) 94 80) - (1 : Int32)).toNatClampNeg) + (1 : Int32)), .inl (((mI S) 94 80) - (1 : Int32)), .inr (.inr (some 121))]) rfl rfl ?_
      obtain ⟨hg, h⟩ := h
      refine zw_ias hm_241 dX12_less_91 (zT_is hS s_121) (zT_h hS s_121) rfl hg ?_
      refine zw_push hm_241 dX12_less_92 (v := .inr (.inr (some 94))) rfl ?_
      refine zw_push hm_241 dX12_less_93 (v := .inl ((mI S) 120 (((mI S) 94 80) - (1 : Int32)).toNatClampNeg)) rfl ?_
      refine zw_push hm_241 dX12_less_94 (v := .inl ((mI S) 121 (((mI S) 94 80) - (1 : Int32)).toNatClampNeg)) rfl ?_
      refine zw_cv hm_241 dX12_less_95 v_12_294_12 hm_192 [.inl ((mI S) 121 (((mI S) 94 80) - (1 : Int32)).toNatClampNeg), .inl ((mI S) 120 (((mI S) 94 80) - (1 : Int32)).toNatClampNeg)] [] rfl (zT_rt (zT_pi hS) s_94 rfl) ⟨by omega, by omega⟩ rfl (h _ _ (ma_put S 121 (((mI S) 94 80) - (1 : Int32)).toNatClampNeg (.inl (((mI S) 121 (((mI S) 94 80) - (1 : Int32)).toNatClampNeg) + (1 : Int32)))) _ (by omega) (by omega) (zT_pi hS) rfl (fun o9 m1 hv => ?_))
      obtain ⟨v2, rfl, h⟩ := zmi_of hv
      show ma_wp X d w 241 98 [(3, .inl ((mI S) 121 (((mI S) 94 80) - (1 : Int32)).toNatClampNeg)), (2, .inl ((mI S) 120 (((mI S) 94 80) - (1 : Int32)).toNatClampNeg)), (0, .inr (.inr (some 94)))] [.inl v2] (zst S m1) _
      refine zw_sto hm_241 dX12_less_98 [(4, .inl v2), (3, .inl ((mI S) 121 (((mI S) 94 80) - (1 : Int32)).toNatClampNeg)), (2, .inl ((mI S) 120 (((mI S) 94 80) - (1 : Int32)).toNatClampNeg)), (0, .inr (.inr (some 94)))] rfl rfl rfl ?_
      refine zw_push hm_241 dX12_less_100 (v := .inl v2) rfl ?_
      refine zw_if0 hm_241 dX12_less_102 (t := 111) rfl zc0_lt ?_ ?_
      · intro hc
        rw [if_pos hc] at h
        refine zw_goto hm_241 dX12_less_111 (t := 23) rfl ?_
        exact zw_sub (ma_nd_of (ks := [0]) rfl (by decide)) (ma_nd_of (ks := [4, 3, 2, 0]) rfl (by decide)) (ma_le_cons rfl (ma_le_nil _)) (h d w _ Q (by omega) (by omega) (zT_zst hS m1) rfl HQ)
      · intro hc
        rw [if_neg hc] at h
        refine zw_push hm_241 dX12_less_105 (v := .inr (.inr (some 94))) rfl ?_
        refine zw_push hm_241 dX12_less_106 (v := .inl v2) rfl ?_
        refine zw_cv hm_241 dX12_less_108 v_12_393_12 hm_242 [.inl v2] [] rfl (zT_rt (zT_zst hS m1) s_94 rfl) ⟨by omega, by omega⟩ rfl (h _ _ (zst S m1) _ (by omega) (by omega) (zT_zst hS m1) rfl (fun o9 m3 hv => ?_))
        obtain ⟨rfl, h⟩ := zmv_of hv
        show ma_wp X d w 241 111 [(4, .inl v2), (3, .inl ((mI S) 121 (((mI S) 94 80) - (1 : Int32)).toNatClampNeg)), (2, .inl ((mI S) 120 (((mI S) 94 80) - (1 : Int32)).toNatClampNeg)), (0, .inr (.inr (some 94)))] [] (zst S m3) _
        refine zw_goto hm_241 dX12_less_111 (t := 23) rfl ?_
        exact zw_sub (ma_nd_of (ks := [0]) rfl (by decide)) (ma_nd_of (ks := [4, 3, 2, 0]) rfl (by decide)) (ma_le_cons rfl (ma_le_nil _)) (h d w _ Q (by omega) (by omega) (zT_zst hS m3) rfl HQ)
    · intro hc
      rw [if_pos (Classical.not_not.mp hc)] at h
      refine zw_push hm_241 dX12_less_64 (v := .inr (.inr (some 94))) rfl ?_
      refine zw_stk hm_241 dX12_less_65 (st₉ := [.inr (.inr (some 94)), .inr (.inr (some 94))]) rfl rfl ?_
      refine zw_gf hm_241 dX12_less_66 (v := .inl ((mI S) 94 80)) (zT_is hS s_94) (zT_t hS s_94) rfl f_12_390_12 rfl ?_
      refine zw_push hm_241 dX12_less_69 (v := .inl (1 : Int32)) rfl ?_
      refine zw_stk hm_241 dX12_less_70 (st₉ := [.inl (((mI S) 94 80) - (1 : Int32)), .inr (.inr (some 94))]) rfl rfl ?_
      refine zw_pf hm_241 dX12_less_71 (zT_is hS s_94) (zT_t hS s_94) p_12_390_12 zk_int ?_
      refine zw_goto hm_241 dX12_less_74 (t := 23) rfl ?_
      exact zw_sub (ma_nd_of (ks := [0]) rfl (by decide)) (ma_nd_of (ks := [3, 2, 0]) rfl (by decide)) (ma_le_cons rfl (ma_le_nil _)) (h d w _ Q (by omega) (by omega) (zT_pi hS) rfl HQ)
theorem lp_241_23 {X : Nat × (Nat → Int32)} {P : Option ma_V → (Nat → Nat → Int32) → Prop} {T : Nat} {s : Int32} {m0 : Nat → Nat → Int32} (h0 : zV m0) (K : ∀ m₉, zF wr_241 m0 m₉ → zV m₉ → (zGW T (m₉ 94 55) (m₉ 109)) → (zGU T (m₉ 94 46) (m₉ 99)) → (zOw (m₉ 99) (m₉ 103) (m₉ 111)) → (zDX (m₉ 94 10) (m₉ 99) (m₉ 112) (m₉ 113) (m₉ 114) (m₉ 94 55) (m₉ 98) (m₉ 101) (m₉ 102) (m₉ 108)) → ((m₉ 94 10).toInt ≠ 4 → ((m₉ 99) = (m0 99) ∧ (m₉ 111) = (m0 111) ∧ (m₉ 113) = (m0 113) ∧ (m₉ 114) = (m0 114) ∧ (m₉ 94 55) = (m0 94 55) ∧ (m₉ 109) = (m0 109))) → P none m₉) : ∀ (n : Nat) (m : Nat → Nat → Int32) , ((zlm (m 99) (m 121) (m 94 80) : Int)).toNat = n → zF wr_241 m0 m → zV m → (zW (m 94 7) (m 98) (m 101) (m 102) (m 108)) → (zGW T (m 94 55) (m 109)) → (zGU T (m 94 46) (m 99)) → (zOw (m 99) (m 103) (m 111)) → (zDX (m 94 10) (m 99) (m 112) (m 113) (m 114) (m 94 55) (m 98) (m 101) (m 102) (m 108)) → ((m 94 10).toInt = 4) → (zgo (m 94 80) (m 99)) → (zgw (m 121) (m 120) (m 102) (m 94 80)) → zm X 3 64 241 23 [(0, .inr (.inr (some 94)))] m P := by
  intro n
  induction n using Nat.strongRecOn with
  | _ n IH =>
    intro m  hmu hF hV r_W r_GW r_GU r_OW r_DX hi5 r_GO r_GWD
    refine g_241_23  ?_
    have f1 : 0 ≤ (m 94 10).toInt ∧ (m 94 10).toInt ≤ 6 := rs_94_10 (m := m) hV
    have f2 : 0 ≤ (m 94 80).toInt ∧ (m 94 80).toInt ≤ 3100 := rs_94_80 (m := m) hV
    have li3 : (0 : Int32).toInt = 0 := rfl
    refine zd (fun (h4 : (m 94 80) ≤ (0 : Int32)) => ?_) (fun (h4 : ¬ (m 94 80) ≤ (0 : Int32)) => ?_)
    · skip
      have g5 := i_le h4
      exact K _ hF hV r_GW r_GU r_OW r_DX (show (m 94 10).toInt ≠ 4 → ((m 99) = (m0 99) ∧ (m 111) = (m0 111) ∧ (m 113) = (m0 113) ∧ (m 114) = (m0 114) ∧ (m 94 55) = (m0 94 55) ∧ (m 109) = (m0 109)) from by first | (exact fun z => absurd (by omega) z) | (exact fun _ => ⟨rfl, rfl, rfl, rfl, rfl, rfl⟩) | (exfalso; omega; done) | (exfalso; contradiction; done))
    · skip
      have g6 := i_nle h4
      first | have e7 : ((m 94 80) - (1 : Int32)).toInt = (m 94 80).toInt - (1) := i_subk rfl (by omega) (by omega) | have b8 := i_bd ((m 94 80) - (1 : Int32))
      have hg9 : (0 ≤ ((m 94 80) - (1 : Int32)) ∧ ((m 94 80) - (1 : Int32)).toNatClampNeg < 3100) := i_ix (by omega) (by omega)
      refine ⟨hg9, ?_⟩
      have hg10 : (0 ≤ ((m 94 80) - (1 : Int32)) ∧ ((m 94 80) - (1 : Int32)).toNatClampNeg < 3100) := i_ix (by omega) (by omega)
      refine ⟨hg10, ?_⟩
      first | have f11 : 0 ≤ (m 120 ((m 94 80) - (1 : Int32)).toNatClampNeg).toInt ∧ (m 120 ((m 94 80) - (1 : Int32)).toNatClampNeg).toInt ≤ 3099 := ra_120 (m := m) hV (k := ((m 94 80) - (1 : Int32)).toNatClampNeg) (i_ix (n := 3100) (by omega) (by omega)).2 | have b12 := i_bd (m 120 ((m 94 80) - (1 : Int32)).toNatClampNeg)
      try have gwd := r_GWD ((m 94 80) - (1 : Int32)).toNatClampNeg (by rw [tn_cast (by omega)]; omega)
      have hg13 : (0 ≤ (m 120 ((m 94 80) - (1 : Int32)).toNatClampNeg) ∧ (m 120 ((m 94 80) - (1 : Int32)).toNatClampNeg).toNatClampNeg < 3100) := i_ix (by omega) (by omega)
      refine ⟨hg13, ?_⟩
      first | have f14 : 0 ≤ (m 121 ((m 94 80) - (1 : Int32)).toNatClampNeg).toInt ∧ (m 121 ((m 94 80) - (1 : Int32)).toNatClampNeg).toInt ≤ 60 := ra_121 (m := m) hV (k := ((m 94 80) - (1 : Int32)).toNatClampNeg) (i_ix (n := 3100) (by omega) (by omega)).2 | have b15 := i_bd (m 121 ((m 94 80) - (1 : Int32)).toNatClampNeg)
      first | have f16 : 0 ≤ (m 102 (m 120 ((m 94 80) - (1 : Int32)).toNatClampNeg).toNatClampNeg).toInt ∧ (m 102 (m 120 ((m 94 80) - (1 : Int32)).toNatClampNeg).toNatClampNeg).toInt ≤ 60 := ra_102 (m := m) hV (k := (m 120 ((m 94 80) - (1 : Int32)).toNatClampNeg).toNatClampNeg) (i_ix (n := 3100) (by omega) (by omega)).2 | have b17 := i_bd (m 102 (m 120 ((m 94 80) - (1 : Int32)).toNatClampNeg).toNatClampNeg)
      refine zd (fun (h18 : (m 121 ((m 94 80) - (1 : Int32)).toNatClampNeg) = (m 102 (m 120 ((m 94 80) - (1 : Int32)).toNatClampNeg).toNatClampNeg)) => ?_) (fun (h18 : ¬ (m 121 ((m 94 80) - (1 : Int32)).toNatClampNeg) = (m 102 (m 120 ((m 94 80) - (1 : Int32)).toNatClampNeg).toNatClampNeg)) => ?_)
      · skip
        have g19 := i_eq h18
        have hV20 : zV (ma_u m 94 80 ((m 94 80) - (1 : Int32))) := us_94_80 hV (by omega) (by omega)
        exact IH ((zlm (m 99) (m 121) ((m 94 80) - (1 : Int32)) : Int)).toNat (by first | (have zq := lm_pop (us := m 99) (gw := m 121) (gm := m 94 80) (gm₉ := (m 94 80) - (1 : Int32)) (by omega) (by omega) (fun j hj => ra_121 hV (by omega)); omega) | (have zq := lm_adv (us := m 99) (m := m) (c := 121) (k := ((m 94 80) - (1 : Int32)).toNatClampNeg) (x := (m 121 ((m 94 80) - (1 : Int32)).toNatClampNeg) + (1 : Int32)) (gm := m 94 80) (by omega) (by rw [tn_cast (by omega)]; omega) (by omega) (by omega); have zm := {ML}; omega) | (have zq := lm_adv (us := m 99) (m := m) (c := 121) (k := ((m 94 80) - (1 : Int32)).toNatClampNeg) (x := (m 121 ((m 94 80) - (1 : Int32)).toNatClampNeg) + (1 : Int32)) (gm := m 94 80) (by omega) (by rw [tn_cast (by omega)]; omega) (by omega) (by omega); omega)) _  rfl (zF_u hF rfl) hV20 r_W r_GW r_GU r_OW r_DX (show (m 94 10).toInt = 4 from by omega) (show zgo ((m 94 80) - (1 : Int32)) (m 99) from by first | (exact go_pop r_GO (by omega)) | (exact go_0 (by decide)) | (exfalso; omega; done) | (exfalso; contradiction; done)) (show zgw (m 121) (m 120) (m 102) ((m 94 80) - (1 : Int32)) from by first | (exact gw_pop r_GWD (by omega)) | (exact gw_0 (by decide)) | (exfalso; omega; done) | (exfalso; contradiction; done))
      · skip
        have g21 := i_ne h18
        have hg22 : (0 ≤ ((m 94 80) - (1 : Int32)) ∧ ((m 94 80) - (1 : Int32)).toNatClampNeg < 3100) := i_ix (by omega) (by omega)
        refine ⟨hg22, ?_⟩
        have hg23 : (0 ≤ ((m 94 80) - (1 : Int32)) ∧ ((m 94 80) - (1 : Int32)).toNatClampNeg < 3100) := i_ix (by omega) (by omega)
        refine ⟨hg23, ?_⟩
        first | have e25 : ((m 121 ((m 94 80) - (1 : Int32)).toNatClampNeg) + (1 : Int32)).toInt = (m 121 ((m 94 80) - (1 : Int32)).toNatClampNeg).toInt + (1) := i_addk rfl (by omega) (by omega) | have b26 := i_bd ((m 121 ((m 94 80) - (1 : Int32)).toNatClampNeg) + (1 : Int32))
        have hV24 : zV (ma_u m 121 ((m 94 80) - (1 : Int32)).toNatClampNeg ((m 121 ((m 94 80) - (1 : Int32)).toNatClampNeg) + (1 : Int32))) := ua_121 hV (by omega) (by omega)
        refine sp_192 ((m 120 ((m 94 80) - (1 : Int32)).toNatClampNeg)) ((m 121 ((m 94 80) - (1 : Int32)).toNatClampNeg)) hV24 (by omega) (by omega) (by omega) (show (m 121 ((m 94 80) - (1 : Int32)).toNatClampNeg).toInt < (m 102 (m 120 ((m 94 80) - (1 : Int32)).toNatClampNeg).toNatClampNeg).toInt from by omega) (fun v2 m1 hV_m1 p0_m1 => zmi_n ?_)
        have p0_m1 : v2 = zrf (m 98) (m 101) (m 108) (m 120 ((m 94 80) - (1 : Int32)).toNatClampNeg).toNatClampNeg (m 121 ((m 94 80) - (1 : Int32)).toNatClampNeg).toNatClampNeg := p0_m1
        try have := W_ref r_W (by omega) (by omega) (by omega) (by omega) p0_m1
        have b27 := i_bd v2
        refine zd (fun (h28 : v2 < (0 : Int32)) => ?_) (fun (h28 : ¬ v2 < (0 : Int32)) => ?_)
        · skip
          have g29 := i_lt h28
          exact IH ((zlm (m 99) ((ma_u m 121 ((m 94 80) - (1 : Int32)).toNatClampNeg ((m 121 ((m 94 80) - (1 : Int32)).toNatClampNeg) + (1 : Int32))) 121) (m 94 80) : Int)).toNat (by first | (have zq := lm_adv (us := m 99) (m := m) (c := 121) (k := ((m 94 80) - (1 : Int32)).toNatClampNeg) (x := (m 121 ((m 94 80) - (1 : Int32)).toNatClampNeg) + (1 : Int32)) (gm := m 94 80) (by omega) (by rw [tn_cast (by omega)]; omega) (by omega) (by omega); omega) | (have zq := lm_pop (us := m 99) (gw := m 121) (gm := m 94 80) (gm₉ := (m 94 80) - (1 : Int32)) (by omega) (by omega) (fun j hj => ra_121 hV (by omega)); omega) | (have zq := lm_adv (us := m 99) (m := m) (c := 121) (k := ((m 94 80) - (1 : Int32)).toNatClampNeg) (x := (m 121 ((m 94 80) - (1 : Int32)).toNatClampNeg) + (1 : Int32)) (gm := m 94 80) (by omega) (by rw [tn_cast (by omega)]; omega) (by omega) (by omega); have zm := {ML}; omega)) _  rfl (zF_zov (zF_u hF rfl) ws_192_241) hV_m1 r_W r_GW r_GU r_OW r_DX (show (m 94 10).toInt = 4 from by omega) r_GO (show zgw ((ma_u m 121 ((m 94 80) - (1 : Int32)).toNatClampNeg ((m 121 ((m 94 80) - (1 : Int32)).toNatClampNeg) + (1 : Int32))) 121) (m 120) (m 102) (m 94 80) from by first | (exact gw_adv r_GWD (by omega)) | (exfalso; omega; done) | (exfalso; contradiction; done))
        · skip
          have g30 := i_nlt h28
          refine sp_242 (v2) hV_m1 (by omega) (by omega) (show (m 94 10).toInt = 4 from by omega) r_GW r_GU r_OW r_DX r_GO (show zgw ((ma_u m 121 ((m 94 80) - (1 : Int32)).toNatClampNeg ((m 121 ((m 94 80) - (1 : Int32)).toNatClampNeg) + (1 : Int32))) 121) (m 120) (m 102) (m 94 80) from by first | (exact gw_adv r_GWD (by omega)) | (exfalso; omega; done) | (exfalso; contradiction; done)) (fun m3 hV_m3 p0_m3 p1_m3 p2_m3 p3_m3 p4_m3 p5_m3 p6_m3 => zmv_n ?_)
          have p0_m3 : zGW T (m3 94 55) (m3 109) := p0_m3
          have p1_m3 : zGU T (m 94 46) (m3 99) := p1_m3
          have p2_m3 : zOw (m3 99) (m 103) (m3 111) := p2_m3
          have p3_m3 : zDX (m 94 10) (m3 99) (m 112) (m3 113) (m3 114) (m3 94 55) (m 98) (m 101) (m 102) (m 108) := p3_m3
          have p4_m3 : zgo (m3 94 80) (m3 99) := p4_m3
          have p5_m3 : zgw (m3 121) (m3 120) (m 102) (m3 94 80) := p5_m3
          have p6_m3 : zlm (m3 99) (m3 121) (m3 94 80) ≤ zlm (m 99) ((ma_u m 121 ((m 94 80) - (1 : Int32)).toNatClampNeg ((m 121 ((m 94 80) - (1 : Int32)).toNatClampNeg) + (1 : Int32))) 121) (m 94 80) := p6_m3
          exact IH ((zlm (m3 99) (m3 121) (m3 94 80) : Int)).toNat (by first | (have zq := lm_adv (us := m 99) (m := m) (c := 121) (k := ((m 94 80) - (1 : Int32)).toNatClampNeg) (x := (m 121 ((m 94 80) - (1 : Int32)).toNatClampNeg) + (1 : Int32)) (gm := m 94 80) (by omega) (by rw [tn_cast (by omega)]; omega) (by omega) (by omega); have zm := p6_m3; omega) | (have zq := lm_pop (us := m 99) (gw := m 121) (gm := m 94 80) (gm₉ := (m 94 80) - (1 : Int32)) (by omega) (by omega) (fun j hj => ra_121 hV (by omega)); omega) | (have zq := lm_adv (us := m 99) (m := m) (c := 121) (k := ((m 94 80) - (1 : Int32)).toNatClampNeg) (x := (m 121 ((m 94 80) - (1 : Int32)).toNatClampNeg) + (1 : Int32)) (gm := m 94 80) (by omega) (by rw [tn_cast (by omega)]; omega) (by omega) (by omega); omega)) _  rfl (zF_zov (zF_zov (zF_u hF rfl) ws_192_241) ws_242_241) hV_m3 r_W p0_m3 p1_m3 p2_m3 p3_m3 (show (m 94 10).toInt = 4 from by omega) p4_m3 p5_m3
theorem sp_241 {X : Nat × (Nat → Int32)} {P : Option ma_V → (Nat → Nat → Int32) → Prop} {T : Nat} {m : Nat → Nat → Int32} (s : Int32) (hV : zV m) (hpre0 : s.toInt ≤ 3099) (r_W : zW (m 94 7) (m 98) (m 101) (m 102) (m 108)) (r_GW : zGW T (m 94 55) (m 109)) (r_GU : zGU T (m 94 46) (m 99)) (r_OW : zOw (m 99) (m 103) (m 111)) (r_DX : zDX (m 94 10) (m 99) (m 112) (m 113) (m 114) (m 94 55) (m 98) (m 101) (m 102) (m 108)) (KZ : ∀ m₉, zV (zov wr_241 m m₉) → (zGW T (m₉ 94 55) (m₉ 109)) → (zGU T (m 94 46) (m₉ 99)) → (zOw (m₉ 99) (m 103) (m₉ 111)) → (zDX (m 94 10) (m₉ 99) (m 112) (m₉ 113) (m₉ 114) (m₉ 94 55) (m 98) (m 101) (m 102) (m 108)) → ((m 94 10).toInt ≠ 4 → ((m₉ 99) = (m 99) ∧ (m₉ 111) = (m 111) ∧ (m₉ 113) = (m 113) ∧ (m₉ 114) = (m 114) ∧ (m₉ 94 55) = (m 94 55) ∧ (m₉ 109) = (m 109))) → P none (zov wr_241 m m₉)) : zm X 3 64 241 0 [(0, .inr (.inr (some 94))), (1, .inl s)] m P := by
  have K : ∀ m₉, zF wr_241 m m₉ → zV m₉ → (zGW T (m₉ 94 55) (m₉ 109)) → (zGU T (m₉ 94 46) (m₉ 99)) → (zOw (m₉ 99) (m₉ 103) (m₉ 111)) → (zDX (m₉ 94 10) (m₉ 99) (m₉ 112) (m₉ 113) (m₉ 114) (m₉ 94 55) (m₉ 98) (m₉ 101) (m₉ 102) (m₉ 108)) → ((m₉ 94 10).toInt ≠ 4 → ((m₉ 99) = (m 99) ∧ (m₉ 111) = (m 111) ∧ (m₉ 113) = (m 113) ∧ (m₉ 114) = (m 114) ∧ (m₉ 94 55) = (m 94 55) ∧ (m₉ 109) = (m 109))) → P none m₉ := by
    intro m₉ hf z q0 q1 q2 q3 q4
    have e := zov_eq hf
    rw [e] at z ⊢
    try rw [e] at q0
    try rw [e] at q1
    try rw [e] at q2
    try rw [e] at q3
    try rw [e] at q4
    exact KZ m₉ z q0 q1 q2 q3 q4
  refine g_241_0 s ?_
  have b1 := i_bd s
  have li2 : (0 : Int32).toInt = 0 := rfl
  refine zd (fun (h3 : s < (0 : Int32)) => ?_) (fun (h3 : ¬ s < (0 : Int32)) => ?_)
  · skip
    have g4 := i_lt h3
    exact K _ zF_rfl hV r_GW r_GU r_OW r_DX (show (m 94 10).toInt ≠ 4 → ((m 99) = (m 99) ∧ (m 111) = (m 111) ∧ (m 113) = (m 113) ∧ (m 114) = (m 114) ∧ (m 94 55) = (m 94 55) ∧ (m 109) = (m 109)) from by first | (exact fun _ => ⟨rfl, rfl, rfl, rfl, rfl, rfl⟩) | (exact fun z => absurd (by omega) z) | (exfalso; omega; done) | (exfalso; contradiction; done))
  · skip
    have g5 := i_nlt h3
    have f6 : 0 ≤ (m 94 10).toInt ∧ (m 94 10).toInt ≤ 6 := rs_94_10 (m := m) hV
    have li7 : (4 : Int32).toInt = 4 := rfl
    refine zd (fun (h8 : (m 94 10) = (4 : Int32)) => ?_) (fun (h8 : ¬ (m 94 10) = (4 : Int32)) => ?_)
    · skip
      have g9 := i_eq h8
      have hV10 : zV (ma_u m 94 80 (0 : Int32)) := us_94_80 hV (by omega) (by omega)
      refine sp_242 (s) hV10 (by omega) (by omega) (show (m 94 10).toInt = 4 from by omega) r_GW r_GU r_OW r_DX (show zgo (0 : Int32) (m 99) from by first | (exact go_0 (by decide)) | (exfalso; omega; done) | (exfalso; contradiction; done)) (show zgw (m 121) (m 120) (m 102) (0 : Int32) from by first | (exact gw_0 (by decide)) | (exfalso; omega; done) | (exfalso; contradiction; done)) (fun m1 hV_m1 p0_m1 p1_m1 p2_m1 p3_m1 p4_m1 p5_m1 p6_m1 => zmv_n ?_)
      have p0_m1 : zGW T (m1 94 55) (m1 109) := p0_m1
      have p1_m1 : zGU T (m 94 46) (m1 99) := p1_m1
      have p2_m1 : zOw (m1 99) (m 103) (m1 111) := p2_m1
      have p3_m1 : zDX (m 94 10) (m1 99) (m 112) (m1 113) (m1 114) (m1 94 55) (m 98) (m 101) (m 102) (m 108) := p3_m1
      have p4_m1 : zgo (m1 94 80) (m1 99) := p4_m1
      have p5_m1 : zgw (m1 121) (m1 120) (m 102) (m1 94 80) := p5_m1
      have p6_m1 : zlm (m1 99) (m1 121) (m1 94 80) ≤ zlm (m 99) (m 121) (0 : Int32) := p6_m1
      exact lp_241_23 (s := s) hV K _ _  rfl (zF_zov (zF_u zF_rfl rfl) ws_242_241) hV_m1 r_W p0_m1 p1_m1 p2_m1 p3_m1 (show (m 94 10).toInt = 4 from by omega) p4_m1 p5_m1
    · skip
      have g11 := i_ne h8
      exact K _ zF_rfl hV r_GW r_GU r_OW r_DX (show (m 94 10).toInt ≠ 4 → ((m 99) = (m 99) ∧ (m 111) = (m 111) ∧ (m 113) = (m 113) ∧ (m 114) = (m 114) ∧ (m 94 55) = (m 94 55) ∧ (m 109) = (m 109)) from by first | (exact fun _ => ⟨rfl, rfl, rfl, rfl, rfl, rfl⟩) | (exact fun z => absurd (by omega) z) | (exfalso; omega; done) | (exfalso; contradiction; done))

/-! from 94.431 -/
/-! by regions -/
def zRG1 (si rg pr : Int32) (us at₉ ws rt : Nat → Int32) : Prop := 16 ≤ si.toInt ∧ 1 ≤ rg.toInt ∧ rg.toInt * si.toInt ≤ 1500 ∧ (0 ≤ pr.toInt ∧ pr.toInt < rg.toInt) ∧ (∀ r : Nat, (r : Int) < rg.toInt → (rt r).toInt ≤ si.toInt) ∧ ∀ s, s < 3100 → us s ≠ 0 → (at₉ s).toInt < rg.toInt * si.toInt ∧ (ws s).toInt + 1 ≤ si.toInt
def zLE (rt : Nat → Int32) (rg v : Int32) : Prop := (v.toInt = -1 ∧ ∀ r : Nat, (r : Int) < rg.toInt → rt r ≠ 0) ∨ (0 ≤ v.toInt ∧ v.toInt < rg.toInt ∧ rt v.toNatClampNeg = 0)
section RG1
variable {m : Nat → Nat → Int32} {c k : Nat} {si rg pr pr₉ x r v : Int32} {us us₉ at₉ ws rt : Nat → Int32} {s : Nat}
theorem i_div16 {x y : Int32} (h1 : 0 ≤ x.toInt) (h2 : x.toInt ≤ 1500) (h3 : 16 ≤ y.toInt) : 0 ≤ (x / y).toInt ∧ (x / y).toInt ≤ 93 := by
  have h := i_div (x := x) (y := y) h1 (by omega)
  refine ⟨h.1, ?_⟩
  refine Classical.byContradiction (fun z => ?_)
  have h4 : 94 * 16 ≤ (x / y).toInt * y.toInt := Int.mul_le_mul (by omega) h3 (by omega) (by omega)
  have := h.2.2.2
  omega
theorem RG_at (h : zRG1 si rg pr us at₉ ws rt) (hs : s < 3100) (hu : us s ≠ 0) : (at₉ s).toInt < 1500 ∧ (ws s).toInt + 1 ≤ si.toInt := by
  have := h.2.2.2.2.2 s hs hu
  have := h.2.2.1
  omega
theorem RG_mul (h : zRG1 si rg pr us at₉ ws rt) (h0 : 0 ≤ r.toInt) (h1 : r.toInt < rg.toInt) (hs : si.toInt ≤ 256) (hr : rg.toInt ≤ 93) : 0 ≤ (r * si).toInt ∧ (r * si).toInt + si.toInt ≤ 1500 ∧ (r * si).toInt + si.toInt ≤ rg.toInt * si.toInt := by
  have a := h.1
  have e := i_muln (x := r) (y := si) h0 (by omega) (by omega) (by omega)
  have e2 : (r.toInt + 1) * si.toInt ≤ rg.toInt * si.toInt := Int.mul_le_mul_of_nonneg_right (by omega) (by omega)
  have e3 : (r.toInt + 1) * si.toInt = r.toInt * si.toInt + si.toInt := by rw [Int.add_mul, Int.one_mul]
  have := h.2.2.1
  omega
theorem RG_top (h : zRG1 si rg pr us at₉ ws rt) (h0 : 0 ≤ r.toInt) (h1 : r.toInt < rg.toInt) : (rt r.toNatClampNeg).toInt ≤ si.toInt := h.2.2.2.2.1 _ (by rw [tn_cast h0]; exact h1)
theorem RG_sub (h : zRG1 si rg pr us at₉ ws rt) (hu : ∀ s, s < 3100 → us₉ s ≠ 0 → us s ≠ 0) : zRG1 si rg pr us₉ at₉ ws rt := ⟨h.1, h.2.1, h.2.2.1, h.2.2.2.1, h.2.2.2.2.1, fun s hs z => h.2.2.2.2.2 s hs (hu s hs z)⟩
theorem RG_put (h : zRG1 si rg pr us at₉ ws (m c)) (hx : x.toInt ≤ si.toInt) : zRG1 si rg pr us at₉ ws (ma_u m c k x c) := by
  refine ⟨h.1, h.2.1, h.2.2.1, h.2.2.2.1, fun r hr => ?_, h.2.2.2.2.2⟩
  rw [mu_at]
  split
  · exact hx
  · exact h.2.2.2.2.1 r hr
theorem RG_pr (h : zRG1 si rg pr us at₉ ws rt) (h0 : 0 ≤ pr₉.toInt) (h1 : pr₉.toInt < rg.toInt) : zRG1 si rg pr₉ us at₉ ws rt := ⟨h.1, h.2.1, h.2.2.1, ⟨h0, h1⟩, h.2.2.2.2⟩
theorem LE_no (h : zLE rt rg v) (hz : rt pr.toNatClampNeg = 0) (h0 : 0 ≤ pr.toInt) (h1 : pr.toInt < rg.toInt) : 0 ≤ v.toInt ∧ v.toInt < rg.toInt := by
  rcases h with ⟨_, q⟩ | q
  · exact absurd hz (q _ (by rw [tn_cast h0]; exact h1))
  · exact ⟨q.1, q.2.1⟩
theorem LE_ex (h : zLE rt rg v) (hz : ∃ r : Nat, (r : Int) < rg.toInt ∧ rt r = 0) : 0 ≤ v.toInt ∧ v.toInt < rg.toInt := by
  obtain ⟨r, h1, h2⟩ := hz
  rcases h with ⟨_, q⟩ | q
  · exact absurd h2 (q r h1)
  · exact ⟨q.1, q.2.1⟩
theorem LE_ge (h : zLE rt rg v) (hv : 0 ≤ v.toInt) : v.toInt < rg.toInt ∧ rt v.toNatClampNeg = 0 := h.elim (fun q => by omega) (fun q => q.2)
theorem LE_lo (h : zLE rt rg v) : -1 ≤ v.toInt ∧ v.toInt < rg.toInt ∨ v.toInt = -1 := h.elim (fun q => Or.inr q.1) (fun q => Or.inl ⟨by omega, q.2.1⟩)
theorem ne_step {l l2 : Int32} (h : ∀ r : Nat, (r : Int) < l.toInt → rt r ≠ 0) (h0 : 0 ≤ l.toInt) (hz : rt l.toNatClampNeg ≠ 0) (e : l2.toInt = l.toInt + 1) : ∀ r : Nat, (r : Int) < l2.toInt → rt r ≠ 0 := by
  intro r hr
  by_cases q : r = l.toNatClampNeg
  · rw [q]; exact hz
  · exact h r (by rw [tn_eq] at q; omega)
theorem dn_lt {n : Nat} (hk : k < n) (h0 : m c k = 0) (hx : x ≠ 0) : n - cnt (ma_u m c k x c) n < n - cnt (m c) n := by
  have := cnt_up (x := x) hk h0 hx
  have := cnt_lt hk h0
  omega
end RG1

/-! from 94.432 -/
/-! the reference (written by wip/tools/gen94m.py) -/
set_option maxRecDepth 100000 in
theorem hm_234 : ma_md 234 = some (12, yX12_leastEmpty, cX12_leastEmpty, 2, (some (FieldType.int))) := rfl
theorem s_116 : zs 116 = some (20, 128) := rfl
theorem r_94_65 : zfi 94 65 = some 116 := rfl
theorem f_12_80_12 : ma_fld 12 80 12 = some 65 := by decide +kernel
theorem f_12_234_12 : ma_fld 12 234 12 = some 64 := by decide +kernel
theorem dX12_leastEmpty_0 : decode cX12_leastEmpty 0 = .ok (.iconst 0, 1) := by decide +kernel
theorem dX12_leastEmpty_1 : decode cX12_leastEmpty 1 = .ok (.istore_n 1, 1) := by decide +kernel
theorem dX12_leastEmpty_2 : decode cX12_leastEmpty 2 = .ok (.iload_n 1, 1) := by decide +kernel
theorem dX12_leastEmpty_3 : decode cX12_leastEmpty 3 = .ok (.aload_n 0, 1) := by decide +kernel
theorem dX12_leastEmpty_27 : decode cX12_leastEmpty 27 = .ok (.iconst (-1), 1) := by decide +kernel
theorem dX12_leastEmpty_28 : decode cX12_leastEmpty 28 = .ok (.ireturn, 1) := by decide +kernel
theorem dX12_leastEmpty_10 : decode cX12_leastEmpty 10 = .ok (.aload_n 0, 1) := by decide +kernel
theorem dX12_leastEmpty_14 : decode cX12_leastEmpty 14 = .ok (.iload_n 1, 1) := by decide +kernel
theorem dX12_leastEmpty_21 : decode cX12_leastEmpty 21 = .ok (.iinc 1 1, 3) := by decide +kernel
theorem dX12_leastEmpty_24 : decode cX12_leastEmpty 24 = .ok (.goto (-22), 3) := by decide +kernel
theorem dX12_leastEmpty_19 : decode cX12_leastEmpty 19 = .ok (.iload_n 1, 1) := by decide +kernel
theorem dX12_leastEmpty_20 : decode cX12_leastEmpty 20 = .ok (.ireturn, 1) := by decide +kernel
theorem dX12_leastEmpty_16 : decode cX12_leastEmpty 16 = .ok (.ifCond .ne 5, 3) := by decide +kernel
theorem dX12_leastEmpty_15 : decode cX12_leastEmpty 15 = .ok (.iaload, 1) := by decide +kernel
theorem dX12_leastEmpty_11 : decode cX12_leastEmpty 11 = .ok (.getfield 80, 3) := by decide +kernel
theorem dX12_leastEmpty_7 : decode cX12_leastEmpty 7 = .ok (.if_icmp .ge 20, 3) := by decide +kernel
theorem dX12_leastEmpty_4 : decode cX12_leastEmpty 4 = .ok (.getfield 234, 3) := by decide +kernel
def wr_234 (_ _ : Nat) : Bool := false
theorem g_234_0 {X : Nat × (Nat → Int32)} {m : Nat → Nat → Int32} {P : Option ma_V → (Nat → Nat → Int32) → Prop}  (h : zm X 0 0 234 2 [(0, .inr (.inr (some 94))), (1, .inl (0 : Int32))] m P) : zm X 0 0 234 0 [(0, .inr (.inr (some 94)))] m P := by
  intro d w S Q hd hw hS hm HQ
  subst hm
  refine zw_push hm_234 dX12_leastEmpty_0 (v := .inl (0 : Int32)) rfl ?_
  refine zw_sto hm_234 dX12_leastEmpty_1 [(1, .inl (0 : Int32)), (0, .inr (.inr (some 94)))] rfl rfl rfl ?_
  exact zw_sub (ma_nd_of (ks := [0, 1]) rfl (by decide)) (ma_nd_of (ks := [1, 0]) rfl (by decide)) (ma_le_cons rfl (ma_le_cons rfl (ma_le_nil _))) (h d w _ Q (by omega) (by omega) hS rfl HQ)
theorem g_234_2 {X : Nat × (Nat → Int32)} {m : Nat → Nat → Int32} {P : Option ma_V → (Nat → Nat → Int32) → Prop} (l1 : Int32) (h : if (m 94 64) ≤ l1 then (P (some (.inl (-1 : Int32))) m) else ((0 ≤ l1 ∧ l1.toNatClampNeg < 128) ∧ (if (m 116 l1.toNatClampNeg) = 0 then (P (some (.inl l1)) m) else (zm X 0 0 234 2 [(0, .inr (.inr (some 94))), (1, .inl (l1 + (1 : Int32)))] m P)))) : zm X 0 0 234 2 [(0, .inr (.inr (some 94))), (1, .inl l1)] m P := by
  intro d w S Q hd hw hS hm HQ
  subst hm
  refine zw_push hm_234 dX12_leastEmpty_2 (v := .inl l1) rfl ?_
  refine zw_push hm_234 dX12_leastEmpty_3 (v := .inr (.inr (some 94))) rfl ?_
  refine zw_gf hm_234 dX12_leastEmpty_4 (v := .inl ((mI S) 94 64)) (zT_is hS s_94) (zT_t hS s_94) rfl f_12_234_12 rfl ?_
  refine zw_if2 hm_234 dX12_leastEmpty_7 (t := 27) rfl zc2_ge ?_ ?_
  · intro hc
    rw [if_pos hc] at h
    refine zw_push hm_234 dX12_leastEmpty_27 (v := .inl (-1 : Int32)) rfl ?_
    exact zw_iret hm_234 dX12_leastEmpty_28 (HQ _ _ h)
  · intro hc
    rw [if_neg hc] at h
    refine zw_push hm_234 dX12_leastEmpty_10 (v := .inr (.inr (some 94))) rfl ?_
    refine zw_gf hm_234 dX12_leastEmpty_11 (v := .inr (.inr (some 116))) (zT_is hS s_94) (zT_t hS s_94) rfl f_12_80_12 (zT_f hS r_94_65) ?_
    refine zw_push hm_234 dX12_leastEmpty_14 (v := .inl l1) rfl ?_
    obtain ⟨hg, h⟩ := h
    refine zw_ia hm_234 dX12_leastEmpty_15 (zT_is hS s_116) (zT_h hS s_116) rfl hg ?_
    show ma_wp X d w 234 16 [(0, .inr (.inr (some 94))), (1, .inl l1)] [.inl ((mI S) 116 l1.toNatClampNeg)] S _
    refine zw_if0 hm_234 dX12_leastEmpty_16 (t := 21) rfl zc0_ne ?_ ?_
    · intro hc
      rw [if_neg hc] at h
      refine zw_sto hm_234 dX12_leastEmpty_21 [(1, .inl (l1 + (1 : Int32))), (0, .inr (.inr (some 94)))] rfl rfl rfl ?_
      refine zw_goto hm_234 dX12_leastEmpty_24 (t := 2) rfl ?_
      exact zw_sub (ma_nd_of (ks := [0, 1]) rfl (by decide)) (ma_nd_of (ks := [1, 0]) rfl (by decide)) (ma_le_cons rfl (ma_le_cons rfl (ma_le_nil _))) (h d w _ Q (by omega) (by omega) hS rfl HQ)
    · intro hc
      rw [if_pos (Classical.not_not.mp hc)] at h
      refine zw_push hm_234 dX12_leastEmpty_19 (v := .inl l1) rfl ?_
      exact zw_iret hm_234 dX12_leastEmpty_20 (HQ _ _ h)
theorem lp_234_2 {X : Nat × (Nat → Int32)} {P : Option ma_V → (Nat → Nat → Int32) → Prop} {m0 : Nat → Nat → Int32} (h0 : zV m0) (K : ∀ v m₉, zF wr_234 m0 m₉ → zV m₉ → (zLE (m₉ 116) (m₉ 94 64) v) → P (some (.inl v)) m₉) : ∀ (n : Nat) (m : Nat → Nat → Int32) (l1 : Int32), (128 - l1.toInt).toNat = n → zF wr_234 m0 m → zV m → (0 ≤ l1.toInt) → (∀ r : Nat, (r : Int) < l1.toInt → (m 116) r ≠ 0) → zm X 0 0 234 2 [(0, .inr (.inr (some 94))), (1, .inl l1)] m P := by
  intro n
  induction n using Nat.strongRecOn with
  | _ n IH =>
    intro m l1 hmu hF hV hi0 r_LZ
    refine g_234_2 l1 ?_
    have f1 : 0 ≤ (m 94 64).toInt ∧ (m 94 64).toInt ≤ 93 := rs_94_64 (m := m) hV
    have b2 := i_bd l1
    refine zd (fun (h3 : (m 94 64) ≤ l1) => ?_) (fun (h3 : ¬ (m 94 64) ≤ l1) => ?_)
    · skip
      have g4 := i_le h3
      have li5 : (-1 : Int32).toInt = -1 := rfl
      exact K ((-1 : Int32)) _ hF hV (show zLE (m 116) (m 94 64) (-1 : Int32) from by first | (exact Or.inl ⟨by decide, fun r hr => r_LZ r (by omega)⟩) | (exact Or.inr ⟨by omega, by omega, by assumption⟩) | (exfalso; omega; done) | (exfalso; contradiction; done))
    · skip
      have g6 := i_nle h3
      have hg7 : (0 ≤ l1 ∧ l1.toNatClampNeg < 128) := i_ix (by omega) (by omega)
      refine ⟨hg7, ?_⟩
      first | have f8 : 0 ≤ (m 116 l1.toNatClampNeg).toInt ∧ (m 116 l1.toNatClampNeg).toInt ≤ 4600 := ra_116 (m := m) hV (k := l1.toNatClampNeg) (i_ix (n := 128) (by omega) (by omega)).2 | have b9 := i_bd (m 116 l1.toNatClampNeg)
      have li10 : (0 : Int32).toInt = 0 := rfl
      refine zd (fun (h11 : (m 116 l1.toNatClampNeg) = (0 : Int32)) => ?_) (fun (h11 : ¬ (m 116 l1.toNatClampNeg) = (0 : Int32)) => ?_)
      · skip
        have g12 := i_eq h11
        exact K (l1) _ hF hV (show zLE (m 116) (m 94 64) l1 from by first | (exact Or.inr ⟨by omega, by omega, by assumption⟩) | (exact Or.inl ⟨by decide, fun r hr => r_LZ r (by omega)⟩) | (exfalso; omega; done) | (exfalso; contradiction; done))
      · skip
        have g13 := i_ne h11
        first | have e14 : (l1 + (1 : Int32)).toInt = l1.toInt + (1) := i_addk rfl (by omega) (by omega) | have b15 := i_bd (l1 + (1 : Int32))
        exact IH (128 - (l1 + (1 : Int32)).toInt).toNat (by omega) _ ((l1 + (1 : Int32))) rfl hF hV (by omega) (show ∀ r : Nat, (r : Int) < (l1 + (1 : Int32)).toInt → (m 116) r ≠ 0 from by first | (exact ne_step r_LZ (by omega) (by assumption) (by omega)) | (intro r hr; omega; done) | (exfalso; omega; done) | (exfalso; contradiction; done))
theorem sp_234 {X : Nat × (Nat → Int32)} {P : Option ma_V → (Nat → Nat → Int32) → Prop} {m : Nat → Nat → Int32}  (hV : zV m)  (KZ : ∀ v m₉, zV (zov wr_234 m m₉) → (zLE (m 116) (m 94 64) v) → P (some (.inl v)) (zov wr_234 m m₉)) : zm X 0 0 234 0 [(0, .inr (.inr (some 94)))] m P := by
  have K : ∀ v m₉, zF wr_234 m m₉ → zV m₉ → (zLE (m₉ 116) (m₉ 94 64) v) → P (some (.inl v)) m₉ := by
    intro v m₉ hf z q0
    have e := zov_eq hf
    rw [e] at z ⊢
    try rw [e] at q0
    exact KZ v m₉ z q0
  refine g_234_0  ?_
  have li1 : (0 : Int32).toInt = 0 := rfl
  exact lp_234_2 hV K _ _ ((0 : Int32)) rfl zF_rfl hV (by omega) (show ∀ r : Nat, (r : Int) < (0 : Int32).toInt → (m 116) r ≠ 0 from by first | (intro r hr; omega; done) | (exfalso; omega; done) | (exfalso; contradiction; done))
set_option maxRecDepth 100000 in
theorem hm_233 : ma_md 233 = some (12, yX12_emptyRegions, cX12_emptyRegions, 3, (some (FieldType.int))) := rfl
theorem dX12_emptyRegions_0 : decode cX12_emptyRegions 0 = .ok (.iconst 0, 1) := by decide +kernel
theorem dX12_emptyRegions_1 : decode cX12_emptyRegions 1 = .ok (.istore_n 1, 1) := by decide +kernel
theorem dX12_emptyRegions_2 : decode cX12_emptyRegions 2 = .ok (.iconst 0, 1) := by decide +kernel
theorem dX12_emptyRegions_3 : decode cX12_emptyRegions 3 = .ok (.istore_n 2, 1) := by decide +kernel
theorem dX12_emptyRegions_4 : decode cX12_emptyRegions 4 = .ok (.iload_n 2, 1) := by decide +kernel
theorem dX12_emptyRegions_5 : decode cX12_emptyRegions 5 = .ok (.aload_n 0, 1) := by decide +kernel
theorem dX12_emptyRegions_30 : decode cX12_emptyRegions 30 = .ok (.iload_n 1, 1) := by decide +kernel
theorem dX12_emptyRegions_31 : decode cX12_emptyRegions 31 = .ok (.ireturn, 1) := by decide +kernel
theorem dX12_emptyRegions_12 : decode cX12_emptyRegions 12 = .ok (.aload_n 0, 1) := by decide +kernel
theorem dX12_emptyRegions_16 : decode cX12_emptyRegions 16 = .ok (.iload_n 2, 1) := by decide +kernel
theorem dX12_emptyRegions_24 : decode cX12_emptyRegions 24 = .ok (.iinc 2 1, 3) := by decide +kernel
theorem dX12_emptyRegions_27 : decode cX12_emptyRegions 27 = .ok (.goto (-23), 3) := by decide +kernel
theorem dX12_emptyRegions_21 : decode cX12_emptyRegions 21 = .ok (.iinc 1 1, 3) := by decide +kernel
theorem dX12_emptyRegions_18 : decode cX12_emptyRegions 18 = .ok (.ifCond .ne 6, 3) := by decide +kernel
theorem dX12_emptyRegions_17 : decode cX12_emptyRegions 17 = .ok (.iaload, 1) := by decide +kernel
theorem dX12_emptyRegions_13 : decode cX12_emptyRegions 13 = .ok (.getfield 80, 3) := by decide +kernel
theorem dX12_emptyRegions_9 : decode cX12_emptyRegions 9 = .ok (.if_icmp .ge 21, 3) := by decide +kernel
theorem dX12_emptyRegions_6 : decode cX12_emptyRegions 6 = .ok (.getfield 234, 3) := by decide +kernel
def wr_233 (_ _ : Nat) : Bool := false
theorem g_233_0 {X : Nat × (Nat → Int32)} {m : Nat → Nat → Int32} {P : Option ma_V → (Nat → Nat → Int32) → Prop}  (h : zm X 0 0 233 4 [(0, .inr (.inr (some 94))), (1, .inl (0 : Int32)), (2, .inl (0 : Int32))] m P) : zm X 0 0 233 0 [(0, .inr (.inr (some 94)))] m P := by
  intro d w S Q hd hw hS hm HQ
  subst hm
  refine zw_push hm_233 dX12_emptyRegions_0 (v := .inl (0 : Int32)) rfl ?_
  refine zw_sto hm_233 dX12_emptyRegions_1 [(1, .inl (0 : Int32)), (0, .inr (.inr (some 94)))] rfl rfl rfl ?_
  refine zw_push hm_233 dX12_emptyRegions_2 (v := .inl (0 : Int32)) rfl ?_
  refine zw_sto hm_233 dX12_emptyRegions_3 [(2, .inl (0 : Int32)), (1, .inl (0 : Int32)), (0, .inr (.inr (some 94)))] rfl rfl rfl ?_
  exact zw_sub (ma_nd_of (ks := [0, 1, 2]) rfl (by decide)) (ma_nd_of (ks := [2, 1, 0]) rfl (by decide)) (ma_le_cons rfl (ma_le_cons rfl (ma_le_cons rfl (ma_le_nil _)))) (h d w _ Q (by omega) (by omega) hS rfl HQ)
theorem g_233_4 {X : Nat × (Nat → Int32)} {m : Nat → Nat → Int32} {P : Option ma_V → (Nat → Nat → Int32) → Prop} (l1 : Int32) (l2 : Int32) (h : if (m 94 64) ≤ l2 then (P (some (.inl l1)) m) else ((0 ≤ l2 ∧ l2.toNatClampNeg < 128) ∧ (if (m 116 l2.toNatClampNeg) = 0 then (zm X 0 0 233 4 [(0, .inr (.inr (some 94))), (1, .inl (l1 + (1 : Int32))), (2, .inl (l2 + (1 : Int32)))] m P) else (zm X 0 0 233 4 [(0, .inr (.inr (some 94))), (1, .inl l1), (2, .inl (l2 + (1 : Int32)))] m P)))) : zm X 0 0 233 4 [(0, .inr (.inr (some 94))), (1, .inl l1), (2, .inl l2)] m P := by
  intro d w S Q hd hw hS hm HQ
  subst hm
  refine zw_push hm_233 dX12_emptyRegions_4 (v := .inl l2) rfl ?_
  refine zw_push hm_233 dX12_emptyRegions_5 (v := .inr (.inr (some 94))) rfl ?_
  refine zw_gf hm_233 dX12_emptyRegions_6 (v := .inl ((mI S) 94 64)) (zT_is hS s_94) (zT_t hS s_94) rfl f_12_234_12 rfl ?_
  refine zw_if2 hm_233 dX12_emptyRegions_9 (t := 30) rfl zc2_ge ?_ ?_
  · intro hc
    rw [if_pos hc] at h
    refine zw_push hm_233 dX12_emptyRegions_30 (v := .inl l1) rfl ?_
    exact zw_iret hm_233 dX12_emptyRegions_31 (HQ _ _ h)
  · intro hc
    rw [if_neg hc] at h
    refine zw_push hm_233 dX12_emptyRegions_12 (v := .inr (.inr (some 94))) rfl ?_
    refine zw_gf hm_233 dX12_emptyRegions_13 (v := .inr (.inr (some 116))) (zT_is hS s_94) (zT_t hS s_94) rfl f_12_80_12 (zT_f hS r_94_65) ?_
    refine zw_push hm_233 dX12_emptyRegions_16 (v := .inl l2) rfl ?_
    obtain ⟨hg, h⟩ := h
    refine zw_ia hm_233 dX12_emptyRegions_17 (zT_is hS s_116) (zT_h hS s_116) rfl hg ?_
    show ma_wp X d w 233 18 [(0, .inr (.inr (some 94))), (1, .inl l1), (2, .inl l2)] [.inl ((mI S) 116 l2.toNatClampNeg)] S _
    refine zw_if0 hm_233 dX12_emptyRegions_18 (t := 24) rfl zc0_ne ?_ ?_
    · intro hc
      rw [if_neg hc] at h
      refine zw_sto hm_233 dX12_emptyRegions_24 [(2, .inl (l2 + (1 : Int32))), (0, .inr (.inr (some 94))), (1, .inl l1)] rfl rfl rfl ?_
      refine zw_goto hm_233 dX12_emptyRegions_27 (t := 4) rfl ?_
      exact zw_sub (ma_nd_of (ks := [0, 1, 2]) rfl (by decide)) (ma_nd_of (ks := [2, 0, 1]) rfl (by decide)) (ma_le_cons rfl (ma_le_cons rfl (ma_le_cons rfl (ma_le_nil _)))) (h d w _ Q (by omega) (by omega) hS rfl HQ)
    · intro hc
      rw [if_pos (Classical.not_not.mp hc)] at h
      refine zw_sto hm_233 dX12_emptyRegions_21 [(1, .inl (l1 + (1 : Int32))), (0, .inr (.inr (some 94))), (2, .inl l2)] rfl rfl rfl ?_
      refine zw_sto hm_233 dX12_emptyRegions_24 [(2, .inl (l2 + (1 : Int32))), (1, .inl (l1 + (1 : Int32))), (0, .inr (.inr (some 94)))] rfl rfl rfl ?_
      refine zw_goto hm_233 dX12_emptyRegions_27 (t := 4) rfl ?_
      exact zw_sub (ma_nd_of (ks := [0, 1, 2]) rfl (by decide)) (ma_nd_of (ks := [2, 1, 0]) rfl (by decide)) (ma_le_cons rfl (ma_le_cons rfl (ma_le_cons rfl (ma_le_nil _)))) (h d w _ Q (by omega) (by omega) hS rfl HQ)
theorem lp_233_4 {X : Nat × (Nat → Int32)} {P : Option ma_V → (Nat → Nat → Int32) → Prop} {m0 : Nat → Nat → Int32} (h0 : zV m0) (K : ∀ v m₉, zF wr_233 m0 m₉ → zV m₉ → (v.toInt ≤ 0 ∨ ∃ r : Nat, (r : Int) < (m₉ 94 64).toInt ∧ (m₉ 116) r = 0) → P (some (.inl v)) m₉) : ∀ (n : Nat) (m : Nat → Nat → Int32) (l1 : Int32) (l2 : Int32), (128 - l2.toInt).toNat = n → zF wr_233 m0 m → zV m → (0 ≤ l2.toInt) → (l1.toInt ≤ 0 ∨ ∃ r : Nat, (r : Int) < (m 94 64).toInt ∧ (m 116) r = 0) → zm X 0 0 233 4 [(0, .inr (.inr (some 94))), (1, .inl l1), (2, .inl l2)] m P := by
  intro n
  induction n using Nat.strongRecOn with
  | _ n IH =>
    intro m l1 l2 hmu hF hV hi0 r_EMl
    refine g_233_4 l1 l2 ?_
    have f1 : 0 ≤ (m 94 64).toInt ∧ (m 94 64).toInt ≤ 93 := rs_94_64 (m := m) hV
    have b2 := i_bd l2
    refine zd (fun (h3 : (m 94 64) ≤ l2) => ?_) (fun (h3 : ¬ (m 94 64) ≤ l2) => ?_)
    · skip
      have g4 := i_le h3
      have b5 := i_bd l1
      exact K (l1) _ hF hV (show l1.toInt ≤ 0 ∨ ∃ r : Nat, (r : Int) < (m 94 64).toInt ∧ (m 116) r = 0 from by first | (exact r_EMl) | (exfalso; omega; done) | (exfalso; contradiction; done))
    · skip
      have g6 := i_nle h3
      have hg7 : (0 ≤ l2 ∧ l2.toNatClampNeg < 128) := i_ix (by omega) (by omega)
      refine ⟨hg7, ?_⟩
      first | have f8 : 0 ≤ (m 116 l2.toNatClampNeg).toInt ∧ (m 116 l2.toNatClampNeg).toInt ≤ 4600 := ra_116 (m := m) hV (k := l2.toNatClampNeg) (i_ix (n := 128) (by omega) (by omega)).2 | have b9 := i_bd (m 116 l2.toNatClampNeg)
      have li10 : (0 : Int32).toInt = 0 := rfl
      refine zd (fun (h11 : (m 116 l2.toNatClampNeg) = (0 : Int32)) => ?_) (fun (h11 : ¬ (m 116 l2.toNatClampNeg) = (0 : Int32)) => ?_)
      · skip
        have g12 := i_eq h11
        have b13 := i_bd l1
        first | have b15 := i_bd (l1 + (1 : Int32)) | have e14 : (l1 + (1 : Int32)).toInt = l1.toInt + (1) := i_addk rfl (by omega) (by omega)
        first | have e16 : (l2 + (1 : Int32)).toInt = l2.toInt + (1) := i_addk rfl (by omega) (by omega) | have b17 := i_bd (l2 + (1 : Int32))
        exact IH (128 - (l2 + (1 : Int32)).toInt).toNat (by omega) _ ((l1 + (1 : Int32))) ((l2 + (1 : Int32))) rfl hF hV (by omega) (show (l1 + (1 : Int32)).toInt ≤ 0 ∨ ∃ r : Nat, (r : Int) < (m 94 64).toInt ∧ (m 116) r = 0 from by first | (exact Or.inr ⟨l2.toNatClampNeg, by rw [tn_cast (by omega)]; omega, by assumption⟩) | (exact Or.inl (by decide)) | (exfalso; omega; done) | (exfalso; contradiction; done))
      · skip
        have g18 := i_ne h11
        have b19 := i_bd l1
        first | have e20 : (l2 + (1 : Int32)).toInt = l2.toInt + (1) := i_addk rfl (by omega) (by omega) | have b21 := i_bd (l2 + (1 : Int32))
        exact IH (128 - (l2 + (1 : Int32)).toInt).toNat (by omega) _ (l1) ((l2 + (1 : Int32))) rfl hF hV (by omega) r_EMl
theorem sp_233 {X : Nat × (Nat → Int32)} {P : Option ma_V → (Nat → Nat → Int32) → Prop} {m : Nat → Nat → Int32}  (hV : zV m)  (KZ : ∀ v m₉, zV (zov wr_233 m m₉) → (v.toInt ≤ 0 ∨ ∃ r : Nat, (r : Int) < (m 94 64).toInt ∧ (m 116) r = 0) → P (some (.inl v)) (zov wr_233 m m₉)) : zm X 0 0 233 0 [(0, .inr (.inr (some 94)))] m P := by
  have K : ∀ v m₉, zF wr_233 m m₉ → zV m₉ → (v.toInt ≤ 0 ∨ ∃ r : Nat, (r : Int) < (m₉ 94 64).toInt ∧ (m₉ 116) r = 0) → P (some (.inl v)) m₉ := by
    intro v m₉ hf z q0
    have e := zov_eq hf
    rw [e] at z ⊢
    try rw [e] at q0
    exact KZ v m₉ z q0
  refine g_233_0  ?_
  have li1 : (0 : Int32).toInt = 0 := rfl
  exact lp_233_4 hV K _ _ ((0 : Int32)) ((0 : Int32)) rfl zF_rfl hV (by omega) (show (0 : Int32).toInt ≤ 0 ∨ ∃ r : Nat, (r : Int) < (m 94 64).toInt ∧ (m 116) r = 0 from by first | (exact Or.inl (by decide)) | (exact Or.inr ⟨l2.toNatClampNeg, by rw [tn_cast (by omega)]; omega, by assumption⟩) | (exfalso; omega; done) | (exfalso; contradiction; done))

/-! from 94.433 -/
/-! the reference (written by wip/tools/gen94m.py) -/
set_option maxRecDepth 100000 in
theorem hm_236 : ma_md 236 = some (12, yX12_sparse, cX12_sparse, 3, (some (FieldType.int))) := rfl
theorem s_122 : zs 122 = some (20, 128) := rfl
theorem s_123 : zs 123 = some (22, 128) := rfl
theorem s_124 : zs 124 = some (22, 128) := rfl
theorem r_94_81 : zfi 94 81 = some 122 := rfl
theorem r_94_82 : zfi 94 82 = some 123 := rfl
theorem r_94_83 : zfi 94 83 = some 124 := rfl
theorem f_12_98_12 : ma_fld 12 98 12 = some 81 := by decide +kernel
theorem f_12_101_12 : ma_fld 12 101 12 = some 82 := by decide +kernel
theorem f_12_104_12 : ma_fld 12 104 12 = some 83 := by decide +kernel
theorem f_12_222_12 : ma_fld 12 222 12 = some 18 := by decide +kernel
theorem f_12_225_12 : ma_fld 12 225 12 = some 19 := by decide +kernel
theorem f_12_285_12 : ma_fld 12 285 12 = some 63 := by decide +kernel
theorem dX12_sparse_0 : decode cX12_sparse 0 = .ok (.iconst (-1), 1) := by decide +kernel
theorem dX12_sparse_1 : decode cX12_sparse 1 = .ok (.istore_n 1, 1) := by decide +kernel
theorem dX12_sparse_2 : decode cX12_sparse 2 = .ok (.iconst 0, 1) := by decide +kernel
theorem dX12_sparse_3 : decode cX12_sparse 3 = .ok (.istore_n 2, 1) := by decide +kernel
theorem dX12_sparse_4 : decode cX12_sparse 4 = .ok (.iload_n 2, 1) := by decide +kernel
theorem dX12_sparse_5 : decode cX12_sparse 5 = .ok (.aload_n 0, 1) := by decide +kernel
theorem dX12_sparse_98 : decode cX12_sparse 98 = .ok (.iload_n 1, 1) := by decide +kernel
theorem dX12_sparse_99 : decode cX12_sparse 99 = .ok (.ireturn, 1) := by decide +kernel
theorem dX12_sparse_12 : decode cX12_sparse 12 = .ok (.aload_n 0, 1) := by decide +kernel
theorem dX12_sparse_16 : decode cX12_sparse 16 = .ok (.iload_n 2, 1) := by decide +kernel
theorem dX12_sparse_92 : decode cX12_sparse 92 = .ok (.iinc 2 1, 3) := by decide +kernel
theorem dX12_sparse_95 : decode cX12_sparse 95 = .ok (.goto (-91), 3) := by decide +kernel
theorem dX12_sparse_21 : decode cX12_sparse 21 = .ok (.aload_n 0, 1) := by decide +kernel
theorem dX12_sparse_25 : decode cX12_sparse 25 = .ok (.iload_n 2, 1) := by decide +kernel
theorem dX12_sparse_30 : decode cX12_sparse 30 = .ok (.iload_n 2, 1) := by decide +kernel
theorem dX12_sparse_31 : decode cX12_sparse 31 = .ok (.aload_n 0, 1) := by decide +kernel
theorem dX12_sparse_38 : decode cX12_sparse 38 = .ok (.aload_n 0, 1) := by decide +kernel
theorem dX12_sparse_42 : decode cX12_sparse 42 = .ok (.iload_n 2, 1) := by decide +kernel
theorem dX12_sparse_47 : decode cX12_sparse 47 = .ok (.aload_n 0, 1) := by decide +kernel
theorem dX12_sparse_51 : decode cX12_sparse 51 = .ok (.iload_n 2, 1) := by decide +kernel
theorem dX12_sparse_53 : decode cX12_sparse 53 = .ok (.bipush 100, 2) := by decide +kernel
theorem dX12_sparse_55 : decode cX12_sparse 55 = .ok (.imul, 1) := by decide +kernel
theorem dX12_sparse_56 : decode cX12_sparse 56 = .ok (.aload_n 0, 1) := by decide +kernel
theorem dX12_sparse_60 : decode cX12_sparse 60 = .ok (.aload_n 0, 1) := by decide +kernel
theorem dX12_sparse_64 : decode cX12_sparse 64 = .ok (.imul, 1) := by decide +kernel
theorem dX12_sparse_71 : decode cX12_sparse 71 = .ok (.iload_n 1, 1) := by decide +kernel
theorem dX12_sparse_90 : decode cX12_sparse 90 = .ok (.iload_n 2, 1) := by decide +kernel
theorem dX12_sparse_91 : decode cX12_sparse 91 = .ok (.istore_n 1, 1) := by decide +kernel
theorem dX12_sparse_75 : decode cX12_sparse 75 = .ok (.aload_n 0, 1) := by decide +kernel
theorem dX12_sparse_79 : decode cX12_sparse 79 = .ok (.iload_n 2, 1) := by decide +kernel
theorem dX12_sparse_81 : decode cX12_sparse 81 = .ok (.aload_n 0, 1) := by decide +kernel
theorem dX12_sparse_85 : decode cX12_sparse 85 = .ok (.iload_n 1, 1) := by decide +kernel
theorem dX12_sparse_87 : decode cX12_sparse 87 = .ok (.if_icmp .ge 5, 3) := by decide +kernel
theorem dX12_sparse_86 : decode cX12_sparse 86 = .ok (.iaload, 1) := by decide +kernel
theorem dX12_sparse_82 : decode cX12_sparse 82 = .ok (.getfield 98, 3) := by decide +kernel
theorem dX12_sparse_80 : decode cX12_sparse 80 = .ok (.iaload, 1) := by decide +kernel
theorem dX12_sparse_76 : decode cX12_sparse 76 = .ok (.getfield 98, 3) := by decide +kernel
theorem dX12_sparse_72 : decode cX12_sparse 72 = .ok (.ifCond .lt 18, 3) := by decide +kernel
theorem dX12_sparse_68 : decode cX12_sparse 68 = .ok (.goto 24, 3) := by decide +kernel
theorem dX12_sparse_65 : decode cX12_sparse 65 = .ok (.if_icmp .le 6, 3) := by decide +kernel
theorem dX12_sparse_61 : decode cX12_sparse 61 = .ok (.getfield 222, 3) := by decide +kernel
theorem dX12_sparse_57 : decode cX12_sparse 57 = .ok (.getfield 225, 3) := by decide +kernel
theorem dX12_sparse_52 : decode cX12_sparse 52 = .ok (.iaload, 1) := by decide +kernel
theorem dX12_sparse_48 : decode cX12_sparse 48 = .ok (.getfield 98, 3) := by decide +kernel
theorem dX12_sparse_44 : decode cX12_sparse 44 = .ok (.ifCond .eq 48, 3) := by decide +kernel
theorem dX12_sparse_43 : decode cX12_sparse 43 = .ok (.iaload, 1) := by decide +kernel
theorem dX12_sparse_39 : decode cX12_sparse 39 = .ok (.getfield 98, 3) := by decide +kernel
theorem dX12_sparse_35 : decode cX12_sparse 35 = .ok (.if_icmp .eq 57, 3) := by decide +kernel
theorem dX12_sparse_32 : decode cX12_sparse 32 = .ok (.getfield 285, 3) := by decide +kernel
theorem dX12_sparse_27 : decode cX12_sparse 27 = .ok (.ifCond .ne 65, 3) := by decide +kernel
theorem dX12_sparse_26 : decode cX12_sparse 26 = .ok (.baload, 1) := by decide +kernel
theorem dX12_sparse_22 : decode cX12_sparse 22 = .ok (.getfield 101, 3) := by decide +kernel
theorem dX12_sparse_18 : decode cX12_sparse 18 = .ok (.ifCond .ne 74, 3) := by decide +kernel
theorem dX12_sparse_17 : decode cX12_sparse 17 = .ok (.baload, 1) := by decide +kernel
theorem dX12_sparse_13 : decode cX12_sparse 13 = .ok (.getfield 104, 3) := by decide +kernel
theorem dX12_sparse_9 : decode cX12_sparse 9 = .ok (.if_icmp .ge 89, 3) := by decide +kernel
theorem dX12_sparse_6 : decode cX12_sparse 6 = .ok (.getfield 234, 3) := by decide +kernel
def wr_236 (_ _ : Nat) : Bool := false
theorem g_236_0 {X : Nat × (Nat → Int32)} {m : Nat → Nat → Int32} {P : Option ma_V → (Nat → Nat → Int32) → Prop}  (h : zm X 0 0 236 4 [(0, .inr (.inr (some 94))), (1, .inl (-1 : Int32)), (2, .inl (0 : Int32))] m P) : zm X 0 0 236 0 [(0, .inr (.inr (some 94)))] m P := by
  intro d w S Q hd hw hS hm HQ
  subst hm
  refine zw_push hm_236 dX12_sparse_0 (v := .inl (-1 : Int32)) rfl ?_
  refine zw_sto hm_236 dX12_sparse_1 [(1, .inl (-1 : Int32)), (0, .inr (.inr (some 94)))] rfl rfl rfl ?_
  refine zw_push hm_236 dX12_sparse_2 (v := .inl (0 : Int32)) rfl ?_
  refine zw_sto hm_236 dX12_sparse_3 [(2, .inl (0 : Int32)), (1, .inl (-1 : Int32)), (0, .inr (.inr (some 94)))] rfl rfl rfl ?_
  exact zw_sub (ma_nd_of (ks := [0, 1, 2]) rfl (by decide)) (ma_nd_of (ks := [2, 1, 0]) rfl (by decide)) (ma_le_cons rfl (ma_le_cons rfl (ma_le_cons rfl (ma_le_nil _)))) (h d w _ Q (by omega) (by omega) hS rfl HQ)
theorem g_236_4 {X : Nat × (Nat → Int32)} {m : Nat → Nat → Int32} {P : Option ma_V → (Nat → Nat → Int32) → Prop} (l1 : Int32) (l2 : Int32) (h : if (m 94 64) ≤ l2 then (P (some (.inl l1)) m) else ((0 ≤ l2 ∧ l2.toNatClampNeg < 128) ∧ (if (m 124 l2.toNatClampNeg) = 0 then ((0 ≤ l2 ∧ l2.toNatClampNeg < 128) ∧ (if (m 123 l2.toNatClampNeg) = 0 then (if l2 = (m 94 63) then (zm X 0 0 236 4 [(0, .inr (.inr (some 94))), (1, .inl l1), (2, .inl (l2 + (1 : Int32)))] m P) else ((0 ≤ l2 ∧ l2.toNatClampNeg < 128) ∧ (if (m 122 l2.toNatClampNeg) = 0 then (zm X 0 0 236 4 [(0, .inr (.inr (some 94))), (1, .inl l1), (2, .inl (l2 + (1 : Int32)))] m P) else ((0 ≤ l2 ∧ l2.toNatClampNeg < 128) ∧ (if ((m 122 l2.toNatClampNeg) * (100 : Int32)) ≤ ((m 94 19) * (m 94 18)) then (if l1 < 0 then (zm X 0 0 236 4 [(0, .inr (.inr (some 94))), (1, .inl l2), (2, .inl (l2 + (1 : Int32)))] m P) else ((0 ≤ l2 ∧ l2.toNatClampNeg < 128) ∧ ((0 ≤ l1 ∧ l1.toNatClampNeg < 128) ∧ (if (m 122 l1.toNatClampNeg) ≤ (m 122 l2.toNatClampNeg) then (zm X 0 0 236 4 [(0, .inr (.inr (some 94))), (1, .inl l1), (2, .inl (l2 + (1 : Int32)))] m P) else (zm X 0 0 236 4 [(0, .inr (.inr (some 94))), (1, .inl l2), (2, .inl (l2 + (1 : Int32)))] m P))))) else (zm X 0 0 236 4 [(0, .inr (.inr (some 94))), (1, .inl l1), (2, .inl (l2 + (1 : Int32)))] m P)))))) else (zm X 0 0 236 4 [(0, .inr (.inr (some 94))), (1, .inl l1), (2, .inl (l2 + (1 : Int32)))] m P))) else (zm X 0 0 236 4 [(0, .inr (.inr (some 94))), (1, .inl l1), (2, .inl (l2 + (1 : Int32)))] m P)))) : zm X 0 0 236 4 [(0, .inr (.inr (some 94))), (1, .inl l1), (2, .inl l2)] m P := by
  intro d w S Q hd hw hS hm HQ
  subst hm
  refine zw_push hm_236 dX12_sparse_4 (v := .inl l2) rfl ?_
  refine zw_push hm_236 dX12_sparse_5 (v := .inr (.inr (some 94))) rfl ?_
  refine zw_gf hm_236 dX12_sparse_6 (v := .inl ((mI S) 94 64)) (zT_is hS s_94) (zT_t hS s_94) rfl f_12_234_12 rfl ?_
  refine zw_if2 hm_236 dX12_sparse_9 (t := 98) rfl zc2_ge ?_ ?_
  · intro hc
    rw [if_pos hc] at h
    refine zw_push hm_236 dX12_sparse_98 (v := .inl l1) rfl ?_
    exact zw_iret hm_236 dX12_sparse_99 (HQ _ _ h)
  · intro hc
    rw [if_neg hc] at h
    refine zw_push hm_236 dX12_sparse_12 (v := .inr (.inr (some 94))) rfl ?_
    refine zw_gf hm_236 dX12_sparse_13 (v := .inr (.inr (some 124))) (zT_is hS s_94) (zT_t hS s_94) rfl f_12_104_12 (zT_f hS r_94_83) ?_
    refine zw_push hm_236 dX12_sparse_16 (v := .inl l2) rfl ?_
    obtain ⟨hg, h⟩ := h
    refine zw_ba hm_236 dX12_sparse_17 (zT_is hS s_124) (zT_h hS s_124) rfl rfl hg ?_
    show ma_wp X d w 236 18 [(0, .inr (.inr (some 94))), (1, .inl l1), (2, .inl l2)] [.inl ((mI S) 124 l2.toNatClampNeg)] S _
    refine zw_if0 hm_236 dX12_sparse_18 (t := 92) rfl zc0_ne ?_ ?_
    · intro hc
      rw [if_neg hc] at h
      refine zw_sto hm_236 dX12_sparse_92 [(2, .inl (l2 + (1 : Int32))), (0, .inr (.inr (some 94))), (1, .inl l1)] rfl rfl rfl ?_
      refine zw_goto hm_236 dX12_sparse_95 (t := 4) rfl ?_
      exact zw_sub (ma_nd_of (ks := [0, 1, 2]) rfl (by decide)) (ma_nd_of (ks := [2, 0, 1]) rfl (by decide)) (ma_le_cons rfl (ma_le_cons rfl (ma_le_cons rfl (ma_le_nil _)))) (h d w _ Q (by omega) (by omega) hS rfl HQ)
    · intro hc
      rw [if_pos (Classical.not_not.mp hc)] at h
      refine zw_push hm_236 dX12_sparse_21 (v := .inr (.inr (some 94))) rfl ?_
      refine zw_gf hm_236 dX12_sparse_22 (v := .inr (.inr (some 123))) (zT_is hS s_94) (zT_t hS s_94) rfl f_12_101_12 (zT_f hS r_94_82) ?_
      refine zw_push hm_236 dX12_sparse_25 (v := .inl l2) rfl ?_
      obtain ⟨hg, h⟩ := h
      refine zw_ba hm_236 dX12_sparse_26 (zT_is hS s_123) (zT_h hS s_123) rfl rfl hg ?_
      show ma_wp X d w 236 27 [(0, .inr (.inr (some 94))), (1, .inl l1), (2, .inl l2)] [.inl ((mI S) 123 l2.toNatClampNeg)] S _
      refine zw_if0 hm_236 dX12_sparse_27 (t := 92) rfl zc0_ne ?_ ?_
      · intro hc
        rw [if_neg hc] at h
        refine zw_sto hm_236 dX12_sparse_92 [(2, .inl (l2 + (1 : Int32))), (0, .inr (.inr (some 94))), (1, .inl l1)] rfl rfl rfl ?_
        refine zw_goto hm_236 dX12_sparse_95 (t := 4) rfl ?_
        exact zw_sub (ma_nd_of (ks := [0, 1, 2]) rfl (by decide)) (ma_nd_of (ks := [2, 0, 1]) rfl (by decide)) (ma_le_cons rfl (ma_le_cons rfl (ma_le_cons rfl (ma_le_nil _)))) (h d w _ Q (by omega) (by omega) hS rfl HQ)
      · intro hc
        rw [if_pos (Classical.not_not.mp hc)] at h
        refine zw_push hm_236 dX12_sparse_30 (v := .inl l2) rfl ?_
        refine zw_push hm_236 dX12_sparse_31 (v := .inr (.inr (some 94))) rfl ?_
        refine zw_gf hm_236 dX12_sparse_32 (v := .inl ((mI S) 94 63)) (zT_is hS s_94) (zT_t hS s_94) rfl f_12_285_12 rfl ?_
        refine zw_if2 hm_236 dX12_sparse_35 (t := 92) rfl zc2_eq ?_ ?_
        · intro hc
          rw [if_pos hc] at h
          refine zw_sto hm_236 dX12_sparse_92 [(2, .inl (l2 + (1 : Int32))), (0, .inr (.inr (some 94))), (1, .inl l1)] rfl rfl rfl ?_
          refine zw_goto hm_236 dX12_sparse_95 (t := 4) rfl ?_
          exact zw_sub (ma_nd_of (ks := [0, 1, 2]) rfl (by decide)) (ma_nd_of (ks := [2, 0, 1]) rfl (by decide)) (ma_le_cons rfl (ma_le_cons rfl (ma_le_cons rfl (ma_le_nil _)))) (h d w _ Q (by omega) (by omega) hS rfl HQ)
        · intro hc
          rw [if_neg hc] at h
          refine zw_push hm_236 dX12_sparse_38 (v := .inr (.inr (some 94))) rfl ?_
          refine zw_gf hm_236 dX12_sparse_39 (v := .inr (.inr (some 122))) (zT_is hS s_94) (zT_t hS s_94) rfl f_12_98_12 (zT_f hS r_94_81) ?_
          refine zw_push hm_236 dX12_sparse_42 (v := .inl l2) rfl ?_
          obtain ⟨hg, h⟩ := h
          refine zw_ia hm_236 dX12_sparse_43 (zT_is hS s_122) (zT_h hS s_122) rfl hg ?_
          show ma_wp X d w 236 44 [(0, .inr (.inr (some 94))), (1, .inl l1), (2, .inl l2)] [.inl ((mI S) 122 l2.toNatClampNeg)] S _
          refine zw_if0 hm_236 dX12_sparse_44 (t := 92) rfl zc0_eq ?_ ?_
          · intro hc
            rw [if_pos hc] at h
            refine zw_sto hm_236 dX12_sparse_92 [(2, .inl (l2 + (1 : Int32))), (0, .inr (.inr (some 94))), (1, .inl l1)] rfl rfl rfl ?_
            refine zw_goto hm_236 dX12_sparse_95 (t := 4) rfl ?_
            exact zw_sub (ma_nd_of (ks := [0, 1, 2]) rfl (by decide)) (ma_nd_of (ks := [2, 0, 1]) rfl (by decide)) (ma_le_cons rfl (ma_le_cons rfl (ma_le_cons rfl (ma_le_nil _)))) (h d w _ Q (by omega) (by omega) hS rfl HQ)
          · intro hc
            rw [if_neg hc] at h
            refine zw_push hm_236 dX12_sparse_47 (v := .inr (.inr (some 94))) rfl ?_
            refine zw_gf hm_236 dX12_sparse_48 (v := .inr (.inr (some 122))) (zT_is hS s_94) (zT_t hS s_94) rfl f_12_98_12 (zT_f hS r_94_81) ?_
            refine zw_push hm_236 dX12_sparse_51 (v := .inl l2) rfl ?_
            obtain ⟨hg, h⟩ := h
            refine zw_ia hm_236 dX12_sparse_52 (zT_is hS s_122) (zT_h hS s_122) rfl hg ?_
            show ma_wp X d w 236 53 [(0, .inr (.inr (some 94))), (1, .inl l1), (2, .inl l2)] [.inl ((mI S) 122 l2.toNatClampNeg)] S _
            refine zw_push hm_236 dX12_sparse_53 (v := .inl (100 : Int32)) rfl ?_
            refine zw_stk hm_236 dX12_sparse_55 (st₉ := [.inl (((mI S) 122 l2.toNatClampNeg) * (100 : Int32))]) rfl rfl ?_
            refine zw_push hm_236 dX12_sparse_56 (v := .inr (.inr (some 94))) rfl ?_
            refine zw_gf hm_236 dX12_sparse_57 (v := .inl ((mI S) 94 19)) (zT_is hS s_94) (zT_t hS s_94) rfl f_12_225_12 rfl ?_
            refine zw_push hm_236 dX12_sparse_60 (v := .inr (.inr (some 94))) rfl ?_
            refine zw_gf hm_236 dX12_sparse_61 (v := .inl ((mI S) 94 18)) (zT_is hS s_94) (zT_t hS s_94) rfl f_12_222_12 rfl ?_
            refine zw_stk hm_236 dX12_sparse_64 (st₉ := [.inl (((mI S) 94 19) * ((mI S) 94 18)), .inl (((mI S) 122 l2.toNatClampNeg) * (100 : Int32))]) rfl rfl ?_
            refine zw_if2 hm_236 dX12_sparse_65 (t := 71) rfl zc2_le ?_ ?_
            · intro hc
              rw [if_pos hc] at h
              refine zw_push hm_236 dX12_sparse_71 (v := .inl l1) rfl ?_
              refine zw_if0 hm_236 dX12_sparse_72 (t := 90) rfl zc0_lt ?_ ?_
              · intro hc
                rw [if_pos hc] at h
                refine zw_push hm_236 dX12_sparse_90 (v := .inl l2) rfl ?_
                refine zw_sto hm_236 dX12_sparse_91 [(1, .inl l2), (0, .inr (.inr (some 94))), (2, .inl l2)] rfl rfl rfl ?_
                refine zw_sto hm_236 dX12_sparse_92 [(2, .inl (l2 + (1 : Int32))), (1, .inl l2), (0, .inr (.inr (some 94)))] rfl rfl rfl ?_
                refine zw_goto hm_236 dX12_sparse_95 (t := 4) rfl ?_
                exact zw_sub (ma_nd_of (ks := [0, 1, 2]) rfl (by decide)) (ma_nd_of (ks := [2, 1, 0]) rfl (by decide)) (ma_le_cons rfl (ma_le_cons rfl (ma_le_cons rfl (ma_le_nil _)))) (h d w _ Q (by omega) (by omega) hS rfl HQ)
              · intro hc
                rw [if_neg hc] at h
                refine zw_push hm_236 dX12_sparse_75 (v := .inr (.inr (some 94))) rfl ?_
                refine zw_gf hm_236 dX12_sparse_76 (v := .inr (.inr (some 122))) (zT_is hS s_94) (zT_t hS s_94) rfl f_12_98_12 (zT_f hS r_94_81) ?_
                refine zw_push hm_236 dX12_sparse_79 (v := .inl l2) rfl ?_
                obtain ⟨hg, h⟩ := h
                refine zw_ia hm_236 dX12_sparse_80 (zT_is hS s_122) (zT_h hS s_122) rfl hg ?_
                show ma_wp X d w 236 81 [(0, .inr (.inr (some 94))), (1, .inl l1), (2, .inl l2)] [.inl ((mI S) 122 l2.toNatClampNeg)] S _
                refine zw_push hm_236 dX12_sparse_81 (v := .inr (.inr (some 94))) rfl ?_
                refine zw_gf hm_236 dX12_sparse_82 (v := .inr (.inr (some 122))) (zT_is hS s_94) (zT_t hS s_94) rfl f_12_98_12 (zT_f hS r_94_81) ?_
                refine zw_push hm_236 dX12_sparse_85 (v := .inl l1) rfl ?_
                obtain ⟨hg, h⟩ := h
                refine zw_ia hm_236 dX12_sparse_86 (zT_is hS s_122) (zT_h hS s_122) rfl hg ?_
                show ma_wp X d w 236 87 [(0, .inr (.inr (some 94))), (1, .inl l1), (2, .inl l2)] [.inl ((mI S) 122 l1.toNatClampNeg), .inl ((mI S) 122 l2.toNatClampNeg)] S _
                refine zw_if2 hm_236 dX12_sparse_87 (t := 92) rfl zc2_ge ?_ ?_
                · intro hc
                  rw [if_pos hc] at h
                  refine zw_sto hm_236 dX12_sparse_92 [(2, .inl (l2 + (1 : Int32))), (0, .inr (.inr (some 94))), (1, .inl l1)] rfl rfl rfl ?_
                  refine zw_goto hm_236 dX12_sparse_95 (t := 4) rfl ?_
                  exact zw_sub (ma_nd_of (ks := [0, 1, 2]) rfl (by decide)) (ma_nd_of (ks := [2, 0, 1]) rfl (by decide)) (ma_le_cons rfl (ma_le_cons rfl (ma_le_cons rfl (ma_le_nil _)))) (h d w _ Q (by omega) (by omega) hS rfl HQ)
                · intro hc
                  rw [if_neg hc] at h
                  refine zw_push hm_236 dX12_sparse_90 (v := .inl l2) rfl ?_
                  refine zw_sto hm_236 dX12_sparse_91 [(1, .inl l2), (0, .inr (.inr (some 94))), (2, .inl l2)] rfl rfl rfl ?_
                  refine zw_sto hm_236 dX12_sparse_92 [(2, .inl (l2 + (1 : Int32))), (1, .inl l2), (0, .inr (.inr (some 94)))] rfl rfl rfl ?_
                  refine zw_goto hm_236 dX12_sparse_95 (t := 4) rfl ?_
                  exact zw_sub (ma_nd_of (ks := [0, 1, 2]) rfl (by decide)) (ma_nd_of (ks := [2, 1, 0]) rfl (by decide)) (ma_le_cons rfl (ma_le_cons rfl (ma_le_cons rfl (ma_le_nil _)))) (h d w _ Q (by omega) (by omega) hS rfl HQ)
            · intro hc
              rw [if_neg hc] at h
              refine zw_goto hm_236 dX12_sparse_68 (t := 92) rfl ?_
              refine zw_sto hm_236 dX12_sparse_92 [(2, .inl (l2 + (1 : Int32))), (0, .inr (.inr (some 94))), (1, .inl l1)] rfl rfl rfl ?_
              refine zw_goto hm_236 dX12_sparse_95 (t := 4) rfl ?_
              exact zw_sub (ma_nd_of (ks := [0, 1, 2]) rfl (by decide)) (ma_nd_of (ks := [2, 0, 1]) rfl (by decide)) (ma_le_cons rfl (ma_le_cons rfl (ma_le_cons rfl (ma_le_nil _)))) (h d w _ Q (by omega) (by omega) hS rfl HQ)
theorem lp_236_4 {X : Nat × (Nat → Int32)} {P : Option ma_V → (Nat → Nat → Int32) → Prop} {m0 : Nat → Nat → Int32} (h0 : zV m0) (K : ∀ v m₉, zF wr_236 m0 m₉ → zV m₉ → (v.toInt = -1 ∨ (0 ≤ v.toInt ∧ v.toInt < (m₉ 94 64).toInt ∧ (m₉ 124) v.toNatClampNeg = 0)) → P (some (.inl v)) m₉) : ∀ (n : Nat) (m : Nat → Nat → Int32) (l1 : Int32) (l2 : Int32), (128 - l2.toInt).toNat = n → zF wr_236 m0 m → zV m → (0 ≤ l2.toInt) → (-1 ≤ l1.toInt) → (l1.toInt ≤ 127) → (l1.toInt = -1 ∨ (0 ≤ l1.toInt ∧ l1.toInt < (m 94 64).toInt ∧ (m 124) l1.toNatClampNeg = 0)) → zm X 0 0 236 4 [(0, .inr (.inr (some 94))), (1, .inl l1), (2, .inl l2)] m P := by
  intro n
  induction n using Nat.strongRecOn with
  | _ n IH =>
    intro m l1 l2 hmu hF hV hi0 hi1 hi2 r_SP
    refine g_236_4 l1 l2 ?_
    have f1 : 0 ≤ (m 94 64).toInt ∧ (m 94 64).toInt ≤ 93 := rs_94_64 (m := m) hV
    have b2 := i_bd l2
    refine zd (fun (h3 : (m 94 64) ≤ l2) => ?_) (fun (h3 : ¬ (m 94 64) ≤ l2) => ?_)
    · skip
      have g4 := i_le h3
      have b5 := i_bd l1
      exact K (l1) _ hF hV r_SP
    · skip
      have g6 := i_nle h3
      have hg7 : (0 ≤ l2 ∧ l2.toNatClampNeg < 128) := i_ix (by omega) (by omega)
      refine ⟨hg7, ?_⟩
      first | have f8 : 0 ≤ (m 124 l2.toNatClampNeg).toInt ∧ (m 124 l2.toNatClampNeg).toInt ≤ 1 := ra_124 (m := m) hV (k := l2.toNatClampNeg) (i_ix (n := 128) (by omega) (by omega)).2 | have b9 := i_bd (m 124 l2.toNatClampNeg)
      have li10 : (0 : Int32).toInt = 0 := rfl
      refine zd (fun (h11 : (m 124 l2.toNatClampNeg) = (0 : Int32)) => ?_) (fun (h11 : ¬ (m 124 l2.toNatClampNeg) = (0 : Int32)) => ?_)
      · skip
        have g12 := i_eq h11
        have hg13 : (0 ≤ l2 ∧ l2.toNatClampNeg < 128) := i_ix (by omega) (by omega)
        refine ⟨hg13, ?_⟩
        first | have f14 : 0 ≤ (m 123 l2.toNatClampNeg).toInt ∧ (m 123 l2.toNatClampNeg).toInt ≤ 1 := ra_123 (m := m) hV (k := l2.toNatClampNeg) (i_ix (n := 128) (by omega) (by omega)).2 | have b15 := i_bd (m 123 l2.toNatClampNeg)
        refine zd (fun (h16 : (m 123 l2.toNatClampNeg) = (0 : Int32)) => ?_) (fun (h16 : ¬ (m 123 l2.toNatClampNeg) = (0 : Int32)) => ?_)
        · skip
          have g17 := i_eq h16
          have f18 : 0 ≤ (m 94 63).toInt ∧ (m 94 63).toInt ≤ 127 := rs_94_63 (m := m) hV
          refine zd (fun (h19 : l2 = (m 94 63)) => ?_) (fun (h19 : ¬ l2 = (m 94 63)) => ?_)
          · skip
            have g20 := i_eq h19
            have b21 := i_bd l1
            first | have e22 : (l2 + (1 : Int32)).toInt = l2.toInt + (1) := i_addk rfl (by omega) (by omega) | have b23 := i_bd (l2 + (1 : Int32))
            exact IH (128 - (l2 + (1 : Int32)).toInt).toNat (by omega) _ (l1) ((l2 + (1 : Int32))) rfl hF hV (by omega) (by omega) (by omega) r_SP
          · skip
            have g24 := i_ne h19
            have hg25 : (0 ≤ l2 ∧ l2.toNatClampNeg < 128) := i_ix (by omega) (by omega)
            refine ⟨hg25, ?_⟩
            have b26 := i_bd (m 122 l2.toNatClampNeg)
            refine zd (fun (h27 : (m 122 l2.toNatClampNeg) = (0 : Int32)) => ?_) (fun (h27 : ¬ (m 122 l2.toNatClampNeg) = (0 : Int32)) => ?_)
            · skip
              have g28 := i_eq h27
              have b29 := i_bd l1
              first | have e30 : (l2 + (1 : Int32)).toInt = l2.toInt + (1) := i_addk rfl (by omega) (by omega) | have b31 := i_bd (l2 + (1 : Int32))
              exact IH (128 - (l2 + (1 : Int32)).toInt).toNat (by omega) _ (l1) ((l2 + (1 : Int32))) rfl hF hV (by omega) (by omega) (by omega) r_SP
            · skip
              have g32 := i_ne h27
              have hg33 : (0 ≤ l2 ∧ l2.toNatClampNeg < 128) := i_ix (by omega) (by omega)
              refine ⟨hg33, ?_⟩
              have li34 : (100 : Int32).toInt = 100 := rfl
              first | have e35 : ((m 122 l2.toNatClampNeg) * (100 : Int32)).toInt = (m 122 l2.toNatClampNeg).toInt * 100 := i_mulk rfl (by omega) (by omega) | have b36 := i_bd ((m 122 l2.toNatClampNeg) * (100 : Int32))
              have b37 := i_bd (m 94 19)
              have f38 : 0 ≤ (m 94 18).toInt ∧ (m 94 18).toInt ≤ 256 := rs_94_18 (m := m) hV
              first | have f39 := i_muln (x := (m 94 19)) (y := (m 94 18)) (by omega) (by omega) (by omega) (by omega) | have b40 := i_bd ((m 94 19) * (m 94 18))
              refine zd (fun (h41 : ((m 122 l2.toNatClampNeg) * (100 : Int32)) ≤ ((m 94 19) * (m 94 18))) => ?_) (fun (h41 : ¬ ((m 122 l2.toNatClampNeg) * (100 : Int32)) ≤ ((m 94 19) * (m 94 18))) => ?_)
              · skip
                have g42 := i_le h41
                have b43 := i_bd l1
                refine zd (fun (h44 : l1 < (0 : Int32)) => ?_) (fun (h44 : ¬ l1 < (0 : Int32)) => ?_)
                · skip
                  have g45 := i_lt h44
                  first | have e46 : (l2 + (1 : Int32)).toInt = l2.toInt + (1) := i_addk rfl (by omega) (by omega) | have b47 := i_bd (l2 + (1 : Int32))
                  exact IH (128 - (l2 + (1 : Int32)).toInt).toNat (by omega) _ (l2) ((l2 + (1 : Int32))) rfl hF hV (by omega) (by omega) (by omega) (show l2.toInt = -1 ∨ (0 ≤ l2.toInt ∧ l2.toInt < (m 94 64).toInt ∧ (m 124) l2.toNatClampNeg = 0) from by first | (exact Or.inl (by decide)) | (exact Or.inr ⟨by omega, by omega, by assumption⟩) | (exfalso; omega; done) | (exfalso; contradiction; done))
                · skip
                  have g48 := i_nlt h44
                  have hg49 : (0 ≤ l2 ∧ l2.toNatClampNeg < 128) := i_ix (by omega) (by omega)
                  refine ⟨hg49, ?_⟩
                  have hg50 : (0 ≤ l1 ∧ l1.toNatClampNeg < 128) := i_ix (by omega) (by omega)
                  refine ⟨hg50, ?_⟩
                  have b51 := i_bd (m 122 l1.toNatClampNeg)
                  refine zd (fun (h52 : (m 122 l1.toNatClampNeg) ≤ (m 122 l2.toNatClampNeg)) => ?_) (fun (h52 : ¬ (m 122 l1.toNatClampNeg) ≤ (m 122 l2.toNatClampNeg)) => ?_)
                  · skip
                    have g53 := i_le h52
                    first | have e54 : (l2 + (1 : Int32)).toInt = l2.toInt + (1) := i_addk rfl (by omega) (by omega) | have b55 := i_bd (l2 + (1 : Int32))
                    exact IH (128 - (l2 + (1 : Int32)).toInt).toNat (by omega) _ (l1) ((l2 + (1 : Int32))) rfl hF hV (by omega) (by omega) (by omega) r_SP
                  · skip
                    have g56 := i_nle h52
                    first | have e57 : (l2 + (1 : Int32)).toInt = l2.toInt + (1) := i_addk rfl (by omega) (by omega) | have b58 := i_bd (l2 + (1 : Int32))
                    exact IH (128 - (l2 + (1 : Int32)).toInt).toNat (by omega) _ (l2) ((l2 + (1 : Int32))) rfl hF hV (by omega) (by omega) (by omega) (show l2.toInt = -1 ∨ (0 ≤ l2.toInt ∧ l2.toInt < (m 94 64).toInt ∧ (m 124) l2.toNatClampNeg = 0) from by first | (exact Or.inl (by decide)) | (exact Or.inr ⟨by omega, by omega, by assumption⟩) | (exfalso; omega; done) | (exfalso; contradiction; done))
              · skip
                have g59 := i_nle h41
                have b60 := i_bd l1
                first | have e61 : (l2 + (1 : Int32)).toInt = l2.toInt + (1) := i_addk rfl (by omega) (by omega) | have b62 := i_bd (l2 + (1 : Int32))
                exact IH (128 - (l2 + (1 : Int32)).toInt).toNat (by omega) _ (l1) ((l2 + (1 : Int32))) rfl hF hV (by omega) (by omega) (by omega) r_SP
        · skip
          have g63 := i_ne h16
          have b64 := i_bd l1
          first | have e65 : (l2 + (1 : Int32)).toInt = l2.toInt + (1) := i_addk rfl (by omega) (by omega) | have b66 := i_bd (l2 + (1 : Int32))
          exact IH (128 - (l2 + (1 : Int32)).toInt).toNat (by omega) _ (l1) ((l2 + (1 : Int32))) rfl hF hV (by omega) (by omega) (by omega) r_SP
      · skip
        have g67 := i_ne h11
        have b68 := i_bd l1
        first | have e69 : (l2 + (1 : Int32)).toInt = l2.toInt + (1) := i_addk rfl (by omega) (by omega) | have b70 := i_bd (l2 + (1 : Int32))
        exact IH (128 - (l2 + (1 : Int32)).toInt).toNat (by omega) _ (l1) ((l2 + (1 : Int32))) rfl hF hV (by omega) (by omega) (by omega) r_SP
theorem sp_236 {X : Nat × (Nat → Int32)} {P : Option ma_V → (Nat → Nat → Int32) → Prop} {m : Nat → Nat → Int32}  (hV : zV m)  (KZ : ∀ v m₉, zV (zov wr_236 m m₉) → (v.toInt = -1 ∨ (0 ≤ v.toInt ∧ v.toInt < (m 94 64).toInt ∧ (m 124) v.toNatClampNeg = 0)) → P (some (.inl v)) (zov wr_236 m m₉)) : zm X 0 0 236 0 [(0, .inr (.inr (some 94)))] m P := by
  have K : ∀ v m₉, zF wr_236 m m₉ → zV m₉ → (v.toInt = -1 ∨ (0 ≤ v.toInt ∧ v.toInt < (m₉ 94 64).toInt ∧ (m₉ 124) v.toNatClampNeg = 0)) → P (some (.inl v)) m₉ := by
    intro v m₉ hf z q0
    have e := zov_eq hf
    rw [e] at z ⊢
    try rw [e] at q0
    exact KZ v m₉ z q0
  refine g_236_0  ?_
  have li1 : (-1 : Int32).toInt = -1 := rfl
  have li2 : (0 : Int32).toInt = 0 := rfl
  exact lp_236_4 hV K _ _ ((-1 : Int32)) ((0 : Int32)) rfl zF_rfl hV (by omega) (by omega) (by omega) (show (-1 : Int32).toInt = -1 ∨ (0 ≤ (-1 : Int32).toInt ∧ (-1 : Int32).toInt < (m 94 64).toInt ∧ (m 124) (-1 : Int32).toNatClampNeg = 0) from by first | (exact Or.inl (by decide)) | (exact Or.inr ⟨by omega, by omega, by assumption⟩) | (exfalso; omega; done) | (exfalso; contradiction; done))

/-! from 94.434 -/
theorem mu_congr {X X₉ : Nat → Nat → Int32} {c k : Nat} {x : Int32} (h : X c = X₉ c) : ma_u X c k x c = ma_u X₉ c k x c := by
  funext j
  rw [mu_at, mu_at, h]
section RG2
variable {si rg pr x r v : Int32} {us at₉ ws rt : Nat → Int32}
theorem RG_LE (h : zRG1 si rg pr us at₉ ws rt) (h2 : zLE rt rg v) (hs : si.toInt ≤ 256) (hr : rg.toInt ≤ 93) : 0 ≤ v.toInt → (v.toInt < rg.toInt ∧ (rt v.toNatClampNeg).toInt = 0 ∧ 0 ≤ (v * si).toInt ∧ (v * si).toInt + si.toInt ≤ 1500 ∧ (v * si).toInt + si.toInt ≤ rg.toInt * si.toInt) := by
  intro z
  have a := LE_ge h2 z
  have b := RG_mul h z a.1 hs hr
  refine ⟨a.1, ?_, b⟩
  rw [a.2]
  rfl
theorem RG_ml (h : zRG1 si rg pr us at₉ ws rt) (hs : si.toInt ≤ 256) (hr : rg.toInt ≤ 93) : 0 ≤ r.toInt ∧ r.toInt < rg.toInt → (0 ≤ (r * si).toInt ∧ (r * si).toInt + si.toInt ≤ 1500 ∧ (r * si).toInt + si.toInt ≤ rg.toInt * si.toInt ∧ (rt r.toNatClampNeg).toInt ≤ si.toInt) := by
  intro z
  have b := RG_mul h z.1 z.2 hs hr
  exact ⟨b.1, b.2.1, b.2.2, RG_top h z.1 z.2⟩
end RG2
/-- what a move does -/
def zmov (s to : Int32) (at₉ ow at2 ow2 : Nat → Int32) : Prop := (at2 = at₉ ∧ ow2 = ow ∧ (at₉ s.toNatClampNeg).toInt = to.toInt) ∨ ((∀ j, at2 j = if j = s.toNatClampNeg then to else at₉ j) ∧ ow2 to.toNatClampNeg = s ∧ ∀ p, p ≠ to.toNatClampNeg → ow2 p = ow p ∨ ((p : Int) = (at₉ s.toNatClampNeg).toInt ∧ ow p = s ∧ (ow2 p).toInt = -1))
section MV1
variable {m ma mo : Nat → Nat → Int32} {c ca co k : Nat} {si rg pr x s to : Int32} {us at₉ ws rt at2 ow ow2 : Nat → Int32}
theorem mv_0 (h : (at₉ s.toNatClampNeg).toInt = to.toInt) : zmov s to at₉ ow at₉ ow := Or.inl ⟨rfl, rfl, h⟩
theorem mv_1 (hx : x.toInt = -1) (hl : (ma ca s.toNatClampNeg).toInt = (k : Int)) (ho : mo co k = s) : zmov s to (ma ca) (mo co) (ma_u ma ca s.toNatClampNeg to ca) (ma_u (ma_u mo co k x) co to.toNatClampNeg s co) := by
  refine Or.inr ⟨fun j => mu_at j, mu_self, fun p hp => ?_⟩
  rw [mu_ne hp, mu_at]
  split
  · next e => exact Or.inr ⟨by rw [e, hl], by rw [e]; exact ho, hx⟩
  · exact Or.inl rfl
theorem mv_2 : zmov s to (ma ca) (mo co) (ma_u ma ca s.toNatClampNeg to ca) (ma_u mo co to.toNatClampNeg s co) := Or.inr ⟨fun j => mu_at j, mu_self, fun p hp => Or.inl (mu_ne hp)⟩
theorem mv_at (h : zmov s to at₉ ow at2 ow2) (j : Nat) : (at2 j).toInt = (at₉ j).toInt ∨ (at2 j).toInt = to.toInt := by
  rcases h with ⟨e, _, _⟩ | ⟨e, _, _⟩
  · rw [e]; exact Or.inl rfl
  · rw [e]; split
    · exact Or.inr rfl
    · exact Or.inl rfl
theorem mv_s (h : zmov s to at₉ ow at2 ow2) : (at2 s.toNatClampNeg).toInt = to.toInt := by
  rcases h with ⟨e, _, e2⟩ | ⟨e, _, _⟩
  · rw [e]; exact e2
  · rw [e, if_pos rfl]
theorem RG_mv2 (h : zRG1 si rg pr us at₉ ws rt) (hm : zmov s to at₉ ow at2 ow2) (hx : to.toInt < rg.toInt * si.toInt) : zRG1 si rg pr us at2 ws rt := by
  refine ⟨h.1, h.2.1, h.2.2.1, h.2.2.2.1, h.2.2.2.2.1, fun s hs hu => ?_⟩
  have := h.2.2.2.2.2 s hs hu
  refine ⟨?_, this.2⟩
  rcases mv_at hm s with e | e
  · rw [e]; exact this.1
  · rw [e]; exact hx
end MV1

/-! from 94.435 -/
/-! the reference (written by wip/tools/gen94m.py) -/
set_option maxRecDepth 100000 in
theorem hm_205 : ma_md 205 = some (12, yX12_move, cX12_move, 3, none) := rfl
theorem f_12_252_12 : ma_fld 12 252 12 = some 48 := by decide +kernel
theorem p_12_252_12 : ma_pk 12 252 12 48 = true := by decide +kernel
theorem dX12_move_0 : decode cX12_move 0 = .ok (.aload_n 0, 1) := by decide +kernel
theorem dX12_move_4 : decode cX12_move 4 = .ok (.iload_n 1, 1) := by decide +kernel
theorem dX12_move_6 : decode cX12_move 6 = .ok (.iload_n 2, 1) := by decide +kernel
theorem dX12_move_11 : decode cX12_move 11 = .ok (.aload_n 0, 1) := by decide +kernel
theorem dX12_move_15 : decode cX12_move 15 = .ok (.aload_n 0, 1) := by decide +kernel
theorem dX12_move_19 : decode cX12_move 19 = .ok (.iload_n 1, 1) := by decide +kernel
theorem dX12_move_22 : decode cX12_move 22 = .ok (.iload_n 1, 1) := by decide +kernel
theorem dX12_move_38 : decode cX12_move 38 = .ok (.aload_n 0, 1) := by decide +kernel
theorem dX12_move_42 : decode cX12_move 42 = .ok (.iload_n 1, 1) := by decide +kernel
theorem dX12_move_43 : decode cX12_move 43 = .ok (.iload_n 2, 1) := by decide +kernel
theorem dX12_move_45 : decode cX12_move 45 = .ok (.aload_n 0, 1) := by decide +kernel
theorem dX12_move_49 : decode cX12_move 49 = .ok (.iload_n 2, 1) := by decide +kernel
theorem dX12_move_50 : decode cX12_move 50 = .ok (.iload_n 1, 1) := by decide +kernel
theorem dX12_move_52 : decode cX12_move 52 = .ok (.aload_n 0, 1) := by decide +kernel
theorem dX12_move_53 : decode cX12_move 53 = .ok (.dup, 1) := by decide +kernel
theorem dX12_move_57 : decode cX12_move 57 = .ok (.aload_n 0, 1) := by decide +kernel
theorem dX12_move_58 : decode cX12_move 58 = .ok (.iload_n 1, 1) := by decide +kernel
theorem dX12_move_59 : decode cX12_move 59 = .ok (.invokevirtual 327, 3) := by decide +kernel
theorem dX12_move_62 : decode cX12_move 62 = .ok (.iadd, 1) := by decide +kernel
theorem dX12_move_66 : decode cX12_move 66 = .ok (.return_, 1) := by decide +kernel
theorem dX12_move_63 : decode cX12_move 63 = .ok (.putfield 252, 3) := by decide +kernel
theorem dX12_move_54 : decode cX12_move 54 = .ok (.getfield 252, 3) := by decide +kernel
theorem dX12_move_51 : decode cX12_move 51 = .ok (.iastore, 1) := by decide +kernel
theorem dX12_move_46 : decode cX12_move 46 = .ok (.getfield 65, 3) := by decide +kernel
theorem dX12_move_44 : decode cX12_move 44 = .ok (.iastore, 1) := by decide +kernel
theorem dX12_move_39 : decode cX12_move 39 = .ok (.getfield 40, 3) := by decide +kernel
theorem dX12_move_26 : decode cX12_move 26 = .ok (.aload_n 0, 1) := by decide +kernel
theorem dX12_move_30 : decode cX12_move 30 = .ok (.aload_n 0, 1) := by decide +kernel
theorem dX12_move_34 : decode cX12_move 34 = .ok (.iload_n 1, 1) := by decide +kernel
theorem dX12_move_36 : decode cX12_move 36 = .ok (.iconst (-1), 1) := by decide +kernel
theorem dX12_move_37 : decode cX12_move 37 = .ok (.iastore, 1) := by decide +kernel
theorem dX12_move_35 : decode cX12_move 35 = .ok (.iaload, 1) := by decide +kernel
theorem dX12_move_31 : decode cX12_move 31 = .ok (.getfield 40, 3) := by decide +kernel
theorem dX12_move_27 : decode cX12_move 27 = .ok (.getfield 65, 3) := by decide +kernel
theorem dX12_move_23 : decode cX12_move 23 = .ok (.if_icmp .ne 15, 3) := by decide +kernel
theorem dX12_move_21 : decode cX12_move 21 = .ok (.iaload, 1) := by decide +kernel
theorem dX12_move_20 : decode cX12_move 20 = .ok (.iaload, 1) := by decide +kernel
theorem dX12_move_16 : decode cX12_move 16 = .ok (.getfield 40, 3) := by decide +kernel
theorem dX12_move_12 : decode cX12_move 12 = .ok (.getfield 65, 3) := by decide +kernel
theorem dX12_move_10 : decode cX12_move 10 = .ok (.return_, 1) := by decide +kernel
theorem dX12_move_7 : decode cX12_move 7 = .ok (.if_icmp .ne 4, 3) := by decide +kernel
theorem dX12_move_5 : decode cX12_move 5 = .ok (.iaload, 1) := by decide +kernel
theorem dX12_move_1 : decode cX12_move 1 = .ok (.getfield 40, 3) := by decide +kernel
def wr_205 (c k : Nat) : Bool := Nat.beq c 103 || Nat.beq c 111 || (Nat.beq c 94 && (Nat.beq k 48))
theorem g_205_0 {X : Nat × (Nat → Int32)} {m : Nat → Nat → Int32} {P : Option ma_V → (Nat → Nat → Int32) → Prop} (s : Int32) (to : Int32) (h : (0 ≤ s ∧ s.toNatClampNeg < 3100) ∧ (if (m 103 s.toNatClampNeg) = to then (P none m) else ((0 ≤ s ∧ s.toNatClampNeg < 3100) ∧ ((0 ≤ (m 103 s.toNatClampNeg) ∧ (m 103 s.toNatClampNeg).toNatClampNeg < 4600) ∧ (if (m 111 (m 103 s.toNatClampNeg).toNatClampNeg) = s then ((0 ≤ s ∧ s.toNatClampNeg < 3100) ∧ ((0 ≤ (m 103 s.toNatClampNeg) ∧ (m 103 s.toNatClampNeg).toNatClampNeg < 4600) ∧ ((0 ≤ s ∧ s.toNatClampNeg < 3100) ∧ ((0 ≤ to ∧ to.toNatClampNeg < 4600) ∧ ((0 ≤ s ∧ s.toNatClampNeg < 3100) ∧ (P none (ma_u (ma_u (ma_u (ma_u m 111 (m 103 s.toNatClampNeg).toNatClampNeg (-1 : Int32)) 103 s.toNatClampNeg to) 111 to.toNatClampNeg s) 94 48 ((m 94 48) + ((m 102 s.toNatClampNeg) + (1 : Int32)))))))))) else ((0 ≤ s ∧ s.toNatClampNeg < 3100) ∧ ((0 ≤ to ∧ to.toNatClampNeg < 4600) ∧ ((0 ≤ s ∧ s.toNatClampNeg < 3100) ∧ (P none (ma_u (ma_u (ma_u m 103 s.toNatClampNeg to) 111 to.toNatClampNeg s) 94 48 ((m 94 48) + ((m 102 s.toNatClampNeg) + (1 : Int32))))))))))))) : zm X 1 21 205 0 [(0, .inr (.inr (some 94))), (1, .inl s), (2, .inl to)] m P := by
  intro d w S Q hd hw hS hm HQ
  subst hm
  refine zw_push hm_205 dX12_move_0 (v := .inr (.inr (some 94))) rfl ?_
  refine zw_gf hm_205 dX12_move_1 (v := .inr (.inr (some 103))) (zT_is hS s_94) (zT_t hS s_94) rfl f_12_40_12 (zT_f hS r_94_35) ?_
  refine zw_push hm_205 dX12_move_4 (v := .inl s) rfl ?_
  obtain ⟨hg, h⟩ := h
  refine zw_ia hm_205 dX12_move_5 (zT_is hS s_103) (zT_h hS s_103) rfl hg ?_
  show ma_wp X d w 205 6 [(0, .inr (.inr (some 94))), (1, .inl s), (2, .inl to)] [.inl ((mI S) 103 s.toNatClampNeg)] S _
  refine zw_push hm_205 dX12_move_6 (v := .inl to) rfl ?_
  refine zw_if2 hm_205 dX12_move_7 (t := 11) rfl zc2_ne ?_ ?_
  · intro hc
    rw [if_neg hc] at h
    refine zw_push hm_205 dX12_move_11 (v := .inr (.inr (some 94))) rfl ?_
    refine zw_gf hm_205 dX12_move_12 (v := .inr (.inr (some 111))) (zT_is hS s_94) (zT_t hS s_94) rfl f_12_65_12 (zT_f hS r_94_43) ?_
    refine zw_push hm_205 dX12_move_15 (v := .inr (.inr (some 94))) rfl ?_
    refine zw_gf hm_205 dX12_move_16 (v := .inr (.inr (some 103))) (zT_is hS s_94) (zT_t hS s_94) rfl f_12_40_12 (zT_f hS r_94_35) ?_
    refine zw_push hm_205 dX12_move_19 (v := .inl s) rfl ?_
    obtain ⟨hg, h⟩ := h
    refine zw_ia hm_205 dX12_move_20 (zT_is hS s_103) (zT_h hS s_103) rfl hg ?_
    show ma_wp X d w 205 21 [(0, .inr (.inr (some 94))), (1, .inl s), (2, .inl to)] [.inl ((mI S) 103 s.toNatClampNeg), .inr (.inr (some 111))] S _
    obtain ⟨hg, h⟩ := h
    refine zw_ia hm_205 dX12_move_21 (zT_is hS s_111) (zT_h hS s_111) rfl hg ?_
    show ma_wp X d w 205 22 [(0, .inr (.inr (some 94))), (1, .inl s), (2, .inl to)] [.inl ((mI S) 111 ((mI S) 103 s.toNatClampNeg).toNatClampNeg)] S _
    refine zw_push hm_205 dX12_move_22 (v := .inl s) rfl ?_
    refine zw_if2 hm_205 dX12_move_23 (t := 38) rfl zc2_ne ?_ ?_
    · intro hc
      rw [if_neg hc] at h
      refine zw_push hm_205 dX12_move_38 (v := .inr (.inr (some 94))) rfl ?_
      refine zw_gf hm_205 dX12_move_39 (v := .inr (.inr (some 103))) (zT_is hS s_94) (zT_t hS s_94) rfl f_12_40_12 (zT_f hS r_94_35) ?_
      refine zw_push hm_205 dX12_move_42 (v := .inl s) rfl ?_
      refine zw_push hm_205 dX12_move_43 (v := .inl to) rfl ?_
      obtain ⟨hg, h⟩ := h
      refine zw_ias hm_205 dX12_move_44 (zT_is hS s_103) (zT_h hS s_103) rfl hg ?_
      refine zw_push hm_205 dX12_move_45 (v := .inr (.inr (some 94))) rfl ?_
      refine zw_gf hm_205 dX12_move_46 (v := .inr (.inr (some 111))) (zT_is (zT_pi hS) s_94) (zT_t (zT_pi hS) s_94) rfl f_12_65_12 (zT_f (zT_pi hS) r_94_43) ?_
      refine zw_push hm_205 dX12_move_49 (v := .inl to) rfl ?_
      refine zw_push hm_205 dX12_move_50 (v := .inl s) rfl ?_
      obtain ⟨hg, h⟩ := h
      refine zw_ias hm_205 dX12_move_51 (zT_is (zT_pi hS) s_111) (zT_h (zT_pi hS) s_111) rfl hg ?_
      refine zw_push hm_205 dX12_move_52 (v := .inr (.inr (some 94))) rfl ?_
      refine zw_stk hm_205 dX12_move_53 (st₉ := [.inr (.inr (some 94)), .inr (.inr (some 94))]) rfl rfl ?_
      refine zw_gf hm_205 dX12_move_54 (v := .inl ((mI S) 94 48)) (zT_is (zT_pi (zT_pi hS)) s_94) (zT_t (zT_pi (zT_pi hS)) s_94) rfl f_12_252_12 rfl ?_
      refine zw_push hm_205 dX12_move_57 (v := .inr (.inr (some 94))) rfl ?_
      refine zw_push hm_205 dX12_move_58 (v := .inl s) rfl ?_
      refine zw_cv hm_205 dX12_move_59 v_12_327_12 hm_201 [.inl s] [.inl ((mI S) 94 48), .inr (.inr (some 94))] rfl (zT_rt (zT_pi (zT_pi hS)) s_94 rfl) ⟨by omega, by omega⟩ rfl ?_
      show ma_wp X (d - 1) (w - 21) 201 0 [(0, .inr (.inr (some 94))), (1, .inl s)] [] (ma_put (ma_put S 103 s.toNatClampNeg (.inl to)) 111 to.toNatClampNeg (.inl s)) _
      refine zw_push hm_201 dX12_sizeOf_0 (v := .inr (.inr (some 94))) rfl ?_
      refine zw_gf hm_201 dX12_sizeOf_1 (v := .inr (.inr (some 102))) (zT_is (zT_pi (zT_pi hS)) s_94) (zT_t (zT_pi (zT_pi hS)) s_94) rfl f_12_37_12 (zT_f (zT_pi (zT_pi hS)) r_94_34) ?_
      refine zw_push hm_201 dX12_sizeOf_4 (v := .inl s) rfl ?_
      obtain ⟨hg, h⟩ := h
      refine zw_ia hm_201 dX12_sizeOf_5 (zT_is (zT_pi (zT_pi hS)) s_102) (zT_h (zT_pi (zT_pi hS)) s_102) rfl hg ?_
      show ma_wp X (d - 1) (w - 21) 201 6 [(0, .inr (.inr (some 94))), (1, .inl s)] [.inl ((mI S) 102 s.toNatClampNeg)] (ma_put (ma_put S 103 s.toNatClampNeg (.inl to)) 111 to.toNatClampNeg (.inl s)) _
      refine zw_push hm_201 dX12_sizeOf_6 (v := .inl (1 : Int32)) rfl ?_
      refine zw_stk hm_201 dX12_sizeOf_7 (st₉ := [.inl (((mI S) 102 s.toNatClampNeg) + (1 : Int32))]) rfl rfl ?_
      refine zw_iret hm_201 dX12_sizeOf_8 ?_
      show ma_wp X d w 205 62 [(0, .inr (.inr (some 94))), (1, .inl s), (2, .inl to)] [.inl (((mI S) 102 s.toNatClampNeg) + (1 : Int32)), .inl ((mI S) 94 48), .inr (.inr (some 94))] (ma_put (ma_put S 103 s.toNatClampNeg (.inl to)) 111 to.toNatClampNeg (.inl s)) _
      refine zw_stk hm_205 dX12_move_62 (st₉ := [.inl (((mI S) 94 48) + (((mI S) 102 s.toNatClampNeg) + (1 : Int32))), .inr (.inr (some 94))]) rfl rfl ?_
      refine zw_pf hm_205 dX12_move_63 (zT_is (zT_pi (zT_pi hS)) s_94) (zT_t (zT_pi (zT_pi hS)) s_94) p_12_252_12 zk_int ?_
      exact zw_vret hm_205 dX12_move_66 (HQ _ _ h)
    · intro hc
      rw [if_pos (Classical.not_not.mp hc)] at h
      refine zw_push hm_205 dX12_move_26 (v := .inr (.inr (some 94))) rfl ?_
      refine zw_gf hm_205 dX12_move_27 (v := .inr (.inr (some 111))) (zT_is hS s_94) (zT_t hS s_94) rfl f_12_65_12 (zT_f hS r_94_43) ?_
      refine zw_push hm_205 dX12_move_30 (v := .inr (.inr (some 94))) rfl ?_
      refine zw_gf hm_205 dX12_move_31 (v := .inr (.inr (some 103))) (zT_is hS s_94) (zT_t hS s_94) rfl f_12_40_12 (zT_f hS r_94_35) ?_
      refine zw_push hm_205 dX12_move_34 (v := .inl s) rfl ?_
      obtain ⟨hg, h⟩ := h
      refine zw_ia hm_205 dX12_move_35 (zT_is hS s_103) (zT_h hS s_103) rfl hg ?_
      show ma_wp X d w 205 36 [(0, .inr (.inr (some 94))), (1, .inl s), (2, .inl to)] [.inl ((mI S) 103 s.toNatClampNeg), .inr (.inr (some 111))] S _
      refine zw_push hm_205 dX12_move_36 (v := .inl (-1 : Int32)) rfl ?_
      obtain ⟨hg, h⟩ := h
      refine zw_ias hm_205 dX12_move_37 (zT_is hS s_111) (zT_h hS s_111) rfl hg ?_
      refine zw_push hm_205 dX12_move_38 (v := .inr (.inr (some 94))) rfl ?_
      refine zw_gf hm_205 dX12_move_39 (v := .inr (.inr (some 103))) (zT_is (zT_pi hS) s_94) (zT_t (zT_pi hS) s_94) rfl f_12_40_12 (zT_f (zT_pi hS) r_94_35) ?_
      refine zw_push hm_205 dX12_move_42 (v := .inl s) rfl ?_
      refine zw_push hm_205 dX12_move_43 (v := .inl to) rfl ?_
      obtain ⟨hg, h⟩ := h
      refine zw_ias hm_205 dX12_move_44 (zT_is (zT_pi hS) s_103) (zT_h (zT_pi hS) s_103) rfl hg ?_
      refine zw_push hm_205 dX12_move_45 (v := .inr (.inr (some 94))) rfl ?_
      refine zw_gf hm_205 dX12_move_46 (v := .inr (.inr (some 111))) (zT_is (zT_pi (zT_pi hS)) s_94) (zT_t (zT_pi (zT_pi hS)) s_94) rfl f_12_65_12 (zT_f (zT_pi (zT_pi hS)) r_94_43) ?_
      refine zw_push hm_205 dX12_move_49 (v := .inl to) rfl ?_
      refine zw_push hm_205 dX12_move_50 (v := .inl s) rfl ?_
      obtain ⟨hg, h⟩ := h
      refine zw_ias hm_205 dX12_move_51 (zT_is (zT_pi (zT_pi hS)) s_111) (zT_h (zT_pi (zT_pi hS)) s_111) rfl hg ?_
      refine zw_push hm_205 dX12_move_52 (v := .inr (.inr (some 94))) rfl ?_
      refine zw_stk hm_205 dX12_move_53 (st₉ := [.inr (.inr (some 94)), .inr (.inr (some 94))]) rfl rfl ?_
      refine zw_gf hm_205 dX12_move_54 (v := .inl ((mI S) 94 48)) (zT_is (zT_pi (zT_pi (zT_pi hS))) s_94) (zT_t (zT_pi (zT_pi (zT_pi hS))) s_94) rfl f_12_252_12 rfl ?_
      refine zw_push hm_205 dX12_move_57 (v := .inr (.inr (some 94))) rfl ?_
      refine zw_push hm_205 dX12_move_58 (v := .inl s) rfl ?_
      refine zw_cv hm_205 dX12_move_59 v_12_327_12 hm_201 [.inl s] [.inl ((mI S) 94 48), .inr (.inr (some 94))] rfl (zT_rt (zT_pi (zT_pi (zT_pi hS))) s_94 rfl) ⟨by omega, by omega⟩ rfl ?_
      show ma_wp X (d - 1) (w - 21) 201 0 [(0, .inr (.inr (some 94))), (1, .inl s)] [] (ma_put (ma_put (ma_put S 111 ((mI S) 103 s.toNatClampNeg).toNatClampNeg (.inl (-1 : Int32))) 103 s.toNatClampNeg (.inl to)) 111 to.toNatClampNeg (.inl s)) _
      refine zw_push hm_201 dX12_sizeOf_0 (v := .inr (.inr (some 94))) rfl ?_
      refine zw_gf hm_201 dX12_sizeOf_1 (v := .inr (.inr (some 102))) (zT_is (zT_pi (zT_pi (zT_pi hS))) s_94) (zT_t (zT_pi (zT_pi (zT_pi hS))) s_94) rfl f_12_37_12 (zT_f (zT_pi (zT_pi (zT_pi hS))) r_94_34) ?_
      refine zw_push hm_201 dX12_sizeOf_4 (v := .inl s) rfl ?_
      obtain ⟨hg, h⟩ := h
      refine zw_ia hm_201 dX12_sizeOf_5 (zT_is (zT_pi (zT_pi (zT_pi hS))) s_102) (zT_h (zT_pi (zT_pi (zT_pi hS))) s_102) rfl hg ?_
      show ma_wp X (d - 1) (w - 21) 201 6 [(0, .inr (.inr (some 94))), (1, .inl s)] [.inl ((mI S) 102 s.toNatClampNeg)] (ma_put (ma_put (ma_put S 111 ((mI S) 103 s.toNatClampNeg).toNatClampNeg (.inl (-1 : Int32))) 103 s.toNatClampNeg (.inl to)) 111 to.toNatClampNeg (.inl s)) _
      refine zw_push hm_201 dX12_sizeOf_6 (v := .inl (1 : Int32)) rfl ?_
      refine zw_stk hm_201 dX12_sizeOf_7 (st₉ := [.inl (((mI S) 102 s.toNatClampNeg) + (1 : Int32))]) rfl rfl ?_
      refine zw_iret hm_201 dX12_sizeOf_8 ?_
      show ma_wp X d w 205 62 [(0, .inr (.inr (some 94))), (1, .inl s), (2, .inl to)] [.inl (((mI S) 102 s.toNatClampNeg) + (1 : Int32)), .inl ((mI S) 94 48), .inr (.inr (some 94))] (ma_put (ma_put (ma_put S 111 ((mI S) 103 s.toNatClampNeg).toNatClampNeg (.inl (-1 : Int32))) 103 s.toNatClampNeg (.inl to)) 111 to.toNatClampNeg (.inl s)) _
      refine zw_stk hm_205 dX12_move_62 (st₉ := [.inl (((mI S) 94 48) + (((mI S) 102 s.toNatClampNeg) + (1 : Int32))), .inr (.inr (some 94))]) rfl rfl ?_
      refine zw_pf hm_205 dX12_move_63 (zT_is (zT_pi (zT_pi (zT_pi hS))) s_94) (zT_t (zT_pi (zT_pi (zT_pi hS))) s_94) p_12_252_12 zk_int ?_
      exact zw_vret hm_205 dX12_move_66 (HQ _ _ h)
  · intro hc
    rw [if_pos (Classical.not_not.mp hc)] at h
    exact zw_vret hm_205 dX12_move_10 (HQ _ _ h)
theorem sp_205 {X : Nat × (Nat → Int32)} {P : Option ma_V → (Nat → Nat → Int32) → Prop} {m : Nat → Nat → Int32} (s : Int32) (to : Int32) (hV : zV m) (hpre0 : 0 ≤ s.toInt) (hpre1 : s.toInt ≤ 3099) (hpre2 : 0 ≤ to.toInt) (hpre3 : to.toInt ≤ 4599) (r_US : (m 99) s.toNatClampNeg ≠ 0) (r_OW : zOw (m 99) (m 103) (m 111)) (KZ : ∀ m₉, zV (zov wr_205 m m₉) → (zOw (m 99) (m₉ 103) (m₉ 111)) → (zmov s to (m 103) (m 111) (m₉ 103) (m₉ 111)) → P none (zov wr_205 m m₉)) : zm X 1 21 205 0 [(0, .inr (.inr (some 94))), (1, .inl s), (2, .inl to)] m P := by
  have K : ∀ m₉, zF wr_205 m m₉ → zV m₉ → (zOw (m₉ 99) (m₉ 103) (m₉ 111)) → (zmov s to (m 103) (m 111) (m₉ 103) (m₉ 111)) → P none m₉ := by
    intro m₉ hf z q0 q1
    have e := zov_eq hf
    rw [e] at z ⊢
    try rw [e] at q0
    try rw [e] at q1
    exact KZ m₉ z q0 q1
  refine g_205_0 s to ?_
  have b1 := i_bd s
  have hg2 : (0 ≤ s ∧ s.toNatClampNeg < 3100) := i_ix (by omega) (by omega)
  refine ⟨hg2, ?_⟩
  first | have f3 : 0 ≤ (m 103 s.toNatClampNeg).toInt ∧ (m 103 s.toNatClampNeg).toInt ≤ 4599 := ra_103 (m := m) hV (k := s.toNatClampNeg) (i_ix (n := 3100) (by omega) (by omega)).2 | have b4 := i_bd (m 103 s.toNatClampNeg)
  have b5 := i_bd to
  refine zd (fun (h6 : (m 103 s.toNatClampNeg) = to) => ?_) (fun (h6 : ¬ (m 103 s.toNatClampNeg) = to) => ?_)
  · skip
    have g7 := i_eq h6
    exact K _ zF_rfl hV r_OW (show zmov s to (m 103) (m 111) (m 103) (m 111) from by first | (exact mv_0 (by omega)) | (exfalso; omega; done) | (exfalso; contradiction; done))
  · skip
    have g8 := i_ne h6
    have hg9 : (0 ≤ s ∧ s.toNatClampNeg < 3100) := i_ix (by omega) (by omega)
    refine ⟨hg9, ?_⟩
    have hg10 : (0 ≤ (m 103 s.toNatClampNeg) ∧ (m 103 s.toNatClampNeg).toNatClampNeg < 4600) := i_ix (by omega) (by omega)
    refine ⟨hg10, ?_⟩
    first | have f11 : -1 ≤ (m 111 (m 103 s.toNatClampNeg).toNatClampNeg).toInt ∧ (m 111 (m 103 s.toNatClampNeg).toNatClampNeg).toInt ≤ 3099 := ra_111 (m := m) hV (k := (m 103 s.toNatClampNeg).toNatClampNeg) (i_ix (n := 4600) (by omega) (by omega)).2 | have b12 := i_bd (m 111 (m 103 s.toNatClampNeg).toNatClampNeg)
    refine zd (fun (h13 : (m 111 (m 103 s.toNatClampNeg).toNatClampNeg) = s) => ?_) (fun (h13 : ¬ (m 111 (m 103 s.toNatClampNeg).toNatClampNeg) = s) => ?_)
    · skip
      have g14 := i_eq h13
      have hg15 : (0 ≤ s ∧ s.toNatClampNeg < 3100) := i_ix (by omega) (by omega)
      refine ⟨hg15, ?_⟩
      have hg16 : (0 ≤ (m 103 s.toNatClampNeg) ∧ (m 103 s.toNatClampNeg).toNatClampNeg < 4600) := i_ix (by omega) (by omega)
      refine ⟨hg16, ?_⟩
      have hg17 : (0 ≤ s ∧ s.toNatClampNeg < 3100) := i_ix (by omega) (by omega)
      refine ⟨hg17, ?_⟩
      have hg18 : (0 ≤ to ∧ to.toNatClampNeg < 4600) := i_ix (by omega) (by omega)
      refine ⟨hg18, ?_⟩
      have hg19 : (0 ≤ s ∧ s.toNatClampNeg < 3100) := i_ix (by omega) (by omega)
      refine ⟨hg19, ?_⟩
      have li21 : (-1 : Int32).toInt = -1 := rfl
      have hV20 : zV (ma_u m 111 (m 103 s.toNatClampNeg).toNatClampNeg (-1 : Int32)) := ua_111 hV (by omega) (by omega)
      have hV22 : zV (ma_u (ma_u m 111 (m 103 s.toNatClampNeg).toNatClampNeg (-1 : Int32)) 103 s.toNatClampNeg to) := ua_103 hV20 (by omega) (by omega)
      have hV23 : zV (ma_u (ma_u (ma_u m 111 (m 103 s.toNatClampNeg).toNatClampNeg (-1 : Int32)) 103 s.toNatClampNeg to) 111 to.toNatClampNeg s) := ua_111 hV22 (by omega) (by omega)
      have hV24 : zV (ma_u (ma_u (ma_u (ma_u m 111 (m 103 s.toNatClampNeg).toNatClampNeg (-1 : Int32)) 103 s.toNatClampNeg to) 111 to.toNatClampNeg s) 94 48 ((m 94 48) + ((m 102 s.toNatClampNeg) + (1 : Int32)))) := uf_94_48 hV23
      exact K _ (zF_u (zF_u (zF_u (zF_u zF_rfl rfl) rfl) rfl) rfl) hV24 (by rw [(show (ma_u (ma_u (ma_u (ma_u m 111 (m 103 s.toNatClampNeg).toNatClampNeg (-1 : Int32)) 103 s.toNatClampNeg to) 111 to.toNatClampNeg s) 94 48 ((m 94 48) + ((m 102 s.toNatClampNeg) + (1 : Int32)))) 99 = (m 99) from ((ma_u_ne _ _ _ (by decide)).trans ((ma_u_ne _ _ _ (by decide)).trans ((ma_u_ne _ _ _ (by decide)).trans ((ma_u_ne _ _ _ (by decide)).trans rfl))))), (show (ma_u (ma_u (ma_u (ma_u m 111 (m 103 s.toNatClampNeg).toNatClampNeg (-1 : Int32)) 103 s.toNatClampNeg to) 111 to.toNatClampNeg s) 94 48 ((m 94 48) + ((m 102 s.toNatClampNeg) + (1 : Int32)))) 103 = ((ma_u m 103 s.toNatClampNeg to) 103) from ((ma_u_ne _ _ _ (by decide)).trans ((ma_u_ne _ _ _ (by decide)).trans (mu_congr ((ma_u_ne _ _ _ (by decide)).trans rfl))))), (show (ma_u (ma_u (ma_u (ma_u m 111 (m 103 s.toNatClampNeg).toNatClampNeg (-1 : Int32)) 103 s.toNatClampNeg to) 111 to.toNatClampNeg s) 94 48 ((m 94 48) + ((m 102 s.toNatClampNeg) + (1 : Int32)))) 111 = ((ma_u (ma_u m 111 (m 103 s.toNatClampNeg).toNatClampNeg (-1 : Int32)) 111 to.toNatClampNeg s) 111) from ((ma_u_ne _ _ _ (by decide)).trans (mu_congr ((ma_u_ne _ _ _ (by decide)).trans (mu_congr rfl)))))]; exact (show zOw (m 99) ((ma_u m 103 s.toNatClampNeg to) 103) ((ma_u (ma_u m 111 (m 103 s.toNatClampNeg).toNatClampNeg (-1 : Int32)) 111 to.toNatClampNeg s) 111) from by first | (exact Ow_mv1 r_OW r_US (by decide) (tn_cast (by omega)).symm rfl (tn_cast (by omega)).symm) | (exact Ow_rm r_OW (by decide) (tn_cast (by omega)).symm) | (exfalso; omega; done) | (exfalso; contradiction; done))) (by rw [(show (ma_u (ma_u (ma_u (ma_u m 111 (m 103 s.toNatClampNeg).toNatClampNeg (-1 : Int32)) 103 s.toNatClampNeg to) 111 to.toNatClampNeg s) 94 48 ((m 94 48) + ((m 102 s.toNatClampNeg) + (1 : Int32)))) 103 = ((ma_u m 103 s.toNatClampNeg to) 103) from ((ma_u_ne _ _ _ (by decide)).trans ((ma_u_ne _ _ _ (by decide)).trans (mu_congr ((ma_u_ne _ _ _ (by decide)).trans rfl))))), (show (ma_u (ma_u (ma_u (ma_u m 111 (m 103 s.toNatClampNeg).toNatClampNeg (-1 : Int32)) 103 s.toNatClampNeg to) 111 to.toNatClampNeg s) 94 48 ((m 94 48) + ((m 102 s.toNatClampNeg) + (1 : Int32)))) 111 = ((ma_u (ma_u m 111 (m 103 s.toNatClampNeg).toNatClampNeg (-1 : Int32)) 111 to.toNatClampNeg s) 111) from ((ma_u_ne _ _ _ (by decide)).trans (mu_congr ((ma_u_ne _ _ _ (by decide)).trans (mu_congr rfl)))))]; exact (show zmov s to (m 103) (m 111) ((ma_u m 103 s.toNatClampNeg to) 103) ((ma_u (ma_u m 111 (m 103 s.toNatClampNeg).toNatClampNeg (-1 : Int32)) 111 to.toNatClampNeg s) 111) from by first | (exact mv_1 (by decide) (tn_cast (by omega)).symm (by assumption)) | (exfalso; omega; done) | (exfalso; contradiction; done)))
    · skip
      have g25 := i_ne h13
      have hg26 : (0 ≤ s ∧ s.toNatClampNeg < 3100) := i_ix (by omega) (by omega)
      refine ⟨hg26, ?_⟩
      have hg27 : (0 ≤ to ∧ to.toNatClampNeg < 4600) := i_ix (by omega) (by omega)
      refine ⟨hg27, ?_⟩
      have hg28 : (0 ≤ s ∧ s.toNatClampNeg < 3100) := i_ix (by omega) (by omega)
      refine ⟨hg28, ?_⟩
      have hV29 : zV (ma_u m 103 s.toNatClampNeg to) := ua_103 hV (by omega) (by omega)
      have hV30 : zV (ma_u (ma_u m 103 s.toNatClampNeg to) 111 to.toNatClampNeg s) := ua_111 hV29 (by omega) (by omega)
      have hV31 : zV (ma_u (ma_u (ma_u m 103 s.toNatClampNeg to) 111 to.toNatClampNeg s) 94 48 ((m 94 48) + ((m 102 s.toNatClampNeg) + (1 : Int32)))) := uf_94_48 hV30
      exact K _ (zF_u (zF_u (zF_u zF_rfl rfl) rfl) rfl) hV31 (by rw [(show (ma_u (ma_u (ma_u m 103 s.toNatClampNeg to) 111 to.toNatClampNeg s) 94 48 ((m 94 48) + ((m 102 s.toNatClampNeg) + (1 : Int32)))) 99 = (m 99) from ((ma_u_ne _ _ _ (by decide)).trans ((ma_u_ne _ _ _ (by decide)).trans ((ma_u_ne _ _ _ (by decide)).trans rfl)))), (show (ma_u (ma_u (ma_u m 103 s.toNatClampNeg to) 111 to.toNatClampNeg s) 94 48 ((m 94 48) + ((m 102 s.toNatClampNeg) + (1 : Int32)))) 103 = ((ma_u m 103 s.toNatClampNeg to) 103) from ((ma_u_ne _ _ _ (by decide)).trans ((ma_u_ne _ _ _ (by decide)).trans (mu_congr rfl)))), (show (ma_u (ma_u (ma_u m 103 s.toNatClampNeg to) 111 to.toNatClampNeg s) 94 48 ((m 94 48) + ((m 102 s.toNatClampNeg) + (1 : Int32)))) 111 = ((ma_u m 111 to.toNatClampNeg s) 111) from ((ma_u_ne _ _ _ (by decide)).trans (mu_congr ((ma_u_ne _ _ _ (by decide)).trans rfl))))]; exact (show zOw (m 99) ((ma_u m 103 s.toNatClampNeg to) 103) ((ma_u m 111 to.toNatClampNeg s) 111) from by first | (exact Ow_mv2 r_OW r_US (tn_cast (by omega)).symm (by assumption) (by omega) rfl (tn_cast (by omega)).symm) | (exact Ow_rm r_OW (by decide) (tn_cast (by omega)).symm) | (exfalso; omega; done) | (exfalso; contradiction; done))) (by rw [(show (ma_u (ma_u (ma_u m 103 s.toNatClampNeg to) 111 to.toNatClampNeg s) 94 48 ((m 94 48) + ((m 102 s.toNatClampNeg) + (1 : Int32)))) 103 = ((ma_u m 103 s.toNatClampNeg to) 103) from ((ma_u_ne _ _ _ (by decide)).trans ((ma_u_ne _ _ _ (by decide)).trans (mu_congr rfl)))), (show (ma_u (ma_u (ma_u m 103 s.toNatClampNeg to) 111 to.toNatClampNeg s) 94 48 ((m 94 48) + ((m 102 s.toNatClampNeg) + (1 : Int32)))) 111 = ((ma_u m 111 to.toNatClampNeg s) 111) from ((ma_u_ne _ _ _ (by decide)).trans (mu_congr ((ma_u_ne _ _ _ (by decide)).trans rfl))))]; exact (show zmov s to (m 103) (m 111) ((ma_u m 103 s.toNatClampNeg to) 103) ((ma_u m 111 to.toNatClampNeg s) 111) from by first | (exact mv_2) | (exfalso; omega; done) | (exfalso; contradiction; done)))

