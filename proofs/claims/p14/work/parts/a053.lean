/-! from 94.465 -/
/-! the reference (written by wip/tools/gen94m.py) -/
set_option maxRecDepth 100000 in
theorem hm_179 : ma_md 179 = some (12, yX12_form, cX12_form, 1, (some (FieldType.boolean))) := rfl
theorem f_12_154_12 : ma_fld 12 154 12 = some 22 := by decide +kernel
theorem p_12_154_12 : ma_pk 12 154 12 22 = true := by decide +kernel
theorem v_12_150_12 : ma_vl 12 150 12 = some (1, 175, 7) := by decide +kernel
theorem dX12_form_0 : decode cX12_form 0 = .ok (.aload_n 0, 1) := by decide +kernel
theorem dX12_form_1 : decode cX12_form 1 = .ok (.invokevirtual 140, 3) := by decide +kernel
theorem dX12_form_16 : decode cX12_form 16 = .ok (.aload_n 0, 1) := by decide +kernel
theorem dX12_form_17 : decode cX12_form 17 = .ok (.aload_n 0, 1) := by decide +kernel
theorem dX12_form_18 : decode cX12_form 18 = .ok (.bipush 102, 2) := by decide +kernel
theorem dX12_form_20 : decode cX12_form 20 = .ok (.bipush 105, 2) := by decide +kernel
theorem dX12_form_22 : decode cX12_form 22 = .ok (.bipush 114, 2) := by decide +kernel
theorem dX12_form_24 : decode cX12_form 24 = .ok (.bipush 115, 2) := by decide +kernel
theorem dX12_form_26 : decode cX12_form 26 = .ok (.bipush 116, 2) := by decide +kernel
theorem dX12_form_28 : decode cX12_form 28 = .ok (.iconst 0, 1) := by decide +kernel
theorem dX12_form_29 : decode cX12_form 29 = .ok (.iconst 0, 1) := by decide +kernel
theorem dX12_form_30 : decode cX12_form 30 = .ok (.invokevirtual 150, 3) := by decide +kernel
theorem dX12_form_40 : decode cX12_form 40 = .ok (.aload_n 0, 1) := by decide +kernel
theorem dX12_form_41 : decode cX12_form 41 = .ok (.bipush 110, 2) := by decide +kernel
theorem dX12_form_43 : decode cX12_form 43 = .ok (.bipush 101, 2) := by decide +kernel
theorem dX12_form_45 : decode cX12_form 45 = .ok (.bipush 120, 2) := by decide +kernel
theorem dX12_form_47 : decode cX12_form 47 = .ok (.bipush 116, 2) := by decide +kernel
theorem dX12_form_49 : decode cX12_form 49 = .ok (.iconst 0, 1) := by decide +kernel
theorem dX12_form_50 : decode cX12_form 50 = .ok (.iconst 0, 1) := by decide +kernel
theorem dX12_form_51 : decode cX12_form 51 = .ok (.iconst 0, 1) := by decide +kernel
theorem dX12_form_52 : decode cX12_form 52 = .ok (.invokevirtual 150, 3) := by decide +kernel
theorem dX12_form_62 : decode cX12_form 62 = .ok (.aload_n 0, 1) := by decide +kernel
theorem dX12_form_63 : decode cX12_form 63 = .ok (.bipush 98, 2) := by decide +kernel
theorem dX12_form_65 : decode cX12_form 65 = .ok (.bipush 101, 2) := by decide +kernel
theorem dX12_form_67 : decode cX12_form 67 = .ok (.bipush 115, 2) := by decide +kernel
theorem dX12_form_69 : decode cX12_form 69 = .ok (.bipush 116, 2) := by decide +kernel
theorem dX12_form_71 : decode cX12_form 71 = .ok (.iconst 0, 1) := by decide +kernel
theorem dX12_form_72 : decode cX12_form 72 = .ok (.iconst 0, 1) := by decide +kernel
theorem dX12_form_73 : decode cX12_form 73 = .ok (.iconst 0, 1) := by decide +kernel
theorem dX12_form_74 : decode cX12_form 74 = .ok (.invokevirtual 150, 3) := by decide +kernel
theorem dX12_form_84 : decode cX12_form 84 = .ok (.aload_n 0, 1) := by decide +kernel
theorem dX12_form_85 : decode cX12_form 85 = .ok (.bipush 119, 2) := by decide +kernel
theorem dX12_form_87 : decode cX12_form 87 = .ok (.bipush 111, 2) := by decide +kernel
theorem dX12_form_89 : decode cX12_form 89 = .ok (.bipush 114, 2) := by decide +kernel
theorem dX12_form_91 : decode cX12_form 91 = .ok (.bipush 115, 2) := by decide +kernel
theorem dX12_form_93 : decode cX12_form 93 = .ok (.bipush 116, 2) := by decide +kernel
theorem dX12_form_95 : decode cX12_form 95 = .ok (.iconst 0, 1) := by decide +kernel
theorem dX12_form_96 : decode cX12_form 96 = .ok (.iconst 0, 1) := by decide +kernel
theorem dX12_form_97 : decode cX12_form 97 = .ok (.invokevirtual 150, 3) := by decide +kernel
theorem dX12_form_107 : decode cX12_form 107 = .ok (.iconst (-1), 1) := by decide +kernel
theorem dX12_form_111 : decode cX12_form 111 = .ok (.aload_n 0, 1) := by decide +kernel
theorem dX12_form_115 : decode cX12_form 115 = .ok (.ifCond .ge 14, 3) := by decide +kernel
theorem dX12_form_118 : decode cX12_form 118 = .ok (.aload_n 0, 1) := by decide +kernel
theorem dX12_form_119 : decode cX12_form 119 = .ok (.aload_n 0, 1) := by decide +kernel
theorem dX12_form_123 : decode cX12_form 123 = .ok (.invokevirtual 144, 3) := by decide +kernel
theorem dX12_form_126 : decode cX12_form 126 = .ok (.ifCond .eq 7, 3) := by decide +kernel
theorem dX12_form_133 : decode cX12_form 133 = .ok (.iconst 0, 1) := by decide +kernel
theorem dX12_form_134 : decode cX12_form 134 = .ok (.ireturn, 1) := by decide +kernel
theorem dX12_form_120 : decode cX12_form 120 = .ok (.getfield 127, 3) := by decide +kernel
theorem dX12_form_112 : decode cX12_form 112 = .ok (.getfield 154, 3) := by decide +kernel
theorem dX12_form_108 : decode cX12_form 108 = .ok (.putfield 154, 3) := by decide +kernel
theorem dX12_form_103 : decode cX12_form 103 = .ok (.iconst 3, 1) := by decide +kernel
theorem dX12_form_104 : decode cX12_form 104 = .ok (.goto 4, 3) := by decide +kernel
theorem dX12_form_129 : decode cX12_form 129 = .ok (.iconst 1, 1) := by decide +kernel
theorem dX12_form_130 : decode cX12_form 130 = .ok (.goto 4, 3) := by decide +kernel
theorem dX12_form_100 : decode cX12_form 100 = .ok (.ifCond .eq 7, 3) := by decide +kernel
theorem dX12_form_80 : decode cX12_form 80 = .ok (.iconst 2, 1) := by decide +kernel
theorem dX12_form_81 : decode cX12_form 81 = .ok (.goto 27, 3) := by decide +kernel
theorem dX12_form_77 : decode cX12_form 77 = .ok (.ifCond .eq 7, 3) := by decide +kernel
theorem dX12_form_58 : decode cX12_form 58 = .ok (.iconst 1, 1) := by decide +kernel
theorem dX12_form_59 : decode cX12_form 59 = .ok (.goto 49, 3) := by decide +kernel
theorem dX12_form_55 : decode cX12_form 55 = .ok (.ifCond .eq 7, 3) := by decide +kernel
theorem dX12_form_36 : decode cX12_form 36 = .ok (.iconst 0, 1) := by decide +kernel
theorem dX12_form_37 : decode cX12_form 37 = .ok (.goto 71, 3) := by decide +kernel
theorem dX12_form_33 : decode cX12_form 33 = .ok (.ifCond .eq 7, 3) := by decide +kernel
theorem dX12_form_7 : decode cX12_form 7 = .ok (.aload_n 0, 1) := by decide +kernel
theorem dX12_form_8 : decode cX12_form 8 = .ok (.aload_n 0, 1) := by decide +kernel
theorem dX12_form_12 : decode cX12_form 12 = .ok (.invokevirtual 144, 3) := by decide +kernel
theorem dX12_form_15 : decode cX12_form 15 = .ok (.ireturn, 1) := by decide +kernel
theorem dX12_form_9 : decode cX12_form 9 = .ok (.getfield 124, 3) := by decide +kernel
theorem dX12_form_4 : decode cX12_form 4 = .ok (.ifCond .ne 12, 3) := by decide +kernel
def wr_179 (c k : Nat) : Bool := (Nat.beq c 94 && (Nat.beq k 22 || Nat.beq k 67 || Nat.beq k 68 || Nat.beq k 69 || Nat.beq k 70))
theorem ws_173_179 : ∀ c k, wr_173 c k = true → wr_179 c k = true := by
  intro c k h
  simp only [wr_173, wr_179, Bool.or_eq_true, Bool.and_eq_true, Nat.beq_eq] at h ⊢
  omega
theorem ws_175_179 : ∀ c k, wr_175 c k = true → wr_179 c k = true := fun _ _ h => by cases h
theorem g_179_0 {X : Nat × (Nat → Int32)} {m : Nat → Nat → Int32} {P : Option ma_V → (Nat → Nat → Int32) → Prop}  (h : zm X 0 0 173 0 [(0, .inr (.inr (some 94)))] m (zmi (fun v2 m1 => if v2 = 0 then (P (some (.inl (0 : Int32))) (ma_u m1 94 70 (m1 94 4))) else (zm X 1 22 175 0 [(0, .inr (.inr (some 94))), (1, .inl (102 : Int32)), (2, .inl (105 : Int32)), (3, .inl (114 : Int32)), (4, .inl (115 : Int32)), (5, .inl (116 : Int32)), (6, .inl (0 : Int32)), (7, .inl (0 : Int32))] m1 (zmi (fun v4 m3 => if v4 = 0 then (zm X 1 22 175 0 [(0, .inr (.inr (some 94))), (1, .inl (110 : Int32)), (2, .inl (101 : Int32)), (3, .inl (120 : Int32)), (4, .inl (116 : Int32)), (5, .inl (0 : Int32)), (6, .inl (0 : Int32)), (7, .inl (0 : Int32))] m3 (zmi (fun v6 m5 => if v6 = 0 then (zm X 1 22 175 0 [(0, .inr (.inr (some 94))), (1, .inl (98 : Int32)), (2, .inl (101 : Int32)), (3, .inl (115 : Int32)), (4, .inl (116 : Int32)), (5, .inl (0 : Int32)), (6, .inl (0 : Int32)), (7, .inl (0 : Int32))] m5 (zmi (fun v8 m7 => if v8 = 0 then (zm X 1 22 175 0 [(0, .inr (.inr (some 94))), (1, .inl (119 : Int32)), (2, .inl (111 : Int32)), (3, .inl (114 : Int32)), (4, .inl (115 : Int32)), (5, .inl (116 : Int32)), (6, .inl (0 : Int32)), (7, .inl (0 : Int32))] m7 (zmi (fun v10 m9 => if v10 = 0 then (P (some (.inl (0 : Int32))) (ma_u (ma_u m9 94 22 (-1 : Int32)) 94 70 (m9 94 68))) else (P (some (.inl (1 : Int32))) (ma_u m9 94 22 (3 : Int32)))))) else (P (some (.inl (1 : Int32))) (ma_u m7 94 22 (2 : Int32)))))) else (P (some (.inl (1 : Int32))) (ma_u m5 94 22 (1 : Int32)))))) else (P (some (.inl (1 : Int32))) (ma_u m3 94 22 (0 : Int32))))))))) : zm X 2 50 179 0 [(0, .inr (.inr (some 94)))] m P := by
  intro d w S Q hd hw hS hm HQ
  subst hm
  refine zw_push hm_179 dX12_form_0 (v := .inr (.inr (some 94))) rfl ?_
  refine zw_cv hm_179 dX12_form_1 v_12_140_12 hm_173 [] [] rfl (zT_rt hS s_94 rfl) ⟨by omega, by omega⟩ rfl (h _ _ S _ (by omega) (by omega) hS rfl (fun o9 m1 hv => ?_))
  obtain ⟨v2, rfl, h⟩ := zmi_of hv
  show ma_wp X d w 179 4 [(0, .inr (.inr (some 94)))] [.inl v2] (zst S m1) _
  refine zw_if0 hm_179 dX12_form_4 (t := 16) rfl zc0_ne ?_ ?_
  · intro hc
    rw [if_neg hc] at h
    refine zw_push hm_179 dX12_form_16 (v := .inr (.inr (some 94))) rfl ?_
    refine zw_push hm_179 dX12_form_17 (v := .inr (.inr (some 94))) rfl ?_
    refine zw_push hm_179 dX12_form_18 (v := .inl (102 : Int32)) rfl ?_
    refine zw_push hm_179 dX12_form_20 (v := .inl (105 : Int32)) rfl ?_
    refine zw_push hm_179 dX12_form_22 (v := .inl (114 : Int32)) rfl ?_
    refine zw_push hm_179 dX12_form_24 (v := .inl (115 : Int32)) rfl ?_
    refine zw_push hm_179 dX12_form_26 (v := .inl (116 : Int32)) rfl ?_
    refine zw_push hm_179 dX12_form_28 (v := .inl (0 : Int32)) rfl ?_
    refine zw_push hm_179 dX12_form_29 (v := .inl (0 : Int32)) rfl ?_
    refine zw_cv hm_179 dX12_form_30 v_12_150_12 hm_175 [.inl (0 : Int32), .inl (0 : Int32), .inl (116 : Int32), .inl (115 : Int32), .inl (114 : Int32), .inl (105 : Int32), .inl (102 : Int32)] [.inr (.inr (some 94))] rfl (zT_rt (zT_zst hS m1) s_94 rfl) ⟨by omega, by omega⟩ rfl (h _ _ (zst S m1) _ (by omega) (by omega) (zT_zst hS m1) rfl (fun o9 m3 hv => ?_))
    obtain ⟨v4, rfl, h⟩ := zmi_of hv
    show ma_wp X d w 179 33 [(0, .inr (.inr (some 94)))] [.inl v4, .inr (.inr (some 94))] (zst S m3) _
    refine zw_if0 hm_179 dX12_form_33 (t := 40) rfl zc0_eq ?_ ?_
    · intro hc
      rw [if_pos hc] at h
      refine zw_push hm_179 dX12_form_40 (v := .inr (.inr (some 94))) rfl ?_
      refine zw_push hm_179 dX12_form_41 (v := .inl (110 : Int32)) rfl ?_
      refine zw_push hm_179 dX12_form_43 (v := .inl (101 : Int32)) rfl ?_
      refine zw_push hm_179 dX12_form_45 (v := .inl (120 : Int32)) rfl ?_
      refine zw_push hm_179 dX12_form_47 (v := .inl (116 : Int32)) rfl ?_
      refine zw_push hm_179 dX12_form_49 (v := .inl (0 : Int32)) rfl ?_
      refine zw_push hm_179 dX12_form_50 (v := .inl (0 : Int32)) rfl ?_
      refine zw_push hm_179 dX12_form_51 (v := .inl (0 : Int32)) rfl ?_
      refine zw_cv hm_179 dX12_form_52 v_12_150_12 hm_175 [.inl (0 : Int32), .inl (0 : Int32), .inl (0 : Int32), .inl (116 : Int32), .inl (120 : Int32), .inl (101 : Int32), .inl (110 : Int32)] [.inr (.inr (some 94))] rfl (zT_rt (zT_zst hS m3) s_94 rfl) ⟨by omega, by omega⟩ rfl (h _ _ (zst S m3) _ (by omega) (by omega) (zT_zst hS m3) rfl (fun o9 m5 hv => ?_))
      obtain ⟨v6, rfl, h⟩ := zmi_of hv
      show ma_wp X d w 179 55 [(0, .inr (.inr (some 94)))] [.inl v6, .inr (.inr (some 94))] (zst S m5) _
      refine zw_if0 hm_179 dX12_form_55 (t := 62) rfl zc0_eq ?_ ?_
      · intro hc
        rw [if_pos hc] at h
        refine zw_push hm_179 dX12_form_62 (v := .inr (.inr (some 94))) rfl ?_
        refine zw_push hm_179 dX12_form_63 (v := .inl (98 : Int32)) rfl ?_
        refine zw_push hm_179 dX12_form_65 (v := .inl (101 : Int32)) rfl ?_
        refine zw_push hm_179 dX12_form_67 (v := .inl (115 : Int32)) rfl ?_
        refine zw_push hm_179 dX12_form_69 (v := .inl (116 : Int32)) rfl ?_
        refine zw_push hm_179 dX12_form_71 (v := .inl (0 : Int32)) rfl ?_
        refine zw_push hm_179 dX12_form_72 (v := .inl (0 : Int32)) rfl ?_
        refine zw_push hm_179 dX12_form_73 (v := .inl (0 : Int32)) rfl ?_
        refine zw_cv hm_179 dX12_form_74 v_12_150_12 hm_175 [.inl (0 : Int32), .inl (0 : Int32), .inl (0 : Int32), .inl (116 : Int32), .inl (115 : Int32), .inl (101 : Int32), .inl (98 : Int32)] [.inr (.inr (some 94))] rfl (zT_rt (zT_zst hS m5) s_94 rfl) ⟨by omega, by omega⟩ rfl (h _ _ (zst S m5) _ (by omega) (by omega) (zT_zst hS m5) rfl (fun o9 m7 hv => ?_))
        obtain ⟨v8, rfl, h⟩ := zmi_of hv
        show ma_wp X d w 179 77 [(0, .inr (.inr (some 94)))] [.inl v8, .inr (.inr (some 94))] (zst S m7) _
        refine zw_if0 hm_179 dX12_form_77 (t := 84) rfl zc0_eq ?_ ?_
        · intro hc
          rw [if_pos hc] at h
          refine zw_push hm_179 dX12_form_84 (v := .inr (.inr (some 94))) rfl ?_
          refine zw_push hm_179 dX12_form_85 (v := .inl (119 : Int32)) rfl ?_
          refine zw_push hm_179 dX12_form_87 (v := .inl (111 : Int32)) rfl ?_
          refine zw_push hm_179 dX12_form_89 (v := .inl (114 : Int32)) rfl ?_
          refine zw_push hm_179 dX12_form_91 (v := .inl (115 : Int32)) rfl ?_
          refine zw_push hm_179 dX12_form_93 (v := .inl (116 : Int32)) rfl ?_
          refine zw_push hm_179 dX12_form_95 (v := .inl (0 : Int32)) rfl ?_
          refine zw_push hm_179 dX12_form_96 (v := .inl (0 : Int32)) rfl ?_
          refine zw_cv hm_179 dX12_form_97 v_12_150_12 hm_175 [.inl (0 : Int32), .inl (0 : Int32), .inl (116 : Int32), .inl (115 : Int32), .inl (114 : Int32), .inl (111 : Int32), .inl (119 : Int32)] [.inr (.inr (some 94))] rfl (zT_rt (zT_zst hS m7) s_94 rfl) ⟨by omega, by omega⟩ rfl (h _ _ (zst S m7) _ (by omega) (by omega) (zT_zst hS m7) rfl (fun o9 m9 hv => ?_))
          obtain ⟨v10, rfl, h⟩ := zmi_of hv
          show ma_wp X d w 179 100 [(0, .inr (.inr (some 94)))] [.inl v10, .inr (.inr (some 94))] (zst S m9) _
          refine zw_if0 hm_179 dX12_form_100 (t := 107) rfl zc0_eq ?_ ?_
          · intro hc
            rw [if_pos hc] at h
            refine zw_push hm_179 dX12_form_107 (v := .inl (-1 : Int32)) rfl ?_
            refine zw_pf hm_179 dX12_form_108 (zT_is (zT_zst hS m9) s_94) (zT_t (zT_zst hS m9) s_94) p_12_154_12 zk_int ?_
            refine zw_push hm_179 dX12_form_111 (v := .inr (.inr (some 94))) rfl ?_
            refine zw_gf hm_179 dX12_form_112 (v := .inl (-1 : Int32)) (zT_is (zT_pi (zT_zst hS m9)) s_94) (zT_t (zT_pi (zT_zst hS m9)) s_94) rfl f_12_154_12 rfl ?_
            refine zw_if0 hm_179 dX12_form_115 (t := 129) rfl zc0_ge (fun hc => absurd hc (by decide)) (fun _ => ?_)
            refine zw_push hm_179 dX12_form_118 (v := .inr (.inr (some 94))) rfl ?_
            refine zw_push hm_179 dX12_form_119 (v := .inr (.inr (some 94))) rfl ?_
            refine zw_gf hm_179 dX12_form_120 (v := .inl (m9 94 68)) (zT_is (zT_pi (zT_zst hS m9)) s_94) (zT_t (zT_pi (zT_zst hS m9)) s_94) rfl f_12_127_12 rfl ?_
            refine zw_cv hm_179 dX12_form_123 v_12_144_12 hm_174 [.inl (m9 94 68)] [] rfl (zT_rt (zT_pi (zT_zst hS m9)) s_94 rfl) ⟨by omega, by omega⟩ rfl ?_
            show ma_wp X (d - 1) (w - 21) 174 0 [(0, .inr (.inr (some 94))), (1, .inl (m9 94 68))] [] (ma_put (zst S m9) 94 22 (.inl (-1 : Int32))) _
            refine zw_push hm_174 dX12_wrong_0 (v := .inr (.inr (some 94))) rfl ?_
            refine zw_push hm_174 dX12_wrong_1 (v := .inl (m9 94 68)) rfl ?_
            refine zw_pf hm_174 dX12_wrong_2 (zT_is (zT_pi (zT_zst hS m9)) s_94) (zT_t (zT_pi (zT_zst hS m9)) s_94) p_12_133_12 zk_int ?_
            refine zw_push hm_174 dX12_wrong_5 (v := .inl (0 : Int32)) rfl ?_
            refine zw_bret hm_174 dX12_wrong_6 (by decide) ?_
            show ma_wp X d w 179 126 [(0, .inr (.inr (some 94)))] [.inl (0 : Int32)] (ma_put (ma_put (zst S m9) 94 22 (.inl (-1 : Int32))) 94 70 (.inl (m9 94 68))) _
            refine zw_if0 hm_179 dX12_form_126 (t := 133) rfl zc0_eq (fun _ => ?_) (fun hc => absurd (by decide) hc)
            refine zw_push hm_179 dX12_form_133 (v := .inl (0 : Int32)) rfl ?_
            exact zw_bret hm_179 dX12_form_134 (by decide) (HQ _ _ h)
          · intro hc
            rw [if_neg hc] at h
            refine zw_push hm_179 dX12_form_103 (v := .inl (3 : Int32)) rfl ?_
            refine zw_goto hm_179 dX12_form_104 (t := 108) rfl ?_
            refine zw_pf hm_179 dX12_form_108 (zT_is (zT_zst hS m9) s_94) (zT_t (zT_zst hS m9) s_94) p_12_154_12 zk_int ?_
            refine zw_push hm_179 dX12_form_111 (v := .inr (.inr (some 94))) rfl ?_
            refine zw_gf hm_179 dX12_form_112 (v := .inl (3 : Int32)) (zT_is (zT_pi (zT_zst hS m9)) s_94) (zT_t (zT_pi (zT_zst hS m9)) s_94) rfl f_12_154_12 rfl ?_
            refine zw_if0 hm_179 dX12_form_115 (t := 129) rfl zc0_ge (fun _ => ?_) (fun hc => absurd (by decide) hc)
            refine zw_push hm_179 dX12_form_129 (v := .inl (1 : Int32)) rfl ?_
            refine zw_goto hm_179 dX12_form_130 (t := 134) rfl ?_
            exact zw_bret hm_179 dX12_form_134 (by decide) (HQ _ _ h)
        · intro hc
          rw [if_neg hc] at h
          refine zw_push hm_179 dX12_form_80 (v := .inl (2 : Int32)) rfl ?_
          refine zw_goto hm_179 dX12_form_81 (t := 108) rfl ?_
          refine zw_pf hm_179 dX12_form_108 (zT_is (zT_zst hS m7) s_94) (zT_t (zT_zst hS m7) s_94) p_12_154_12 zk_int ?_
          refine zw_push hm_179 dX12_form_111 (v := .inr (.inr (some 94))) rfl ?_
          refine zw_gf hm_179 dX12_form_112 (v := .inl (2 : Int32)) (zT_is (zT_pi (zT_zst hS m7)) s_94) (zT_t (zT_pi (zT_zst hS m7)) s_94) rfl f_12_154_12 rfl ?_
          refine zw_if0 hm_179 dX12_form_115 (t := 129) rfl zc0_ge (fun _ => ?_) (fun hc => absurd (by decide) hc)
          refine zw_push hm_179 dX12_form_129 (v := .inl (1 : Int32)) rfl ?_
          refine zw_goto hm_179 dX12_form_130 (t := 134) rfl ?_
          exact zw_bret hm_179 dX12_form_134 (by decide) (HQ _ _ h)
      · intro hc
        rw [if_neg hc] at h
        refine zw_push hm_179 dX12_form_58 (v := .inl (1 : Int32)) rfl ?_
        refine zw_goto hm_179 dX12_form_59 (t := 108) rfl ?_
        refine zw_pf hm_179 dX12_form_108 (zT_is (zT_zst hS m5) s_94) (zT_t (zT_zst hS m5) s_94) p_12_154_12 zk_int ?_
        refine zw_push hm_179 dX12_form_111 (v := .inr (.inr (some 94))) rfl ?_
        refine zw_gf hm_179 dX12_form_112 (v := .inl (1 : Int32)) (zT_is (zT_pi (zT_zst hS m5)) s_94) (zT_t (zT_pi (zT_zst hS m5)) s_94) rfl f_12_154_12 rfl ?_
        refine zw_if0 hm_179 dX12_form_115 (t := 129) rfl zc0_ge (fun _ => ?_) (fun hc => absurd (by decide) hc)
        refine zw_push hm_179 dX12_form_129 (v := .inl (1 : Int32)) rfl ?_
        refine zw_goto hm_179 dX12_form_130 (t := 134) rfl ?_
        exact zw_bret hm_179 dX12_form_134 (by decide) (HQ _ _ h)
    · intro hc
      rw [if_neg hc] at h
      refine zw_push hm_179 dX12_form_36 (v := .inl (0 : Int32)) rfl ?_
      refine zw_goto hm_179 dX12_form_37 (t := 108) rfl ?_
      refine zw_pf hm_179 dX12_form_108 (zT_is (zT_zst hS m3) s_94) (zT_t (zT_zst hS m3) s_94) p_12_154_12 zk_int ?_
      refine zw_push hm_179 dX12_form_111 (v := .inr (.inr (some 94))) rfl ?_
      refine zw_gf hm_179 dX12_form_112 (v := .inl (0 : Int32)) (zT_is (zT_pi (zT_zst hS m3)) s_94) (zT_t (zT_pi (zT_zst hS m3)) s_94) rfl f_12_154_12 rfl ?_
      refine zw_if0 hm_179 dX12_form_115 (t := 129) rfl zc0_ge (fun _ => ?_) (fun hc => absurd (by decide) hc)
      refine zw_push hm_179 dX12_form_129 (v := .inl (1 : Int32)) rfl ?_
      refine zw_goto hm_179 dX12_form_130 (t := 134) rfl ?_
      exact zw_bret hm_179 dX12_form_134 (by decide) (HQ _ _ h)
  · intro hc
    rw [if_pos (Classical.not_not.mp hc)] at h
    refine zw_push hm_179 dX12_form_7 (v := .inr (.inr (some 94))) rfl ?_
    refine zw_push hm_179 dX12_form_8 (v := .inr (.inr (some 94))) rfl ?_
    refine zw_gf hm_179 dX12_form_9 (v := .inl (m1 94 4)) (zT_is (zT_zst hS m1) s_94) (zT_t (zT_zst hS m1) s_94) rfl f_12_124_12 rfl ?_
    refine zw_cv hm_179 dX12_form_12 v_12_144_12 hm_174 [.inl (m1 94 4)] [] rfl (zT_rt (zT_zst hS m1) s_94 rfl) ⟨by omega, by omega⟩ rfl ?_
    show ma_wp X (d - 1) (w - 21) 174 0 [(0, .inr (.inr (some 94))), (1, .inl (m1 94 4))] [] (zst S m1) _
    refine zw_push hm_174 dX12_wrong_0 (v := .inr (.inr (some 94))) rfl ?_
    refine zw_push hm_174 dX12_wrong_1 (v := .inl (m1 94 4)) rfl ?_
    refine zw_pf hm_174 dX12_wrong_2 (zT_is (zT_zst hS m1) s_94) (zT_t (zT_zst hS m1) s_94) p_12_133_12 zk_int ?_
    refine zw_push hm_174 dX12_wrong_5 (v := .inl (0 : Int32)) rfl ?_
    refine zw_bret hm_174 dX12_wrong_6 (by decide) ?_
    show ma_wp X d w 179 15 [(0, .inr (.inr (some 94)))] [.inl (0 : Int32)] (ma_put (zst S m1) 94 70 (.inl (m1 94 4))) _
    exact zw_bret hm_179 dX12_form_15 (by decide) (HQ _ _ h)
/-! from 94.466 -/
/-! the reference (written by wip/tools/gen94m.py) -/
set_option maxRecDepth 100000 in
theorem hm_178 : ma_md 178 = some (12, yX12_roomHere, cX12_roomHere, 1, (some (FieldType.boolean))) := rfl
theorem f_12_147_12 : ma_fld 12 147 12 = some 71 := by decide +kernel
theorem p_12_159_12 : ma_pk 12 159 12 21 = true := by decide +kernel
theorem v_12_157_12 : ma_vl 12 157 12 = some (1, 177, 2) := by decide +kernel
theorem dX12_roomHere_0 : decode cX12_roomHere 0 = .ok (.aload_n 0, 1) := by decide +kernel
theorem dX12_roomHere_1 : decode cX12_roomHere 1 = .ok (.bipush 16, 2) := by decide +kernel
theorem dX12_roomHere_3 : decode cX12_roomHere 3 = .ok (.sipush 1500, 3) := by decide +kernel
theorem dX12_roomHere_6 : decode cX12_roomHere 6 = .ok (.invokevirtual 157, 3) := by decide +kernel
theorem dX12_roomHere_14 : decode cX12_roomHere 14 = .ok (.aload_n 0, 1) := by decide +kernel
theorem dX12_roomHere_15 : decode cX12_roomHere 15 = .ok (.aload_n 0, 1) := by decide +kernel
theorem dX12_roomHere_22 : decode cX12_roomHere 22 = .ok (.iconst 1, 1) := by decide +kernel
theorem dX12_roomHere_23 : decode cX12_roomHere 23 = .ok (.ireturn, 1) := by decide +kernel
theorem dX12_roomHere_19 : decode cX12_roomHere 19 = .ok (.putfield 159, 3) := by decide +kernel
theorem dX12_roomHere_16 : decode cX12_roomHere 16 = .ok (.getfield 147, 3) := by decide +kernel
theorem dX12_roomHere_12 : decode cX12_roomHere 12 = .ok (.iconst 0, 1) := by decide +kernel
theorem dX12_roomHere_13 : decode cX12_roomHere 13 = .ok (.ireturn, 1) := by decide +kernel
theorem dX12_roomHere_9 : decode cX12_roomHere 9 = .ok (.ifCond .ne 5, 3) := by decide +kernel
def wr_178 (c k : Nat) : Bool := (Nat.beq c 94 && (Nat.beq k 21 || Nat.beq k 67 || Nat.beq k 68 || Nat.beq k 69 || Nat.beq k 70 || Nat.beq k 71))
theorem ws_177_178 : ∀ c k, wr_177 c k = true → wr_178 c k = true := by
  intro c k h
  simp only [wr_177, wr_178, Bool.or_eq_true, Bool.and_eq_true, Nat.beq_eq] at h ⊢
  omega
theorem g_178_0 {X : Nat × (Nat → Int32)} {m : Nat → Nat → Int32} {P : Option ma_V → (Nat → Nat → Int32) → Prop}  (h : zm X 1 21 177 0 [(0, .inr (.inr (some 94))), (1, .inl (16 : Int32)), (2, .inl (1500 : Int32))] m (zmi (fun v2 m1 => if v2 = 0 then (P (some (.inl (0 : Int32))) m1) else (P (some (.inl (1 : Int32))) (ma_u m1 94 21 (m1 94 71)))))) : zm X 2 47 178 0 [(0, .inr (.inr (some 94)))] m P := by
  intro d w S Q hd hw hS hm HQ
  subst hm
  refine zw_push hm_178 dX12_roomHere_0 (v := .inr (.inr (some 94))) rfl ?_
  refine zw_push hm_178 dX12_roomHere_1 (v := .inl (16 : Int32)) rfl ?_
  refine zw_push hm_178 dX12_roomHere_3 (v := .inl (1500 : Int32)) rfl ?_
  refine zw_cv hm_178 dX12_roomHere_6 v_12_157_12 hm_177 [.inl (1500 : Int32), .inl (16 : Int32)] [] rfl (zT_rt hS s_94 rfl) ⟨by omega, by omega⟩ rfl (h _ _ S _ (by omega) (by omega) hS rfl (fun o9 m1 hv => ?_))
  obtain ⟨v2, rfl, h⟩ := zmi_of hv
  show ma_wp X d w 178 9 [(0, .inr (.inr (some 94)))] [.inl v2] (zst S m1) _
  refine zw_if0 hm_178 dX12_roomHere_9 (t := 14) rfl zc0_ne ?_ ?_
  · intro hc
    rw [if_neg hc] at h
    refine zw_push hm_178 dX12_roomHere_14 (v := .inr (.inr (some 94))) rfl ?_
    refine zw_push hm_178 dX12_roomHere_15 (v := .inr (.inr (some 94))) rfl ?_
    refine zw_gf hm_178 dX12_roomHere_16 (v := .inl (m1 94 71)) (zT_is (zT_zst hS m1) s_94) (zT_t (zT_zst hS m1) s_94) rfl f_12_147_12 rfl ?_
    refine zw_pf hm_178 dX12_roomHere_19 (zT_is (zT_zst hS m1) s_94) (zT_t (zT_zst hS m1) s_94) p_12_159_12 zk_int ?_
    refine zw_push hm_178 dX12_roomHere_22 (v := .inl (1 : Int32)) rfl ?_
    exact zw_bret hm_178 dX12_roomHere_23 (by decide) (HQ _ _ h)
  · intro hc
    rw [if_pos (Classical.not_not.mp hc)] at h
    refine zw_push hm_178 dX12_roomHere_12 (v := .inl (0 : Int32)) rfl ?_
    exact zw_bret hm_178 dX12_roomHere_13 (by decide) (HQ _ _ h)
