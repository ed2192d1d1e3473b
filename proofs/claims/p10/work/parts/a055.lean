/-! from 95.x11 -/
/-! the class opens a heap (written by wip/tools/gen15h.py) -/
theorem g_128_64_sn_0 {X : Nat × (Nat → Int32)} {d w : Nat} {S : ma_S} {Q : Option ma_V ⊕ Nat → ma_S → Prop}  (hd : 8 ≤ d) (hw : 163 ≤ w) (hS : zT S) (h : ma_wp X (d - 1) (w - 21) 129 0 [(0, .inr (.inr (some 64)))] [] (ma_put S 64 3 (.inl (0 : Int32))) (zi (fun v2 S1 => zT S1 ∧ (ma_wp X (d - 1) (w - 20) 130 0 [(0, .inr (.inr (some 64)))] [] S1 (zi (fun v4 S3 => zT S3 ∧ (if v4 = (0 : Int32) then (ma_wp X (d - 1) (w - 21) 129 0 [(0, .inr (.inr (some 64)))] [] S3 (zi (fun v6 S5 => zT S5 ∧ (ma_wp X ((d - 1) - 1) ((w - 21) - 25) 134 0 [(0, .inr (.inr (some 64))), (1, .inl (16 : Int32)), (2, .inl (1500 : Int32))] [] S5 (zi (fun v8 S7 => zT S7 ∧ (if v8 = (-1 : Int32) then (Q (.inl (some (.inl (-1 : Int32)))) (ma_put S7 66 0 (.inl v8))) else (ma_wp X (d - 1) (w - 21) 129 0 [(0, .inr (.inr (some 64)))] [] (ma_put S7 66 0 (.inl v8)) (zi (fun v10 S9 => zT S9 ∧ (ma_wp X ((d - 1) - 1) ((w - 21) - 20) 135 0 [(0, .inr (.inr (some 64)))] [] S9 (zi (fun v12 S11 => zT S11 ∧ (if v12 = (-1 : Int32) then (Q (.inl (some (.inl (-1 : Int32)))) (ma_put S11 66 1 (.inl v12))) else (if v4 = (-1 : Int32) then (Q (.inl (some (.inl (-1 : Int32)))) (ma_put S11 66 1 (.inl v12))) else (ma_wp X (d - 1) (w - 21) 129 0 [(0, .inr (.inr (some 64)))] [] (ma_put S11 66 1 (.inl v12)) (zi (fun v14 S13 => zT S13 ∧ (if v14 = 0 then (Q (.inl (some (.inl v4))) S13) else (Q (.inl (some (.inl (-1 : Int32)))) S13))) (fun x S9 => Q (.inr x) S9)))))) (fun _ _ => False)))) (fun x S9 => Q (.inr x) S9))))) (fun _ _ => False)))) (fun x S9 => Q (.inr x) S9))) else (if v4 = (1 : Int32) then (ma_wp X (d - 1) (w - 21) 129 0 [(0, .inr (.inr (some 64)))] [] S3 (zi (fun v16 S15 => zT S15 ∧ (ma_wp X ((d - 1) - 1) ((w - 21) - 25) 134 0 [(0, .inr (.inr (some 64))), (1, .inl (16 : Int32)), (2, .inl (1500 : Int32))] [] S15 (zi (fun v18 S17 => zT S17 ∧ (if v18 = (-1 : Int32) then (Q (.inl (some (.inl (-1 : Int32)))) (ma_put S17 66 0 (.inl v18))) else (if v4 = (-1 : Int32) then (Q (.inl (some (.inl (-1 : Int32)))) (ma_put S17 66 0 (.inl v18))) else (ma_wp X (d - 1) (w - 21) 129 0 [(0, .inr (.inr (some 64)))] [] (ma_put S17 66 0 (.inl v18)) (zi (fun v20 S19 => zT S19 ∧ (if v20 = 0 then (Q (.inl (some (.inl v4))) S19) else (Q (.inl (some (.inl (-1 : Int32)))) S19))) (fun x S9 => Q (.inr x) S9)))))) (fun _ _ => False)))) (fun x S9 => Q (.inr x) S9))) else (if v4 = (2 : Int32) then (ma_wp X (d - 1) (w - 21) 129 0 [(0, .inr (.inr (some 64)))] [] S3 (zi (fun v22 S21 => zT S21 ∧ (ma_wp X ((d - 1) - 1) ((w - 21) - 25) 134 0 [(0, .inr (.inr (some 64))), (1, .inl (16 : Int32)), (2, .inl (1500 : Int32))] [] S21 (zi (fun v24 S23 => zT S23 ∧ (if v24 = (-1 : Int32) then (Q (.inl (some (.inl (-1 : Int32)))) (ma_put S23 66 0 (.inl v24))) else (if v4 = (-1 : Int32) then (Q (.inl (some (.inl (-1 : Int32)))) (ma_put S23 66 0 (.inl v24))) else (ma_wp X (d - 1) (w - 21) 129 0 [(0, .inr (.inr (some 64)))] [] (ma_put S23 66 0 (.inl v24)) (zi (fun v26 S25 => zT S25 ∧ (if v26 = 0 then (Q (.inl (some (.inl v4))) S25) else (Q (.inl (some (.inl (-1 : Int32)))) S25))) (fun x S9 => Q (.inr x) S9)))))) (fun _ _ => False)))) (fun x S9 => Q (.inr x) S9))) else (if v4 = (3 : Int32) then (ma_wp X (d - 1) (w - 21) 129 0 [(0, .inr (.inr (some 64)))] [] S3 (zi (fun v28 S27 => zT S27 ∧ (ma_wp X ((d - 1) - 1) ((w - 21) - 25) 134 0 [(0, .inr (.inr (some 64))), (1, .inl (16 : Int32)), (2, .inl (1500 : Int32))] [] S27 (zi (fun v30 S29 => zT S29 ∧ (if v30 = (-1 : Int32) then (Q (.inl (some (.inl (-1 : Int32)))) (ma_put S29 66 0 (.inl v30))) else (ma_wp X (d - 1) (w - 21) 129 0 [(0, .inr (.inr (some 64)))] [] (ma_put S29 66 0 (.inl v30)) (zi (fun v32 S31 => zT S31 ∧ (ma_wp X ((d - 1) - 1) ((w - 21) - 25) 134 0 [(0, .inr (.inr (some 64))), (1, .inl (16 : Int32)), (2, .inl (1500 : Int32))] [] S31 (zi (fun v34 S33 => zT S33 ∧ (if v34 = (-1 : Int32) then (Q (.inl (some (.inl (-1 : Int32)))) (ma_put S33 66 1 (.inl v34))) else (ma_wp X (d - 1) (w - 21) 129 0 [(0, .inr (.inr (some 64)))] [] (ma_put S33 66 1 (.inl v34)) (zi (fun v36 S35 => zT S35 ∧ (ma_wp X ((d - 1) - 1) ((w - 21) - 25) 134 0 [(0, .inr (.inr (some 64))), (1, .inl (1 : Int32)), (2, .inl (7 : Int32))] [] S35 (zi (fun v38 S37 => zT S37 ∧ (if v38 = (-1 : Int32) then (Q (.inl (some (.inl (-1 : Int32)))) (ma_put S37 66 2 (.inl v38))) else (ma_wp X (d - 1) (w - 21) 129 0 [(0, .inr (.inr (some 64)))] [] (ma_put S37 66 2 (.inl v38)) (zi (fun v40 S39 => zT S39 ∧ (ma_wp X ((d - 1) - 1) ((w - 21) - 25) 134 0 [(0, .inr (.inr (some 64))), (1, .inl (4 : Int32)), (2, .inl (64 : Int32))] [] S39 (zi (fun v42 S41 => zT S41 ∧ (if v42 = (-1 : Int32) then (Q (.inl (some (.inl (-1 : Int32)))) (ma_put S41 66 3 (.inl v42))) else (if v4 = (-1 : Int32) then (Q (.inl (some (.inl (-1 : Int32)))) (ma_put S41 66 3 (.inl v42))) else (ma_wp X (d - 1) (w - 21) 129 0 [(0, .inr (.inr (some 64)))] [] (ma_put S41 66 3 (.inl v42)) (zi (fun v44 S43 => zT S43 ∧ (if v44 = 0 then (Q (.inl (some (.inl v4))) S43) else (Q (.inl (some (.inl (-1 : Int32)))) S43))) (fun x S9 => Q (.inr x) S9)))))) (fun _ _ => False)))) (fun x S9 => Q (.inr x) S9))))) (fun _ _ => False)))) (fun x S9 => Q (.inr x) S9))))) (fun _ _ => False)))) (fun x S9 => Q (.inr x) S9))))) (fun _ _ => False)))) (fun x S9 => Q (.inr x) S9))) else (if v4 = (4 : Int32) then (ma_wp X (d - 1) (w - 21) 129 0 [(0, .inr (.inr (some 64)))] [] S3 (zi (fun v46 S45 => zT S45 ∧ (ma_wp X ((d - 1) - 1) ((w - 21) - 25) 134 0 [(0, .inr (.inr (some 64))), (1, .inl (16 : Int32)), (2, .inl (1500 : Int32))] [] S45 (zi (fun v48 S47 => zT S47 ∧ (if v48 = (-1 : Int32) then (Q (.inl (some (.inl (-1 : Int32)))) (ma_put S47 66 0 (.inl v48))) else (ma_wp X (d - 1) (w - 21) 129 0 [(0, .inr (.inr (some 64)))] [] (ma_put S47 66 0 (.inl v48)) (zi (fun v50 S49 => zT S49 ∧ (ma_wp X ((d - 1) - 1) ((w - 21) - 20) 135 0 [(0, .inr (.inr (some 64)))] [] S49 (zi (fun v52 S51 => zT S51 ∧ (if v52 = (-1 : Int32) then (Q (.inl (some (.inl (-1 : Int32)))) (ma_put S51 66 1 (.inl v52))) else (if v4 = (-1 : Int32) then (Q (.inl (some (.inl (-1 : Int32)))) (ma_put S51 66 1 (.inl v52))) else (ma_wp X (d - 1) (w - 21) 129 0 [(0, .inr (.inr (some 64)))] [] (ma_put S51 66 1 (.inl v52)) (zi (fun v54 S53 => zT S53 ∧ (if v54 = 0 then (Q (.inl (some (.inl v4))) S53) else (Q (.inl (some (.inl (-1 : Int32)))) S53))) (fun x S9 => Q (.inr x) S9)))))) (fun _ _ => False)))) (fun x S9 => Q (.inr x) S9))))) (fun _ _ => False)))) (fun x S9 => Q (.inr x) S9))) else (if v4 = (5 : Int32) then (ma_wp X (d - 1) (w - 21) 129 0 [(0, .inr (.inr (some 64)))] [] S3 (zi (fun v56 S55 => zT S55 ∧ (ma_wp X ((d - 1) - 1) ((w - 21) - 25) 134 0 [(0, .inr (.inr (some 64))), (1, .inl (16 : Int32)), (2, .inl (1500 : Int32))] [] S55 (zi (fun v58 S57 => zT S57 ∧ (if v58 = (-1 : Int32) then (Q (.inl (some (.inl (-1 : Int32)))) (ma_put S57 66 0 (.inl v58))) else (ma_wp X (d - 1) (w - 21) 129 0 [(0, .inr (.inr (some 64)))] [] (ma_put S57 66 0 (.inl v58)) (zi (fun v60 S59 => zT S59 ∧ (ma_wp X ((d - 1) - 1) ((w - 21) - 20) 135 0 [(0, .inr (.inr (some 64)))] [] S59 (zi (fun v62 S61 => zT S61 ∧ (if v62 = (-1 : Int32) then (Q (.inl (some (.inl (-1 : Int32)))) (ma_put S61 66 1 (.inl v62))) else (ma_wp X (d - 1) (w - 21) 129 0 [(0, .inr (.inr (some 64)))] [] (ma_put S61 66 1 (.inl v62)) (zi (fun v64 S63 => zT S63 ∧ (ma_wp X ((d - 1) - 1) ((w - 21) - 25) 134 0 [(0, .inr (.inr (some 64))), (1, .inl (1 : Int32)), (2, .inl (50 : Int32))] [] S63 (zi (fun v66 S65 => zT S65 ∧ (if v66 = (-1 : Int32) then (Q (.inl (some (.inl (-1 : Int32)))) (ma_put S65 66 2 (.inl v66))) else (ma_wp X (d - 1) (w - 21) 129 0 [(0, .inr (.inr (some 64)))] [] (ma_put S65 66 2 (.inl v66)) (zi (fun v68 S67 => zT S67 ∧ (ma_wp X ((d - 1) - 1) ((w - 21) - 20) 136 0 [(0, .inr (.inr (some 64)))] [] S67 (zi (fun v70 S69 => zT S69 ∧ (if v70 = (-1 : Int32) then (Q (.inl (some (.inl (-1 : Int32)))) (ma_put S69 66 3 (.inl v70))) else (if v4 = (-1 : Int32) then (Q (.inl (some (.inl (-1 : Int32)))) (ma_put S69 66 3 (.inl v70))) else (ma_wp X (d - 1) (w - 21) 129 0 [(0, .inr (.inr (some 64)))] [] (ma_put S69 66 3 (.inl v70)) (zi (fun v72 S71 => zT S71 ∧ (if v72 = 0 then (Q (.inl (some (.inl v4))) S71) else (Q (.inl (some (.inl (-1 : Int32)))) S71))) (fun x S9 => Q (.inr x) S9)))))) (fun _ _ => False)))) (fun x S9 => Q (.inr x) S9))))) (fun _ _ => False)))) (fun x S9 => Q (.inr x) S9))))) (fun _ _ => False)))) (fun x S9 => Q (.inr x) S9))))) (fun _ _ => False)))) (fun x S9 => Q (.inr x) S9))) else (if v4 = (6 : Int32) then (ma_wp X (d - 1) (w - 21) 129 0 [(0, .inr (.inr (some 64)))] [] S3 (zi (fun v74 S73 => zT S73 ∧ (ma_wp X ((d - 1) - 1) ((w - 21) - 25) 134 0 [(0, .inr (.inr (some 64))), (1, .inl (16 : Int32)), (2, .inl (1500 : Int32))] [] S73 (zi (fun v76 S75 => zT S75 ∧ (if v76 = (-1 : Int32) then (Q (.inl (some (.inl (-1 : Int32)))) (ma_put S75 66 0 (.inl v76))) else (ma_wp X (d - 1) (w - 21) 129 0 [(0, .inr (.inr (some 64)))] [] (ma_put S75 66 0 (.inl v76)) (zi (fun v78 S77 => zT S77 ∧ (ma_wp X ((d - 1) - 1) ((w - 21) - 25) 134 0 [(0, .inr (.inr (some 64))), (1, .inl (16 : Int32)), (2, .inl (if ((mI S77 66 0) / (4 : Int32)) < (256 : Int32) then ((mI S77 66 0) / (4 : Int32)) else (256 : Int32)))] [] S77 (zi (fun v80 S79 => zT S79 ∧ (if v80 = (-1 : Int32) then (Q (.inl (some (.inl (-1 : Int32)))) (ma_put S79 66 1 (.inl v80))) else (ma_wp X (d - 1) (w - 21) 129 0 [(0, .inr (.inr (some 64)))] [] (ma_put S79 66 1 (.inl v80)) (zi (fun v82 S81 => zT S81 ∧ (ma_wp X ((d - 1) - 1) ((w - 21) - 25) 134 0 [(0, .inr (.inr (some 64))), (1, .inl (0 : Int32)), (2, .inl (100 : Int32))] [] S81 (zi (fun v84 S83 => zT S83 ∧ (if v84 = (-1 : Int32) then (Q (.inl (some (.inl (-1 : Int32)))) (ma_put S83 66 2 (.inl v84))) else (if v4 = (-1 : Int32) then (Q (.inl (some (.inl (-1 : Int32)))) (ma_put S83 66 2 (.inl v84))) else (ma_wp X (d - 1) (w - 21) 129 0 [(0, .inr (.inr (some 64)))] [] (ma_put S83 66 2 (.inl v84)) (zi (fun v86 S85 => zT S85 ∧ (if v86 = 0 then (Q (.inl (some (.inl v4))) S85) else (Q (.inl (some (.inl (-1 : Int32)))) S85))) (fun x S9 => Q (.inr x) S9)))))) (fun _ _ => False)))) (fun x S9 => Q (.inr x) S9))))) (fun _ _ => False)))) (fun x S9 => Q (.inr x) S9))))) (fun _ _ => False)))) (fun x S9 => Q (.inr x) S9))) else (if v4 = (-1 : Int32) then (Q (.inl (some (.inl (-1 : Int32)))) S3) else (ma_wp X (d - 1) (w - 21) 129 0 [(0, .inr (.inr (some 64)))] [] S3 (zi (fun v88 S87 => zT S87 ∧ (if v88 = 0 then (Q (.inl (some (.inl v4))) S87) else (Q (.inl (some (.inl (-1 : Int32)))) S87))) (fun x S9 => Q (.inr x) S9)))))))))))) (fun x S9 => Q (.inr x) S9)))) (fun x S9 => Q (.inr x) S9))) : ma_wp X d w 128 0 [(0, .inr (.inr (some 64)))] [] S Q := by
  refine zw_push hm_128 dX11_readPolicy_0 (v := .inr (.inr (some 64))) rfl ?_
  refine zw_push hm_128 dX11_readPolicy_1 (v := .inl (0 : Int32)) rfl ?_
  refine zw_pf hm_128 dX11_readPolicy_2 (zT_is hS s_64) (zT_t hS s_64) p_11_275_11 zk_int ?_
  refine zw_push hm_128 dX11_readPolicy_5 (v := .inr (.inr (some 64))) rfl ?_
  refine zw_cv hm_128 dX11_readPolicy_6 v_11_278_11 hm_129 [] [] rfl (zT_rt (zT_pi hS) s_64 rfl) ⟨by omega, by omega⟩ rfl (zw_mono h (zi_go ?_ ?_))
  · intro v2 S1 hv
    obtain ⟨hS1, h⟩ := hv
    refine zw_stk hm_128 dX11_readPolicy_9 (st₉ := []) rfl rfl ?_
    refine zw_push hm_128 dX11_readPolicy_10 (v := .inr (.inr (some 64))) rfl ?_
    refine zw_cv hm_128 dX11_readPolicy_11 v_11_281_11 hm_130 [] [] rfl (zT_rt hS1 s_64 rfl) ⟨by omega, by omega⟩ rfl (zw_mono h (zi_go ?_ ?_))
    · intro v4 S3 hv
      obtain ⟨hS3, h⟩ := hv
      refine zw_sto hm_128 dX11_readPolicy_14 [(1, .inl v4), (0, .inr (.inr (some 64)))] rfl rfl rfl ?_
      refine zw_push hm_128 dX11_readPolicy_15 (v := .inl v4) rfl ?_
      refine zw_cs hm_128 dX11_readPolicy_16 pn_11_284 sl_11_284 hm_132 [.inl v4] [] rfl ⟨by omega, by omega⟩ rfl ?_
      show ma_wp X (d - 1) (w - 20) 132 0 [(0, .inl v4)] [] S3 _
      refine zw_push hm_132 dX11_partsOf_0 (v := .inl v4) rfl ?_
      by_cases hc0 : v4 = (0 : Int32)
      · rw [if_pos hc0] at h
        refine zw_jmp hm_132 dX11_partsOf_1 (t := 44) (st₉ := []) rfl rfl rfl (ma_jmp_tab (by rw [hc0]; decide +kernel)) ?_
        refine zw_txc hm_132 dX11_partsOf_44 txi_11_319 ?_
        refine zw_aret hm_132 dX11_partsOf_47 ?_
        show ma_wp X d w 128 19 [(1, .inl v4), (0, .inr (.inr (some 64)))] [.inr (.inr (some 7))] S3 _
        refine zw_sto hm_128 dX11_readPolicy_19 [(2, .inr (.inr (some 7))), (1, .inl v4), (0, .inr (.inr (some 64)))] rfl rfl rfl ?_
        refine zw_push hm_128 dX11_readPolicy_20 (v := .inl (0 : Int32)) rfl ?_
        refine zw_sto hm_128 dX11_readPolicy_21 [(3, .inl (0 : Int32)), (2, .inr (.inr (some 7))), (1, .inl v4), (0, .inr (.inr (some 64)))] rfl rfl rfl ?_
        refine zw_push hm_128 dX11_readPolicy_22 (v := .inl (0 : Int32)) rfl ?_
        refine zw_push hm_128 dX11_readPolicy_23 (v := .inr (.inr (some 7))) rfl ?_
        refine zw_cv hm_128 dX11_readPolicy_24 v_11_288_17 hm_277 [] [.inl (0 : Int32)] rfl rfl ⟨by omega, by omega⟩ rfl (tx_len (v := (2 : Int32)) (by decide) (by omega) (by omega) rfl rfl ?_)
        show ma_wp X d w 128 27 [(3, .inl (0 : Int32)), (2, .inr (.inr (some 7))), (1, .inl v4), (0, .inr (.inr (some 64)))] [.inl (2 : Int32), .inl (0 : Int32)] S3 _
        refine zw_if2 hm_128 dX11_readPolicy_27 (t := 73) rfl zc2_ge (fun hc => absurd hc (by decide)) (fun _ => ?_)
        refine zw_push hm_128 dX11_readPolicy_30 (v := .inl (0 : Int32)) rfl ?_
        refine zw_push hm_128 dX11_readPolicy_31 (v := .inl (4 : Int32)) rfl ?_
        refine zw_if2 hm_128 dX11_readPolicy_32 (t := 73) rfl zc2_ge (fun hc => absurd hc (by decide)) (fun _ => ?_)
        refine zw_push hm_128 dX11_readPolicy_35 (v := .inr (.inr (some 64))) rfl ?_
        refine zw_cv hm_128 dX11_readPolicy_36 v_11_278_11 hm_129 [] [] rfl (zT_rt hS3 s_64 rfl) ⟨by omega, by omega⟩ rfl (zw_mono h (zi_go ?_ ?_))
        · intro v6 S5 hv
          obtain ⟨hS5, h⟩ := hv
          refine zw_stk hm_128 dX11_readPolicy_39 (st₉ := []) rfl rfl ?_
          refine zw_push hm_128 dX11_readPolicy_40 (v := .inr (.inr (some 64))) rfl ?_
          refine zw_gf hm_128 dX11_readPolicy_41 (v := .inr (.inr (some 66))) (zT_is hS5 s_64) (zT_t hS5 s_64) rfl f_11_13_11 (zT_f hS5 r_64_4) ?_
          refine zw_push hm_128 dX11_readPolicy_44 (v := .inl (0 : Int32)) rfl ?_
          refine zw_push hm_128 dX11_readPolicy_45 (v := .inr (.inr (some 64))) rfl ?_
          refine zw_push hm_128 dX11_readPolicy_46 (v := .inr (.inr (some 7))) rfl ?_
          refine zw_push hm_128 dX11_readPolicy_47 (v := .inl (0 : Int32)) rfl ?_
          refine zw_cv hm_128 dX11_readPolicy_48 v_11_293_17 hm_279 [.inl (0 : Int32)] [.inr (.inr (some 64)), .inl (0 : Int32), .inr (.inr (some 66))] rfl rfl ⟨by omega, by omega⟩ rfl (tx_char (v := (114 : Int32)) (by decide) (by omega) (by omega) (by decide) (by decide) (by decide) (by decide) ?_)
          show ma_wp X d w 128 51 [(3, .inl (0 : Int32)), (2, .inr (.inr (some 7))), (1, .inl v4), (0, .inr (.inr (some 64)))] [.inl (114 : Int32), .inr (.inr (some 64)), .inl (0 : Int32), .inr (.inr (some 66))] S5 _
          refine zw_cv hm_128 dX11_readPolicy_51 v_11_297_11 hm_133 [.inl (114 : Int32)] [.inl (0 : Int32), .inr (.inr (some 66))] rfl (zT_rt hS5 s_64 rfl) ⟨by omega, by omega⟩ rfl ?_
          show ma_wp X (d - 1) (w - 21) 133 0 [(0, .inr (.inr (some 64))), (1, .inl (114 : Int32))] [] S5 _
          refine zw_push hm_133 dX11_partToken_0 (v := .inl (114 : Int32)) rfl ?_
          refine zw_jmp hm_133 dX11_partToken_1 (t := 68) (st₉ := []) rfl rfl rfl (by decide +kernel) ?_
          refine zw_push hm_133 dX11_partToken_68 (v := .inr (.inr (some 64))) rfl ?_
          refine zw_push hm_133 dX11_partToken_69 (v := .inl (16 : Int32)) rfl ?_
          refine zw_push hm_133 dX11_partToken_71 (v := .inl (1500 : Int32)) rfl ?_
          refine zw_cv hm_133 dX11_partToken_74 v_11_331_11 hm_134 [.inl (1500 : Int32), .inl (16 : Int32)] [] rfl (zT_rt hS5 s_64 rfl) ⟨by omega, by omega⟩ rfl (zw_mono h (zi_go ?_ ?_))
          · intro v8 S7 hv
            obtain ⟨hS7, h⟩ := hv
            refine zw_iret hm_133 dX11_partToken_77 ?_
            show ma_wp X d w 128 54 [(3, .inl (0 : Int32)), (2, .inr (.inr (some 7))), (1, .inl v4), (0, .inr (.inr (some 64)))] [.inl v8, .inl (0 : Int32), .inr (.inr (some 66))] S7 _
            refine zw_ias hm_128 dX11_readPolicy_54 (zT_is hS7 s_66) (zT_h hS7 s_66) rfl ⟨by decide, by decide⟩ ?_
            refine zw_push hm_128 dX11_readPolicy_55 (v := .inr (.inr (some 64))) rfl ?_
            refine zw_gf hm_128 dX11_readPolicy_56 (v := .inr (.inr (some 66))) (zT_is (zT_pi hS7) s_64) (zT_t (zT_pi hS7) s_64) rfl f_11_13_11 (zT_f (zT_pi hS7) r_64_4) ?_
            refine zw_push hm_128 dX11_readPolicy_59 (v := .inl (0 : Int32)) rfl ?_
            refine zw_ia hm_128 dX11_readPolicy_60 (zT_is (zT_pi hS7) s_66) (zT_h (zT_pi hS7) s_66) rfl ⟨by decide, by decide⟩ ?_
            show ma_wp X d w 128 61 [(3, .inl (0 : Int32)), (2, .inr (.inr (some 7))), (1, .inl v4), (0, .inr (.inr (some 64)))] [.inl v8] (ma_put S7 66 0 (.inl v8)) _
            refine zw_push hm_128 dX11_readPolicy_61 (v := .inl (-1 : Int32)) rfl ?_
            refine zw_if2 hm_128 dX11_readPolicy_62 (t := 67) rfl zc2_ne ?_ ?_
            · intro hc
              rw [if_neg hc] at h
              refine zw_sto hm_128 dX11_readPolicy_67 [(3, .inl (1 : Int32)), (2, .inr (.inr (some 7))), (1, .inl v4), (0, .inr (.inr (some 64)))] rfl rfl rfl ?_
              refine zw_goto hm_128 dX11_readPolicy_70 (t := 22) rfl ?_
              refine zw_push hm_128 dX11_readPolicy_22 (v := .inl (1 : Int32)) rfl ?_
              refine zw_push hm_128 dX11_readPolicy_23 (v := .inr (.inr (some 7))) rfl ?_
              refine zw_cv hm_128 dX11_readPolicy_24 v_11_288_17 hm_277 [] [.inl (1 : Int32)] rfl rfl ⟨by omega, by omega⟩ rfl (tx_len (v := (2 : Int32)) (by decide) (by omega) (by omega) rfl rfl ?_)
              show ma_wp X d w 128 27 [(3, .inl (1 : Int32)), (2, .inr (.inr (some 7))), (1, .inl v4), (0, .inr (.inr (some 64)))] [.inl (2 : Int32), .inl (1 : Int32)] (ma_put S7 66 0 (.inl v8)) _
              refine zw_if2 hm_128 dX11_readPolicy_27 (t := 73) rfl zc2_ge (fun hc => absurd hc (by decide)) (fun _ => ?_)
              refine zw_push hm_128 dX11_readPolicy_30 (v := .inl (1 : Int32)) rfl ?_
              refine zw_push hm_128 dX11_readPolicy_31 (v := .inl (4 : Int32)) rfl ?_
              refine zw_if2 hm_128 dX11_readPolicy_32 (t := 73) rfl zc2_ge (fun hc => absurd hc (by decide)) (fun _ => ?_)
              refine zw_push hm_128 dX11_readPolicy_35 (v := .inr (.inr (some 64))) rfl ?_
              refine zw_cv hm_128 dX11_readPolicy_36 v_11_278_11 hm_129 [] [] rfl (zT_rt (zT_pi hS7) s_64 rfl) ⟨by omega, by omega⟩ rfl (zw_mono h (zi_go ?_ ?_))
              · intro v10 S9 hv
                obtain ⟨hS9, h⟩ := hv
                refine zw_stk hm_128 dX11_readPolicy_39 (st₉ := []) rfl rfl ?_
                refine zw_push hm_128 dX11_readPolicy_40 (v := .inr (.inr (some 64))) rfl ?_
                refine zw_gf hm_128 dX11_readPolicy_41 (v := .inr (.inr (some 66))) (zT_is hS9 s_64) (zT_t hS9 s_64) rfl f_11_13_11 (zT_f hS9 r_64_4) ?_
                refine zw_push hm_128 dX11_readPolicy_44 (v := .inl (1 : Int32)) rfl ?_
                refine zw_push hm_128 dX11_readPolicy_45 (v := .inr (.inr (some 64))) rfl ?_
                refine zw_push hm_128 dX11_readPolicy_46 (v := .inr (.inr (some 7))) rfl ?_
                refine zw_push hm_128 dX11_readPolicy_47 (v := .inl (1 : Int32)) rfl ?_
                refine zw_cv hm_128 dX11_readPolicy_48 v_11_293_17 hm_279 [.inl (1 : Int32)] [.inr (.inr (some 64)), .inl (1 : Int32), .inr (.inr (some 66))] rfl rfl ⟨by omega, by omega⟩ rfl (tx_char (v := (102 : Int32)) (by decide) (by omega) (by omega) (by decide) (by decide) (by decide) (by decide) ?_)
                show ma_wp X d w 128 51 [(3, .inl (1 : Int32)), (2, .inr (.inr (some 7))), (1, .inl v4), (0, .inr (.inr (some 64)))] [.inl (102 : Int32), .inr (.inr (some 64)), .inl (1 : Int32), .inr (.inr (some 66))] S9 _
                refine zw_cv hm_128 dX11_readPolicy_51 v_11_297_11 hm_133 [.inl (102 : Int32)] [.inl (1 : Int32), .inr (.inr (some 66))] rfl (zT_rt hS9 s_64 rfl) ⟨by omega, by omega⟩ rfl ?_
                show ma_wp X (d - 1) (w - 21) 133 0 [(0, .inr (.inr (some 64))), (1, .inl (102 : Int32))] [] S9 _
                refine zw_push hm_133 dX11_partToken_0 (v := .inl (102 : Int32)) rfl ?_
                refine zw_jmp hm_133 dX11_partToken_1 (t := 131) (st₉ := []) rfl rfl rfl (by decide +kernel) ?_
                refine zw_push hm_133 dX11_partToken_131 (v := .inr (.inr (some 64))) rfl ?_
                refine zw_cv hm_133 dX11_partToken_132 v_11_340_11 hm_135 [] [] rfl (zT_rt hS9 s_64 rfl) ⟨by omega, by omega⟩ rfl (zw_mono h (zi_go ?_ ?_))
                · intro v12 S11 hv
                  obtain ⟨hS11, h⟩ := hv
                  refine zw_iret hm_133 dX11_partToken_135 ?_
                  show ma_wp X d w 128 54 [(3, .inl (1 : Int32)), (2, .inr (.inr (some 7))), (1, .inl v4), (0, .inr (.inr (some 64)))] [.inl v12, .inl (1 : Int32), .inr (.inr (some 66))] S11 _
                  refine zw_ias hm_128 dX11_readPolicy_54 (zT_is hS11 s_66) (zT_h hS11 s_66) rfl ⟨by decide, by decide⟩ ?_
                  refine zw_push hm_128 dX11_readPolicy_55 (v := .inr (.inr (some 64))) rfl ?_
                  refine zw_gf hm_128 dX11_readPolicy_56 (v := .inr (.inr (some 66))) (zT_is (zT_pi hS11) s_64) (zT_t (zT_pi hS11) s_64) rfl f_11_13_11 (zT_f (zT_pi hS11) r_64_4) ?_
                  refine zw_push hm_128 dX11_readPolicy_59 (v := .inl (1 : Int32)) rfl ?_
                  refine zw_ia hm_128 dX11_readPolicy_60 (zT_is (zT_pi hS11) s_66) (zT_h (zT_pi hS11) s_66) rfl ⟨by decide, by decide⟩ ?_
                  show ma_wp X d w 128 61 [(3, .inl (1 : Int32)), (2, .inr (.inr (some 7))), (1, .inl v4), (0, .inr (.inr (some 64)))] [.inl v12] (ma_put S11 66 1 (.inl v12)) _
                  refine zw_push hm_128 dX11_readPolicy_61 (v := .inl (-1 : Int32)) rfl ?_
                  refine zw_if2 hm_128 dX11_readPolicy_62 (t := 67) rfl zc2_ne ?_ ?_
                  · intro hc
                    rw [if_neg hc] at h
                    refine zw_sto hm_128 dX11_readPolicy_67 [(3, .inl (2 : Int32)), (2, .inr (.inr (some 7))), (1, .inl v4), (0, .inr (.inr (some 64)))] rfl rfl rfl ?_
                    refine zw_goto hm_128 dX11_readPolicy_70 (t := 22) rfl ?_
                    refine zw_push hm_128 dX11_readPolicy_22 (v := .inl (2 : Int32)) rfl ?_
                    refine zw_push hm_128 dX11_readPolicy_23 (v := .inr (.inr (some 7))) rfl ?_
                    refine zw_cv hm_128 dX11_readPolicy_24 v_11_288_17 hm_277 [] [.inl (2 : Int32)] rfl rfl ⟨by omega, by omega⟩ rfl (tx_len (v := (2 : Int32)) (by decide) (by omega) (by omega) rfl rfl ?_)
                    show ma_wp X d w 128 27 [(3, .inl (2 : Int32)), (2, .inr (.inr (some 7))), (1, .inl v4), (0, .inr (.inr (some 64)))] [.inl (2 : Int32), .inl (2 : Int32)] (ma_put S11 66 1 (.inl v12)) _
                    refine zw_if2 hm_128 dX11_readPolicy_27 (t := 73) rfl zc2_ge (fun _ => ?_) (fun hc => absurd (by decide) hc)
                    refine zw_push hm_128 dX11_readPolicy_73 (v := .inl v4) rfl ?_
                    refine zw_push hm_128 dX11_readPolicy_74 (v := .inl (-1 : Int32)) rfl ?_
                    refine zw_if2 hm_128 dX11_readPolicy_75 (t := 85) rfl zc2_eq ?_ ?_
                    · intro hc
                      rw [if_pos hc] at h
                      refine zw_push hm_128 dX11_readPolicy_85 (v := .inl (-1 : Int32)) rfl ?_
                      exact zw_iret hm_128 dX11_readPolicy_86 h
                    · intro hc
                      rw [if_neg hc] at h
                      refine zw_push hm_128 dX11_readPolicy_78 (v := .inr (.inr (some 64))) rfl ?_
                      refine zw_cv hm_128 dX11_readPolicy_79 v_11_278_11 hm_129 [] [] rfl (zT_rt (zT_pi hS11) s_64 rfl) ⟨by omega, by omega⟩ rfl (zw_mono h (zi_go ?_ ?_))
                      · intro v14 S13 hv
                        obtain ⟨hS13, h⟩ := hv
                        refine zw_if0 hm_128 dX11_readPolicy_82 (t := 87) rfl zc0_eq ?_ ?_
                        · intro hc
                          rw [if_pos hc] at h
                          refine zw_push hm_128 dX11_readPolicy_87 (v := .inl v4) rfl ?_
                          exact zw_iret hm_128 dX11_readPolicy_88 h
                        · intro hc
                          rw [if_neg hc] at h
                          refine zw_push hm_128 dX11_readPolicy_85 (v := .inl (-1 : Int32)) rfl ?_
                          exact zw_iret hm_128 dX11_readPolicy_86 h
                      · intro x S9 hx
                        exact ⟨by decide, hx⟩
                  · intro hc
                    rw [if_pos (Classical.not_not.mp hc)] at h
                    refine zw_push hm_128 dX11_readPolicy_65 (v := .inl (-1 : Int32)) rfl ?_
                    exact zw_iret hm_128 dX11_readPolicy_66 h
                · intro x S9 hx
                  exact hx.elim
              · intro x S9 hx
                exact ⟨by decide, hx⟩
            · intro hc
              rw [if_pos (Classical.not_not.mp hc)] at h
              refine zw_push hm_128 dX11_readPolicy_65 (v := .inl (-1 : Int32)) rfl ?_
              exact zw_iret hm_128 dX11_readPolicy_66 h
          · intro x S9 hx
            exact hx.elim
        · intro x S9 hx
          exact ⟨by decide, hx⟩
      rw [if_neg hc0] at h
      by_cases hc1 : v4 = (1 : Int32)
      · rw [if_pos hc1] at h
        refine zw_jmp hm_132 dX11_partsOf_1 (t := 48) (st₉ := []) rfl rfl rfl (ma_jmp_tab (by rw [hc1]; decide +kernel)) ?_
        refine zw_txc hm_132 dX11_partsOf_48 txi_11_321 ?_
        refine zw_aret hm_132 dX11_partsOf_51 ?_
        show ma_wp X d w 128 19 [(1, .inl v4), (0, .inr (.inr (some 64)))] [.inr (.inr (some 8))] S3 _
        refine zw_sto hm_128 dX11_readPolicy_19 [(2, .inr (.inr (some 8))), (1, .inl v4), (0, .inr (.inr (some 64)))] rfl rfl rfl ?_
        refine zw_push hm_128 dX11_readPolicy_20 (v := .inl (0 : Int32)) rfl ?_
        refine zw_sto hm_128 dX11_readPolicy_21 [(3, .inl (0 : Int32)), (2, .inr (.inr (some 8))), (1, .inl v4), (0, .inr (.inr (some 64)))] rfl rfl rfl ?_
        refine zw_push hm_128 dX11_readPolicy_22 (v := .inl (0 : Int32)) rfl ?_
        refine zw_push hm_128 dX11_readPolicy_23 (v := .inr (.inr (some 8))) rfl ?_
        refine zw_cv hm_128 dX11_readPolicy_24 v_11_288_17 hm_277 [] [.inl (0 : Int32)] rfl rfl ⟨by omega, by omega⟩ rfl (tx_len (v := (1 : Int32)) (by decide) (by omega) (by omega) rfl rfl ?_)
        show ma_wp X d w 128 27 [(3, .inl (0 : Int32)), (2, .inr (.inr (some 8))), (1, .inl v4), (0, .inr (.inr (some 64)))] [.inl (1 : Int32), .inl (0 : Int32)] S3 _
        refine zw_if2 hm_128 dX11_readPolicy_27 (t := 73) rfl zc2_ge (fun hc => absurd hc (by decide)) (fun _ => ?_)
        refine zw_push hm_128 dX11_readPolicy_30 (v := .inl (0 : Int32)) rfl ?_
        refine zw_push hm_128 dX11_readPolicy_31 (v := .inl (4 : Int32)) rfl ?_
        refine zw_if2 hm_128 dX11_readPolicy_32 (t := 73) rfl zc2_ge (fun hc => absurd hc (by decide)) (fun _ => ?_)
        refine zw_push hm_128 dX11_readPolicy_35 (v := .inr (.inr (some 64))) rfl ?_
        refine zw_cv hm_128 dX11_readPolicy_36 v_11_278_11 hm_129 [] [] rfl (zT_rt hS3 s_64 rfl) ⟨by omega, by omega⟩ rfl (zw_mono h (zi_go ?_ ?_))
        · intro v16 S15 hv
          obtain ⟨hS15, h⟩ := hv
          refine zw_stk hm_128 dX11_readPolicy_39 (st₉ := []) rfl rfl ?_
          refine zw_push hm_128 dX11_readPolicy_40 (v := .inr (.inr (some 64))) rfl ?_
          refine zw_gf hm_128 dX11_readPolicy_41 (v := .inr (.inr (some 66))) (zT_is hS15 s_64) (zT_t hS15 s_64) rfl f_11_13_11 (zT_f hS15 r_64_4) ?_
          refine zw_push hm_128 dX11_readPolicy_44 (v := .inl (0 : Int32)) rfl ?_
          refine zw_push hm_128 dX11_readPolicy_45 (v := .inr (.inr (some 64))) rfl ?_
          refine zw_push hm_128 dX11_readPolicy_46 (v := .inr (.inr (some 8))) rfl ?_
          refine zw_push hm_128 dX11_readPolicy_47 (v := .inl (0 : Int32)) rfl ?_
          refine zw_cv hm_128 dX11_readPolicy_48 v_11_293_17 hm_279 [.inl (0 : Int32)] [.inr (.inr (some 64)), .inl (0 : Int32), .inr (.inr (some 66))] rfl rfl ⟨by omega, by omega⟩ rfl (tx_char (v := (114 : Int32)) (by decide) (by omega) (by omega) (by decide) (by decide) (by decide) (by decide) ?_)
          show ma_wp X d w 128 51 [(3, .inl (0 : Int32)), (2, .inr (.inr (some 8))), (1, .inl v4), (0, .inr (.inr (some 64)))] [.inl (114 : Int32), .inr (.inr (some 64)), .inl (0 : Int32), .inr (.inr (some 66))] S15 _
          refine zw_cv hm_128 dX11_readPolicy_51 v_11_297_11 hm_133 [.inl (114 : Int32)] [.inl (0 : Int32), .inr (.inr (some 66))] rfl (zT_rt hS15 s_64 rfl) ⟨by omega, by omega⟩ rfl ?_
          show ma_wp X (d - 1) (w - 21) 133 0 [(0, .inr (.inr (some 64))), (1, .inl (114 : Int32))] [] S15 _
          refine zw_push hm_133 dX11_partToken_0 (v := .inl (114 : Int32)) rfl ?_
          refine zw_jmp hm_133 dX11_partToken_1 (t := 68) (st₉ := []) rfl rfl rfl (by decide +kernel) ?_
          refine zw_push hm_133 dX11_partToken_68 (v := .inr (.inr (some 64))) rfl ?_
          refine zw_push hm_133 dX11_partToken_69 (v := .inl (16 : Int32)) rfl ?_
          refine zw_push hm_133 dX11_partToken_71 (v := .inl (1500 : Int32)) rfl ?_
          refine zw_cv hm_133 dX11_partToken_74 v_11_331_11 hm_134 [.inl (1500 : Int32), .inl (16 : Int32)] [] rfl (zT_rt hS15 s_64 rfl) ⟨by omega, by omega⟩ rfl (zw_mono h (zi_go ?_ ?_))
          · intro v18 S17 hv
            obtain ⟨hS17, h⟩ := hv
            refine zw_iret hm_133 dX11_partToken_77 ?_
            show ma_wp X d w 128 54 [(3, .inl (0 : Int32)), (2, .inr (.inr (some 8))), (1, .inl v4), (0, .inr (.inr (some 64)))] [.inl v18, .inl (0 : Int32), .inr (.inr (some 66))] S17 _
            refine zw_ias hm_128 dX11_readPolicy_54 (zT_is hS17 s_66) (zT_h hS17 s_66) rfl ⟨by decide, by decide⟩ ?_
            refine zw_push hm_128 dX11_readPolicy_55 (v := .inr (.inr (some 64))) rfl ?_
            refine zw_gf hm_128 dX11_readPolicy_56 (v := .inr (.inr (some 66))) (zT_is (zT_pi hS17) s_64) (zT_t (zT_pi hS17) s_64) rfl f_11_13_11 (zT_f (zT_pi hS17) r_64_4) ?_
            refine zw_push hm_128 dX11_readPolicy_59 (v := .inl (0 : Int32)) rfl ?_
            refine zw_ia hm_128 dX11_readPolicy_60 (zT_is (zT_pi hS17) s_66) (zT_h (zT_pi hS17) s_66) rfl ⟨by decide, by decide⟩ ?_
            show ma_wp X d w 128 61 [(3, .inl (0 : Int32)), (2, .inr (.inr (some 8))), (1, .inl v4), (0, .inr (.inr (some 64)))] [.inl v18] (ma_put S17 66 0 (.inl v18)) _
            refine zw_push hm_128 dX11_readPolicy_61 (v := .inl (-1 : Int32)) rfl ?_
            refine zw_if2 hm_128 dX11_readPolicy_62 (t := 67) rfl zc2_ne ?_ ?_
            · intro hc
              rw [if_neg hc] at h
              refine zw_sto hm_128 dX11_readPolicy_67 [(3, .inl (1 : Int32)), (2, .inr (.inr (some 8))), (1, .inl v4), (0, .inr (.inr (some 64)))] rfl rfl rfl ?_
              refine zw_goto hm_128 dX11_readPolicy_70 (t := 22) rfl ?_
              refine zw_push hm_128 dX11_readPolicy_22 (v := .inl (1 : Int32)) rfl ?_
              refine zw_push hm_128 dX11_readPolicy_23 (v := .inr (.inr (some 8))) rfl ?_
              refine zw_cv hm_128 dX11_readPolicy_24 v_11_288_17 hm_277 [] [.inl (1 : Int32)] rfl rfl ⟨by omega, by omega⟩ rfl (tx_len (v := (1 : Int32)) (by decide) (by omega) (by omega) rfl rfl ?_)
              show ma_wp X d w 128 27 [(3, .inl (1 : Int32)), (2, .inr (.inr (some 8))), (1, .inl v4), (0, .inr (.inr (some 64)))] [.inl (1 : Int32), .inl (1 : Int32)] (ma_put S17 66 0 (.inl v18)) _
              refine zw_if2 hm_128 dX11_readPolicy_27 (t := 73) rfl zc2_ge (fun _ => ?_) (fun hc => absurd (by decide) hc)
              refine zw_push hm_128 dX11_readPolicy_73 (v := .inl v4) rfl ?_
              refine zw_push hm_128 dX11_readPolicy_74 (v := .inl (-1 : Int32)) rfl ?_
              refine zw_if2 hm_128 dX11_readPolicy_75 (t := 85) rfl zc2_eq ?_ ?_
              · intro hc
                rw [if_pos hc] at h
                refine zw_push hm_128 dX11_readPolicy_85 (v := .inl (-1 : Int32)) rfl ?_
                exact zw_iret hm_128 dX11_readPolicy_86 h
              · intro hc
                rw [if_neg hc] at h
                refine zw_push hm_128 dX11_readPolicy_78 (v := .inr (.inr (some 64))) rfl ?_
                refine zw_cv hm_128 dX11_readPolicy_79 v_11_278_11 hm_129 [] [] rfl (zT_rt (zT_pi hS17) s_64 rfl) ⟨by omega, by omega⟩ rfl (zw_mono h (zi_go ?_ ?_))
                · intro v20 S19 hv
                  obtain ⟨hS19, h⟩ := hv
                  refine zw_if0 hm_128 dX11_readPolicy_82 (t := 87) rfl zc0_eq ?_ ?_
                  · intro hc
                    rw [if_pos hc] at h
                    refine zw_push hm_128 dX11_readPolicy_87 (v := .inl v4) rfl ?_
                    exact zw_iret hm_128 dX11_readPolicy_88 h
                  · intro hc
                    rw [if_neg hc] at h
                    refine zw_push hm_128 dX11_readPolicy_85 (v := .inl (-1 : Int32)) rfl ?_
                    exact zw_iret hm_128 dX11_readPolicy_86 h
                · intro x S9 hx
                  exact ⟨by decide, hx⟩
            · intro hc
              rw [if_pos (Classical.not_not.mp hc)] at h
              refine zw_push hm_128 dX11_readPolicy_65 (v := .inl (-1 : Int32)) rfl ?_
              exact zw_iret hm_128 dX11_readPolicy_66 h
          · intro x S9 hx
            exact hx.elim
        · intro x S9 hx
          exact ⟨by decide, hx⟩
      rw [if_neg hc1] at h
      by_cases hc2 : v4 = (2 : Int32)
      · rw [if_pos hc2] at h
        refine zw_jmp hm_132 dX11_partsOf_1 (t := 52) (st₉ := []) rfl rfl rfl (ma_jmp_tab (by rw [hc2]; decide +kernel)) ?_
        refine zw_txc hm_132 dX11_partsOf_52 txi_11_321 ?_
        refine zw_aret hm_132 dX11_partsOf_55 ?_
        show ma_wp X d w 128 19 [(1, .inl v4), (0, .inr (.inr (some 64)))] [.inr (.inr (some 8))] S3 _
        refine zw_sto hm_128 dX11_readPolicy_19 [(2, .inr (.inr (some 8))), (1, .inl v4), (0, .inr (.inr (some 64)))] rfl rfl rfl ?_
        refine zw_push hm_128 dX11_readPolicy_20 (v := .inl (0 : Int32)) rfl ?_
        refine zw_sto hm_128 dX11_readPolicy_21 [(3, .inl (0 : Int32)), (2, .inr (.inr (some 8))), (1, .inl v4), (0, .inr (.inr (some 64)))] rfl rfl rfl ?_
        refine zw_push hm_128 dX11_readPolicy_22 (v := .inl (0 : Int32)) rfl ?_
        refine zw_push hm_128 dX11_readPolicy_23 (v := .inr (.inr (some 8))) rfl ?_
        refine zw_cv hm_128 dX11_readPolicy_24 v_11_288_17 hm_277 [] [.inl (0 : Int32)] rfl rfl ⟨by omega, by omega⟩ rfl (tx_len (v := (1 : Int32)) (by decide) (by omega) (by omega) rfl rfl ?_)
        show ma_wp X d w 128 27 [(3, .inl (0 : Int32)), (2, .inr (.inr (some 8))), (1, .inl v4), (0, .inr (.inr (some 64)))] [.inl (1 : Int32), .inl (0 : Int32)] S3 _
        refine zw_if2 hm_128 dX11_readPolicy_27 (t := 73) rfl zc2_ge (fun hc => absurd hc (by decide)) (fun _ => ?_)
        refine zw_push hm_128 dX11_readPolicy_30 (v := .inl (0 : Int32)) rfl ?_
        refine zw_push hm_128 dX11_readPolicy_31 (v := .inl (4 : Int32)) rfl ?_
        refine zw_if2 hm_128 dX11_readPolicy_32 (t := 73) rfl zc2_ge (fun hc => absurd hc (by decide)) (fun _ => ?_)
        refine zw_push hm_128 dX11_readPolicy_35 (v := .inr (.inr (some 64))) rfl ?_
        refine zw_cv hm_128 dX11_readPolicy_36 v_11_278_11 hm_129 [] [] rfl (zT_rt hS3 s_64 rfl) ⟨by omega, by omega⟩ rfl (zw_mono h (zi_go ?_ ?_))
        · intro v22 S21 hv
          obtain ⟨hS21, h⟩ := hv
          refine zw_stk hm_128 dX11_readPolicy_39 (st₉ := []) rfl rfl ?_
          refine zw_push hm_128 dX11_readPolicy_40 (v := .inr (.inr (some 64))) rfl ?_
          refine zw_gf hm_128 dX11_readPolicy_41 (v := .inr (.inr (some 66))) (zT_is hS21 s_64) (zT_t hS21 s_64) rfl f_11_13_11 (zT_f hS21 r_64_4) ?_
          refine zw_push hm_128 dX11_readPolicy_44 (v := .inl (0 : Int32)) rfl ?_
          refine zw_push hm_128 dX11_readPolicy_45 (v := .inr (.inr (some 64))) rfl ?_
          refine zw_push hm_128 dX11_readPolicy_46 (v := .inr (.inr (some 8))) rfl ?_
          refine zw_push hm_128 dX11_readPolicy_47 (v := .inl (0 : Int32)) rfl ?_
          refine zw_cv hm_128 dX11_readPolicy_48 v_11_293_17 hm_279 [.inl (0 : Int32)] [.inr (.inr (some 64)), .inl (0 : Int32), .inr (.inr (some 66))] rfl rfl ⟨by omega, by omega⟩ rfl (tx_char (v := (114 : Int32)) (by decide) (by omega) (by omega) (by decide) (by decide) (by decide) (by decide) ?_)
          show ma_wp X d w 128 51 [(3, .inl (0 : Int32)), (2, .inr (.inr (some 8))), (1, .inl v4), (0, .inr (.inr (some 64)))] [.inl (114 : Int32), .inr (.inr (some 64)), .inl (0 : Int32), .inr (.inr (some 66))] S21 _
          refine zw_cv hm_128 dX11_readPolicy_51 v_11_297_11 hm_133 [.inl (114 : Int32)] [.inl (0 : Int32), .inr (.inr (some 66))] rfl (zT_rt hS21 s_64 rfl) ⟨by omega, by omega⟩ rfl ?_
          show ma_wp X (d - 1) (w - 21) 133 0 [(0, .inr (.inr (some 64))), (1, .inl (114 : Int32))] [] S21 _
          refine zw_push hm_133 dX11_partToken_0 (v := .inl (114 : Int32)) rfl ?_
          refine zw_jmp hm_133 dX11_partToken_1 (t := 68) (st₉ := []) rfl rfl rfl (by decide +kernel) ?_
          refine zw_push hm_133 dX11_partToken_68 (v := .inr (.inr (some 64))) rfl ?_
          refine zw_push hm_133 dX11_partToken_69 (v := .inl (16 : Int32)) rfl ?_
          refine zw_push hm_133 dX11_partToken_71 (v := .inl (1500 : Int32)) rfl ?_
          refine zw_cv hm_133 dX11_partToken_74 v_11_331_11 hm_134 [.inl (1500 : Int32), .inl (16 : Int32)] [] rfl (zT_rt hS21 s_64 rfl) ⟨by omega, by omega⟩ rfl (zw_mono h (zi_go ?_ ?_))
          · intro v24 S23 hv
            obtain ⟨hS23, h⟩ := hv
            refine zw_iret hm_133 dX11_partToken_77 ?_
            show ma_wp X d w 128 54 [(3, .inl (0 : Int32)), (2, .inr (.inr (some 8))), (1, .inl v4), (0, .inr (.inr (some 64)))] [.inl v24, .inl (0 : Int32), .inr (.inr (some 66))] S23 _
            refine zw_ias hm_128 dX11_readPolicy_54 (zT_is hS23 s_66) (zT_h hS23 s_66) rfl ⟨by decide, by decide⟩ ?_
            refine zw_push hm_128 dX11_readPolicy_55 (v := .inr (.inr (some 64))) rfl ?_
            refine zw_gf hm_128 dX11_readPolicy_56 (v := .inr (.inr (some 66))) (zT_is (zT_pi hS23) s_64) (zT_t (zT_pi hS23) s_64) rfl f_11_13_11 (zT_f (zT_pi hS23) r_64_4) ?_
            refine zw_push hm_128 dX11_readPolicy_59 (v := .inl (0 : Int32)) rfl ?_
            refine zw_ia hm_128 dX11_readPolicy_60 (zT_is (zT_pi hS23) s_66) (zT_h (zT_pi hS23) s_66) rfl ⟨by decide, by decide⟩ ?_
            show ma_wp X d w 128 61 [(3, .inl (0 : Int32)), (2, .inr (.inr (some 8))), (1, .inl v4), (0, .inr (.inr (some 64)))] [.inl v24] (ma_put S23 66 0 (.inl v24)) _
            refine zw_push hm_128 dX11_readPolicy_61 (v := .inl (-1 : Int32)) rfl ?_
            refine zw_if2 hm_128 dX11_readPolicy_62 (t := 67) rfl zc2_ne ?_ ?_
            · intro hc
              rw [if_neg hc] at h
              refine zw_sto hm_128 dX11_readPolicy_67 [(3, .inl (1 : Int32)), (2, .inr (.inr (some 8))), (1, .inl v4), (0, .inr (.inr (some 64)))] rfl rfl rfl ?_
              refine zw_goto hm_128 dX11_readPolicy_70 (t := 22) rfl ?_
              refine zw_push hm_128 dX11_readPolicy_22 (v := .inl (1 : Int32)) rfl ?_
              refine zw_push hm_128 dX11_readPolicy_23 (v := .inr (.inr (some 8))) rfl ?_
              refine zw_cv hm_128 dX11_readPolicy_24 v_11_288_17 hm_277 [] [.inl (1 : Int32)] rfl rfl ⟨by omega, by omega⟩ rfl (tx_len (v := (1 : Int32)) (by decide) (by omega) (by omega) rfl rfl ?_)
              show ma_wp X d w 128 27 [(3, .inl (1 : Int32)), (2, .inr (.inr (some 8))), (1, .inl v4), (0, .inr (.inr (some 64)))] [.inl (1 : Int32), .inl (1 : Int32)] (ma_put S23 66 0 (.inl v24)) _
              refine zw_if2 hm_128 dX11_readPolicy_27 (t := 73) rfl zc2_ge (fun _ => ?_) (fun hc => absurd (by decide) hc)
              refine zw_push hm_128 dX11_readPolicy_73 (v := .inl v4) rfl ?_
              refine zw_push hm_128 dX11_readPolicy_74 (v := .inl (-1 : Int32)) rfl ?_
              refine zw_if2 hm_128 dX11_readPolicy_75 (t := 85) rfl zc2_eq ?_ ?_
              · intro hc
                rw [if_pos hc] at h
                refine zw_push hm_128 dX11_readPolicy_85 (v := .inl (-1 : Int32)) rfl ?_
                exact zw_iret hm_128 dX11_readPolicy_86 h
              · intro hc
                rw [if_neg hc] at h
                refine zw_push hm_128 dX11_readPolicy_78 (v := .inr (.inr (some 64))) rfl ?_
                refine zw_cv hm_128 dX11_readPolicy_79 v_11_278_11 hm_129 [] [] rfl (zT_rt (zT_pi hS23) s_64 rfl) ⟨by omega, by omega⟩ rfl (zw_mono h (zi_go ?_ ?_))
                · intro v26 S25 hv
                  obtain ⟨hS25, h⟩ := hv
                  refine zw_if0 hm_128 dX11_readPolicy_82 (t := 87) rfl zc0_eq ?_ ?_
                  · intro hc
                    rw [if_pos hc] at h
                    refine zw_push hm_128 dX11_readPolicy_87 (v := .inl v4) rfl ?_
                    exact zw_iret hm_128 dX11_readPolicy_88 h
                  · intro hc
                    rw [if_neg hc] at h
                    refine zw_push hm_128 dX11_readPolicy_85 (v := .inl (-1 : Int32)) rfl ?_
                    exact zw_iret hm_128 dX11_readPolicy_86 h
                · intro x S9 hx
                  exact ⟨by decide, hx⟩
            · intro hc
              rw [if_pos (Classical.not_not.mp hc)] at h
              refine zw_push hm_128 dX11_readPolicy_65 (v := .inl (-1 : Int32)) rfl ?_
              exact zw_iret hm_128 dX11_readPolicy_66 h
          · intro x S9 hx
            exact hx.elim
        · intro x S9 hx
          exact ⟨by decide, hx⟩
      rw [if_neg hc2] at h
      by_cases hc3 : v4 = (3 : Int32)
      · rw [if_pos hc3] at h
        refine zw_jmp hm_132 dX11_partsOf_1 (t := 56) (st₉ := []) rfl rfl rfl (ma_jmp_tab (by rw [hc3]; decide +kernel)) ?_
        refine zw_txc hm_132 dX11_partsOf_56 txi_11_323 ?_
        refine zw_aret hm_132 dX11_partsOf_59 ?_
        show ma_wp X d w 128 19 [(1, .inl v4), (0, .inr (.inr (some 64)))] [.inr (.inr (some 9))] S3 _
        refine zw_sto hm_128 dX11_readPolicy_19 [(2, .inr (.inr (some 9))), (1, .inl v4), (0, .inr (.inr (some 64)))] rfl rfl rfl ?_
        refine zw_push hm_128 dX11_readPolicy_20 (v := .inl (0 : Int32)) rfl ?_
        refine zw_sto hm_128 dX11_readPolicy_21 [(3, .inl (0 : Int32)), (2, .inr (.inr (some 9))), (1, .inl v4), (0, .inr (.inr (some 64)))] rfl rfl rfl ?_
        refine zw_push hm_128 dX11_readPolicy_22 (v := .inl (0 : Int32)) rfl ?_
        refine zw_push hm_128 dX11_readPolicy_23 (v := .inr (.inr (some 9))) rfl ?_
        refine zw_cv hm_128 dX11_readPolicy_24 v_11_288_17 hm_277 [] [.inl (0 : Int32)] rfl rfl ⟨by omega, by omega⟩ rfl (tx_len (v := (4 : Int32)) (by decide) (by omega) (by omega) rfl rfl ?_)
        show ma_wp X d w 128 27 [(3, .inl (0 : Int32)), (2, .inr (.inr (some 9))), (1, .inl v4), (0, .inr (.inr (some 64)))] [.inl (4 : Int32), .inl (0 : Int32)] S3 _
        refine zw_if2 hm_128 dX11_readPolicy_27 (t := 73) rfl zc2_ge (fun hc => absurd hc (by decide)) (fun _ => ?_)
        refine zw_push hm_128 dX11_readPolicy_30 (v := .inl (0 : Int32)) rfl ?_
        refine zw_push hm_128 dX11_readPolicy_31 (v := .inl (4 : Int32)) rfl ?_
        refine zw_if2 hm_128 dX11_readPolicy_32 (t := 73) rfl zc2_ge (fun hc => absurd hc (by decide)) (fun _ => ?_)
        refine zw_push hm_128 dX11_readPolicy_35 (v := .inr (.inr (some 64))) rfl ?_
        refine zw_cv hm_128 dX11_readPolicy_36 v_11_278_11 hm_129 [] [] rfl (zT_rt hS3 s_64 rfl) ⟨by omega, by omega⟩ rfl (zw_mono h (zi_go ?_ ?_))
        · intro v28 S27 hv
          obtain ⟨hS27, h⟩ := hv
          refine zw_stk hm_128 dX11_readPolicy_39 (st₉ := []) rfl rfl ?_
          refine zw_push hm_128 dX11_readPolicy_40 (v := .inr (.inr (some 64))) rfl ?_
          refine zw_gf hm_128 dX11_readPolicy_41 (v := .inr (.inr (some 66))) (zT_is hS27 s_64) (zT_t hS27 s_64) rfl f_11_13_11 (zT_f hS27 r_64_4) ?_
          refine zw_push hm_128 dX11_readPolicy_44 (v := .inl (0 : Int32)) rfl ?_
          refine zw_push hm_128 dX11_readPolicy_45 (v := .inr (.inr (some 64))) rfl ?_
          refine zw_push hm_128 dX11_readPolicy_46 (v := .inr (.inr (some 9))) rfl ?_
          refine zw_push hm_128 dX11_readPolicy_47 (v := .inl (0 : Int32)) rfl ?_
          refine zw_cv hm_128 dX11_readPolicy_48 v_11_293_17 hm_279 [.inl (0 : Int32)] [.inr (.inr (some 64)), .inl (0 : Int32), .inr (.inr (some 66))] rfl rfl ⟨by omega, by omega⟩ rfl (tx_char (v := (114 : Int32)) (by decide) (by omega) (by omega) (by decide) (by decide) (by decide) (by decide) ?_)
          show ma_wp X d w 128 51 [(3, .inl (0 : Int32)), (2, .inr (.inr (some 9))), (1, .inl v4), (0, .inr (.inr (some 64)))] [.inl (114 : Int32), .inr (.inr (some 64)), .inl (0 : Int32), .inr (.inr (some 66))] S27 _
          refine zw_cv hm_128 dX11_readPolicy_51 v_11_297_11 hm_133 [.inl (114 : Int32)] [.inl (0 : Int32), .inr (.inr (some 66))] rfl (zT_rt hS27 s_64 rfl) ⟨by omega, by omega⟩ rfl ?_
          show ma_wp X (d - 1) (w - 21) 133 0 [(0, .inr (.inr (some 64))), (1, .inl (114 : Int32))] [] S27 _
          refine zw_push hm_133 dX11_partToken_0 (v := .inl (114 : Int32)) rfl ?_
          refine zw_jmp hm_133 dX11_partToken_1 (t := 68) (st₉ := []) rfl rfl rfl (by decide +kernel) ?_
          refine zw_push hm_133 dX11_partToken_68 (v := .inr (.inr (some 64))) rfl ?_
          refine zw_push hm_133 dX11_partToken_69 (v := .inl (16 : Int32)) rfl ?_
          refine zw_push hm_133 dX11_partToken_71 (v := .inl (1500 : Int32)) rfl ?_
          refine zw_cv hm_133 dX11_partToken_74 v_11_331_11 hm_134 [.inl (1500 : Int32), .inl (16 : Int32)] [] rfl (zT_rt hS27 s_64 rfl) ⟨by omega, by omega⟩ rfl (zw_mono h (zi_go ?_ ?_))
          · intro v30 S29 hv
            obtain ⟨hS29, h⟩ := hv
            refine zw_iret hm_133 dX11_partToken_77 ?_
            show ma_wp X d w 128 54 [(3, .inl (0 : Int32)), (2, .inr (.inr (some 9))), (1, .inl v4), (0, .inr (.inr (some 64)))] [.inl v30, .inl (0 : Int32), .inr (.inr (some 66))] S29 _
            refine zw_ias hm_128 dX11_readPolicy_54 (zT_is hS29 s_66) (zT_h hS29 s_66) rfl ⟨by decide, by decide⟩ ?_
            refine zw_push hm_128 dX11_readPolicy_55 (v := .inr (.inr (some 64))) rfl ?_
            refine zw_gf hm_128 dX11_readPolicy_56 (v := .inr (.inr (some 66))) (zT_is (zT_pi hS29) s_64) (zT_t (zT_pi hS29) s_64) rfl f_11_13_11 (zT_f (zT_pi hS29) r_64_4) ?_
            refine zw_push hm_128 dX11_readPolicy_59 (v := .inl (0 : Int32)) rfl ?_
            refine zw_ia hm_128 dX11_readPolicy_60 (zT_is (zT_pi hS29) s_66) (zT_h (zT_pi hS29) s_66) rfl ⟨by decide, by decide⟩ ?_
            show ma_wp X d w 128 61 [(3, .inl (0 : Int32)), (2, .inr (.inr (some 9))), (1, .inl v4), (0, .inr (.inr (some 64)))] [.inl v30] (ma_put S29 66 0 (.inl v30)) _
            refine zw_push hm_128 dX11_readPolicy_61 (v := .inl (-1 : Int32)) rfl ?_
            refine zw_if2 hm_128 dX11_readPolicy_62 (t := 67) rfl zc2_ne ?_ ?_
            · intro hc
              rw [if_neg hc] at h
              refine zw_sto hm_128 dX11_readPolicy_67 [(3, .inl (1 : Int32)), (2, .inr (.inr (some 9))), (1, .inl v4), (0, .inr (.inr (some 64)))] rfl rfl rfl ?_
              refine zw_goto hm_128 dX11_readPolicy_70 (t := 22) rfl ?_
              refine zw_push hm_128 dX11_readPolicy_22 (v := .inl (1 : Int32)) rfl ?_
              refine zw_push hm_128 dX11_readPolicy_23 (v := .inr (.inr (some 9))) rfl ?_
              refine zw_cv hm_128 dX11_readPolicy_24 v_11_288_17 hm_277 [] [.inl (1 : Int32)] rfl rfl ⟨by omega, by omega⟩ rfl (tx_len (v := (4 : Int32)) (by decide) (by omega) (by omega) rfl rfl ?_)
              show ma_wp X d w 128 27 [(3, .inl (1 : Int32)), (2, .inr (.inr (some 9))), (1, .inl v4), (0, .inr (.inr (some 64)))] [.inl (4 : Int32), .inl (1 : Int32)] (ma_put S29 66 0 (.inl v30)) _
              refine zw_if2 hm_128 dX11_readPolicy_27 (t := 73) rfl zc2_ge (fun hc => absurd hc (by decide)) (fun _ => ?_)
              refine zw_push hm_128 dX11_readPolicy_30 (v := .inl (1 : Int32)) rfl ?_
              refine zw_push hm_128 dX11_readPolicy_31 (v := .inl (4 : Int32)) rfl ?_
              refine zw_if2 hm_128 dX11_readPolicy_32 (t := 73) rfl zc2_ge (fun hc => absurd hc (by decide)) (fun _ => ?_)
              refine zw_push hm_128 dX11_readPolicy_35 (v := .inr (.inr (some 64))) rfl ?_
              refine zw_cv hm_128 dX11_readPolicy_36 v_11_278_11 hm_129 [] [] rfl (zT_rt (zT_pi hS29) s_64 rfl) ⟨by omega, by omega⟩ rfl (zw_mono h (zi_go ?_ ?_))
              · intro v32 S31 hv
                obtain ⟨hS31, h⟩ := hv
                refine zw_stk hm_128 dX11_readPolicy_39 (st₉ := []) rfl rfl ?_
                refine zw_push hm_128 dX11_readPolicy_40 (v := .inr (.inr (some 64))) rfl ?_
                refine zw_gf hm_128 dX11_readPolicy_41 (v := .inr (.inr (some 66))) (zT_is hS31 s_64) (zT_t hS31 s_64) rfl f_11_13_11 (zT_f hS31 r_64_4) ?_
                refine zw_push hm_128 dX11_readPolicy_44 (v := .inl (1 : Int32)) rfl ?_
                refine zw_push hm_128 dX11_readPolicy_45 (v := .inr (.inr (some 64))) rfl ?_
                refine zw_push hm_128 dX11_readPolicy_46 (v := .inr (.inr (some 9))) rfl ?_
                refine zw_push hm_128 dX11_readPolicy_47 (v := .inl (1 : Int32)) rfl ?_
                refine zw_cv hm_128 dX11_readPolicy_48 v_11_293_17 hm_279 [.inl (1 : Int32)] [.inr (.inr (some 64)), .inl (1 : Int32), .inr (.inr (some 66))] rfl rfl ⟨by omega, by omega⟩ rfl (tx_char (v := (114 : Int32)) (by decide) (by omega) (by omega) (by decide) (by decide) (by decide) (by decide) ?_)
                show ma_wp X d w 128 51 [(3, .inl (1 : Int32)), (2, .inr (.inr (some 9))), (1, .inl v4), (0, .inr (.inr (some 64)))] [.inl (114 : Int32), .inr (.inr (some 64)), .inl (1 : Int32), .inr (.inr (some 66))] S31 _
                refine zw_cv hm_128 dX11_readPolicy_51 v_11_297_11 hm_133 [.inl (114 : Int32)] [.inl (1 : Int32), .inr (.inr (some 66))] rfl (zT_rt hS31 s_64 rfl) ⟨by omega, by omega⟩ rfl ?_
                show ma_wp X (d - 1) (w - 21) 133 0 [(0, .inr (.inr (some 64))), (1, .inl (114 : Int32))] [] S31 _
                refine zw_push hm_133 dX11_partToken_0 (v := .inl (114 : Int32)) rfl ?_
                refine zw_jmp hm_133 dX11_partToken_1 (t := 68) (st₉ := []) rfl rfl rfl (by decide +kernel) ?_
                refine zw_push hm_133 dX11_partToken_68 (v := .inr (.inr (some 64))) rfl ?_
                refine zw_push hm_133 dX11_partToken_69 (v := .inl (16 : Int32)) rfl ?_
                refine zw_push hm_133 dX11_partToken_71 (v := .inl (1500 : Int32)) rfl ?_
                refine zw_cv hm_133 dX11_partToken_74 v_11_331_11 hm_134 [.inl (1500 : Int32), .inl (16 : Int32)] [] rfl (zT_rt hS31 s_64 rfl) ⟨by omega, by omega⟩ rfl (zw_mono h (zi_go ?_ ?_))
                · intro v34 S33 hv
                  obtain ⟨hS33, h⟩ := hv
                  refine zw_iret hm_133 dX11_partToken_77 ?_
                  show ma_wp X d w 128 54 [(3, .inl (1 : Int32)), (2, .inr (.inr (some 9))), (1, .inl v4), (0, .inr (.inr (some 64)))] [.inl v34, .inl (1 : Int32), .inr (.inr (some 66))] S33 _
                  refine zw_ias hm_128 dX11_readPolicy_54 (zT_is hS33 s_66) (zT_h hS33 s_66) rfl ⟨by decide, by decide⟩ ?_
                  refine zw_push hm_128 dX11_readPolicy_55 (v := .inr (.inr (some 64))) rfl ?_
                  refine zw_gf hm_128 dX11_readPolicy_56 (v := .inr (.inr (some 66))) (zT_is (zT_pi hS33) s_64) (zT_t (zT_pi hS33) s_64) rfl f_11_13_11 (zT_f (zT_pi hS33) r_64_4) ?_
                  refine zw_push hm_128 dX11_readPolicy_59 (v := .inl (1 : Int32)) rfl ?_
                  refine zw_ia hm_128 dX11_readPolicy_60 (zT_is (zT_pi hS33) s_66) (zT_h (zT_pi hS33) s_66) rfl ⟨by decide, by decide⟩ ?_
                  show ma_wp X d w 128 61 [(3, .inl (1 : Int32)), (2, .inr (.inr (some 9))), (1, .inl v4), (0, .inr (.inr (some 64)))] [.inl v34] (ma_put S33 66 1 (.inl v34)) _
                  refine zw_push hm_128 dX11_readPolicy_61 (v := .inl (-1 : Int32)) rfl ?_
                  refine zw_if2 hm_128 dX11_readPolicy_62 (t := 67) rfl zc2_ne ?_ ?_
                  · intro hc
                    rw [if_neg hc] at h
                    refine zw_sto hm_128 dX11_readPolicy_67 [(3, .inl (2 : Int32)), (2, .inr (.inr (some 9))), (1, .inl v4), (0, .inr (.inr (some 64)))] rfl rfl rfl ?_
                    refine zw_goto hm_128 dX11_readPolicy_70 (t := 22) rfl ?_
                    refine zw_push hm_128 dX11_readPolicy_22 (v := .inl (2 : Int32)) rfl ?_
                    refine zw_push hm_128 dX11_readPolicy_23 (v := .inr (.inr (some 9))) rfl ?_
                    refine zw_cv hm_128 dX11_readPolicy_24 v_11_288_17 hm_277 [] [.inl (2 : Int32)] rfl rfl ⟨by omega, by omega⟩ rfl (tx_len (v := (4 : Int32)) (by decide) (by omega) (by omega) rfl rfl ?_)
                    show ma_wp X d w 128 27 [(3, .inl (2 : Int32)), (2, .inr (.inr (some 9))), (1, .inl v4), (0, .inr (.inr (some 64)))] [.inl (4 : Int32), .inl (2 : Int32)] (ma_put S33 66 1 (.inl v34)) _
                    refine zw_if2 hm_128 dX11_readPolicy_27 (t := 73) rfl zc2_ge (fun hc => absurd hc (by decide)) (fun _ => ?_)
                    refine zw_push hm_128 dX11_readPolicy_30 (v := .inl (2 : Int32)) rfl ?_
                    refine zw_push hm_128 dX11_readPolicy_31 (v := .inl (4 : Int32)) rfl ?_
                    refine zw_if2 hm_128 dX11_readPolicy_32 (t := 73) rfl zc2_ge (fun hc => absurd hc (by decide)) (fun _ => ?_)
                    refine zw_push hm_128 dX11_readPolicy_35 (v := .inr (.inr (some 64))) rfl ?_
                    refine zw_cv hm_128 dX11_readPolicy_36 v_11_278_11 hm_129 [] [] rfl (zT_rt (zT_pi hS33) s_64 rfl) ⟨by omega, by omega⟩ rfl (zw_mono h (zi_go ?_ ?_))
                    · intro v36 S35 hv
                      obtain ⟨hS35, h⟩ := hv
                      refine zw_stk hm_128 dX11_readPolicy_39 (st₉ := []) rfl rfl ?_
                      refine zw_push hm_128 dX11_readPolicy_40 (v := .inr (.inr (some 64))) rfl ?_
                      refine zw_gf hm_128 dX11_readPolicy_41 (v := .inr (.inr (some 66))) (zT_is hS35 s_64) (zT_t hS35 s_64) rfl f_11_13_11 (zT_f hS35 r_64_4) ?_
                      refine zw_push hm_128 dX11_readPolicy_44 (v := .inl (2 : Int32)) rfl ?_
                      refine zw_push hm_128 dX11_readPolicy_45 (v := .inr (.inr (some 64))) rfl ?_
                      refine zw_push hm_128 dX11_readPolicy_46 (v := .inr (.inr (some 9))) rfl ?_
                      refine zw_push hm_128 dX11_readPolicy_47 (v := .inl (2 : Int32)) rfl ?_
                      refine zw_cv hm_128 dX11_readPolicy_48 v_11_293_17 hm_279 [.inl (2 : Int32)] [.inr (.inr (some 64)), .inl (2 : Int32), .inr (.inr (some 66))] rfl rfl ⟨by omega, by omega⟩ rfl (tx_char (v := (97 : Int32)) (by decide) (by omega) (by omega) (by decide) (by decide) (by decide) (by decide) ?_)
                      show ma_wp X d w 128 51 [(3, .inl (2 : Int32)), (2, .inr (.inr (some 9))), (1, .inl v4), (0, .inr (.inr (some 64)))] [.inl (97 : Int32), .inr (.inr (some 64)), .inl (2 : Int32), .inr (.inr (some 66))] S35 _
                      refine zw_cv hm_128 dX11_readPolicy_51 v_11_297_11 hm_133 [.inl (97 : Int32)] [.inl (2 : Int32), .inr (.inr (some 66))] rfl (zT_rt hS35 s_64 rfl) ⟨by omega, by omega⟩ rfl ?_
                      show ma_wp X (d - 1) (w - 21) 133 0 [(0, .inr (.inr (some 64))), (1, .inl (97 : Int32))] [] S35 _
                      refine zw_push hm_133 dX11_partToken_0 (v := .inl (97 : Int32)) rfl ?_
                      refine zw_jmp hm_133 dX11_partToken_1 (t := 78) (st₉ := []) rfl rfl rfl (by decide +kernel) ?_
                      refine zw_push hm_133 dX11_partToken_78 (v := .inr (.inr (some 64))) rfl ?_
                      refine zw_push hm_133 dX11_partToken_79 (v := .inl (1 : Int32)) rfl ?_
                      refine zw_push hm_133 dX11_partToken_80 (v := .inl (7 : Int32)) rfl ?_
                      refine zw_cv hm_133 dX11_partToken_82 v_11_331_11 hm_134 [.inl (7 : Int32), .inl (1 : Int32)] [] rfl (zT_rt hS35 s_64 rfl) ⟨by omega, by omega⟩ rfl (zw_mono h (zi_go ?_ ?_))
                      · intro v38 S37 hv
                        obtain ⟨hS37, h⟩ := hv
                        refine zw_iret hm_133 dX11_partToken_85 ?_
                        show ma_wp X d w 128 54 [(3, .inl (2 : Int32)), (2, .inr (.inr (some 9))), (1, .inl v4), (0, .inr (.inr (some 64)))] [.inl v38, .inl (2 : Int32), .inr (.inr (some 66))] S37 _
                        refine zw_ias hm_128 dX11_readPolicy_54 (zT_is hS37 s_66) (zT_h hS37 s_66) rfl ⟨by decide, by decide⟩ ?_
                        refine zw_push hm_128 dX11_readPolicy_55 (v := .inr (.inr (some 64))) rfl ?_
                        refine zw_gf hm_128 dX11_readPolicy_56 (v := .inr (.inr (some 66))) (zT_is (zT_pi hS37) s_64) (zT_t (zT_pi hS37) s_64) rfl f_11_13_11 (zT_f (zT_pi hS37) r_64_4) ?_
                        refine zw_push hm_128 dX11_readPolicy_59 (v := .inl (2 : Int32)) rfl ?_
                        refine zw_ia hm_128 dX11_readPolicy_60 (zT_is (zT_pi hS37) s_66) (zT_h (zT_pi hS37) s_66) rfl ⟨by decide, by decide⟩ ?_
                        show ma_wp X d w 128 61 [(3, .inl (2 : Int32)), (2, .inr (.inr (some 9))), (1, .inl v4), (0, .inr (.inr (some 64)))] [.inl v38] (ma_put S37 66 2 (.inl v38)) _
                        refine zw_push hm_128 dX11_readPolicy_61 (v := .inl (-1 : Int32)) rfl ?_
                        refine zw_if2 hm_128 dX11_readPolicy_62 (t := 67) rfl zc2_ne ?_ ?_
                        · intro hc
                          rw [if_neg hc] at h
                          refine zw_sto hm_128 dX11_readPolicy_67 [(3, .inl (3 : Int32)), (2, .inr (.inr (some 9))), (1, .inl v4), (0, .inr (.inr (some 64)))] rfl rfl rfl ?_
                          refine zw_goto hm_128 dX11_readPolicy_70 (t := 22) rfl ?_
                          refine zw_push hm_128 dX11_readPolicy_22 (v := .inl (3 : Int32)) rfl ?_
                          refine zw_push hm_128 dX11_readPolicy_23 (v := .inr (.inr (some 9))) rfl ?_
                          refine zw_cv hm_128 dX11_readPolicy_24 v_11_288_17 hm_277 [] [.inl (3 : Int32)] rfl rfl ⟨by omega, by omega⟩ rfl (tx_len (v := (4 : Int32)) (by decide) (by omega) (by omega) rfl rfl ?_)
                          show ma_wp X d w 128 27 [(3, .inl (3 : Int32)), (2, .inr (.inr (some 9))), (1, .inl v4), (0, .inr (.inr (some 64)))] [.inl (4 : Int32), .inl (3 : Int32)] (ma_put S37 66 2 (.inl v38)) _
                          refine zw_if2 hm_128 dX11_readPolicy_27 (t := 73) rfl zc2_ge (fun hc => absurd hc (by decide)) (fun _ => ?_)
                          refine zw_push hm_128 dX11_readPolicy_30 (v := .inl (3 : Int32)) rfl ?_
                          refine zw_push hm_128 dX11_readPolicy_31 (v := .inl (4 : Int32)) rfl ?_
                          refine zw_if2 hm_128 dX11_readPolicy_32 (t := 73) rfl zc2_ge (fun hc => absurd hc (by decide)) (fun _ => ?_)
                          refine zw_push hm_128 dX11_readPolicy_35 (v := .inr (.inr (some 64))) rfl ?_
                          refine zw_cv hm_128 dX11_readPolicy_36 v_11_278_11 hm_129 [] [] rfl (zT_rt (zT_pi hS37) s_64 rfl) ⟨by omega, by omega⟩ rfl (zw_mono h (zi_go ?_ ?_))
                          · intro v40 S39 hv
                            obtain ⟨hS39, h⟩ := hv
                            refine zw_stk hm_128 dX11_readPolicy_39 (st₉ := []) rfl rfl ?_
                            refine zw_push hm_128 dX11_readPolicy_40 (v := .inr (.inr (some 64))) rfl ?_
                            refine zw_gf hm_128 dX11_readPolicy_41 (v := .inr (.inr (some 66))) (zT_is hS39 s_64) (zT_t hS39 s_64) rfl f_11_13_11 (zT_f hS39 r_64_4) ?_
                            refine zw_push hm_128 dX11_readPolicy_44 (v := .inl (3 : Int32)) rfl ?_
                            refine zw_push hm_128 dX11_readPolicy_45 (v := .inr (.inr (some 64))) rfl ?_
                            refine zw_push hm_128 dX11_readPolicy_46 (v := .inr (.inr (some 9))) rfl ?_
                            refine zw_push hm_128 dX11_readPolicy_47 (v := .inl (3 : Int32)) rfl ?_
                            refine zw_cv hm_128 dX11_readPolicy_48 v_11_293_17 hm_279 [.inl (3 : Int32)] [.inr (.inr (some 64)), .inl (3 : Int32), .inr (.inr (some 66))] rfl rfl ⟨by omega, by omega⟩ rfl (tx_char (v := (99 : Int32)) (by decide) (by omega) (by omega) (by decide) (by decide) (by decide) (by decide) ?_)
                            show ma_wp X d w 128 51 [(3, .inl (3 : Int32)), (2, .inr (.inr (some 9))), (1, .inl v4), (0, .inr (.inr (some 64)))] [.inl (99 : Int32), .inr (.inr (some 64)), .inl (3 : Int32), .inr (.inr (some 66))] S39 _
                            refine zw_cv hm_128 dX11_readPolicy_51 v_11_297_11 hm_133 [.inl (99 : Int32)] [.inl (3 : Int32), .inr (.inr (some 66))] rfl (zT_rt hS39 s_64 rfl) ⟨by omega, by omega⟩ rfl ?_
                            show ma_wp X (d - 1) (w - 21) 133 0 [(0, .inr (.inr (some 64))), (1, .inl (99 : Int32))] [] S39 _
                            refine zw_push hm_133 dX11_partToken_0 (v := .inl (99 : Int32)) rfl ?_
                            refine zw_jmp hm_133 dX11_partToken_1 (t := 86) (st₉ := []) rfl rfl rfl (by decide +kernel) ?_
                            refine zw_push hm_133 dX11_partToken_86 (v := .inr (.inr (some 64))) rfl ?_
                            refine zw_push hm_133 dX11_partToken_87 (v := .inl (4 : Int32)) rfl ?_
                            refine zw_push hm_133 dX11_partToken_88 (v := .inl (64 : Int32)) rfl ?_
                            refine zw_cv hm_133 dX11_partToken_90 v_11_331_11 hm_134 [.inl (64 : Int32), .inl (4 : Int32)] [] rfl (zT_rt hS39 s_64 rfl) ⟨by omega, by omega⟩ rfl (zw_mono h (zi_go ?_ ?_))
                            · intro v42 S41 hv
                              obtain ⟨hS41, h⟩ := hv
                              refine zw_iret hm_133 dX11_partToken_93 ?_
                              show ma_wp X d w 128 54 [(3, .inl (3 : Int32)), (2, .inr (.inr (some 9))), (1, .inl v4), (0, .inr (.inr (some 64)))] [.inl v42, .inl (3 : Int32), .inr (.inr (some 66))] S41 _
                              refine zw_ias hm_128 dX11_readPolicy_54 (zT_is hS41 s_66) (zT_h hS41 s_66) rfl ⟨by decide, by decide⟩ ?_
                              refine zw_push hm_128 dX11_readPolicy_55 (v := .inr (.inr (some 64))) rfl ?_
                              refine zw_gf hm_128 dX11_readPolicy_56 (v := .inr (.inr (some 66))) (zT_is (zT_pi hS41) s_64) (zT_t (zT_pi hS41) s_64) rfl f_11_13_11 (zT_f (zT_pi hS41) r_64_4) ?_
                              refine zw_push hm_128 dX11_readPolicy_59 (v := .inl (3 : Int32)) rfl ?_
                              refine zw_ia hm_128 dX11_readPolicy_60 (zT_is (zT_pi hS41) s_66) (zT_h (zT_pi hS41) s_66) rfl ⟨by decide, by decide⟩ ?_
                              show ma_wp X d w 128 61 [(3, .inl (3 : Int32)), (2, .inr (.inr (some 9))), (1, .inl v4), (0, .inr (.inr (some 64)))] [.inl v42] (ma_put S41 66 3 (.inl v42)) _
                              refine zw_push hm_128 dX11_readPolicy_61 (v := .inl (-1 : Int32)) rfl ?_
                              refine zw_if2 hm_128 dX11_readPolicy_62 (t := 67) rfl zc2_ne ?_ ?_
                              · intro hc
                                rw [if_neg hc] at h
                                refine zw_sto hm_128 dX11_readPolicy_67 [(3, .inl (4 : Int32)), (2, .inr (.inr (some 9))), (1, .inl v4), (0, .inr (.inr (some 64)))] rfl rfl rfl ?_
                                refine zw_goto hm_128 dX11_readPolicy_70 (t := 22) rfl ?_
                                refine zw_push hm_128 dX11_readPolicy_22 (v := .inl (4 : Int32)) rfl ?_
                                refine zw_push hm_128 dX11_readPolicy_23 (v := .inr (.inr (some 9))) rfl ?_
                                refine zw_cv hm_128 dX11_readPolicy_24 v_11_288_17 hm_277 [] [.inl (4 : Int32)] rfl rfl ⟨by omega, by omega⟩ rfl (tx_len (v := (4 : Int32)) (by decide) (by omega) (by omega) rfl rfl ?_)
                                show ma_wp X d w 128 27 [(3, .inl (4 : Int32)), (2, .inr (.inr (some 9))), (1, .inl v4), (0, .inr (.inr (some 64)))] [.inl (4 : Int32), .inl (4 : Int32)] (ma_put S41 66 3 (.inl v42)) _
                                refine zw_if2 hm_128 dX11_readPolicy_27 (t := 73) rfl zc2_ge (fun _ => ?_) (fun hc => absurd (by decide) hc)
                                refine zw_push hm_128 dX11_readPolicy_73 (v := .inl v4) rfl ?_
                                refine zw_push hm_128 dX11_readPolicy_74 (v := .inl (-1 : Int32)) rfl ?_
                                refine zw_if2 hm_128 dX11_readPolicy_75 (t := 85) rfl zc2_eq ?_ ?_
                                · intro hc
                                  rw [if_pos hc] at h
                                  refine zw_push hm_128 dX11_readPolicy_85 (v := .inl (-1 : Int32)) rfl ?_
                                  exact zw_iret hm_128 dX11_readPolicy_86 h
                                · intro hc
                                  rw [if_neg hc] at h
                                  refine zw_push hm_128 dX11_readPolicy_78 (v := .inr (.inr (some 64))) rfl ?_
                                  refine zw_cv hm_128 dX11_readPolicy_79 v_11_278_11 hm_129 [] [] rfl (zT_rt (zT_pi hS41) s_64 rfl) ⟨by omega, by omega⟩ rfl (zw_mono h (zi_go ?_ ?_))
                                  · intro v44 S43 hv
                                    obtain ⟨hS43, h⟩ := hv
                                    refine zw_if0 hm_128 dX11_readPolicy_82 (t := 87) rfl zc0_eq ?_ ?_
                                    · intro hc
                                      rw [if_pos hc] at h
                                      refine zw_push hm_128 dX11_readPolicy_87 (v := .inl v4) rfl ?_
                                      exact zw_iret hm_128 dX11_readPolicy_88 h
                                    · intro hc
                                      rw [if_neg hc] at h
                                      refine zw_push hm_128 dX11_readPolicy_85 (v := .inl (-1 : Int32)) rfl ?_
                                      exact zw_iret hm_128 dX11_readPolicy_86 h
                                  · intro x S9 hx
                                    exact ⟨by decide, hx⟩
                              · intro hc
                                rw [if_pos (Classical.not_not.mp hc)] at h
                                refine zw_push hm_128 dX11_readPolicy_65 (v := .inl (-1 : Int32)) rfl ?_
                                exact zw_iret hm_128 dX11_readPolicy_66 h
                            · intro x S9 hx
                              exact hx.elim
                          · intro x S9 hx
                            exact ⟨by decide, hx⟩
                        · intro hc
                          rw [if_pos (Classical.not_not.mp hc)] at h
                          refine zw_push hm_128 dX11_readPolicy_65 (v := .inl (-1 : Int32)) rfl ?_
                          exact zw_iret hm_128 dX11_readPolicy_66 h
                      · intro x S9 hx
                        exact hx.elim
                    · intro x S9 hx
                      exact ⟨by decide, hx⟩
                  · intro hc
                    rw [if_pos (Classical.not_not.mp hc)] at h
                    refine zw_push hm_128 dX11_readPolicy_65 (v := .inl (-1 : Int32)) rfl ?_
                    exact zw_iret hm_128 dX11_readPolicy_66 h
                · intro x S9 hx
                  exact hx.elim
              · intro x S9 hx
                exact ⟨by decide, hx⟩
            · intro hc
              rw [if_pos (Classical.not_not.mp hc)] at h
              refine zw_push hm_128 dX11_readPolicy_65 (v := .inl (-1 : Int32)) rfl ?_
              exact zw_iret hm_128 dX11_readPolicy_66 h
          · intro x S9 hx
            exact hx.elim
        · intro x S9 hx
          exact ⟨by decide, hx⟩
      rw [if_neg hc3] at h
      by_cases hc4 : v4 = (4 : Int32)
      · rw [if_pos hc4] at h
        refine zw_jmp hm_132 dX11_partsOf_1 (t := 60) (st₉ := []) rfl rfl rfl (ma_jmp_tab (by rw [hc4]; decide +kernel)) ?_
        refine zw_txc hm_132 dX11_partsOf_60 txi_11_319 ?_
        refine zw_aret hm_132 dX11_partsOf_63 ?_
        show ma_wp X d w 128 19 [(1, .inl v4), (0, .inr (.inr (some 64)))] [.inr (.inr (some 7))] S3 _
        refine zw_sto hm_128 dX11_readPolicy_19 [(2, .inr (.inr (some 7))), (1, .inl v4), (0, .inr (.inr (some 64)))] rfl rfl rfl ?_
        refine zw_push hm_128 dX11_readPolicy_20 (v := .inl (0 : Int32)) rfl ?_
        refine zw_sto hm_128 dX11_readPolicy_21 [(3, .inl (0 : Int32)), (2, .inr (.inr (some 7))), (1, .inl v4), (0, .inr (.inr (some 64)))] rfl rfl rfl ?_
        refine zw_push hm_128 dX11_readPolicy_22 (v := .inl (0 : Int32)) rfl ?_
        refine zw_push hm_128 dX11_readPolicy_23 (v := .inr (.inr (some 7))) rfl ?_
        refine zw_cv hm_128 dX11_readPolicy_24 v_11_288_17 hm_277 [] [.inl (0 : Int32)] rfl rfl ⟨by omega, by omega⟩ rfl (tx_len (v := (2 : Int32)) (by decide) (by omega) (by omega) rfl rfl ?_)
        show ma_wp X d w 128 27 [(3, .inl (0 : Int32)), (2, .inr (.inr (some 7))), (1, .inl v4), (0, .inr (.inr (some 64)))] [.inl (2 : Int32), .inl (0 : Int32)] S3 _
        refine zw_if2 hm_128 dX11_readPolicy_27 (t := 73) rfl zc2_ge (fun hc => absurd hc (by decide)) (fun _ => ?_)
        refine zw_push hm_128 dX11_readPolicy_30 (v := .inl (0 : Int32)) rfl ?_
        refine zw_push hm_128 dX11_readPolicy_31 (v := .inl (4 : Int32)) rfl ?_
        refine zw_if2 hm_128 dX11_readPolicy_32 (t := 73) rfl zc2_ge (fun hc => absurd hc (by decide)) (fun _ => ?_)
        refine zw_push hm_128 dX11_readPolicy_35 (v := .inr (.inr (some 64))) rfl ?_
        refine zw_cv hm_128 dX11_readPolicy_36 v_11_278_11 hm_129 [] [] rfl (zT_rt hS3 s_64 rfl) ⟨by omega, by omega⟩ rfl (zw_mono h (zi_go ?_ ?_))
        · intro v46 S45 hv
          obtain ⟨hS45, h⟩ := hv
          refine zw_stk hm_128 dX11_readPolicy_39 (st₉ := []) rfl rfl ?_
          refine zw_push hm_128 dX11_readPolicy_40 (v := .inr (.inr (some 64))) rfl ?_
          refine zw_gf hm_128 dX11_readPolicy_41 (v := .inr (.inr (some 66))) (zT_is hS45 s_64) (zT_t hS45 s_64) rfl f_11_13_11 (zT_f hS45 r_64_4) ?_
          refine zw_push hm_128 dX11_readPolicy_44 (v := .inl (0 : Int32)) rfl ?_
          refine zw_push hm_128 dX11_readPolicy_45 (v := .inr (.inr (some 64))) rfl ?_
          refine zw_push hm_128 dX11_readPolicy_46 (v := .inr (.inr (some 7))) rfl ?_
          refine zw_push hm_128 dX11_readPolicy_47 (v := .inl (0 : Int32)) rfl ?_
          refine zw_cv hm_128 dX11_readPolicy_48 v_11_293_17 hm_279 [.inl (0 : Int32)] [.inr (.inr (some 64)), .inl (0 : Int32), .inr (.inr (some 66))] rfl rfl ⟨by omega, by omega⟩ rfl (tx_char (v := (114 : Int32)) (by decide) (by omega) (by omega) (by decide) (by decide) (by decide) (by decide) ?_)
          show ma_wp X d w 128 51 [(3, .inl (0 : Int32)), (2, .inr (.inr (some 7))), (1, .inl v4), (0, .inr (.inr (some 64)))] [.inl (114 : Int32), .inr (.inr (some 64)), .inl (0 : Int32), .inr (.inr (some 66))] S45 _
          refine zw_cv hm_128 dX11_readPolicy_51 v_11_297_11 hm_133 [.inl (114 : Int32)] [.inl (0 : Int32), .inr (.inr (some 66))] rfl (zT_rt hS45 s_64 rfl) ⟨by omega, by omega⟩ rfl ?_
          show ma_wp X (d - 1) (w - 21) 133 0 [(0, .inr (.inr (some 64))), (1, .inl (114 : Int32))] [] S45 _
          refine zw_push hm_133 dX11_partToken_0 (v := .inl (114 : Int32)) rfl ?_
          refine zw_jmp hm_133 dX11_partToken_1 (t := 68) (st₉ := []) rfl rfl rfl (by decide +kernel) ?_
          refine zw_push hm_133 dX11_partToken_68 (v := .inr (.inr (some 64))) rfl ?_
          refine zw_push hm_133 dX11_partToken_69 (v := .inl (16 : Int32)) rfl ?_
          refine zw_push hm_133 dX11_partToken_71 (v := .inl (1500 : Int32)) rfl ?_
          refine zw_cv hm_133 dX11_partToken_74 v_11_331_11 hm_134 [.inl (1500 : Int32), .inl (16 : Int32)] [] rfl (zT_rt hS45 s_64 rfl) ⟨by omega, by omega⟩ rfl (zw_mono h (zi_go ?_ ?_))
          · intro v48 S47 hv
            obtain ⟨hS47, h⟩ := hv
            refine zw_iret hm_133 dX11_partToken_77 ?_
            show ma_wp X d w 128 54 [(3, .inl (0 : Int32)), (2, .inr (.inr (some 7))), (1, .inl v4), (0, .inr (.inr (some 64)))] [.inl v48, .inl (0 : Int32), .inr (.inr (some 66))] S47 _
            refine zw_ias hm_128 dX11_readPolicy_54 (zT_is hS47 s_66) (zT_h hS47 s_66) rfl ⟨by decide, by decide⟩ ?_
            refine zw_push hm_128 dX11_readPolicy_55 (v := .inr (.inr (some 64))) rfl ?_
            refine zw_gf hm_128 dX11_readPolicy_56 (v := .inr (.inr (some 66))) (zT_is (zT_pi hS47) s_64) (zT_t (zT_pi hS47) s_64) rfl f_11_13_11 (zT_f (zT_pi hS47) r_64_4) ?_
            refine zw_push hm_128 dX11_readPolicy_59 (v := .inl (0 : Int32)) rfl ?_
            refine zw_ia hm_128 dX11_readPolicy_60 (zT_is (zT_pi hS47) s_66) (zT_h (zT_pi hS47) s_66) rfl ⟨by decide, by decide⟩ ?_
            show ma_wp X d w 128 61 [(3, .inl (0 : Int32)), (2, .inr (.inr (some 7))), (1, .inl v4), (0, .inr (.inr (some 64)))] [.inl v48] (ma_put S47 66 0 (.inl v48)) _
            refine zw_push hm_128 dX11_readPolicy_61 (v := .inl (-1 : Int32)) rfl ?_
            refine zw_if2 hm_128 dX11_readPolicy_62 (t := 67) rfl zc2_ne ?_ ?_
            · intro hc
              rw [if_neg hc] at h
              refine zw_sto hm_128 dX11_readPolicy_67 [(3, .inl (1 : Int32)), (2, .inr (.inr (some 7))), (1, .inl v4), (0, .inr (.inr (some 64)))] rfl rfl rfl ?_
              refine zw_goto hm_128 dX11_readPolicy_70 (t := 22) rfl ?_
              refine zw_push hm_128 dX11_readPolicy_22 (v := .inl (1 : Int32)) rfl ?_
              refine zw_push hm_128 dX11_readPolicy_23 (v := .inr (.inr (some 7))) rfl ?_
              refine zw_cv hm_128 dX11_readPolicy_24 v_11_288_17 hm_277 [] [.inl (1 : Int32)] rfl rfl ⟨by omega, by omega⟩ rfl (tx_len (v := (2 : Int32)) (by decide) (by omega) (by omega) rfl rfl ?_)
              show ma_wp X d w 128 27 [(3, .inl (1 : Int32)), (2, .inr (.inr (some 7))), (1, .inl v4), (0, .inr (.inr (some 64)))] [.inl (2 : Int32), .inl (1 : Int32)] (ma_put S47 66 0 (.inl v48)) _
              refine zw_if2 hm_128 dX11_readPolicy_27 (t := 73) rfl zc2_ge (fun hc => absurd hc (by decide)) (fun _ => ?_)
              refine zw_push hm_128 dX11_readPolicy_30 (v := .inl (1 : Int32)) rfl ?_
              refine zw_push hm_128 dX11_readPolicy_31 (v := .inl (4 : Int32)) rfl ?_
              refine zw_if2 hm_128 dX11_readPolicy_32 (t := 73) rfl zc2_ge (fun hc => absurd hc (by decide)) (fun _ => ?_)
              refine zw_push hm_128 dX11_readPolicy_35 (v := .inr (.inr (some 64))) rfl ?_
              refine zw_cv hm_128 dX11_readPolicy_36 v_11_278_11 hm_129 [] [] rfl (zT_rt (zT_pi hS47) s_64 rfl) ⟨by omega, by omega⟩ rfl (zw_mono h (zi_go ?_ ?_))
              · intro v50 S49 hv
                obtain ⟨hS49, h⟩ := hv
                refine zw_stk hm_128 dX11_readPolicy_39 (st₉ := []) rfl rfl ?_
                refine zw_push hm_128 dX11_readPolicy_40 (v := .inr (.inr (some 64))) rfl ?_
                refine zw_gf hm_128 dX11_readPolicy_41 (v := .inr (.inr (some 66))) (zT_is hS49 s_64) (zT_t hS49 s_64) rfl f_11_13_11 (zT_f hS49 r_64_4) ?_
                refine zw_push hm_128 dX11_readPolicy_44 (v := .inl (1 : Int32)) rfl ?_
                refine zw_push hm_128 dX11_readPolicy_45 (v := .inr (.inr (some 64))) rfl ?_
                refine zw_push hm_128 dX11_readPolicy_46 (v := .inr (.inr (some 7))) rfl ?_
                refine zw_push hm_128 dX11_readPolicy_47 (v := .inl (1 : Int32)) rfl ?_
                refine zw_cv hm_128 dX11_readPolicy_48 v_11_293_17 hm_279 [.inl (1 : Int32)] [.inr (.inr (some 64)), .inl (1 : Int32), .inr (.inr (some 66))] rfl rfl ⟨by omega, by omega⟩ rfl (tx_char (v := (102 : Int32)) (by decide) (by omega) (by omega) (by decide) (by decide) (by decide) (by decide) ?_)
                show ma_wp X d w 128 51 [(3, .inl (1 : Int32)), (2, .inr (.inr (some 7))), (1, .inl v4), (0, .inr (.inr (some 64)))] [.inl (102 : Int32), .inr (.inr (some 64)), .inl (1 : Int32), .inr (.inr (some 66))] S49 _
                refine zw_cv hm_128 dX11_readPolicy_51 v_11_297_11 hm_133 [.inl (102 : Int32)] [.inl (1 : Int32), .inr (.inr (some 66))] rfl (zT_rt hS49 s_64 rfl) ⟨by omega, by omega⟩ rfl ?_
                show ma_wp X (d - 1) (w - 21) 133 0 [(0, .inr (.inr (some 64))), (1, .inl (102 : Int32))] [] S49 _
                refine zw_push hm_133 dX11_partToken_0 (v := .inl (102 : Int32)) rfl ?_
                refine zw_jmp hm_133 dX11_partToken_1 (t := 131) (st₉ := []) rfl rfl rfl (by decide +kernel) ?_
                refine zw_push hm_133 dX11_partToken_131 (v := .inr (.inr (some 64))) rfl ?_
                refine zw_cv hm_133 dX11_partToken_132 v_11_340_11 hm_135 [] [] rfl (zT_rt hS49 s_64 rfl) ⟨by omega, by omega⟩ rfl (zw_mono h (zi_go ?_ ?_))
                · intro v52 S51 hv
                  obtain ⟨hS51, h⟩ := hv
                  refine zw_iret hm_133 dX11_partToken_135 ?_
                  show ma_wp X d w 128 54 [(3, .inl (1 : Int32)), (2, .inr (.inr (some 7))), (1, .inl v4), (0, .inr (.inr (some 64)))] [.inl v52, .inl (1 : Int32), .inr (.inr (some 66))] S51 _
                  refine zw_ias hm_128 dX11_readPolicy_54 (zT_is hS51 s_66) (zT_h hS51 s_66) rfl ⟨by decide, by decide⟩ ?_
                  refine zw_push hm_128 dX11_readPolicy_55 (v := .inr (.inr (some 64))) rfl ?_
                  refine zw_gf hm_128 dX11_readPolicy_56 (v := .inr (.inr (some 66))) (zT_is (zT_pi hS51) s_64) (zT_t (zT_pi hS51) s_64) rfl f_11_13_11 (zT_f (zT_pi hS51) r_64_4) ?_
                  refine zw_push hm_128 dX11_readPolicy_59 (v := .inl (1 : Int32)) rfl ?_
                  refine zw_ia hm_128 dX11_readPolicy_60 (zT_is (zT_pi hS51) s_66) (zT_h (zT_pi hS51) s_66) rfl ⟨by decide, by decide⟩ ?_
                  show ma_wp X d w 128 61 [(3, .inl (1 : Int32)), (2, .inr (.inr (some 7))), (1, .inl v4), (0, .inr (.inr (some 64)))] [.inl v52] (ma_put S51 66 1 (.inl v52)) _
                  refine zw_push hm_128 dX11_readPolicy_61 (v := .inl (-1 : Int32)) rfl ?_
                  refine zw_if2 hm_128 dX11_readPolicy_62 (t := 67) rfl zc2_ne ?_ ?_
                  · intro hc
                    rw [if_neg hc] at h
                    refine zw_sto hm_128 dX11_readPolicy_67 [(3, .inl (2 : Int32)), (2, .inr (.inr (some 7))), (1, .inl v4), (0, .inr (.inr (some 64)))] rfl rfl rfl ?_
                    refine zw_goto hm_128 dX11_readPolicy_70 (t := 22) rfl ?_
                    refine zw_push hm_128 dX11_readPolicy_22 (v := .inl (2 : Int32)) rfl ?_
                    refine zw_push hm_128 dX11_readPolicy_23 (v := .inr (.inr (some 7))) rfl ?_
                    refine zw_cv hm_128 dX11_readPolicy_24 v_11_288_17 hm_277 [] [.inl (2 : Int32)] rfl rfl ⟨by omega, by omega⟩ rfl (tx_len (v := (2 : Int32)) (by decide) (by omega) (by omega) rfl rfl ?_)
                    show ma_wp X d w 128 27 [(3, .inl (2 : Int32)), (2, .inr (.inr (some 7))), (1, .inl v4), (0, .inr (.inr (some 64)))] [.inl (2 : Int32), .inl (2 : Int32)] (ma_put S51 66 1 (.inl v52)) _
                    refine zw_if2 hm_128 dX11_readPolicy_27 (t := 73) rfl zc2_ge (fun _ => ?_) (fun hc => absurd (by decide) hc)
                    refine zw_push hm_128 dX11_readPolicy_73 (v := .inl v4) rfl ?_
                    refine zw_push hm_128 dX11_readPolicy_74 (v := .inl (-1 : Int32)) rfl ?_
                    refine zw_if2 hm_128 dX11_readPolicy_75 (t := 85) rfl zc2_eq ?_ ?_
                    · intro hc
                      rw [if_pos hc] at h
                      refine zw_push hm_128 dX11_readPolicy_85 (v := .inl (-1 : Int32)) rfl ?_
                      exact zw_iret hm_128 dX11_readPolicy_86 h
                    · intro hc
                      rw [if_neg hc] at h
                      refine zw_push hm_128 dX11_readPolicy_78 (v := .inr (.inr (some 64))) rfl ?_
                      refine zw_cv hm_128 dX11_readPolicy_79 v_11_278_11 hm_129 [] [] rfl (zT_rt (zT_pi hS51) s_64 rfl) ⟨by omega, by omega⟩ rfl (zw_mono h (zi_go ?_ ?_))
                      · intro v54 S53 hv
                        obtain ⟨hS53, h⟩ := hv
                        refine zw_if0 hm_128 dX11_readPolicy_82 (t := 87) rfl zc0_eq ?_ ?_
                        · intro hc
                          rw [if_pos hc] at h
                          refine zw_push hm_128 dX11_readPolicy_87 (v := .inl v4) rfl ?_
                          exact zw_iret hm_128 dX11_readPolicy_88 h
                        · intro hc
                          rw [if_neg hc] at h
                          refine zw_push hm_128 dX11_readPolicy_85 (v := .inl (-1 : Int32)) rfl ?_
                          exact zw_iret hm_128 dX11_readPolicy_86 h
                      · intro x S9 hx
                        exact ⟨by decide, hx⟩
                  · intro hc
                    rw [if_pos (Classical.not_not.mp hc)] at h
                    refine zw_push hm_128 dX11_readPolicy_65 (v := .inl (-1 : Int32)) rfl ?_
                    exact zw_iret hm_128 dX11_readPolicy_66 h
                · intro x S9 hx
                  exact hx.elim
              · intro x S9 hx
                exact ⟨by decide, hx⟩
            · intro hc
              rw [if_pos (Classical.not_not.mp hc)] at h
              refine zw_push hm_128 dX11_readPolicy_65 (v := .inl (-1 : Int32)) rfl ?_
              exact zw_iret hm_128 dX11_readPolicy_66 h
          · intro x S9 hx
            exact hx.elim
        · intro x S9 hx
          exact ⟨by decide, hx⟩
      rw [if_neg hc4] at h
      by_cases hc5 : v4 = (5 : Int32)
      · rw [if_pos hc5] at h
        refine zw_jmp hm_132 dX11_partsOf_1 (t := 64) (st₉ := []) rfl rfl rfl (ma_jmp_tab (by rw [hc5]; decide +kernel)) ?_
        refine zw_txc hm_132 dX11_partsOf_64 txi_11_325 ?_
        refine zw_aret hm_132 dX11_partsOf_67 ?_
        show ma_wp X d w 128 19 [(1, .inl v4), (0, .inr (.inr (some 64)))] [.inr (.inr (some 10))] S3 _
        refine zw_sto hm_128 dX11_readPolicy_19 [(2, .inr (.inr (some 10))), (1, .inl v4), (0, .inr (.inr (some 64)))] rfl rfl rfl ?_
        refine zw_push hm_128 dX11_readPolicy_20 (v := .inl (0 : Int32)) rfl ?_
        refine zw_sto hm_128 dX11_readPolicy_21 [(3, .inl (0 : Int32)), (2, .inr (.inr (some 10))), (1, .inl v4), (0, .inr (.inr (some 64)))] rfl rfl rfl ?_
        refine zw_push hm_128 dX11_readPolicy_22 (v := .inl (0 : Int32)) rfl ?_
        refine zw_push hm_128 dX11_readPolicy_23 (v := .inr (.inr (some 10))) rfl ?_
        refine zw_cv hm_128 dX11_readPolicy_24 v_11_288_17 hm_277 [] [.inl (0 : Int32)] rfl rfl ⟨by omega, by omega⟩ rfl (tx_len (v := (4 : Int32)) (by decide) (by omega) (by omega) rfl rfl ?_)
        show ma_wp X d w 128 27 [(3, .inl (0 : Int32)), (2, .inr (.inr (some 10))), (1, .inl v4), (0, .inr (.inr (some 64)))] [.inl (4 : Int32), .inl (0 : Int32)] S3 _
        refine zw_if2 hm_128 dX11_readPolicy_27 (t := 73) rfl zc2_ge (fun hc => absurd hc (by decide)) (fun _ => ?_)
        refine zw_push hm_128 dX11_readPolicy_30 (v := .inl (0 : Int32)) rfl ?_
        refine zw_push hm_128 dX11_readPolicy_31 (v := .inl (4 : Int32)) rfl ?_
        refine zw_if2 hm_128 dX11_readPolicy_32 (t := 73) rfl zc2_ge (fun hc => absurd hc (by decide)) (fun _ => ?_)
        refine zw_push hm_128 dX11_readPolicy_35 (v := .inr (.inr (some 64))) rfl ?_
        refine zw_cv hm_128 dX11_readPolicy_36 v_11_278_11 hm_129 [] [] rfl (zT_rt hS3 s_64 rfl) ⟨by omega, by omega⟩ rfl (zw_mono h (zi_go ?_ ?_))
        · intro v56 S55 hv
          obtain ⟨hS55, h⟩ := hv
          refine zw_stk hm_128 dX11_readPolicy_39 (st₉ := []) rfl rfl ?_
          refine zw_push hm_128 dX11_readPolicy_40 (v := .inr (.inr (some 64))) rfl ?_
          refine zw_gf hm_128 dX11_readPolicy_41 (v := .inr (.inr (some 66))) (zT_is hS55 s_64) (zT_t hS55 s_64) rfl f_11_13_11 (zT_f hS55 r_64_4) ?_
          refine zw_push hm_128 dX11_readPolicy_44 (v := .inl (0 : Int32)) rfl ?_
          refine zw_push hm_128 dX11_readPolicy_45 (v := .inr (.inr (some 64))) rfl ?_
          refine zw_push hm_128 dX11_readPolicy_46 (v := .inr (.inr (some 10))) rfl ?_
          refine zw_push hm_128 dX11_readPolicy_47 (v := .inl (0 : Int32)) rfl ?_
          refine zw_cv hm_128 dX11_readPolicy_48 v_11_293_17 hm_279 [.inl (0 : Int32)] [.inr (.inr (some 64)), .inl (0 : Int32), .inr (.inr (some 66))] rfl rfl ⟨by omega, by omega⟩ rfl (tx_char (v := (114 : Int32)) (by decide) (by omega) (by omega) (by decide) (by decide) (by decide) (by decide) ?_)
          show ma_wp X d w 128 51 [(3, .inl (0 : Int32)), (2, .inr (.inr (some 10))), (1, .inl v4), (0, .inr (.inr (some 64)))] [.inl (114 : Int32), .inr (.inr (some 64)), .inl (0 : Int32), .inr (.inr (some 66))] S55 _
          refine zw_cv hm_128 dX11_readPolicy_51 v_11_297_11 hm_133 [.inl (114 : Int32)] [.inl (0 : Int32), .inr (.inr (some 66))] rfl (zT_rt hS55 s_64 rfl) ⟨by omega, by omega⟩ rfl ?_
          show ma_wp X (d - 1) (w - 21) 133 0 [(0, .inr (.inr (some 64))), (1, .inl (114 : Int32))] [] S55 _
          refine zw_push hm_133 dX11_partToken_0 (v := .inl (114 : Int32)) rfl ?_
          refine zw_jmp hm_133 dX11_partToken_1 (t := 68) (st₉ := []) rfl rfl rfl (by decide +kernel) ?_
          refine zw_push hm_133 dX11_partToken_68 (v := .inr (.inr (some 64))) rfl ?_
          refine zw_push hm_133 dX11_partToken_69 (v := .inl (16 : Int32)) rfl ?_
          refine zw_push hm_133 dX11_partToken_71 (v := .inl (1500 : Int32)) rfl ?_
          refine zw_cv hm_133 dX11_partToken_74 v_11_331_11 hm_134 [.inl (1500 : Int32), .inl (16 : Int32)] [] rfl (zT_rt hS55 s_64 rfl) ⟨by omega, by omega⟩ rfl (zw_mono h (zi_go ?_ ?_))
          · intro v58 S57 hv
            obtain ⟨hS57, h⟩ := hv
            refine zw_iret hm_133 dX11_partToken_77 ?_
            show ma_wp X d w 128 54 [(3, .inl (0 : Int32)), (2, .inr (.inr (some 10))), (1, .inl v4), (0, .inr (.inr (some 64)))] [.inl v58, .inl (0 : Int32), .inr (.inr (some 66))] S57 _
            refine zw_ias hm_128 dX11_readPolicy_54 (zT_is hS57 s_66) (zT_h hS57 s_66) rfl ⟨by decide, by decide⟩ ?_
            refine zw_push hm_128 dX11_readPolicy_55 (v := .inr (.inr (some 64))) rfl ?_
            refine zw_gf hm_128 dX11_readPolicy_56 (v := .inr (.inr (some 66))) (zT_is (zT_pi hS57) s_64) (zT_t (zT_pi hS57) s_64) rfl f_11_13_11 (zT_f (zT_pi hS57) r_64_4) ?_
            refine zw_push hm_128 dX11_readPolicy_59 (v := .inl (0 : Int32)) rfl ?_
            refine zw_ia hm_128 dX11_readPolicy_60 (zT_is (zT_pi hS57) s_66) (zT_h (zT_pi hS57) s_66) rfl ⟨by decide, by decide⟩ ?_
            show ma_wp X d w 128 61 [(3, .inl (0 : Int32)), (2, .inr (.inr (some 10))), (1, .inl v4), (0, .inr (.inr (some 64)))] [.inl v58] (ma_put S57 66 0 (.inl v58)) _
            refine zw_push hm_128 dX11_readPolicy_61 (v := .inl (-1 : Int32)) rfl ?_
            refine zw_if2 hm_128 dX11_readPolicy_62 (t := 67) rfl zc2_ne ?_ ?_
            · intro hc
              rw [if_neg hc] at h
              refine zw_sto hm_128 dX11_readPolicy_67 [(3, .inl (1 : Int32)), (2, .inr (.inr (some 10))), (1, .inl v4), (0, .inr (.inr (some 64)))] rfl rfl rfl ?_
              refine zw_goto hm_128 dX11_readPolicy_70 (t := 22) rfl ?_
              refine zw_push hm_128 dX11_readPolicy_22 (v := .inl (1 : Int32)) rfl ?_
              refine zw_push hm_128 dX11_readPolicy_23 (v := .inr (.inr (some 10))) rfl ?_
              refine zw_cv hm_128 dX11_readPolicy_24 v_11_288_17 hm_277 [] [.inl (1 : Int32)] rfl rfl ⟨by omega, by omega⟩ rfl (tx_len (v := (4 : Int32)) (by decide) (by omega) (by omega) rfl rfl ?_)
              show ma_wp X d w 128 27 [(3, .inl (1 : Int32)), (2, .inr (.inr (some 10))), (1, .inl v4), (0, .inr (.inr (some 64)))] [.inl (4 : Int32), .inl (1 : Int32)] (ma_put S57 66 0 (.inl v58)) _
              refine zw_if2 hm_128 dX11_readPolicy_27 (t := 73) rfl zc2_ge (fun hc => absurd hc (by decide)) (fun _ => ?_)
              refine zw_push hm_128 dX11_readPolicy_30 (v := .inl (1 : Int32)) rfl ?_
              refine zw_push hm_128 dX11_readPolicy_31 (v := .inl (4 : Int32)) rfl ?_
              refine zw_if2 hm_128 dX11_readPolicy_32 (t := 73) rfl zc2_ge (fun hc => absurd hc (by decide)) (fun _ => ?_)
              refine zw_push hm_128 dX11_readPolicy_35 (v := .inr (.inr (some 64))) rfl ?_
              refine zw_cv hm_128 dX11_readPolicy_36 v_11_278_11 hm_129 [] [] rfl (zT_rt (zT_pi hS57) s_64 rfl) ⟨by omega, by omega⟩ rfl (zw_mono h (zi_go ?_ ?_))
              · intro v60 S59 hv
                obtain ⟨hS59, h⟩ := hv
                refine zw_stk hm_128 dX11_readPolicy_39 (st₉ := []) rfl rfl ?_
                refine zw_push hm_128 dX11_readPolicy_40 (v := .inr (.inr (some 64))) rfl ?_
                refine zw_gf hm_128 dX11_readPolicy_41 (v := .inr (.inr (some 66))) (zT_is hS59 s_64) (zT_t hS59 s_64) rfl f_11_13_11 (zT_f hS59 r_64_4) ?_
                refine zw_push hm_128 dX11_readPolicy_44 (v := .inl (1 : Int32)) rfl ?_
                refine zw_push hm_128 dX11_readPolicy_45 (v := .inr (.inr (some 64))) rfl ?_
                refine zw_push hm_128 dX11_readPolicy_46 (v := .inr (.inr (some 10))) rfl ?_
                refine zw_push hm_128 dX11_readPolicy_47 (v := .inl (1 : Int32)) rfl ?_
                refine zw_cv hm_128 dX11_readPolicy_48 v_11_293_17 hm_279 [.inl (1 : Int32)] [.inr (.inr (some 64)), .inl (1 : Int32), .inr (.inr (some 66))] rfl rfl ⟨by omega, by omega⟩ rfl (tx_char (v := (102 : Int32)) (by decide) (by omega) (by omega) (by decide) (by decide) (by decide) (by decide) ?_)
                show ma_wp X d w 128 51 [(3, .inl (1 : Int32)), (2, .inr (.inr (some 10))), (1, .inl v4), (0, .inr (.inr (some 64)))] [.inl (102 : Int32), .inr (.inr (some 64)), .inl (1 : Int32), .inr (.inr (some 66))] S59 _
                refine zw_cv hm_128 dX11_readPolicy_51 v_11_297_11 hm_133 [.inl (102 : Int32)] [.inl (1 : Int32), .inr (.inr (some 66))] rfl (zT_rt hS59 s_64 rfl) ⟨by omega, by omega⟩ rfl ?_
                show ma_wp X (d - 1) (w - 21) 133 0 [(0, .inr (.inr (some 64))), (1, .inl (102 : Int32))] [] S59 _
                refine zw_push hm_133 dX11_partToken_0 (v := .inl (102 : Int32)) rfl ?_
                refine zw_jmp hm_133 dX11_partToken_1 (t := 131) (st₉ := []) rfl rfl rfl (by decide +kernel) ?_
                refine zw_push hm_133 dX11_partToken_131 (v := .inr (.inr (some 64))) rfl ?_
                refine zw_cv hm_133 dX11_partToken_132 v_11_340_11 hm_135 [] [] rfl (zT_rt hS59 s_64 rfl) ⟨by omega, by omega⟩ rfl (zw_mono h (zi_go ?_ ?_))
                · intro v62 S61 hv
                  obtain ⟨hS61, h⟩ := hv
                  refine zw_iret hm_133 dX11_partToken_135 ?_
                  show ma_wp X d w 128 54 [(3, .inl (1 : Int32)), (2, .inr (.inr (some 10))), (1, .inl v4), (0, .inr (.inr (some 64)))] [.inl v62, .inl (1 : Int32), .inr (.inr (some 66))] S61 _
                  refine zw_ias hm_128 dX11_readPolicy_54 (zT_is hS61 s_66) (zT_h hS61 s_66) rfl ⟨by decide, by decide⟩ ?_
                  refine zw_push hm_128 dX11_readPolicy_55 (v := .inr (.inr (some 64))) rfl ?_
                  refine zw_gf hm_128 dX11_readPolicy_56 (v := .inr (.inr (some 66))) (zT_is (zT_pi hS61) s_64) (zT_t (zT_pi hS61) s_64) rfl f_11_13_11 (zT_f (zT_pi hS61) r_64_4) ?_
                  refine zw_push hm_128 dX11_readPolicy_59 (v := .inl (1 : Int32)) rfl ?_
                  refine zw_ia hm_128 dX11_readPolicy_60 (zT_is (zT_pi hS61) s_66) (zT_h (zT_pi hS61) s_66) rfl ⟨by decide, by decide⟩ ?_
                  show ma_wp X d w 128 61 [(3, .inl (1 : Int32)), (2, .inr (.inr (some 10))), (1, .inl v4), (0, .inr (.inr (some 64)))] [.inl v62] (ma_put S61 66 1 (.inl v62)) _
                  refine zw_push hm_128 dX11_readPolicy_61 (v := .inl (-1 : Int32)) rfl ?_
                  refine zw_if2 hm_128 dX11_readPolicy_62 (t := 67) rfl zc2_ne ?_ ?_
                  · intro hc
                    rw [if_neg hc] at h
                    refine zw_sto hm_128 dX11_readPolicy_67 [(3, .inl (2 : Int32)), (2, .inr (.inr (some 10))), (1, .inl v4), (0, .inr (.inr (some 64)))] rfl rfl rfl ?_
                    refine zw_goto hm_128 dX11_readPolicy_70 (t := 22) rfl ?_
                    refine zw_push hm_128 dX11_readPolicy_22 (v := .inl (2 : Int32)) rfl ?_
                    refine zw_push hm_128 dX11_readPolicy_23 (v := .inr (.inr (some 10))) rfl ?_
                    refine zw_cv hm_128 dX11_readPolicy_24 v_11_288_17 hm_277 [] [.inl (2 : Int32)] rfl rfl ⟨by omega, by omega⟩ rfl (tx_len (v := (4 : Int32)) (by decide) (by omega) (by omega) rfl rfl ?_)
                    show ma_wp X d w 128 27 [(3, .inl (2 : Int32)), (2, .inr (.inr (some 10))), (1, .inl v4), (0, .inr (.inr (some 64)))] [.inl (4 : Int32), .inl (2 : Int32)] (ma_put S61 66 1 (.inl v62)) _
                    refine zw_if2 hm_128 dX11_readPolicy_27 (t := 73) rfl zc2_ge (fun hc => absurd hc (by decide)) (fun _ => ?_)
                    refine zw_push hm_128 dX11_readPolicy_30 (v := .inl (2 : Int32)) rfl ?_
                    refine zw_push hm_128 dX11_readPolicy_31 (v := .inl (4 : Int32)) rfl ?_
                    refine zw_if2 hm_128 dX11_readPolicy_32 (t := 73) rfl zc2_ge (fun hc => absurd hc (by decide)) (fun _ => ?_)
                    refine zw_push hm_128 dX11_readPolicy_35 (v := .inr (.inr (some 64))) rfl ?_
                    refine zw_cv hm_128 dX11_readPolicy_36 v_11_278_11 hm_129 [] [] rfl (zT_rt (zT_pi hS61) s_64 rfl) ⟨by omega, by omega⟩ rfl (zw_mono h (zi_go ?_ ?_))
                    · intro v64 S63 hv
                      obtain ⟨hS63, h⟩ := hv
                      refine zw_stk hm_128 dX11_readPolicy_39 (st₉ := []) rfl rfl ?_
                      refine zw_push hm_128 dX11_readPolicy_40 (v := .inr (.inr (some 64))) rfl ?_
                      refine zw_gf hm_128 dX11_readPolicy_41 (v := .inr (.inr (some 66))) (zT_is hS63 s_64) (zT_t hS63 s_64) rfl f_11_13_11 (zT_f hS63 r_64_4) ?_
                      refine zw_push hm_128 dX11_readPolicy_44 (v := .inl (2 : Int32)) rfl ?_
                      refine zw_push hm_128 dX11_readPolicy_45 (v := .inr (.inr (some 64))) rfl ?_
                      refine zw_push hm_128 dX11_readPolicy_46 (v := .inr (.inr (some 10))) rfl ?_
                      refine zw_push hm_128 dX11_readPolicy_47 (v := .inl (2 : Int32)) rfl ?_
                      refine zw_cv hm_128 dX11_readPolicy_48 v_11_293_17 hm_279 [.inl (2 : Int32)] [.inr (.inr (some 64)), .inl (2 : Int32), .inr (.inr (some 66))] rfl rfl ⟨by omega, by omega⟩ rfl (tx_char (v := (116 : Int32)) (by decide) (by omega) (by omega) (by decide) (by decide) (by decide) (by decide) ?_)
                      show ma_wp X d w 128 51 [(3, .inl (2 : Int32)), (2, .inr (.inr (some 10))), (1, .inl v4), (0, .inr (.inr (some 64)))] [.inl (116 : Int32), .inr (.inr (some 64)), .inl (2 : Int32), .inr (.inr (some 66))] S63 _
                      refine zw_cv hm_128 dX11_readPolicy_51 v_11_297_11 hm_133 [.inl (116 : Int32)] [.inl (2 : Int32), .inr (.inr (some 66))] rfl (zT_rt hS63 s_64 rfl) ⟨by omega, by omega⟩ rfl ?_
                      show ma_wp X (d - 1) (w - 21) 133 0 [(0, .inr (.inr (some 64))), (1, .inl (116 : Int32))] [] S63 _
                      refine zw_push hm_133 dX11_partToken_0 (v := .inl (116 : Int32)) rfl ?_
                      refine zw_jmp hm_133 dX11_partToken_1 (t := 94) (st₉ := []) rfl rfl rfl (by decide +kernel) ?_
                      refine zw_push hm_133 dX11_partToken_94 (v := .inr (.inr (some 64))) rfl ?_
                      refine zw_push hm_133 dX11_partToken_95 (v := .inl (1 : Int32)) rfl ?_
                      refine zw_push hm_133 dX11_partToken_96 (v := .inl (50 : Int32)) rfl ?_
                      refine zw_cv hm_133 dX11_partToken_98 v_11_331_11 hm_134 [.inl (50 : Int32), .inl (1 : Int32)] [] rfl (zT_rt hS63 s_64 rfl) ⟨by omega, by omega⟩ rfl (zw_mono h (zi_go ?_ ?_))
                      · intro v66 S65 hv
                        obtain ⟨hS65, h⟩ := hv
                        refine zw_iret hm_133 dX11_partToken_101 ?_
                        show ma_wp X d w 128 54 [(3, .inl (2 : Int32)), (2, .inr (.inr (some 10))), (1, .inl v4), (0, .inr (.inr (some 64)))] [.inl v66, .inl (2 : Int32), .inr (.inr (some 66))] S65 _
                        refine zw_ias hm_128 dX11_readPolicy_54 (zT_is hS65 s_66) (zT_h hS65 s_66) rfl ⟨by decide, by decide⟩ ?_
                        refine zw_push hm_128 dX11_readPolicy_55 (v := .inr (.inr (some 64))) rfl ?_
                        refine zw_gf hm_128 dX11_readPolicy_56 (v := .inr (.inr (some 66))) (zT_is (zT_pi hS65) s_64) (zT_t (zT_pi hS65) s_64) rfl f_11_13_11 (zT_f (zT_pi hS65) r_64_4) ?_
                        refine zw_push hm_128 dX11_readPolicy_59 (v := .inl (2 : Int32)) rfl ?_
                        refine zw_ia hm_128 dX11_readPolicy_60 (zT_is (zT_pi hS65) s_66) (zT_h (zT_pi hS65) s_66) rfl ⟨by decide, by decide⟩ ?_
                        show ma_wp X d w 128 61 [(3, .inl (2 : Int32)), (2, .inr (.inr (some 10))), (1, .inl v4), (0, .inr (.inr (some 64)))] [.inl v66] (ma_put S65 66 2 (.inl v66)) _
                        refine zw_push hm_128 dX11_readPolicy_61 (v := .inl (-1 : Int32)) rfl ?_
                        refine zw_if2 hm_128 dX11_readPolicy_62 (t := 67) rfl zc2_ne ?_ ?_
                        · intro hc
                          rw [if_neg hc] at h
                          refine zw_sto hm_128 dX11_readPolicy_67 [(3, .inl (3 : Int32)), (2, .inr (.inr (some 10))), (1, .inl v4), (0, .inr (.inr (some 64)))] rfl rfl rfl ?_
                          refine zw_goto hm_128 dX11_readPolicy_70 (t := 22) rfl ?_
                          refine zw_push hm_128 dX11_readPolicy_22 (v := .inl (3 : Int32)) rfl ?_
                          refine zw_push hm_128 dX11_readPolicy_23 (v := .inr (.inr (some 10))) rfl ?_
                          refine zw_cv hm_128 dX11_readPolicy_24 v_11_288_17 hm_277 [] [.inl (3 : Int32)] rfl rfl ⟨by omega, by omega⟩ rfl (tx_len (v := (4 : Int32)) (by decide) (by omega) (by omega) rfl rfl ?_)
                          show ma_wp X d w 128 27 [(3, .inl (3 : Int32)), (2, .inr (.inr (some 10))), (1, .inl v4), (0, .inr (.inr (some 64)))] [.inl (4 : Int32), .inl (3 : Int32)] (ma_put S65 66 2 (.inl v66)) _
                          refine zw_if2 hm_128 dX11_readPolicy_27 (t := 73) rfl zc2_ge (fun hc => absurd hc (by decide)) (fun _ => ?_)
                          refine zw_push hm_128 dX11_readPolicy_30 (v := .inl (3 : Int32)) rfl ?_
                          refine zw_push hm_128 dX11_readPolicy_31 (v := .inl (4 : Int32)) rfl ?_
                          refine zw_if2 hm_128 dX11_readPolicy_32 (t := 73) rfl zc2_ge (fun hc => absurd hc (by decide)) (fun _ => ?_)
                          refine zw_push hm_128 dX11_readPolicy_35 (v := .inr (.inr (some 64))) rfl ?_
                          refine zw_cv hm_128 dX11_readPolicy_36 v_11_278_11 hm_129 [] [] rfl (zT_rt (zT_pi hS65) s_64 rfl) ⟨by omega, by omega⟩ rfl (zw_mono h (zi_go ?_ ?_))
                          · intro v68 S67 hv
                            obtain ⟨hS67, h⟩ := hv
                            refine zw_stk hm_128 dX11_readPolicy_39 (st₉ := []) rfl rfl ?_
                            refine zw_push hm_128 dX11_readPolicy_40 (v := .inr (.inr (some 64))) rfl ?_
                            refine zw_gf hm_128 dX11_readPolicy_41 (v := .inr (.inr (some 66))) (zT_is hS67 s_64) (zT_t hS67 s_64) rfl f_11_13_11 (zT_f hS67 r_64_4) ?_
                            refine zw_push hm_128 dX11_readPolicy_44 (v := .inl (3 : Int32)) rfl ?_
                            refine zw_push hm_128 dX11_readPolicy_45 (v := .inr (.inr (some 64))) rfl ?_
                            refine zw_push hm_128 dX11_readPolicy_46 (v := .inr (.inr (some 10))) rfl ?_
                            refine zw_push hm_128 dX11_readPolicy_47 (v := .inl (3 : Int32)) rfl ?_
                            refine zw_cv hm_128 dX11_readPolicy_48 v_11_293_17 hm_279 [.inl (3 : Int32)] [.inr (.inr (some 64)), .inl (3 : Int32), .inr (.inr (some 66))] rfl rfl ⟨by omega, by omega⟩ rfl (tx_char (v := (98 : Int32)) (by decide) (by omega) (by omega) (by decide) (by decide) (by decide) (by decide) ?_)
                            show ma_wp X d w 128 51 [(3, .inl (3 : Int32)), (2, .inr (.inr (some 10))), (1, .inl v4), (0, .inr (.inr (some 64)))] [.inl (98 : Int32), .inr (.inr (some 64)), .inl (3 : Int32), .inr (.inr (some 66))] S67 _
                            refine zw_cv hm_128 dX11_readPolicy_51 v_11_297_11 hm_133 [.inl (98 : Int32)] [.inl (3 : Int32), .inr (.inr (some 66))] rfl (zT_rt hS67 s_64 rfl) ⟨by omega, by omega⟩ rfl ?_
                            show ma_wp X (d - 1) (w - 21) 133 0 [(0, .inr (.inr (some 64))), (1, .inl (98 : Int32))] [] S67 _
                            refine zw_push hm_133 dX11_partToken_0 (v := .inl (98 : Int32)) rfl ?_
                            refine zw_jmp hm_133 dX11_partToken_1 (t := 136) (st₉ := []) rfl rfl rfl (by decide +kernel) ?_
                            refine zw_push hm_133 dX11_partToken_136 (v := .inr (.inr (some 64))) rfl ?_
                            refine zw_cv hm_133 dX11_partToken_137 v_11_343_11 hm_136 [] [] rfl (zT_rt hS67 s_64 rfl) ⟨by omega, by omega⟩ rfl (zw_mono h (zi_go ?_ ?_))
                            · intro v70 S69 hv
                              obtain ⟨hS69, h⟩ := hv
                              refine zw_iret hm_133 dX11_partToken_140 ?_
                              show ma_wp X d w 128 54 [(3, .inl (3 : Int32)), (2, .inr (.inr (some 10))), (1, .inl v4), (0, .inr (.inr (some 64)))] [.inl v70, .inl (3 : Int32), .inr (.inr (some 66))] S69 _
                              refine zw_ias hm_128 dX11_readPolicy_54 (zT_is hS69 s_66) (zT_h hS69 s_66) rfl ⟨by decide, by decide⟩ ?_
                              refine zw_push hm_128 dX11_readPolicy_55 (v := .inr (.inr (some 64))) rfl ?_
                              refine zw_gf hm_128 dX11_readPolicy_56 (v := .inr (.inr (some 66))) (zT_is (zT_pi hS69) s_64) (zT_t (zT_pi hS69) s_64) rfl f_11_13_11 (zT_f (zT_pi hS69) r_64_4) ?_
                              refine zw_push hm_128 dX11_readPolicy_59 (v := .inl (3 : Int32)) rfl ?_
                              refine zw_ia hm_128 dX11_readPolicy_60 (zT_is (zT_pi hS69) s_66) (zT_h (zT_pi hS69) s_66) rfl ⟨by decide, by decide⟩ ?_
                              show ma_wp X d w 128 61 [(3, .inl (3 : Int32)), (2, .inr (.inr (some 10))), (1, .inl v4), (0, .inr (.inr (some 64)))] [.inl v70] (ma_put S69 66 3 (.inl v70)) _
                              refine zw_push hm_128 dX11_readPolicy_61 (v := .inl (-1 : Int32)) rfl ?_
                              refine zw_if2 hm_128 dX11_readPolicy_62 (t := 67) rfl zc2_ne ?_ ?_
                              · intro hc
                                rw [if_neg hc] at h
                                refine zw_sto hm_128 dX11_readPolicy_67 [(3, .inl (4 : Int32)), (2, .inr (.inr (some 10))), (1, .inl v4), (0, .inr (.inr (some 64)))] rfl rfl rfl ?_
                                refine zw_goto hm_128 dX11_readPolicy_70 (t := 22) rfl ?_
                                refine zw_push hm_128 dX11_readPolicy_22 (v := .inl (4 : Int32)) rfl ?_
                                refine zw_push hm_128 dX11_readPolicy_23 (v := .inr (.inr (some 10))) rfl ?_
                                refine zw_cv hm_128 dX11_readPolicy_24 v_11_288_17 hm_277 [] [.inl (4 : Int32)] rfl rfl ⟨by omega, by omega⟩ rfl (tx_len (v := (4 : Int32)) (by decide) (by omega) (by omega) rfl rfl ?_)
                                show ma_wp X d w 128 27 [(3, .inl (4 : Int32)), (2, .inr (.inr (some 10))), (1, .inl v4), (0, .inr (.inr (some 64)))] [.inl (4 : Int32), .inl (4 : Int32)] (ma_put S69 66 3 (.inl v70)) _
                                refine zw_if2 hm_128 dX11_readPolicy_27 (t := 73) rfl zc2_ge (fun _ => ?_) (fun hc => absurd (by decide) hc)
                                refine zw_push hm_128 dX11_readPolicy_73 (v := .inl v4) rfl ?_
                                refine zw_push hm_128 dX11_readPolicy_74 (v := .inl (-1 : Int32)) rfl ?_
                                refine zw_if2 hm_128 dX11_readPolicy_75 (t := 85) rfl zc2_eq ?_ ?_
                                · intro hc
                                  rw [if_pos hc] at h
                                  refine zw_push hm_128 dX11_readPolicy_85 (v := .inl (-1 : Int32)) rfl ?_
                                  exact zw_iret hm_128 dX11_readPolicy_86 h
                                · intro hc
                                  rw [if_neg hc] at h
                                  refine zw_push hm_128 dX11_readPolicy_78 (v := .inr (.inr (some 64))) rfl ?_
                                  refine zw_cv hm_128 dX11_readPolicy_79 v_11_278_11 hm_129 [] [] rfl (zT_rt (zT_pi hS69) s_64 rfl) ⟨by omega, by omega⟩ rfl (zw_mono h (zi_go ?_ ?_))
                                  · intro v72 S71 hv
                                    obtain ⟨hS71, h⟩ := hv
                                    refine zw_if0 hm_128 dX11_readPolicy_82 (t := 87) rfl zc0_eq ?_ ?_
                                    · intro hc
                                      rw [if_pos hc] at h
                                      refine zw_push hm_128 dX11_readPolicy_87 (v := .inl v4) rfl ?_
                                      exact zw_iret hm_128 dX11_readPolicy_88 h
                                    · intro hc
                                      rw [if_neg hc] at h
                                      refine zw_push hm_128 dX11_readPolicy_85 (v := .inl (-1 : Int32)) rfl ?_
                                      exact zw_iret hm_128 dX11_readPolicy_86 h
                                  · intro x S9 hx
                                    exact ⟨by decide, hx⟩
                              · intro hc
                                rw [if_pos (Classical.not_not.mp hc)] at h
                                refine zw_push hm_128 dX11_readPolicy_65 (v := .inl (-1 : Int32)) rfl ?_
                                exact zw_iret hm_128 dX11_readPolicy_66 h
                            · intro x S9 hx
                              exact hx.elim
                          · intro x S9 hx
                            exact ⟨by decide, hx⟩
                        · intro hc
                          rw [if_pos (Classical.not_not.mp hc)] at h
                          refine zw_push hm_128 dX11_readPolicy_65 (v := .inl (-1 : Int32)) rfl ?_
                          exact zw_iret hm_128 dX11_readPolicy_66 h
                      · intro x S9 hx
                        exact hx.elim
                    · intro x S9 hx
                      exact ⟨by decide, hx⟩
                  · intro hc
                    rw [if_pos (Classical.not_not.mp hc)] at h
                    refine zw_push hm_128 dX11_readPolicy_65 (v := .inl (-1 : Int32)) rfl ?_
                    exact zw_iret hm_128 dX11_readPolicy_66 h
                · intro x S9 hx
                  exact hx.elim
              · intro x S9 hx
                exact ⟨by decide, hx⟩
            · intro hc
              rw [if_pos (Classical.not_not.mp hc)] at h
              refine zw_push hm_128 dX11_readPolicy_65 (v := .inl (-1 : Int32)) rfl ?_
              exact zw_iret hm_128 dX11_readPolicy_66 h
          · intro x S9 hx
            exact hx.elim
        · intro x S9 hx
          exact ⟨by decide, hx⟩
      rw [if_neg hc5] at h
      by_cases hc6 : v4 = (6 : Int32)
      · rw [if_pos hc6] at h
        refine zw_jmp hm_132 dX11_partsOf_1 (t := 68) (st₉ := []) rfl rfl rfl (ma_jmp_tab (by rw [hc6]; decide +kernel)) ?_
        refine zw_txc hm_132 dX11_partsOf_68 txi_11_327 ?_
        refine zw_aret hm_132 dX11_partsOf_71 ?_
        show ma_wp X d w 128 19 [(1, .inl v4), (0, .inr (.inr (some 64)))] [.inr (.inr (some 11))] S3 _
        refine zw_sto hm_128 dX11_readPolicy_19 [(2, .inr (.inr (some 11))), (1, .inl v4), (0, .inr (.inr (some 64)))] rfl rfl rfl ?_
        refine zw_push hm_128 dX11_readPolicy_20 (v := .inl (0 : Int32)) rfl ?_
        refine zw_sto hm_128 dX11_readPolicy_21 [(3, .inl (0 : Int32)), (2, .inr (.inr (some 11))), (1, .inl v4), (0, .inr (.inr (some 64)))] rfl rfl rfl ?_
        refine zw_push hm_128 dX11_readPolicy_22 (v := .inl (0 : Int32)) rfl ?_
        refine zw_push hm_128 dX11_readPolicy_23 (v := .inr (.inr (some 11))) rfl ?_
        refine zw_cv hm_128 dX11_readPolicy_24 v_11_288_17 hm_277 [] [.inl (0 : Int32)] rfl rfl ⟨by omega, by omega⟩ rfl (tx_len (v := (3 : Int32)) (by decide) (by omega) (by omega) rfl rfl ?_)
        show ma_wp X d w 128 27 [(3, .inl (0 : Int32)), (2, .inr (.inr (some 11))), (1, .inl v4), (0, .inr (.inr (some 64)))] [.inl (3 : Int32), .inl (0 : Int32)] S3 _
        refine zw_if2 hm_128 dX11_readPolicy_27 (t := 73) rfl zc2_ge (fun hc => absurd hc (by decide)) (fun _ => ?_)
        refine zw_push hm_128 dX11_readPolicy_30 (v := .inl (0 : Int32)) rfl ?_
        refine zw_push hm_128 dX11_readPolicy_31 (v := .inl (4 : Int32)) rfl ?_
        refine zw_if2 hm_128 dX11_readPolicy_32 (t := 73) rfl zc2_ge (fun hc => absurd hc (by decide)) (fun _ => ?_)
        refine zw_push hm_128 dX11_readPolicy_35 (v := .inr (.inr (some 64))) rfl ?_
        refine zw_cv hm_128 dX11_readPolicy_36 v_11_278_11 hm_129 [] [] rfl (zT_rt hS3 s_64 rfl) ⟨by omega, by omega⟩ rfl (zw_mono h (zi_go ?_ ?_))
        · intro v74 S73 hv
          obtain ⟨hS73, h⟩ := hv
          refine zw_stk hm_128 dX11_readPolicy_39 (st₉ := []) rfl rfl ?_
          refine zw_push hm_128 dX11_readPolicy_40 (v := .inr (.inr (some 64))) rfl ?_
          refine zw_gf hm_128 dX11_readPolicy_41 (v := .inr (.inr (some 66))) (zT_is hS73 s_64) (zT_t hS73 s_64) rfl f_11_13_11 (zT_f hS73 r_64_4) ?_
          refine zw_push hm_128 dX11_readPolicy_44 (v := .inl (0 : Int32)) rfl ?_
          refine zw_push hm_128 dX11_readPolicy_45 (v := .inr (.inr (some 64))) rfl ?_
          refine zw_push hm_128 dX11_readPolicy_46 (v := .inr (.inr (some 11))) rfl ?_
          refine zw_push hm_128 dX11_readPolicy_47 (v := .inl (0 : Int32)) rfl ?_
          refine zw_cv hm_128 dX11_readPolicy_48 v_11_293_17 hm_279 [.inl (0 : Int32)] [.inr (.inr (some 64)), .inl (0 : Int32), .inr (.inr (some 66))] rfl rfl ⟨by omega, by omega⟩ rfl (tx_char (v := (114 : Int32)) (by decide) (by omega) (by omega) (by decide) (by decide) (by decide) (by decide) ?_)
          show ma_wp X d w 128 51 [(3, .inl (0 : Int32)), (2, .inr (.inr (some 11))), (1, .inl v4), (0, .inr (.inr (some 64)))] [.inl (114 : Int32), .inr (.inr (some 64)), .inl (0 : Int32), .inr (.inr (some 66))] S73 _
          refine zw_cv hm_128 dX11_readPolicy_51 v_11_297_11 hm_133 [.inl (114 : Int32)] [.inl (0 : Int32), .inr (.inr (some 66))] rfl (zT_rt hS73 s_64 rfl) ⟨by omega, by omega⟩ rfl ?_
          show ma_wp X (d - 1) (w - 21) 133 0 [(0, .inr (.inr (some 64))), (1, .inl (114 : Int32))] [] S73 _
          refine zw_push hm_133 dX11_partToken_0 (v := .inl (114 : Int32)) rfl ?_
          refine zw_jmp hm_133 dX11_partToken_1 (t := 68) (st₉ := []) rfl rfl rfl (by decide +kernel) ?_
          refine zw_push hm_133 dX11_partToken_68 (v := .inr (.inr (some 64))) rfl ?_
          refine zw_push hm_133 dX11_partToken_69 (v := .inl (16 : Int32)) rfl ?_
          refine zw_push hm_133 dX11_partToken_71 (v := .inl (1500 : Int32)) rfl ?_
          refine zw_cv hm_133 dX11_partToken_74 v_11_331_11 hm_134 [.inl (1500 : Int32), .inl (16 : Int32)] [] rfl (zT_rt hS73 s_64 rfl) ⟨by omega, by omega⟩ rfl (zw_mono h (zi_go ?_ ?_))
          · intro v76 S75 hv
            obtain ⟨hS75, h⟩ := hv
            refine zw_iret hm_133 dX11_partToken_77 ?_
            show ma_wp X d w 128 54 [(3, .inl (0 : Int32)), (2, .inr (.inr (some 11))), (1, .inl v4), (0, .inr (.inr (some 64)))] [.inl v76, .inl (0 : Int32), .inr (.inr (some 66))] S75 _
            refine zw_ias hm_128 dX11_readPolicy_54 (zT_is hS75 s_66) (zT_h hS75 s_66) rfl ⟨by decide, by decide⟩ ?_
            refine zw_push hm_128 dX11_readPolicy_55 (v := .inr (.inr (some 64))) rfl ?_
            refine zw_gf hm_128 dX11_readPolicy_56 (v := .inr (.inr (some 66))) (zT_is (zT_pi hS75) s_64) (zT_t (zT_pi hS75) s_64) rfl f_11_13_11 (zT_f (zT_pi hS75) r_64_4) ?_
            refine zw_push hm_128 dX11_readPolicy_59 (v := .inl (0 : Int32)) rfl ?_
            refine zw_ia hm_128 dX11_readPolicy_60 (zT_is (zT_pi hS75) s_66) (zT_h (zT_pi hS75) s_66) rfl ⟨by decide, by decide⟩ ?_
            show ma_wp X d w 128 61 [(3, .inl (0 : Int32)), (2, .inr (.inr (some 11))), (1, .inl v4), (0, .inr (.inr (some 64)))] [.inl v76] (ma_put S75 66 0 (.inl v76)) _
            refine zw_push hm_128 dX11_readPolicy_61 (v := .inl (-1 : Int32)) rfl ?_
            refine zw_if2 hm_128 dX11_readPolicy_62 (t := 67) rfl zc2_ne ?_ ?_
            · intro hc
              rw [if_neg hc] at h
              refine zw_sto hm_128 dX11_readPolicy_67 [(3, .inl (1 : Int32)), (2, .inr (.inr (some 11))), (1, .inl v4), (0, .inr (.inr (some 64)))] rfl rfl rfl ?_
              refine zw_goto hm_128 dX11_readPolicy_70 (t := 22) rfl ?_
              refine zw_push hm_128 dX11_readPolicy_22 (v := .inl (1 : Int32)) rfl ?_
              refine zw_push hm_128 dX11_readPolicy_23 (v := .inr (.inr (some 11))) rfl ?_
              refine zw_cv hm_128 dX11_readPolicy_24 v_11_288_17 hm_277 [] [.inl (1 : Int32)] rfl rfl ⟨by omega, by omega⟩ rfl (tx_len (v := (3 : Int32)) (by decide) (by omega) (by omega) rfl rfl ?_)
              show ma_wp X d w 128 27 [(3, .inl (1 : Int32)), (2, .inr (.inr (some 11))), (1, .inl v4), (0, .inr (.inr (some 64)))] [.inl (3 : Int32), .inl (1 : Int32)] (ma_put S75 66 0 (.inl v76)) _
              refine zw_if2 hm_128 dX11_readPolicy_27 (t := 73) rfl zc2_ge (fun hc => absurd hc (by decide)) (fun _ => ?_)
              refine zw_push hm_128 dX11_readPolicy_30 (v := .inl (1 : Int32)) rfl ?_
              refine zw_push hm_128 dX11_readPolicy_31 (v := .inl (4 : Int32)) rfl ?_
              refine zw_if2 hm_128 dX11_readPolicy_32 (t := 73) rfl zc2_ge (fun hc => absurd hc (by decide)) (fun _ => ?_)
              refine zw_push hm_128 dX11_readPolicy_35 (v := .inr (.inr (some 64))) rfl ?_
              refine zw_cv hm_128 dX11_readPolicy_36 v_11_278_11 hm_129 [] [] rfl (zT_rt (zT_pi hS75) s_64 rfl) ⟨by omega, by omega⟩ rfl (zw_mono h (zi_go ?_ ?_))
              · intro v78 S77 hv
                obtain ⟨hS77, h⟩ := hv
                refine zw_stk hm_128 dX11_readPolicy_39 (st₉ := []) rfl rfl ?_
                refine zw_push hm_128 dX11_readPolicy_40 (v := .inr (.inr (some 64))) rfl ?_
                refine zw_gf hm_128 dX11_readPolicy_41 (v := .inr (.inr (some 66))) (zT_is hS77 s_64) (zT_t hS77 s_64) rfl f_11_13_11 (zT_f hS77 r_64_4) ?_
                refine zw_push hm_128 dX11_readPolicy_44 (v := .inl (1 : Int32)) rfl ?_
                refine zw_push hm_128 dX11_readPolicy_45 (v := .inr (.inr (some 64))) rfl ?_
                refine zw_push hm_128 dX11_readPolicy_46 (v := .inr (.inr (some 11))) rfl ?_
                refine zw_push hm_128 dX11_readPolicy_47 (v := .inl (1 : Int32)) rfl ?_
                refine zw_cv hm_128 dX11_readPolicy_48 v_11_293_17 hm_279 [.inl (1 : Int32)] [.inr (.inr (some 64)), .inl (1 : Int32), .inr (.inr (some 66))] rfl rfl ⟨by omega, by omega⟩ rfl (tx_char (v := (122 : Int32)) (by decide) (by omega) (by omega) (by decide) (by decide) (by decide) (by decide) ?_)
                show ma_wp X d w 128 51 [(3, .inl (1 : Int32)), (2, .inr (.inr (some 11))), (1, .inl v4), (0, .inr (.inr (some 64)))] [.inl (122 : Int32), .inr (.inr (some 64)), .inl (1 : Int32), .inr (.inr (some 66))] S77 _
                refine zw_cv hm_128 dX11_readPolicy_51 v_11_297_11 hm_133 [.inl (122 : Int32)] [.inl (1 : Int32), .inr (.inr (some 66))] rfl (zT_rt hS77 s_64 rfl) ⟨by omega, by omega⟩ rfl ?_
                show ma_wp X (d - 1) (w - 21) 133 0 [(0, .inr (.inr (some 64))), (1, .inl (122 : Int32))] [] S77 _
                refine zw_push hm_133 dX11_partToken_0 (v := .inl (122 : Int32)) rfl ?_
                refine zw_jmp hm_133 dX11_partToken_1 (t := 102) (st₉ := []) rfl rfl rfl (by decide +kernel) ?_
                refine zw_push hm_133 dX11_partToken_102 (v := .inr (.inr (some 64))) rfl ?_
                refine zw_push hm_133 dX11_partToken_103 (v := .inl (16 : Int32)) rfl ?_
                refine zw_push hm_133 dX11_partToken_105 (v := .inl (256 : Int32)) rfl ?_
                refine zw_push hm_133 dX11_partToken_108 (v := .inr (.inr (some 64))) rfl ?_
                refine zw_gf hm_133 dX11_partToken_109 (v := .inr (.inr (some 66))) (zT_is hS77 s_64) (zT_t hS77 s_64) rfl f_11_13_11 (zT_f hS77 r_64_4) ?_
                refine zw_push hm_133 dX11_partToken_112 (v := .inl (0 : Int32)) rfl ?_
                refine zw_ia hm_133 dX11_partToken_113 (zT_is hS77 s_66) (zT_h hS77 s_66) rfl ⟨by decide, by decide⟩ ?_
                show ma_wp X (d - 1) (w - 21) 133 114 [(0, .inr (.inr (some 64))), (1, .inl (122 : Int32))] [.inl (mI S77 66 0), .inl (256 : Int32), .inl (16 : Int32), .inr (.inr (some 64))] S77 _
                refine zw_push hm_133 dX11_partToken_114 (v := .inl (4 : Int32)) rfl ?_
                refine zw_stk hm_133 dX11_partToken_115 (st₉ := [.inl ((mI S77 66 0) / (4 : Int32)), .inl (256 : Int32), .inl (16 : Int32), .inr (.inr (some 64))]) rfl rfl ?_
                refine zw_min hm_133 dX11_partToken_116 pr_11_335 (by omega) (by show 2 + 13 ≤ (w - 21); omega) (fun _ _ _ _ z => by cases z) ?_
                refine zw_cv hm_133 dX11_partToken_119 v_11_331_11 hm_134 [.inl (if ((mI S77 66 0) / (4 : Int32)) < (256 : Int32) then ((mI S77 66 0) / (4 : Int32)) else (256 : Int32)), .inl (16 : Int32)] [] rfl (zT_rt hS77 s_64 rfl) ⟨by omega, by omega⟩ rfl (zw_mono h (zi_go ?_ ?_))
                · intro v80 S79 hv
                  obtain ⟨hS79, h⟩ := hv
                  refine zw_iret hm_133 dX11_partToken_122 ?_
                  show ma_wp X d w 128 54 [(3, .inl (1 : Int32)), (2, .inr (.inr (some 11))), (1, .inl v4), (0, .inr (.inr (some 64)))] [.inl v80, .inl (1 : Int32), .inr (.inr (some 66))] S79 _
                  refine zw_ias hm_128 dX11_readPolicy_54 (zT_is hS79 s_66) (zT_h hS79 s_66) rfl ⟨by decide, by decide⟩ ?_
                  refine zw_push hm_128 dX11_readPolicy_55 (v := .inr (.inr (some 64))) rfl ?_
                  refine zw_gf hm_128 dX11_readPolicy_56 (v := .inr (.inr (some 66))) (zT_is (zT_pi hS79) s_64) (zT_t (zT_pi hS79) s_64) rfl f_11_13_11 (zT_f (zT_pi hS79) r_64_4) ?_
                  refine zw_push hm_128 dX11_readPolicy_59 (v := .inl (1 : Int32)) rfl ?_
                  refine zw_ia hm_128 dX11_readPolicy_60 (zT_is (zT_pi hS79) s_66) (zT_h (zT_pi hS79) s_66) rfl ⟨by decide, by decide⟩ ?_
                  show ma_wp X d w 128 61 [(3, .inl (1 : Int32)), (2, .inr (.inr (some 11))), (1, .inl v4), (0, .inr (.inr (some 64)))] [.inl v80] (ma_put S79 66 1 (.inl v80)) _
                  refine zw_push hm_128 dX11_readPolicy_61 (v := .inl (-1 : Int32)) rfl ?_
                  refine zw_if2 hm_128 dX11_readPolicy_62 (t := 67) rfl zc2_ne ?_ ?_
                  · intro hc
                    rw [if_neg hc] at h
                    refine zw_sto hm_128 dX11_readPolicy_67 [(3, .inl (2 : Int32)), (2, .inr (.inr (some 11))), (1, .inl v4), (0, .inr (.inr (some 64)))] rfl rfl rfl ?_
                    refine zw_goto hm_128 dX11_readPolicy_70 (t := 22) rfl ?_
                    refine zw_push hm_128 dX11_readPolicy_22 (v := .inl (2 : Int32)) rfl ?_
                    refine zw_push hm_128 dX11_readPolicy_23 (v := .inr (.inr (some 11))) rfl ?_
                    refine zw_cv hm_128 dX11_readPolicy_24 v_11_288_17 hm_277 [] [.inl (2 : Int32)] rfl rfl ⟨by omega, by omega⟩ rfl (tx_len (v := (3 : Int32)) (by decide) (by omega) (by omega) rfl rfl ?_)
                    show ma_wp X d w 128 27 [(3, .inl (2 : Int32)), (2, .inr (.inr (some 11))), (1, .inl v4), (0, .inr (.inr (some 64)))] [.inl (3 : Int32), .inl (2 : Int32)] (ma_put S79 66 1 (.inl v80)) _
                    refine zw_if2 hm_128 dX11_readPolicy_27 (t := 73) rfl zc2_ge (fun hc => absurd hc (by decide)) (fun _ => ?_)
                    refine zw_push hm_128 dX11_readPolicy_30 (v := .inl (2 : Int32)) rfl ?_
                    refine zw_push hm_128 dX11_readPolicy_31 (v := .inl (4 : Int32)) rfl ?_
                    refine zw_if2 hm_128 dX11_readPolicy_32 (t := 73) rfl zc2_ge (fun hc => absurd hc (by decide)) (fun _ => ?_)
                    refine zw_push hm_128 dX11_readPolicy_35 (v := .inr (.inr (some 64))) rfl ?_
                    refine zw_cv hm_128 dX11_readPolicy_36 v_11_278_11 hm_129 [] [] rfl (zT_rt (zT_pi hS79) s_64 rfl) ⟨by omega, by omega⟩ rfl (zw_mono h (zi_go ?_ ?_))
                    · intro v82 S81 hv
                      obtain ⟨hS81, h⟩ := hv
                      refine zw_stk hm_128 dX11_readPolicy_39 (st₉ := []) rfl rfl ?_
                      refine zw_push hm_128 dX11_readPolicy_40 (v := .inr (.inr (some 64))) rfl ?_
                      refine zw_gf hm_128 dX11_readPolicy_41 (v := .inr (.inr (some 66))) (zT_is hS81 s_64) (zT_t hS81 s_64) rfl f_11_13_11 (zT_f hS81 r_64_4) ?_
                      refine zw_push hm_128 dX11_readPolicy_44 (v := .inl (2 : Int32)) rfl ?_
                      refine zw_push hm_128 dX11_readPolicy_45 (v := .inr (.inr (some 64))) rfl ?_
                      refine zw_push hm_128 dX11_readPolicy_46 (v := .inr (.inr (some 11))) rfl ?_
                      refine zw_push hm_128 dX11_readPolicy_47 (v := .inl (2 : Int32)) rfl ?_
                      refine zw_cv hm_128 dX11_readPolicy_48 v_11_293_17 hm_279 [.inl (2 : Int32)] [.inr (.inr (some 64)), .inl (2 : Int32), .inr (.inr (some 66))] rfl rfl ⟨by omega, by omega⟩ rfl (tx_char (v := (115 : Int32)) (by decide) (by omega) (by omega) (by decide) (by decide) (by decide) (by decide) ?_)
                      show ma_wp X d w 128 51 [(3, .inl (2 : Int32)), (2, .inr (.inr (some 11))), (1, .inl v4), (0, .inr (.inr (some 64)))] [.inl (115 : Int32), .inr (.inr (some 64)), .inl (2 : Int32), .inr (.inr (some 66))] S81 _
                      refine zw_cv hm_128 dX11_readPolicy_51 v_11_297_11 hm_133 [.inl (115 : Int32)] [.inl (2 : Int32), .inr (.inr (some 66))] rfl (zT_rt hS81 s_64 rfl) ⟨by omega, by omega⟩ rfl ?_
                      show ma_wp X (d - 1) (w - 21) 133 0 [(0, .inr (.inr (some 64))), (1, .inl (115 : Int32))] [] S81 _
                      refine zw_push hm_133 dX11_partToken_0 (v := .inl (115 : Int32)) rfl ?_
                      refine zw_jmp hm_133 dX11_partToken_1 (t := 123) (st₉ := []) rfl rfl rfl (by decide +kernel) ?_
                      refine zw_push hm_133 dX11_partToken_123 (v := .inr (.inr (some 64))) rfl ?_
                      refine zw_push hm_133 dX11_partToken_124 (v := .inl (0 : Int32)) rfl ?_
                      refine zw_push hm_133 dX11_partToken_125 (v := .inl (100 : Int32)) rfl ?_
                      refine zw_cv hm_133 dX11_partToken_127 v_11_331_11 hm_134 [.inl (100 : Int32), .inl (0 : Int32)] [] rfl (zT_rt hS81 s_64 rfl) ⟨by omega, by omega⟩ rfl (zw_mono h (zi_go ?_ ?_))
                      · intro v84 S83 hv
                        obtain ⟨hS83, h⟩ := hv
                        refine zw_iret hm_133 dX11_partToken_130 ?_
                        show ma_wp X d w 128 54 [(3, .inl (2 : Int32)), (2, .inr (.inr (some 11))), (1, .inl v4), (0, .inr (.inr (some 64)))] [.inl v84, .inl (2 : Int32), .inr (.inr (some 66))] S83 _
                        refine zw_ias hm_128 dX11_readPolicy_54 (zT_is hS83 s_66) (zT_h hS83 s_66) rfl ⟨by decide, by decide⟩ ?_
                        refine zw_push hm_128 dX11_readPolicy_55 (v := .inr (.inr (some 64))) rfl ?_
                        refine zw_gf hm_128 dX11_readPolicy_56 (v := .inr (.inr (some 66))) (zT_is (zT_pi hS83) s_64) (zT_t (zT_pi hS83) s_64) rfl f_11_13_11 (zT_f (zT_pi hS83) r_64_4) ?_
                        refine zw_push hm_128 dX11_readPolicy_59 (v := .inl (2 : Int32)) rfl ?_
                        refine zw_ia hm_128 dX11_readPolicy_60 (zT_is (zT_pi hS83) s_66) (zT_h (zT_pi hS83) s_66) rfl ⟨by decide, by decide⟩ ?_
                        show ma_wp X d w 128 61 [(3, .inl (2 : Int32)), (2, .inr (.inr (some 11))), (1, .inl v4), (0, .inr (.inr (some 64)))] [.inl v84] (ma_put S83 66 2 (.inl v84)) _
                        refine zw_push hm_128 dX11_readPolicy_61 (v := .inl (-1 : Int32)) rfl ?_
                        refine zw_if2 hm_128 dX11_readPolicy_62 (t := 67) rfl zc2_ne ?_ ?_
                        · intro hc
                          rw [if_neg hc] at h
                          refine zw_sto hm_128 dX11_readPolicy_67 [(3, .inl (3 : Int32)), (2, .inr (.inr (some 11))), (1, .inl v4), (0, .inr (.inr (some 64)))] rfl rfl rfl ?_
                          refine zw_goto hm_128 dX11_readPolicy_70 (t := 22) rfl ?_
                          refine zw_push hm_128 dX11_readPolicy_22 (v := .inl (3 : Int32)) rfl ?_
                          refine zw_push hm_128 dX11_readPolicy_23 (v := .inr (.inr (some 11))) rfl ?_
                          refine zw_cv hm_128 dX11_readPolicy_24 v_11_288_17 hm_277 [] [.inl (3 : Int32)] rfl rfl ⟨by omega, by omega⟩ rfl (tx_len (v := (3 : Int32)) (by decide) (by omega) (by omega) rfl rfl ?_)
                          show ma_wp X d w 128 27 [(3, .inl (3 : Int32)), (2, .inr (.inr (some 11))), (1, .inl v4), (0, .inr (.inr (some 64)))] [.inl (3 : Int32), .inl (3 : Int32)] (ma_put S83 66 2 (.inl v84)) _
                          refine zw_if2 hm_128 dX11_readPolicy_27 (t := 73) rfl zc2_ge (fun _ => ?_) (fun hc => absurd (by decide) hc)
                          refine zw_push hm_128 dX11_readPolicy_73 (v := .inl v4) rfl ?_
                          refine zw_push hm_128 dX11_readPolicy_74 (v := .inl (-1 : Int32)) rfl ?_
                          refine zw_if2 hm_128 dX11_readPolicy_75 (t := 85) rfl zc2_eq ?_ ?_
                          · intro hc
                            rw [if_pos hc] at h
                            refine zw_push hm_128 dX11_readPolicy_85 (v := .inl (-1 : Int32)) rfl ?_
                            exact zw_iret hm_128 dX11_readPolicy_86 h
                          · intro hc
                            rw [if_neg hc] at h
                            refine zw_push hm_128 dX11_readPolicy_78 (v := .inr (.inr (some 64))) rfl ?_
                            refine zw_cv hm_128 dX11_readPolicy_79 v_11_278_11 hm_129 [] [] rfl (zT_rt (zT_pi hS83) s_64 rfl) ⟨by omega, by omega⟩ rfl (zw_mono h (zi_go ?_ ?_))
                            · intro v86 S85 hv
                              obtain ⟨hS85, h⟩ := hv
                              refine zw_if0 hm_128 dX11_readPolicy_82 (t := 87) rfl zc0_eq ?_ ?_
                              · intro hc
                                rw [if_pos hc] at h
                                refine zw_push hm_128 dX11_readPolicy_87 (v := .inl v4) rfl ?_
                                exact zw_iret hm_128 dX11_readPolicy_88 h
                              · intro hc
                                rw [if_neg hc] at h
                                refine zw_push hm_128 dX11_readPolicy_85 (v := .inl (-1 : Int32)) rfl ?_
                                exact zw_iret hm_128 dX11_readPolicy_86 h
                            · intro x S9 hx
                              exact ⟨by decide, hx⟩
                        · intro hc
                          rw [if_pos (Classical.not_not.mp hc)] at h
                          refine zw_push hm_128 dX11_readPolicy_65 (v := .inl (-1 : Int32)) rfl ?_
                          exact zw_iret hm_128 dX11_readPolicy_66 h
                      · intro x S9 hx
                        exact hx.elim
                    · intro x S9 hx
                      exact ⟨by decide, hx⟩
                  · intro hc
                    rw [if_pos (Classical.not_not.mp hc)] at h
                    refine zw_push hm_128 dX11_readPolicy_65 (v := .inl (-1 : Int32)) rfl ?_
                    exact zw_iret hm_128 dX11_readPolicy_66 h
                · intro x S9 hx
                  exact hx.elim
              · intro x S9 hx
                exact ⟨by decide, hx⟩
            · intro hc
              rw [if_pos (Classical.not_not.mp hc)] at h
              refine zw_push hm_128 dX11_readPolicy_65 (v := .inl (-1 : Int32)) rfl ?_
              exact zw_iret hm_128 dX11_readPolicy_66 h
          · intro x S9 hx
            exact hx.elim
        · intro x S9 hx
          exact ⟨by decide, hx⟩
      rw [if_neg hc6] at h
      refine zw_jmp hm_132 dX11_partsOf_1 (t := 72) (st₉ := []) rfl rfl rfl (ma_jmp_def (m := 7) (by decide) (fun j hj => by
          have hj2 : j = 0 ∨ j = 1 ∨ j = 2 ∨ j = 3 ∨ j = 4 ∨ j = 5 ∨ j = 6 := by omega
          rcases hj2 with rfl | rfl | rfl | rfl | rfl | rfl | rfl
          · exact hc0
          · exact hc1
          · exact hc2
          · exact hc3
          · exact hc4
          · exact hc5
          · exact hc6
          ) rfl) ?_
      refine zw_txc hm_132 dX11_partsOf_72 txi_11_329 ?_
      refine zw_aret hm_132 dX11_partsOf_75 ?_
      show ma_wp X d w 128 19 [(1, .inl v4), (0, .inr (.inr (some 64)))] [.inr (.inr (some 12))] S3 _
      refine zw_sto hm_128 dX11_readPolicy_19 [(2, .inr (.inr (some 12))), (1, .inl v4), (0, .inr (.inr (some 64)))] rfl rfl rfl ?_
      refine zw_push hm_128 dX11_readPolicy_20 (v := .inl (0 : Int32)) rfl ?_
      refine zw_sto hm_128 dX11_readPolicy_21 [(3, .inl (0 : Int32)), (2, .inr (.inr (some 12))), (1, .inl v4), (0, .inr (.inr (some 64)))] rfl rfl rfl ?_
      refine zw_push hm_128 dX11_readPolicy_22 (v := .inl (0 : Int32)) rfl ?_
      refine zw_push hm_128 dX11_readPolicy_23 (v := .inr (.inr (some 12))) rfl ?_
      refine zw_cv hm_128 dX11_readPolicy_24 v_11_288_17 hm_277 [] [.inl (0 : Int32)] rfl rfl ⟨by omega, by omega⟩ rfl (tx_len (v := (0 : Int32)) (by decide) (by omega) (by omega) rfl rfl ?_)
      show ma_wp X d w 128 27 [(3, .inl (0 : Int32)), (2, .inr (.inr (some 12))), (1, .inl v4), (0, .inr (.inr (some 64)))] [.inl (0 : Int32), .inl (0 : Int32)] S3 _
      refine zw_if2 hm_128 dX11_readPolicy_27 (t := 73) rfl zc2_ge (fun _ => ?_) (fun hc => absurd (by decide) hc)
      refine zw_push hm_128 dX11_readPolicy_73 (v := .inl v4) rfl ?_
      refine zw_push hm_128 dX11_readPolicy_74 (v := .inl (-1 : Int32)) rfl ?_
      refine zw_if2 hm_128 dX11_readPolicy_75 (t := 85) rfl zc2_eq ?_ ?_
      · intro hc
        rw [if_pos hc] at h
        refine zw_push hm_128 dX11_readPolicy_85 (v := .inl (-1 : Int32)) rfl ?_
        exact zw_iret hm_128 dX11_readPolicy_86 h
      · intro hc
        rw [if_neg hc] at h
        refine zw_push hm_128 dX11_readPolicy_78 (v := .inr (.inr (some 64))) rfl ?_
        refine zw_cv hm_128 dX11_readPolicy_79 v_11_278_11 hm_129 [] [] rfl (zT_rt hS3 s_64 rfl) ⟨by omega, by omega⟩ rfl (zw_mono h (zi_go ?_ ?_))
        · intro v88 S87 hv
          obtain ⟨hS87, h⟩ := hv
          refine zw_if0 hm_128 dX11_readPolicy_82 (t := 87) rfl zc0_eq ?_ ?_
          · intro hc
            rw [if_pos hc] at h
            refine zw_push hm_128 dX11_readPolicy_87 (v := .inl v4) rfl ?_
            exact zw_iret hm_128 dX11_readPolicy_88 h
          · intro hc
            rw [if_neg hc] at h
            refine zw_push hm_128 dX11_readPolicy_85 (v := .inl (-1 : Int32)) rfl ?_
            exact zw_iret hm_128 dX11_readPolicy_86 h
        · intro x S9 hx
          exact ⟨by decide, hx⟩
    · intro x S9 hx
      exact ⟨by decide, hx⟩
  · intro x S9 hx
    exact ⟨by decide, hx⟩
theorem sp_128_64_sn {X : Nat × (Nat → Int32)} {d w : Nat} {f : Nat → Nat → Int32} {r : Nat → Nat → Option Nat} {C Z N : Nat} {Q : Option ma_V ⊕ Nat → ma_S → Prop} {I0 : Nat→Nat→Int32} {L0 : Nat→Nat→Int64} {R0 : zRT} {S : ma_S}  (hd : 8 ≤ d) (hw : 163 ≤ w) (hI : zR f r C Z N S) (hpre0 : zFm I0 L0 R0 S) (K : ∀ v S₉, zR f r C Z N S₉ → (v.toInt = -1 ∨ (0 ≤ v.toInt ∧ v.toInt ≤ 6 ∧ 0 ≤ (mI S₉ 66 0).toInt ∧ (v.toInt = 3 → 0 ≤ (mI S₉ 66 1).toInt) ∧ (v.toInt = 6 → 16 ≤ (mI S₉ 66 1).toInt))) → ((v.toInt = -1 ∧ -1 - (mI S₉ 64 2).toInt = zAns (f 65) (f 64 1).toInt) ∨ (v.toInt ≠ -1 ∧ zFin v.toInt (mI S₉ 66 0).toInt (mI S₉ 66 1).toInt = zAns (f 65) (f 64 1).toInt)) → (v.toInt = 5 → ((mI S₉ 66 0).toInt = zVal (f 65) (f 64 1).toInt 0 1 ∧ (mI S₉ 66 1).toInt = zVal (f 65) (f 64 1).toInt 6 2 ∧ (mI S₉ 66 2).toInt = zVal (f 65) (f 64 1).toInt 3 3 ∧ (mI S₉ 66 3).toInt = zVal (f 65) (f 64 1).toInt 7 4)) → ((v.toInt = 0 ∨ v.toInt = 4) → ((mI S₉ 66 0).toInt = zVal (f 65) (f 64 1).toInt 0 1 ∧ (mI S₉ 66 1).toInt = zVal (f 65) (f 64 1).toInt 6 2)) → (qM1 v (mI S₉ 66 0) (f 65) (f 64 1).toInt) → (qM3 v (mI S₉ 66 0) (mI S₉ 66 1) (mI S₉ 66 2) (mI S₉ 66 3) (f 65) (f 64 1).toInt) → (qM6 v (mI S₉ 66 0) (mI S₉ 66 1) (mI S₉ 66 2) (f 65) (f 64 1).toInt) → (v.toInt = -1 ∨ v.toInt = zPol (f 65) (Int32.ofInt (zts (f 65) (f 64 1).toInt 0)) (zte (f 65) (f 64 1).toInt 0 - zts (f 65) (f 64 1).toInt 0)) → (zFm I0 L0 R0 S₉) → Q (.inl (some (.inl v))) S₉) : ma_wp X d w 128 0 [(0, .inr (.inr (some 64)))] [] S Q := by
  refine g_128_64_sn_0  (by omega) (by omega) (zG_T hI) ?_
  have li2 : (0 : Int32).toInt = 0 := rfl
  have hI1 : zR f r C Z N (ma_put S 64 3 (.inl (0 : Int32))) := zG_sp hI (0) (100) rfl (by decide) (by decide) (by decide) trivial (by omega) (by omega)
  refine sp_129_64_sq (p0 := ((0 : Int32).toInt)) (I0 := I0) (L0 := L0) (R0 := R0) (by omega) (by omega) (zR_dn_zY hI1) (show (0 : Int32).toInt = ((0 : Int32).toInt) from by omega) (show zFm I0 L0 R0 (ma_put S 64 3 (.inl (0 : Int32))) from by first | (exact (fn9_p hpre0 (by decide)))) (fun v2 S1 hL_S1 hp_v2 rp0_S1 rp1_S1 rp2_S1 rp3_S1 rp4_S1 => zi_n ⟨zG_T hL_S1, ?_⟩)
  have hI_S1 := zR_up_zY hI1 hL_S1
  have f3 := zG_s hI_S1 (0) (100) (c := 64) (k := 2) (by decide)
  have rp0_S1 : (mI S1 64 2).toInt = tk true (f 65) (f 64 1).toInt ((0 : Int32).toInt) := by
    have z := rp0_S1
    (try rw [show mI (ma_put S 64 3 (.inl (0 : Int32))) 65 = f 65 from funext (fun k => zG_z hI1 rfl)] at z)
    (try rw [show mI (ma_put S 64 3 (.inl (0 : Int32))) 64 1 = f 64 1 from zG_z hI1 rfl] at z)
    exact z
  have f4 := zG_s hI_S1 (0) (100) (c := 64) (k := 3) (by decide)
  have rp1_S1 : (mI S1 64 3).toInt = tk false (f 65) (f 64 1).toInt (mI S1 64 2).toInt := by
    have z := rp1_S1
    (try rw [show mI (ma_put S 64 3 (.inl (0 : Int32))) 65 = f 65 from funext (fun k => zG_z hI1 rfl)] at z)
    (try rw [show mI (ma_put S 64 3 (.inl (0 : Int32))) 64 1 = f 64 1 from zG_z hI1 rfl] at z)
    exact z
  have rp2_S1 : (v2.toInt = 1 ∧ (mI S1 64 2).toInt < (mI S1 64 3).toInt) ∨ (v2.toInt = 0 ∧ (mI S1 64 3).toInt ≤ (mI S1 64 2).toInt) := by
    have z := rp2_S1
    (try rw [show mI (ma_put S 64 3 (.inl (0 : Int32))) 65 = f 65 from funext (fun k => zG_z hI1 rfl)] at z)
    (try rw [show mI (ma_put S 64 3 (.inl (0 : Int32))) 64 1 = f 64 1 from zG_z hI1 rfl] at z)
    exact z
  have rp3_S1 : (mI S1 64 2).toInt ≤ (mI S1 64 3).toInt := by
    have z := rp3_S1
    (try rw [show mI (ma_put S 64 3 (.inl (0 : Int32))) 65 = f 65 from funext (fun k => zG_z hI1 rfl)] at z)
    (try rw [show mI (ma_put S 64 3 (.inl (0 : Int32))) 64 1 = f 64 1 from zG_z hI1 rfl] at z)
    exact z
  have rp4_S1 : zFm I0 L0 R0 S1 := by
    have z := rp4_S1
    (try rw [show mI (ma_put S 64 3 (.inl (0 : Int32))) 65 = f 65 from funext (fun k => zG_z hI1 rfl)] at z)
    (try rw [show mI (ma_put S 64 3 (.inl (0 : Int32))) 64 1 = f 64 1 from zG_z hI1 rfl] at z)
    exact z
  refine sp_130_64_sq (I0 := I0) (L0 := L0) (R0 := R0) (by omega) (by omega) (zR_dn_zY0 hI_S1) (show zFm I0 L0 R0 S1 from by first | (exact rp4_S1)) (fun v4 S3 hL_S3 hp_v4 rp0_S3 rp1_S3 => zi_n ⟨zG_T hL_S3, ?_⟩)
  have hI_S3 := zR_up_zY0 hI_S1 hL_S3
  have rp0_S3 : v4.toInt = zPol (f 65) (mI S1 64 2) ((mI S1 64 3).toInt - (mI S1 64 2).toInt) := by
    have z := rp0_S3
    (try rw [show mI S1 65 = f 65 from funext (fun k => zG_z hI_S1 rfl)] at z)
    (try rw [show mI S1 64 1 = f 64 1 from zG_z hI_S1 rfl] at z)
    exact z
  have rp1_S3 : zFm I0 L0 R0 S3 := by
    have z := rp1_S3
    (try rw [show mI S1 65 = f 65 from funext (fun k => zG_z hI_S1 rfl)] at z)
    (try rw [show mI S1 64 1 = f 64 1 from zG_z hI_S1 rfl] at z)
    exact z
  have b5 := i_bd v4
  refine zd (fun h6 => ?_) (fun h6 => ?_)
  · skip
    have g7 := i_eq h6
    have q8 : (mI S3 64 3).toInt = (mI S1 64 3).toInt := zG_zi (f := mI S1) hL_S3 rfl
    have f9 := zG_s hI_S3 (0) (100) (c := 64) (k := 3) (by decide)
    refine sp_129_64_sq (p0 := ((mI S3 64 3).toInt)) (I0 := I0) (L0 := L0) (R0 := R0) (by omega) (by omega) (zR_dn_zY hI_S3) (show (mI S3 64 3).toInt = ((mI S3 64 3).toInt) from by omega) (show zFm I0 L0 R0 S3 from by first | (exact rp1_S3)) (fun v6 S5 hL_S5 hp_v6 rp0_S5 rp1_S5 rp2_S5 rp3_S5 rp4_S5 => zi_n ⟨zG_T hL_S5, ?_⟩)
    have hI_S5 := zR_up_zY hI_S3 hL_S5
    have f10 := zG_s hI_S5 (0) (100) (c := 64) (k := 2) (by decide)
    have rp0_S5 : (mI S5 64 2).toInt = tk true (f 65) (f 64 1).toInt ((mI S3 64 3).toInt) := by
      have z := rp0_S5
      (try rw [show mI S3 65 = f 65 from funext (fun k => zG_z hI_S3 rfl)] at z)
      (try rw [show mI S3 64 1 = f 64 1 from zG_z hI_S3 rfl] at z)
      exact z
    have f11 := zG_s hI_S5 (0) (100) (c := 64) (k := 3) (by decide)
    have rp1_S5 : (mI S5 64 3).toInt = tk false (f 65) (f 64 1).toInt (mI S5 64 2).toInt := by
      have z := rp1_S5
      (try rw [show mI S3 65 = f 65 from funext (fun k => zG_z hI_S3 rfl)] at z)
      (try rw [show mI S3 64 1 = f 64 1 from zG_z hI_S3 rfl] at z)
      exact z
    have rp2_S5 : (v6.toInt = 1 ∧ (mI S5 64 2).toInt < (mI S5 64 3).toInt) ∨ (v6.toInt = 0 ∧ (mI S5 64 3).toInt ≤ (mI S5 64 2).toInt) := by
      have z := rp2_S5
      (try rw [show mI S3 65 = f 65 from funext (fun k => zG_z hI_S3 rfl)] at z)
      (try rw [show mI S3 64 1 = f 64 1 from zG_z hI_S3 rfl] at z)
      exact z
    have rp3_S5 : (mI S5 64 2).toInt ≤ (mI S5 64 3).toInt := by
      have z := rp3_S5
      (try rw [show mI S3 65 = f 65 from funext (fun k => zG_z hI_S3 rfl)] at z)
      (try rw [show mI S3 64 1 = f 64 1 from zG_z hI_S3 rfl] at z)
      exact z
    have rp4_S5 : zFm I0 L0 R0 S5 := by
      have z := rp4_S5
      (try rw [show mI S3 65 = f 65 from funext (fun k => zG_z hI_S3 rfl)] at z)
      (try rw [show mI S3 64 1 = f 64 1 from zG_z hI_S3 rfl] at z)
      exact z
    have li12 : (16 : Int32).toInt = 16 := rfl
    have li13 : (1500 : Int32).toInt = 1500 := rfl
    refine sp_134_64_sq (I0 := I0) (L0 := L0) (R0 := R0) ((16 : Int32)) ((1500 : Int32)) (by omega) (by omega) (zR_dn_zY0 hI_S5) (show (mI S5 64 2).toInt ≤ (mI S5 64 3).toInt from by omega) (show zFm I0 L0 R0 S5 from by first | (exact rp4_S5)) (fun v8 S7 hL_S7 hp_v8 rp0_S7 rp1_S7 => zi_n ⟨zG_T hL_S7, ?_⟩)
    have hI_S7 := zR_up_zY0 hI_S5 hL_S7
    have rp0_S7 : v8.toInt = zNum (f 65) (mI S5 64 2).toInt (mI S5 64 3).toInt (16 : Int32).toInt (1500 : Int32).toInt := by
      have z := rp0_S7
      (try rw [show mI S5 65 = f 65 from funext (fun k => zG_z hI_S5 rfl)] at z)
      (try rw [show mI S5 64 1 = f 64 1 from zG_z hI_S5 rfl] at z)
      exact z
    have rp1_S7 : zFm I0 L0 R0 S7 := by
      have z := rp1_S7
      (try rw [show mI S5 65 = f 65 from funext (fun k => zG_z hI_S5 rfl)] at z)
      (try rw [show mI S5 64 1 = f 64 1 from zG_z hI_S5 rfl] at z)
      exact z
    have b14 := i_bd v8
    have li15 : (-1 : Int32).toInt = -1 := rfl
    refine zd (fun h16 => ?_) (fun h16 => ?_)
    · skip
      have g17 := i_eq h16
      have hI18 : zR f r C Z N (ma_put S7 66 0 (.inl v8)) := zG_sa hI_S7 (-1) (1500) rfl (by decide) (by decide) (by decide) trivial (by omega) (by omega)
      have f19 := zG_a hI 4 (-1) (1500) (c := 66) (k := 1) (by decide) (by decide)
      have q20 : (mI S1 66 1).toInt = (mI S 66 1).toInt := zG_zi (f := mI (ma_put S 64 3 (.inl (0 : Int32)))) hL_S1 rfl
      have f21 := zG_a hI_S1 4 (-1) (1500) (c := 66) (k := 1) (by decide) (by decide)
      have q22 : (mI S3 66 1).toInt = (mI S1 66 1).toInt := zG_zi (f := mI S1) hL_S3 rfl
      have f23 := zG_a hI_S3 4 (-1) (1500) (c := 66) (k := 1) (by decide) (by decide)
      have q24 : (mI S5 66 1).toInt = (mI S3 66 1).toInt := zG_zi (f := mI S3) hL_S5 rfl
      have f25 := zG_a hI_S5 4 (-1) (1500) (c := 66) (k := 1) (by decide) (by decide)
      have q26 : (mI S7 66 1).toInt = (mI S5 66 1).toInt := zG_zi (f := mI S5) hL_S7 rfl
      have f27 := zG_a hI_S7 4 (-1) (1500) (c := 66) (k := 1) (by decide) (by decide)
      have q28 : (mI S7 64 2).toInt = (mI S5 64 2).toInt := zG_zi (f := mI S5) hL_S7 rfl
      have f29 := zG_s hI_S7 (0) (100) (c := 64) (k := 2) (by decide)
      have f30 := zG_a hI 4 (-1) (1500) (c := 66) (k := 2) (by decide) (by decide)
      have q31 : (mI S1 66 2).toInt = (mI S 66 2).toInt := zG_zi (f := mI (ma_put S 64 3 (.inl (0 : Int32)))) hL_S1 rfl
      have f32 := zG_a hI_S1 4 (-1) (1500) (c := 66) (k := 2) (by decide) (by decide)
      have q33 : (mI S3 66 2).toInt = (mI S1 66 2).toInt := zG_zi (f := mI S1) hL_S3 rfl
      have f34 := zG_a hI_S3 4 (-1) (1500) (c := 66) (k := 2) (by decide) (by decide)
      have q35 : (mI S5 66 2).toInt = (mI S3 66 2).toInt := zG_zi (f := mI S3) hL_S5 rfl
      have f36 := zG_a hI_S5 4 (-1) (1500) (c := 66) (k := 2) (by decide) (by decide)
      have q37 : (mI S7 66 2).toInt = (mI S5 66 2).toInt := zG_zi (f := mI S5) hL_S7 rfl
      have f38 := zG_a hI_S7 4 (-1) (1500) (c := 66) (k := 2) (by decide) (by decide)
      have f39 := zG_a hI 4 (-1) (1500) (c := 66) (k := 3) (by decide) (by decide)
      have q40 : (mI S1 66 3).toInt = (mI S 66 3).toInt := zG_zi (f := mI (ma_put S 64 3 (.inl (0 : Int32)))) hL_S1 rfl
      have f41 := zG_a hI_S1 4 (-1) (1500) (c := 66) (k := 3) (by decide) (by decide)
      have q42 : (mI S3 66 3).toInt = (mI S1 66 3).toInt := zG_zi (f := mI S1) hL_S3 rfl
      have f43 := zG_a hI_S3 4 (-1) (1500) (c := 66) (k := 3) (by decide) (by decide)
      have q44 : (mI S5 66 3).toInt = (mI S3 66 3).toInt := zG_zi (f := mI S3) hL_S5 rfl
      have f45 := zG_a hI_S5 4 (-1) (1500) (c := 66) (k := 3) (by decide) (by decide)
      have q46 : (mI S7 66 3).toInt = (mI S5 66 3).toInt := zG_zi (f := mI S5) hL_S7 rfl
      have f47 := zG_a hI_S7 4 (-1) (1500) (c := 66) (k := 3) (by decide) (by decide)
      exact K ((-1 : Int32)) _ hI18 (show (-1 : Int32).toInt = -1 ∨ (0 ≤ (-1 : Int32).toInt ∧ (-1 : Int32).toInt ≤ 6 ∧ 0 ≤ v8.toInt ∧ ((-1 : Int32).toInt = 3 → 0 ≤ (mI S7 66 1).toInt) ∧ ((-1 : Int32).toInt = 6 → 16 ≤ (mI S7 66 1).toInt)) from by omega) (show ((-1 : Int32).toInt = -1 ∧ -1 - (mI S7 64 2).toInt = zAns (f 65) (f 64 1).toInt) ∨ ((-1 : Int32).toInt ≠ -1 ∧ zFin (-1 : Int32).toInt v8.toInt (mI S7 66 1).toInt = zAns (f 65) (f 64 1).toInt) from by first | (have qk : v4.toInt = 0 := (by omega); have q := zAns_go (s := (mI S1 64 2)) (e := (mI S1 64 3).toInt) (k := v4.toInt) rp0_S1 rp1_S1 rp0_S3 (by omega); rw [show zPts v4.toInt = [0, 6] from by rw [qk]; rfl] at q; have q2 := q.trans (zRun_badp (s := (mI S5 64 2)) (e := (mI S5 64 3).toInt) (x := v8.toInt) (p := (mI S1 64 3).toInt) rp0_S5 (by omega) rp1_S5 (show v8.toInt = zNum (f 65) (mI S5 64 2).toInt (mI S5 64 3).toInt 16 1500 from rp0_S7) (by omega)); exact Or.inl ⟨rfl, by omega⟩) | (omega) | (exfalso; omega)) (show (-1 : Int32).toInt = 5 → (v8.toInt = zVal (f 65) (f 64 1).toInt 0 1 ∧ (mI S7 66 1).toInt = zVal (f 65) (f 64 1).toInt 6 2 ∧ (mI S7 66 2).toInt = zVal (f 65) (f 64 1).toInt 3 3 ∧ (mI S7 66 3).toInt = zVal (f 65) (f 64 1).toInt 7 4) from by first | (intro h; exact absurd h (by decide))) (show ((-1 : Int32).toInt = 0 ∨ (-1 : Int32).toInt = 4) → (v8.toInt = zVal (f 65) (f 64 1).toInt 0 1 ∧ (mI S7 66 1).toInt = zVal (f 65) (f 64 1).toInt 6 2) from by first | (intro h; exact absurd h (by decide))) (show qM1 (-1 : Int32) v8 (f 65) (f 64 1).toInt from by first | (unfold qM1; intro h; exact absurd h (by decide))) (show qM3 (-1 : Int32) v8 (mI S7 66 1) (mI S7 66 2) (mI S7 66 3) (f 65) (f 64 1).toInt from by first | (unfold qM3; intro h; exact absurd h (by decide))) (show qM6 (-1 : Int32) v8 (mI S7 66 1) (mI S7 66 2) (f 65) (f 64 1).toInt from by first | (unfold qM6; intro h; exact absurd h (by decide))) (show (-1 : Int32).toInt = -1 ∨ (-1 : Int32).toInt = zPol (f 65) (Int32.ofInt (zts (f 65) (f 64 1).toInt 0)) (zte (f 65) (f 64 1).toInt 0 - zts (f 65) (f 64 1).toInt 0) from by first | (exact Or.inl rfl)) (show zFm I0 L0 R0 (ma_put S7 66 0 (.inl v8)) from by first | (exact (fn9_p rp1_S7 (by decide))))
    · skip
      have g48 := i_ne h16
      have hI49 : zR f r C Z N (ma_put S7 66 0 (.inl v8)) := zG_sa hI_S7 (-1) (1500) rfl (by decide) (by decide) (by decide) trivial (by omega) (by omega)
      have q50 : (mI S7 64 3).toInt = (mI S5 64 3).toInt := zG_zi (f := mI S5) hL_S7 rfl
      have f51 := zG_s hI_S7 (0) (100) (c := 64) (k := 3) (by decide)
      refine sp_129_64_sq (p0 := ((mI S7 64 3).toInt)) (I0 := I0) (L0 := L0) (R0 := R0) (by omega) (by omega) (zR_dn_zY hI49) (show (mI S7 64 3).toInt = ((mI S7 64 3).toInt) from by omega) (show zFm I0 L0 R0 (ma_put S7 66 0 (.inl v8)) from by first | (exact (fn9_p rp1_S7 (by decide)))) (fun v10 S9 hL_S9 hp_v10 rp0_S9 rp1_S9 rp2_S9 rp3_S9 rp4_S9 => zi_n ⟨zG_T hL_S9, ?_⟩)
      have hI_S9 := zR_up_zY hI49 hL_S9
      have f52 := zG_s hI_S9 (0) (100) (c := 64) (k := 2) (by decide)
      have rp0_S9 : (mI S9 64 2).toInt = tk true (f 65) (f 64 1).toInt ((mI S7 64 3).toInt) := by
        have z := rp0_S9
        (try rw [show mI (ma_put S7 66 0 (.inl v8)) 65 = f 65 from funext (fun k => zG_z hI49 rfl)] at z)
        (try rw [show mI (ma_put S7 66 0 (.inl v8)) 64 1 = f 64 1 from zG_z hI49 rfl] at z)
        exact z
      have f53 := zG_s hI_S9 (0) (100) (c := 64) (k := 3) (by decide)
      have rp1_S9 : (mI S9 64 3).toInt = tk false (f 65) (f 64 1).toInt (mI S9 64 2).toInt := by
        have z := rp1_S9
        (try rw [show mI (ma_put S7 66 0 (.inl v8)) 65 = f 65 from funext (fun k => zG_z hI49 rfl)] at z)
        (try rw [show mI (ma_put S7 66 0 (.inl v8)) 64 1 = f 64 1 from zG_z hI49 rfl] at z)
        exact z
      have rp2_S9 : (v10.toInt = 1 ∧ (mI S9 64 2).toInt < (mI S9 64 3).toInt) ∨ (v10.toInt = 0 ∧ (mI S9 64 3).toInt ≤ (mI S9 64 2).toInt) := by
        have z := rp2_S9
        (try rw [show mI (ma_put S7 66 0 (.inl v8)) 65 = f 65 from funext (fun k => zG_z hI49 rfl)] at z)
        (try rw [show mI (ma_put S7 66 0 (.inl v8)) 64 1 = f 64 1 from zG_z hI49 rfl] at z)
        exact z
      have rp3_S9 : (mI S9 64 2).toInt ≤ (mI S9 64 3).toInt := by
        have z := rp3_S9
        (try rw [show mI (ma_put S7 66 0 (.inl v8)) 65 = f 65 from funext (fun k => zG_z hI49 rfl)] at z)
        (try rw [show mI (ma_put S7 66 0 (.inl v8)) 64 1 = f 64 1 from zG_z hI49 rfl] at z)
        exact z
      have rp4_S9 : zFm I0 L0 R0 S9 := by
        have z := rp4_S9
        (try rw [show mI (ma_put S7 66 0 (.inl v8)) 65 = f 65 from funext (fun k => zG_z hI49 rfl)] at z)
        (try rw [show mI (ma_put S7 66 0 (.inl v8)) 64 1 = f 64 1 from zG_z hI49 rfl] at z)
        exact z
      refine sp_135_64_sq (I0 := I0) (L0 := L0) (R0 := R0) (by omega) (by omega) (zR_dn_zY0 hI_S9) (show zFm I0 L0 R0 S9 from by first | (exact rp4_S9)) (fun v12 S11 hL_S11 hp_v12 rp0_S11 rp1_S11 => zi_n ⟨zG_T hL_S11, ?_⟩)
      have hI_S11 := zR_up_zY0 hI_S9 hL_S11
      have rp0_S11 : v12.toInt = zForm (f 65) (mI S9 64 2) ((mI S9 64 3).toInt - (mI S9 64 2).toInt) := by
        have z := rp0_S11
        (try rw [show mI S9 65 = f 65 from funext (fun k => zG_z hI_S9 rfl)] at z)
        (try rw [show mI S9 64 1 = f 64 1 from zG_z hI_S9 rfl] at z)
        exact z
      have rp1_S11 : zFm I0 L0 R0 S11 := by
        have z := rp1_S11
        (try rw [show mI S9 65 = f 65 from funext (fun k => zG_z hI_S9 rfl)] at z)
        (try rw [show mI S9 64 1 = f 64 1 from zG_z hI_S9 rfl] at z)
        exact z
      have b54 := i_bd v12
      refine zd (fun h55 => ?_) (fun h55 => ?_)
      · skip
        have g56 := i_eq h55
        have hI57 : zR f r C Z N (ma_put S11 66 1 (.inl v12)) := zG_sa hI_S11 (-1) (1500) rfl (by decide) (by decide) (by decide) trivial (by omega) (by omega)
        have q58 : (mI S9 66 0).toInt = v8.toInt := zG_zi (f := mI (ma_put S7 66 0 (.inl v8))) hL_S9 rfl
        have f59 := zG_a hI_S9 4 (-1) (1500) (c := 66) (k := 0) (by decide) (by decide)
        have q60 : (mI S11 66 0).toInt = (mI S9 66 0).toInt := zG_zi (f := mI S9) hL_S11 rfl
        have f61 := zG_a hI_S11 4 (-1) (1500) (c := 66) (k := 0) (by decide) (by decide)
        have q62 : (mI S11 64 2).toInt = (mI S9 64 2).toInt := zG_zi (f := mI S9) hL_S11 rfl
        have f63 := zG_s hI_S11 (0) (100) (c := 64) (k := 2) (by decide)
        have f64 := zG_a hI 4 (-1) (1500) (c := 66) (k := 2) (by decide) (by decide)
        have q65 : (mI S1 66 2).toInt = (mI S 66 2).toInt := zG_zi (f := mI (ma_put S 64 3 (.inl (0 : Int32)))) hL_S1 rfl
        have f66 := zG_a hI_S1 4 (-1) (1500) (c := 66) (k := 2) (by decide) (by decide)
        have q67 : (mI S3 66 2).toInt = (mI S1 66 2).toInt := zG_zi (f := mI S1) hL_S3 rfl
        have f68 := zG_a hI_S3 4 (-1) (1500) (c := 66) (k := 2) (by decide) (by decide)
        have q69 : (mI S5 66 2).toInt = (mI S3 66 2).toInt := zG_zi (f := mI S3) hL_S5 rfl
        have f70 := zG_a hI_S5 4 (-1) (1500) (c := 66) (k := 2) (by decide) (by decide)
        have q71 : (mI S7 66 2).toInt = (mI S5 66 2).toInt := zG_zi (f := mI S5) hL_S7 rfl
        have f72 := zG_a hI_S7 4 (-1) (1500) (c := 66) (k := 2) (by decide) (by decide)
        have q73 : (mI S9 66 2).toInt = (mI S7 66 2).toInt := zG_zi (f := mI (ma_put S7 66 0 (.inl v8))) hL_S9 rfl
        have f74 := zG_a hI_S9 4 (-1) (1500) (c := 66) (k := 2) (by decide) (by decide)
        have q75 : (mI S11 66 2).toInt = (mI S9 66 2).toInt := zG_zi (f := mI S9) hL_S11 rfl
        have f76 := zG_a hI_S11 4 (-1) (1500) (c := 66) (k := 2) (by decide) (by decide)
        have f77 := zG_a hI 4 (-1) (1500) (c := 66) (k := 3) (by decide) (by decide)
        have q78 : (mI S1 66 3).toInt = (mI S 66 3).toInt := zG_zi (f := mI (ma_put S 64 3 (.inl (0 : Int32)))) hL_S1 rfl
        have f79 := zG_a hI_S1 4 (-1) (1500) (c := 66) (k := 3) (by decide) (by decide)
        have q80 : (mI S3 66 3).toInt = (mI S1 66 3).toInt := zG_zi (f := mI S1) hL_S3 rfl
        have f81 := zG_a hI_S3 4 (-1) (1500) (c := 66) (k := 3) (by decide) (by decide)
        have q82 : (mI S5 66 3).toInt = (mI S3 66 3).toInt := zG_zi (f := mI S3) hL_S5 rfl
        have f83 := zG_a hI_S5 4 (-1) (1500) (c := 66) (k := 3) (by decide) (by decide)
        have q84 : (mI S7 66 3).toInt = (mI S5 66 3).toInt := zG_zi (f := mI S5) hL_S7 rfl
        have f85 := zG_a hI_S7 4 (-1) (1500) (c := 66) (k := 3) (by decide) (by decide)
        have q86 : (mI S9 66 3).toInt = (mI S7 66 3).toInt := zG_zi (f := mI (ma_put S7 66 0 (.inl v8))) hL_S9 rfl
        have f87 := zG_a hI_S9 4 (-1) (1500) (c := 66) (k := 3) (by decide) (by decide)
        have q88 : (mI S11 66 3).toInt = (mI S9 66 3).toInt := zG_zi (f := mI S9) hL_S11 rfl
        have f89 := zG_a hI_S11 4 (-1) (1500) (c := 66) (k := 3) (by decide) (by decide)
        exact K ((-1 : Int32)) _ hI57 (show (-1 : Int32).toInt = -1 ∨ (0 ≤ (-1 : Int32).toInt ∧ (-1 : Int32).toInt ≤ 6 ∧ 0 ≤ (mI S11 66 0).toInt ∧ ((-1 : Int32).toInt = 3 → 0 ≤ v12.toInt) ∧ ((-1 : Int32).toInt = 6 → 16 ≤ v12.toInt)) from by omega) (show ((-1 : Int32).toInt = -1 ∧ -1 - (mI S11 64 2).toInt = zAns (f 65) (f 64 1).toInt) ∨ ((-1 : Int32).toInt ≠ -1 ∧ zFin (-1 : Int32).toInt (mI S11 66 0).toInt v12.toInt = zAns (f 65) (f 64 1).toInt) from by first | (have qk : v4.toInt = 0 := (by omega); have q := zAns_go (s := (mI S1 64 2)) (e := (mI S1 64 3).toInt) (k := v4.toInt) rp0_S1 rp1_S1 rp0_S3 (by omega); rw [show zPts v4.toInt = [0, 6] from by rw [qk]; rfl] at q; replace q := q.trans (zRun_ok0 (s := (mI S5 64 2)) (e := (mI S5 64 3).toInt) (x := v8.toInt) (p := (mI S1 64 3).toInt) rp0_S5 (by omega) rp1_S5 (show v8.toInt = zNum (f 65) (mI S5 64 2).toInt (mI S5 64 3).toInt 16 1500 from rp0_S7) (by omega)); have q2 := q.trans (zRun_badp (s := (mI S9 64 2)) (e := (mI S9 64 3).toInt) (x := v12.toInt) (p := (mI S5 64 3).toInt) rp0_S9 (by omega) rp1_S9 (zPart_f rp0_S11) (by omega)); exact Or.inl ⟨rfl, by omega⟩) | (omega) | (exfalso; omega)) (show (-1 : Int32).toInt = 5 → ((mI S11 66 0).toInt = zVal (f 65) (f 64 1).toInt 0 1 ∧ v12.toInt = zVal (f 65) (f 64 1).toInt 6 2 ∧ (mI S11 66 2).toInt = zVal (f 65) (f 64 1).toInt 3 3 ∧ (mI S11 66 3).toInt = zVal (f 65) (f 64 1).toInt 7 4) from by first | (intro h; exact absurd h (by decide))) (show ((-1 : Int32).toInt = 0 ∨ (-1 : Int32).toInt = 4) → ((mI S11 66 0).toInt = zVal (f 65) (f 64 1).toInt 0 1 ∧ v12.toInt = zVal (f 65) (f 64 1).toInt 6 2) from by first | (intro h; exact absurd h (by decide))) (show qM1 (-1 : Int32) (mI S11 66 0) (f 65) (f 64 1).toInt from by first | (unfold qM1; intro h; exact absurd h (by decide))) (show qM3 (-1 : Int32) (mI S11 66 0) v12 (mI S11 66 2) (mI S11 66 3) (f 65) (f 64 1).toInt from by first | (unfold qM3; intro h; exact absurd h (by decide))) (show qM6 (-1 : Int32) (mI S11 66 0) v12 (mI S11 66 2) (f 65) (f 64 1).toInt from by first | (unfold qM6; intro h; exact absurd h (by decide))) (show (-1 : Int32).toInt = -1 ∨ (-1 : Int32).toInt = zPol (f 65) (Int32.ofInt (zts (f 65) (f 64 1).toInt 0)) (zte (f 65) (f 64 1).toInt 0 - zts (f 65) (f 64 1).toInt 0) from by first | (exact Or.inl rfl)) (show zFm I0 L0 R0 (ma_put S11 66 1 (.inl v12)) from by first | (exact (fn9_p rp1_S11 (by decide))))
      · skip
        have g90 := i_ne h55
        refine zd (fun h91 => ?_) (fun h91 => ?_)
        · skip
          have g92 := i_eq h91
          have hI93 : zR f r C Z N (ma_put S11 66 1 (.inl v12)) := zG_sa hI_S11 (-1) (1500) rfl (by decide) (by decide) (by decide) trivial (by omega) (by omega)
          have q94 : (mI S9 66 0).toInt = v8.toInt := zG_zi (f := mI (ma_put S7 66 0 (.inl v8))) hL_S9 rfl
          have f95 := zG_a hI_S9 4 (-1) (1500) (c := 66) (k := 0) (by decide) (by decide)
          have q96 : (mI S11 66 0).toInt = (mI S9 66 0).toInt := zG_zi (f := mI S9) hL_S11 rfl
          have f97 := zG_a hI_S11 4 (-1) (1500) (c := 66) (k := 0) (by decide) (by decide)
          have q98 : (mI S11 64 2).toInt = (mI S9 64 2).toInt := zG_zi (f := mI S9) hL_S11 rfl
          have f99 := zG_s hI_S11 (0) (100) (c := 64) (k := 2) (by decide)
          have f100 := zG_a hI 4 (-1) (1500) (c := 66) (k := 2) (by decide) (by decide)
          have q101 : (mI S1 66 2).toInt = (mI S 66 2).toInt := zG_zi (f := mI (ma_put S 64 3 (.inl (0 : Int32)))) hL_S1 rfl
          have f102 := zG_a hI_S1 4 (-1) (1500) (c := 66) (k := 2) (by decide) (by decide)
          have q103 : (mI S3 66 2).toInt = (mI S1 66 2).toInt := zG_zi (f := mI S1) hL_S3 rfl
          have f104 := zG_a hI_S3 4 (-1) (1500) (c := 66) (k := 2) (by decide) (by decide)
          have q105 : (mI S5 66 2).toInt = (mI S3 66 2).toInt := zG_zi (f := mI S3) hL_S5 rfl
          have f106 := zG_a hI_S5 4 (-1) (1500) (c := 66) (k := 2) (by decide) (by decide)
          have q107 : (mI S7 66 2).toInt = (mI S5 66 2).toInt := zG_zi (f := mI S5) hL_S7 rfl
          have f108 := zG_a hI_S7 4 (-1) (1500) (c := 66) (k := 2) (by decide) (by decide)
          have q109 : (mI S9 66 2).toInt = (mI S7 66 2).toInt := zG_zi (f := mI (ma_put S7 66 0 (.inl v8))) hL_S9 rfl
          have f110 := zG_a hI_S9 4 (-1) (1500) (c := 66) (k := 2) (by decide) (by decide)
          have q111 : (mI S11 66 2).toInt = (mI S9 66 2).toInt := zG_zi (f := mI S9) hL_S11 rfl
          have f112 := zG_a hI_S11 4 (-1) (1500) (c := 66) (k := 2) (by decide) (by decide)
          have f113 := zG_a hI 4 (-1) (1500) (c := 66) (k := 3) (by decide) (by decide)
          have q114 : (mI S1 66 3).toInt = (mI S 66 3).toInt := zG_zi (f := mI (ma_put S 64 3 (.inl (0 : Int32)))) hL_S1 rfl
          have f115 := zG_a hI_S1 4 (-1) (1500) (c := 66) (k := 3) (by decide) (by decide)
          have q116 : (mI S3 66 3).toInt = (mI S1 66 3).toInt := zG_zi (f := mI S1) hL_S3 rfl
          have f117 := zG_a hI_S3 4 (-1) (1500) (c := 66) (k := 3) (by decide) (by decide)
          have q118 : (mI S5 66 3).toInt = (mI S3 66 3).toInt := zG_zi (f := mI S3) hL_S5 rfl
          have f119 := zG_a hI_S5 4 (-1) (1500) (c := 66) (k := 3) (by decide) (by decide)
          have q120 : (mI S7 66 3).toInt = (mI S5 66 3).toInt := zG_zi (f := mI S5) hL_S7 rfl
          have f121 := zG_a hI_S7 4 (-1) (1500) (c := 66) (k := 3) (by decide) (by decide)
          have q122 : (mI S9 66 3).toInt = (mI S7 66 3).toInt := zG_zi (f := mI (ma_put S7 66 0 (.inl v8))) hL_S9 rfl
          have f123 := zG_a hI_S9 4 (-1) (1500) (c := 66) (k := 3) (by decide) (by decide)
          have q124 : (mI S11 66 3).toInt = (mI S9 66 3).toInt := zG_zi (f := mI S9) hL_S11 rfl
          have f125 := zG_a hI_S11 4 (-1) (1500) (c := 66) (k := 3) (by decide) (by decide)
          exact K ((-1 : Int32)) _ hI93 (show (-1 : Int32).toInt = -1 ∨ (0 ≤ (-1 : Int32).toInt ∧ (-1 : Int32).toInt ≤ 6 ∧ 0 ≤ (mI S11 66 0).toInt ∧ ((-1 : Int32).toInt = 3 → 0 ≤ v12.toInt) ∧ ((-1 : Int32).toInt = 6 → 16 ≤ v12.toInt)) from by omega) (show ((-1 : Int32).toInt = -1 ∧ -1 - (mI S11 64 2).toInt = zAns (f 65) (f 64 1).toInt) ∨ ((-1 : Int32).toInt ≠ -1 ∧ zFin (-1 : Int32).toInt (mI S11 66 0).toInt v12.toInt = zAns (f 65) (f 64 1).toInt) from by first | (have qk : v4.toInt = 0 := (by omega); have q := zAns_go (s := (mI S1 64 2)) (e := (mI S1 64 3).toInt) (k := v4.toInt) rp0_S1 rp1_S1 rp0_S3 (by omega); rw [show zPts v4.toInt = [0, 6] from by rw [qk]; rfl] at q; replace q := q.trans (zRun_ok0 (s := (mI S5 64 2)) (e := (mI S5 64 3).toInt) (x := v8.toInt) (p := (mI S1 64 3).toInt) rp0_S5 (by omega) rp1_S5 (show v8.toInt = zNum (f 65) (mI S5 64 2).toInt (mI S5 64 3).toInt 16 1500 from rp0_S7) (by omega)); have q2 := q.trans (zRun_badp (s := (mI S9 64 2)) (e := (mI S9 64 3).toInt) (x := v12.toInt) (p := (mI S5 64 3).toInt) rp0_S9 (by omega) rp1_S9 (zPart_f rp0_S11) (by omega)); exact Or.inl ⟨rfl, by omega⟩) | (omega) | (exfalso; omega)) (show (-1 : Int32).toInt = 5 → ((mI S11 66 0).toInt = zVal (f 65) (f 64 1).toInt 0 1 ∧ v12.toInt = zVal (f 65) (f 64 1).toInt 6 2 ∧ (mI S11 66 2).toInt = zVal (f 65) (f 64 1).toInt 3 3 ∧ (mI S11 66 3).toInt = zVal (f 65) (f 64 1).toInt 7 4) from by first | (intro h; exact absurd h (by decide))) (show ((-1 : Int32).toInt = 0 ∨ (-1 : Int32).toInt = 4) → ((mI S11 66 0).toInt = zVal (f 65) (f 64 1).toInt 0 1 ∧ v12.toInt = zVal (f 65) (f 64 1).toInt 6 2) from by first | (intro h; exact absurd h (by decide))) (show qM1 (-1 : Int32) (mI S11 66 0) (f 65) (f 64 1).toInt from by first | (unfold qM1; intro h; exact absurd h (by decide))) (show qM3 (-1 : Int32) (mI S11 66 0) v12 (mI S11 66 2) (mI S11 66 3) (f 65) (f 64 1).toInt from by first | (unfold qM3; intro h; exact absurd h (by decide))) (show qM6 (-1 : Int32) (mI S11 66 0) v12 (mI S11 66 2) (f 65) (f 64 1).toInt from by first | (unfold qM6; intro h; exact absurd h (by decide))) (show (-1 : Int32).toInt = -1 ∨ (-1 : Int32).toInt = zPol (f 65) (Int32.ofInt (zts (f 65) (f 64 1).toInt 0)) (zte (f 65) (f 64 1).toInt 0 - zts (f 65) (f 64 1).toInt 0) from by first | (exact Or.inl rfl)) (show zFm I0 L0 R0 (ma_put S11 66 1 (.inl v12)) from by first | (exact (fn9_p rp1_S11 (by decide))))
        · skip
          have g126 := i_ne h91
          have hI127 : zR f r C Z N (ma_put S11 66 1 (.inl v12)) := zG_sa hI_S11 (-1) (1500) rfl (by decide) (by decide) (by decide) trivial (by omega) (by omega)
          have q128 : (mI S11 64 3).toInt = (mI S9 64 3).toInt := zG_zi (f := mI S9) hL_S11 rfl
          have f129 := zG_s hI_S11 (0) (100) (c := 64) (k := 3) (by decide)
          refine sp_129_64_sq (p0 := ((mI S11 64 3).toInt)) (I0 := I0) (L0 := L0) (R0 := R0) (by omega) (by omega) (zR_dn_zY hI127) (show (mI S11 64 3).toInt = ((mI S11 64 3).toInt) from by omega) (show zFm I0 L0 R0 (ma_put S11 66 1 (.inl v12)) from by first | (exact (fn9_p rp1_S11 (by decide)))) (fun v14 S13 hL_S13 hp_v14 rp0_S13 rp1_S13 rp2_S13 rp3_S13 rp4_S13 => zi_n ⟨zG_T hL_S13, ?_⟩)
          have hI_S13 := zR_up_zY hI127 hL_S13
          have f130 := zG_s hI_S13 (0) (100) (c := 64) (k := 2) (by decide)
          have rp0_S13 : (mI S13 64 2).toInt = tk true (f 65) (f 64 1).toInt ((mI S11 64 3).toInt) := by
            have z := rp0_S13
            (try rw [show mI (ma_put S11 66 1 (.inl v12)) 65 = f 65 from funext (fun k => zG_z hI127 rfl)] at z)
            (try rw [show mI (ma_put S11 66 1 (.inl v12)) 64 1 = f 64 1 from zG_z hI127 rfl] at z)
            exact z
          have f131 := zG_s hI_S13 (0) (100) (c := 64) (k := 3) (by decide)
          have rp1_S13 : (mI S13 64 3).toInt = tk false (f 65) (f 64 1).toInt (mI S13 64 2).toInt := by
            have z := rp1_S13
            (try rw [show mI (ma_put S11 66 1 (.inl v12)) 65 = f 65 from funext (fun k => zG_z hI127 rfl)] at z)
            (try rw [show mI (ma_put S11 66 1 (.inl v12)) 64 1 = f 64 1 from zG_z hI127 rfl] at z)
            exact z
          have rp2_S13 : (v14.toInt = 1 ∧ (mI S13 64 2).toInt < (mI S13 64 3).toInt) ∨ (v14.toInt = 0 ∧ (mI S13 64 3).toInt ≤ (mI S13 64 2).toInt) := by
            have z := rp2_S13
            (try rw [show mI (ma_put S11 66 1 (.inl v12)) 65 = f 65 from funext (fun k => zG_z hI127 rfl)] at z)
            (try rw [show mI (ma_put S11 66 1 (.inl v12)) 64 1 = f 64 1 from zG_z hI127 rfl] at z)
            exact z
          have rp3_S13 : (mI S13 64 2).toInt ≤ (mI S13 64 3).toInt := by
            have z := rp3_S13
            (try rw [show mI (ma_put S11 66 1 (.inl v12)) 65 = f 65 from funext (fun k => zG_z hI127 rfl)] at z)
            (try rw [show mI (ma_put S11 66 1 (.inl v12)) 64 1 = f 64 1 from zG_z hI127 rfl] at z)
            exact z
          have rp4_S13 : zFm I0 L0 R0 S13 := by
            have z := rp4_S13
            (try rw [show mI (ma_put S11 66 1 (.inl v12)) 65 = f 65 from funext (fun k => zG_z hI127 rfl)] at z)
            (try rw [show mI (ma_put S11 66 1 (.inl v12)) 64 1 = f 64 1 from zG_z hI127 rfl] at z)
            exact z
          have b132 := i_bd v14
          refine zd (fun h133 => ?_) (fun h133 => ?_)
          · skip
            have g134 := i_eq h133
            have q135 : (mI S9 66 0).toInt = v8.toInt := zG_zi (f := mI (ma_put S7 66 0 (.inl v8))) hL_S9 rfl
            have f136 := zG_a hI_S9 4 (-1) (1500) (c := 66) (k := 0) (by decide) (by decide)
            have q137 : (mI S11 66 0).toInt = (mI S9 66 0).toInt := zG_zi (f := mI S9) hL_S11 rfl
            have f138 := zG_a hI_S11 4 (-1) (1500) (c := 66) (k := 0) (by decide) (by decide)
            have q139 : (mI S13 66 0).toInt = (mI S11 66 0).toInt := zG_zi (f := mI (ma_put S11 66 1 (.inl v12))) hL_S13 rfl
            have f140 := zG_a hI_S13 4 (-1) (1500) (c := 66) (k := 0) (by decide) (by decide)
            have q141 : (mI S13 66 1).toInt = v12.toInt := zG_zi (f := mI (ma_put S11 66 1 (.inl v12))) hL_S13 rfl
            have f142 := zG_a hI_S13 4 (-1) (1500) (c := 66) (k := 1) (by decide) (by decide)
            have f143 := zG_a hI 4 (-1) (1500) (c := 66) (k := 2) (by decide) (by decide)
            have q144 : (mI S1 66 2).toInt = (mI S 66 2).toInt := zG_zi (f := mI (ma_put S 64 3 (.inl (0 : Int32)))) hL_S1 rfl
            have f145 := zG_a hI_S1 4 (-1) (1500) (c := 66) (k := 2) (by decide) (by decide)
            have q146 : (mI S3 66 2).toInt = (mI S1 66 2).toInt := zG_zi (f := mI S1) hL_S3 rfl
            have f147 := zG_a hI_S3 4 (-1) (1500) (c := 66) (k := 2) (by decide) (by decide)
            have q148 : (mI S5 66 2).toInt = (mI S3 66 2).toInt := zG_zi (f := mI S3) hL_S5 rfl
            have f149 := zG_a hI_S5 4 (-1) (1500) (c := 66) (k := 2) (by decide) (by decide)
            have q150 : (mI S7 66 2).toInt = (mI S5 66 2).toInt := zG_zi (f := mI S5) hL_S7 rfl
            have f151 := zG_a hI_S7 4 (-1) (1500) (c := 66) (k := 2) (by decide) (by decide)
            have q152 : (mI S9 66 2).toInt = (mI S7 66 2).toInt := zG_zi (f := mI (ma_put S7 66 0 (.inl v8))) hL_S9 rfl
            have f153 := zG_a hI_S9 4 (-1) (1500) (c := 66) (k := 2) (by decide) (by decide)
            have q154 : (mI S11 66 2).toInt = (mI S9 66 2).toInt := zG_zi (f := mI S9) hL_S11 rfl
            have f155 := zG_a hI_S11 4 (-1) (1500) (c := 66) (k := 2) (by decide) (by decide)
            have q156 : (mI S13 66 2).toInt = (mI S11 66 2).toInt := zG_zi (f := mI (ma_put S11 66 1 (.inl v12))) hL_S13 rfl
            have f157 := zG_a hI_S13 4 (-1) (1500) (c := 66) (k := 2) (by decide) (by decide)
            have f158 := zG_a hI 4 (-1) (1500) (c := 66) (k := 3) (by decide) (by decide)
            have q159 : (mI S1 66 3).toInt = (mI S 66 3).toInt := zG_zi (f := mI (ma_put S 64 3 (.inl (0 : Int32)))) hL_S1 rfl
            have f160 := zG_a hI_S1 4 (-1) (1500) (c := 66) (k := 3) (by decide) (by decide)
            have q161 : (mI S3 66 3).toInt = (mI S1 66 3).toInt := zG_zi (f := mI S1) hL_S3 rfl
            have f162 := zG_a hI_S3 4 (-1) (1500) (c := 66) (k := 3) (by decide) (by decide)
            have q163 : (mI S5 66 3).toInt = (mI S3 66 3).toInt := zG_zi (f := mI S3) hL_S5 rfl
            have f164 := zG_a hI_S5 4 (-1) (1500) (c := 66) (k := 3) (by decide) (by decide)
            have q165 : (mI S7 66 3).toInt = (mI S5 66 3).toInt := zG_zi (f := mI S5) hL_S7 rfl
            have f166 := zG_a hI_S7 4 (-1) (1500) (c := 66) (k := 3) (by decide) (by decide)
            have q167 : (mI S9 66 3).toInt = (mI S7 66 3).toInt := zG_zi (f := mI (ma_put S7 66 0 (.inl v8))) hL_S9 rfl
            have f168 := zG_a hI_S9 4 (-1) (1500) (c := 66) (k := 3) (by decide) (by decide)
            have q169 : (mI S11 66 3).toInt = (mI S9 66 3).toInt := zG_zi (f := mI S9) hL_S11 rfl
            have f170 := zG_a hI_S11 4 (-1) (1500) (c := 66) (k := 3) (by decide) (by decide)
            have q171 : (mI S13 66 3).toInt = (mI S11 66 3).toInt := zG_zi (f := mI (ma_put S11 66 1 (.inl v12))) hL_S13 rfl
            have f172 := zG_a hI_S13 4 (-1) (1500) (c := 66) (k := 3) (by decide) (by decide)
            exact K (v4) _ hI_S13 (show v4.toInt = -1 ∨ (0 ≤ v4.toInt ∧ v4.toInt ≤ 6 ∧ 0 ≤ (mI S13 66 0).toInt ∧ (v4.toInt = 3 → 0 ≤ (mI S13 66 1).toInt) ∧ (v4.toInt = 6 → 16 ≤ (mI S13 66 1).toInt)) from by omega) (show (v4.toInt = -1 ∧ -1 - (mI S13 64 2).toInt = zAns (f 65) (f 64 1).toInt) ∨ (v4.toInt ≠ -1 ∧ zFin v4.toInt (mI S13 66 0).toInt (mI S13 66 1).toInt = zAns (f 65) (f 64 1).toInt) from by first | (have qk : v4.toInt = 0 := (by omega); have q := zAns_go (s := (mI S1 64 2)) (e := (mI S1 64 3).toInt) (k := v4.toInt) rp0_S1 rp1_S1 rp0_S3 (by omega); rw [show zPts v4.toInt = [0, 6] from by rw [qk]; rfl] at q; replace q := q.trans (zRun_ok0 (s := (mI S5 64 2)) (e := (mI S5 64 3).toInt) (x := v8.toInt) (p := (mI S1 64 3).toInt) rp0_S5 (by omega) rp1_S5 (show v8.toInt = zNum (f 65) (mI S5 64 2).toInt (mI S5 64 3).toInt 16 1500 from rp0_S7) (by omega)); replace q := q.trans (zRun_okn (s := (mI S9 64 2)) (e := (mI S9 64 3).toInt) (x := v12.toInt) (p := (mI S5 64 3).toInt) rp0_S9 (by omega) rp1_S9 (zPart_f rp0_S11) (by omega) (by omega)); have q2 := q.trans (zEnd_okp (s := (mI S13 64 2)) (e := (mI S13 64 3).toInt) (p := (mI S9 64 3).toInt) rp0_S13 (by omega) rp1_S13 (by omega)); exact Or.inr ⟨by omega, (zFin_eq (by omega) (by omega)).trans q2.symm⟩) | (omega) | (exfalso; omega)) (show v4.toInt = 5 → ((mI S13 66 0).toInt = zVal (f 65) (f 64 1).toInt 0 1 ∧ (mI S13 66 1).toInt = zVal (f 65) (f 64 1).toInt 6 2 ∧ (mI S13 66 2).toInt = zVal (f 65) (f 64 1).toInt 3 3 ∧ (mI S13 66 3).toInt = zVal (f 65) (f 64 1).toInt 7 4) from by first | (intro h; exfalso; omega)) (show (v4.toInt = 0 ∨ v4.toInt = 4) → ((mI S13 66 0).toInt = zVal (f 65) (f 64 1).toInt 0 1 ∧ (mI S13 66 1).toInt = zVal (f 65) (f 64 1).toInt 6 2) from by first | (intro _; have a0 : (mI S1 64 2).toInt = zts (f 65) (f 64 1).toInt 0 := rp0_S1; have b0 : (mI S1 64 3).toInt = zte (f 65) (f 64 1).toInt 0 := zt_e rp1_S1 a0; have a1 : (mI S5 64 2).toInt = zts (f 65) (f 64 1).toInt 1 := zt_s rp0_S5 (by omega) b0; have b1 : (mI S5 64 3).toInt = zte (f 65) (f 64 1).toInt 1 := zt_e rp1_S5 a1; have a2 : (mI S9 64 2).toInt = zts (f 65) (f 64 1).toInt 2 := zt_s rp0_S9 (by omega) b1; have b2 : (mI S9 64 3).toInt = zte (f 65) (f 64 1).toInt 2 := zt_e rp1_S9 a2; have z0 := (show v8.toInt = zVal (f 65) (f 64 1).toInt 0 1 from (show v8.toInt = zNum (f 65) (mI S5 64 2).toInt (mI S5 64 3).toInt 16 1500 from rp0_S7).trans (by rw [a1, b1]; rfl)); have z1 := (show v12.toInt = zVal (f 65) (f 64 1).toInt 6 2 from (zPart_f (a := 0) rp0_S11).trans (by rw [a2, b2]; rfl)); exact ⟨by omega, by omega⟩)) (show qM1 v4 (mI S13 66 0) (f 65) (f 64 1).toInt from by first | (unfold qM1; intro h; exfalso; omega)) (show qM3 v4 (mI S13 66 0) (mI S13 66 1) (mI S13 66 2) (mI S13 66 3) (f 65) (f 64 1).toInt from by first | (unfold qM3; intro h; exfalso; omega)) (show qM6 v4 (mI S13 66 0) (mI S13 66 1) (mI S13 66 2) (f 65) (f 64 1).toInt from by first | (unfold qM6; intro h; exfalso; omega)) (show v4.toInt = -1 ∨ v4.toInt = zPol (f 65) (Int32.ofInt (zts (f 65) (f 64 1).toInt 0)) (zte (f 65) (f 64 1).toInt 0 - zts (f 65) (f 64 1).toInt 0) from by first | (exact Or.inr (zt_p rp0_S1 rp1_S1 rp0_S3))) (show zFm I0 L0 R0 S13 from by first | (exact rp4_S13))
          · skip
            have g173 := i_ne h133
            have q174 : (mI S9 66 0).toInt = v8.toInt := zG_zi (f := mI (ma_put S7 66 0 (.inl v8))) hL_S9 rfl
            have f175 := zG_a hI_S9 4 (-1) (1500) (c := 66) (k := 0) (by decide) (by decide)
            have q176 : (mI S11 66 0).toInt = (mI S9 66 0).toInt := zG_zi (f := mI S9) hL_S11 rfl
            have f177 := zG_a hI_S11 4 (-1) (1500) (c := 66) (k := 0) (by decide) (by decide)
            have q178 : (mI S13 66 0).toInt = (mI S11 66 0).toInt := zG_zi (f := mI (ma_put S11 66 1 (.inl v12))) hL_S13 rfl
            have f179 := zG_a hI_S13 4 (-1) (1500) (c := 66) (k := 0) (by decide) (by decide)
            have q180 : (mI S13 66 1).toInt = v12.toInt := zG_zi (f := mI (ma_put S11 66 1 (.inl v12))) hL_S13 rfl
            have f181 := zG_a hI_S13 4 (-1) (1500) (c := 66) (k := 1) (by decide) (by decide)
            have f182 := zG_a hI 4 (-1) (1500) (c := 66) (k := 2) (by decide) (by decide)
            have q183 : (mI S1 66 2).toInt = (mI S 66 2).toInt := zG_zi (f := mI (ma_put S 64 3 (.inl (0 : Int32)))) hL_S1 rfl
            have f184 := zG_a hI_S1 4 (-1) (1500) (c := 66) (k := 2) (by decide) (by decide)
            have q185 : (mI S3 66 2).toInt = (mI S1 66 2).toInt := zG_zi (f := mI S1) hL_S3 rfl
            have f186 := zG_a hI_S3 4 (-1) (1500) (c := 66) (k := 2) (by decide) (by decide)
            have q187 : (mI S5 66 2).toInt = (mI S3 66 2).toInt := zG_zi (f := mI S3) hL_S5 rfl
            have f188 := zG_a hI_S5 4 (-1) (1500) (c := 66) (k := 2) (by decide) (by decide)
            have q189 : (mI S7 66 2).toInt = (mI S5 66 2).toInt := zG_zi (f := mI S5) hL_S7 rfl
            have f190 := zG_a hI_S7 4 (-1) (1500) (c := 66) (k := 2) (by decide) (by decide)
            have q191 : (mI S9 66 2).toInt = (mI S7 66 2).toInt := zG_zi (f := mI (ma_put S7 66 0 (.inl v8))) hL_S9 rfl
            have f192 := zG_a hI_S9 4 (-1) (1500) (c := 66) (k := 2) (by decide) (by decide)
            have q193 : (mI S11 66 2).toInt = (mI S9 66 2).toInt := zG_zi (f := mI S9) hL_S11 rfl
            have f194 := zG_a hI_S11 4 (-1) (1500) (c := 66) (k := 2) (by decide) (by decide)
            have q195 : (mI S13 66 2).toInt = (mI S11 66 2).toInt := zG_zi (f := mI (ma_put S11 66 1 (.inl v12))) hL_S13 rfl
            have f196 := zG_a hI_S13 4 (-1) (1500) (c := 66) (k := 2) (by decide) (by decide)
            have f197 := zG_a hI 4 (-1) (1500) (c := 66) (k := 3) (by decide) (by decide)
            have q198 : (mI S1 66 3).toInt = (mI S 66 3).toInt := zG_zi (f := mI (ma_put S 64 3 (.inl (0 : Int32)))) hL_S1 rfl
            have f199 := zG_a hI_S1 4 (-1) (1500) (c := 66) (k := 3) (by decide) (by decide)
            have q200 : (mI S3 66 3).toInt = (mI S1 66 3).toInt := zG_zi (f := mI S1) hL_S3 rfl
            have f201 := zG_a hI_S3 4 (-1) (1500) (c := 66) (k := 3) (by decide) (by decide)
            have q202 : (mI S5 66 3).toInt = (mI S3 66 3).toInt := zG_zi (f := mI S3) hL_S5 rfl
            have f203 := zG_a hI_S5 4 (-1) (1500) (c := 66) (k := 3) (by decide) (by decide)
            have q204 : (mI S7 66 3).toInt = (mI S5 66 3).toInt := zG_zi (f := mI S5) hL_S7 rfl
            have f205 := zG_a hI_S7 4 (-1) (1500) (c := 66) (k := 3) (by decide) (by decide)
            have q206 : (mI S9 66 3).toInt = (mI S7 66 3).toInt := zG_zi (f := mI (ma_put S7 66 0 (.inl v8))) hL_S9 rfl
            have f207 := zG_a hI_S9 4 (-1) (1500) (c := 66) (k := 3) (by decide) (by decide)
            have q208 : (mI S11 66 3).toInt = (mI S9 66 3).toInt := zG_zi (f := mI S9) hL_S11 rfl
            have f209 := zG_a hI_S11 4 (-1) (1500) (c := 66) (k := 3) (by decide) (by decide)
            have q210 : (mI S13 66 3).toInt = (mI S11 66 3).toInt := zG_zi (f := mI (ma_put S11 66 1 (.inl v12))) hL_S13 rfl
            have f211 := zG_a hI_S13 4 (-1) (1500) (c := 66) (k := 3) (by decide) (by decide)
            exact K ((-1 : Int32)) _ hI_S13 (show (-1 : Int32).toInt = -1 ∨ (0 ≤ (-1 : Int32).toInt ∧ (-1 : Int32).toInt ≤ 6 ∧ 0 ≤ (mI S13 66 0).toInt ∧ ((-1 : Int32).toInt = 3 → 0 ≤ (mI S13 66 1).toInt) ∧ ((-1 : Int32).toInt = 6 → 16 ≤ (mI S13 66 1).toInt)) from by omega) (show ((-1 : Int32).toInt = -1 ∧ -1 - (mI S13 64 2).toInt = zAns (f 65) (f 64 1).toInt) ∨ ((-1 : Int32).toInt ≠ -1 ∧ zFin (-1 : Int32).toInt (mI S13 66 0).toInt (mI S13 66 1).toInt = zAns (f 65) (f 64 1).toInt) from by first | (have qk : v4.toInt = 0 := (by omega); have q := zAns_go (s := (mI S1 64 2)) (e := (mI S1 64 3).toInt) (k := v4.toInt) rp0_S1 rp1_S1 rp0_S3 (by omega); rw [show zPts v4.toInt = [0, 6] from by rw [qk]; rfl] at q; replace q := q.trans (zRun_ok0 (s := (mI S5 64 2)) (e := (mI S5 64 3).toInt) (x := v8.toInt) (p := (mI S1 64 3).toInt) rp0_S5 (by omega) rp1_S5 (show v8.toInt = zNum (f 65) (mI S5 64 2).toInt (mI S5 64 3).toInt 16 1500 from rp0_S7) (by omega)); replace q := q.trans (zRun_okn (s := (mI S9 64 2)) (e := (mI S9 64 3).toInt) (x := v12.toInt) (p := (mI S5 64 3).toInt) rp0_S9 (by omega) rp1_S9 (zPart_f rp0_S11) (by omega) (by omega)); have q2 := q.trans (zEnd_badp (s := (mI S13 64 2)) (e := (mI S13 64 3).toInt) (p := (mI S9 64 3).toInt) rp0_S13 (by omega) rp1_S13 (by omega)); exact Or.inl ⟨rfl, by omega⟩) | (omega) | (exfalso; omega)) (show (-1 : Int32).toInt = 5 → ((mI S13 66 0).toInt = zVal (f 65) (f 64 1).toInt 0 1 ∧ (mI S13 66 1).toInt = zVal (f 65) (f 64 1).toInt 6 2 ∧ (mI S13 66 2).toInt = zVal (f 65) (f 64 1).toInt 3 3 ∧ (mI S13 66 3).toInt = zVal (f 65) (f 64 1).toInt 7 4) from by first | (intro h; exact absurd h (by decide))) (show ((-1 : Int32).toInt = 0 ∨ (-1 : Int32).toInt = 4) → ((mI S13 66 0).toInt = zVal (f 65) (f 64 1).toInt 0 1 ∧ (mI S13 66 1).toInt = zVal (f 65) (f 64 1).toInt 6 2) from by first | (intro h; exact absurd h (by decide))) (show qM1 (-1 : Int32) (mI S13 66 0) (f 65) (f 64 1).toInt from by first | (unfold qM1; intro h; exact absurd h (by decide))) (show qM3 (-1 : Int32) (mI S13 66 0) (mI S13 66 1) (mI S13 66 2) (mI S13 66 3) (f 65) (f 64 1).toInt from by first | (unfold qM3; intro h; exact absurd h (by decide))) (show qM6 (-1 : Int32) (mI S13 66 0) (mI S13 66 1) (mI S13 66 2) (f 65) (f 64 1).toInt from by first | (unfold qM6; intro h; exact absurd h (by decide))) (show (-1 : Int32).toInt = -1 ∨ (-1 : Int32).toInt = zPol (f 65) (Int32.ofInt (zts (f 65) (f 64 1).toInt 0)) (zte (f 65) (f 64 1).toInt 0 - zts (f 65) (f 64 1).toInt 0) from by first | (exact Or.inl rfl)) (show zFm I0 L0 R0 S13 from by first | (exact rp4_S13))
  · skip
    have g212 := i_ne h6
    have li213 : (1 : Int32).toInt = 1 := rfl
    refine zd (fun h214 => ?_) (fun h214 => ?_)
    · skip
      have g215 := i_eq h214
      have q216 : (mI S3 64 3).toInt = (mI S1 64 3).toInt := zG_zi (f := mI S1) hL_S3 rfl
      have f217 := zG_s hI_S3 (0) (100) (c := 64) (k := 3) (by decide)
      refine sp_129_64_sq (p0 := ((mI S3 64 3).toInt)) (I0 := I0) (L0 := L0) (R0 := R0) (by omega) (by omega) (zR_dn_zY hI_S3) (show (mI S3 64 3).toInt = ((mI S3 64 3).toInt) from by omega) (show zFm I0 L0 R0 S3 from by first | (exact rp1_S3)) (fun v16 S15 hL_S15 hp_v16 rp0_S15 rp1_S15 rp2_S15 rp3_S15 rp4_S15 => zi_n ⟨zG_T hL_S15, ?_⟩)
      have hI_S15 := zR_up_zY hI_S3 hL_S15
      have f218 := zG_s hI_S15 (0) (100) (c := 64) (k := 2) (by decide)
      have rp0_S15 : (mI S15 64 2).toInt = tk true (f 65) (f 64 1).toInt ((mI S3 64 3).toInt) := by
        have z := rp0_S15
        (try rw [show mI S3 65 = f 65 from funext (fun k => zG_z hI_S3 rfl)] at z)
        (try rw [show mI S3 64 1 = f 64 1 from zG_z hI_S3 rfl] at z)
        exact z
      have f219 := zG_s hI_S15 (0) (100) (c := 64) (k := 3) (by decide)
      have rp1_S15 : (mI S15 64 3).toInt = tk false (f 65) (f 64 1).toInt (mI S15 64 2).toInt := by
        have z := rp1_S15
        (try rw [show mI S3 65 = f 65 from funext (fun k => zG_z hI_S3 rfl)] at z)
        (try rw [show mI S3 64 1 = f 64 1 from zG_z hI_S3 rfl] at z)
        exact z
      have rp2_S15 : (v16.toInt = 1 ∧ (mI S15 64 2).toInt < (mI S15 64 3).toInt) ∨ (v16.toInt = 0 ∧ (mI S15 64 3).toInt ≤ (mI S15 64 2).toInt) := by
        have z := rp2_S15
        (try rw [show mI S3 65 = f 65 from funext (fun k => zG_z hI_S3 rfl)] at z)
        (try rw [show mI S3 64 1 = f 64 1 from zG_z hI_S3 rfl] at z)
        exact z
      have rp3_S15 : (mI S15 64 2).toInt ≤ (mI S15 64 3).toInt := by
        have z := rp3_S15
        (try rw [show mI S3 65 = f 65 from funext (fun k => zG_z hI_S3 rfl)] at z)
        (try rw [show mI S3 64 1 = f 64 1 from zG_z hI_S3 rfl] at z)
        exact z
      have rp4_S15 : zFm I0 L0 R0 S15 := by
        have z := rp4_S15
        (try rw [show mI S3 65 = f 65 from funext (fun k => zG_z hI_S3 rfl)] at z)
        (try rw [show mI S3 64 1 = f 64 1 from zG_z hI_S3 rfl] at z)
        exact z
      have li220 : (16 : Int32).toInt = 16 := rfl
      have li221 : (1500 : Int32).toInt = 1500 := rfl
      refine sp_134_64_sq (I0 := I0) (L0 := L0) (R0 := R0) ((16 : Int32)) ((1500 : Int32)) (by omega) (by omega) (zR_dn_zY0 hI_S15) (show (mI S15 64 2).toInt ≤ (mI S15 64 3).toInt from by omega) (show zFm I0 L0 R0 S15 from by first | (exact rp4_S15)) (fun v18 S17 hL_S17 hp_v18 rp0_S17 rp1_S17 => zi_n ⟨zG_T hL_S17, ?_⟩)
      have hI_S17 := zR_up_zY0 hI_S15 hL_S17
      have rp0_S17 : v18.toInt = zNum (f 65) (mI S15 64 2).toInt (mI S15 64 3).toInt (16 : Int32).toInt (1500 : Int32).toInt := by
        have z := rp0_S17
        (try rw [show mI S15 65 = f 65 from funext (fun k => zG_z hI_S15 rfl)] at z)
        (try rw [show mI S15 64 1 = f 64 1 from zG_z hI_S15 rfl] at z)
        exact z
      have rp1_S17 : zFm I0 L0 R0 S17 := by
        have z := rp1_S17
        (try rw [show mI S15 65 = f 65 from funext (fun k => zG_z hI_S15 rfl)] at z)
        (try rw [show mI S15 64 1 = f 64 1 from zG_z hI_S15 rfl] at z)
        exact z
      have b222 := i_bd v18
      have li223 : (-1 : Int32).toInt = -1 := rfl
      refine zd (fun h224 => ?_) (fun h224 => ?_)
      · skip
        have g225 := i_eq h224
        have hI226 : zR f r C Z N (ma_put S17 66 0 (.inl v18)) := zG_sa hI_S17 (-1) (1500) rfl (by decide) (by decide) (by decide) trivial (by omega) (by omega)
        have f227 := zG_a hI 4 (-1) (1500) (c := 66) (k := 1) (by decide) (by decide)
        have q228 : (mI S1 66 1).toInt = (mI S 66 1).toInt := zG_zi (f := mI (ma_put S 64 3 (.inl (0 : Int32)))) hL_S1 rfl
        have f229 := zG_a hI_S1 4 (-1) (1500) (c := 66) (k := 1) (by decide) (by decide)
        have q230 : (mI S3 66 1).toInt = (mI S1 66 1).toInt := zG_zi (f := mI S1) hL_S3 rfl
        have f231 := zG_a hI_S3 4 (-1) (1500) (c := 66) (k := 1) (by decide) (by decide)
        have q232 : (mI S15 66 1).toInt = (mI S3 66 1).toInt := zG_zi (f := mI S3) hL_S15 rfl
        have f233 := zG_a hI_S15 4 (-1) (1500) (c := 66) (k := 1) (by decide) (by decide)
        have q234 : (mI S17 66 1).toInt = (mI S15 66 1).toInt := zG_zi (f := mI S15) hL_S17 rfl
        have f235 := zG_a hI_S17 4 (-1) (1500) (c := 66) (k := 1) (by decide) (by decide)
        have q236 : (mI S17 64 2).toInt = (mI S15 64 2).toInt := zG_zi (f := mI S15) hL_S17 rfl
        have f237 := zG_s hI_S17 (0) (100) (c := 64) (k := 2) (by decide)
        have f238 := zG_a hI 4 (-1) (1500) (c := 66) (k := 2) (by decide) (by decide)
        have q239 : (mI S1 66 2).toInt = (mI S 66 2).toInt := zG_zi (f := mI (ma_put S 64 3 (.inl (0 : Int32)))) hL_S1 rfl
        have f240 := zG_a hI_S1 4 (-1) (1500) (c := 66) (k := 2) (by decide) (by decide)
        have q241 : (mI S3 66 2).toInt = (mI S1 66 2).toInt := zG_zi (f := mI S1) hL_S3 rfl
        have f242 := zG_a hI_S3 4 (-1) (1500) (c := 66) (k := 2) (by decide) (by decide)
        have q243 : (mI S15 66 2).toInt = (mI S3 66 2).toInt := zG_zi (f := mI S3) hL_S15 rfl
        have f244 := zG_a hI_S15 4 (-1) (1500) (c := 66) (k := 2) (by decide) (by decide)
        have q245 : (mI S17 66 2).toInt = (mI S15 66 2).toInt := zG_zi (f := mI S15) hL_S17 rfl
        have f246 := zG_a hI_S17 4 (-1) (1500) (c := 66) (k := 2) (by decide) (by decide)
        have f247 := zG_a hI 4 (-1) (1500) (c := 66) (k := 3) (by decide) (by decide)
        have q248 : (mI S1 66 3).toInt = (mI S 66 3).toInt := zG_zi (f := mI (ma_put S 64 3 (.inl (0 : Int32)))) hL_S1 rfl
        have f249 := zG_a hI_S1 4 (-1) (1500) (c := 66) (k := 3) (by decide) (by decide)
        have q250 : (mI S3 66 3).toInt = (mI S1 66 3).toInt := zG_zi (f := mI S1) hL_S3 rfl
        have f251 := zG_a hI_S3 4 (-1) (1500) (c := 66) (k := 3) (by decide) (by decide)
        have q252 : (mI S15 66 3).toInt = (mI S3 66 3).toInt := zG_zi (f := mI S3) hL_S15 rfl
        have f253 := zG_a hI_S15 4 (-1) (1500) (c := 66) (k := 3) (by decide) (by decide)
        have q254 : (mI S17 66 3).toInt = (mI S15 66 3).toInt := zG_zi (f := mI S15) hL_S17 rfl
        have f255 := zG_a hI_S17 4 (-1) (1500) (c := 66) (k := 3) (by decide) (by decide)
        exact K ((-1 : Int32)) _ hI226 (show (-1 : Int32).toInt = -1 ∨ (0 ≤ (-1 : Int32).toInt ∧ (-1 : Int32).toInt ≤ 6 ∧ 0 ≤ v18.toInt ∧ ((-1 : Int32).toInt = 3 → 0 ≤ (mI S17 66 1).toInt) ∧ ((-1 : Int32).toInt = 6 → 16 ≤ (mI S17 66 1).toInt)) from by omega) (show ((-1 : Int32).toInt = -1 ∧ -1 - (mI S17 64 2).toInt = zAns (f 65) (f 64 1).toInt) ∨ ((-1 : Int32).toInt ≠ -1 ∧ zFin (-1 : Int32).toInt v18.toInt (mI S17 66 1).toInt = zAns (f 65) (f 64 1).toInt) from by first | (have qk : v4.toInt = 1 := (by omega); have q := zAns_go (s := (mI S1 64 2)) (e := (mI S1 64 3).toInt) (k := v4.toInt) rp0_S1 rp1_S1 rp0_S3 (by omega); rw [show zPts v4.toInt = [0] from by rw [qk]; rfl] at q; have q2 := q.trans (zRun_badp (s := (mI S15 64 2)) (e := (mI S15 64 3).toInt) (x := v18.toInt) (p := (mI S1 64 3).toInt) rp0_S15 (by omega) rp1_S15 (show v18.toInt = zNum (f 65) (mI S15 64 2).toInt (mI S15 64 3).toInt 16 1500 from rp0_S17) (by omega)); exact Or.inl ⟨rfl, by omega⟩) | (omega) | (exfalso; omega)) (show (-1 : Int32).toInt = 5 → (v18.toInt = zVal (f 65) (f 64 1).toInt 0 1 ∧ (mI S17 66 1).toInt = zVal (f 65) (f 64 1).toInt 6 2 ∧ (mI S17 66 2).toInt = zVal (f 65) (f 64 1).toInt 3 3 ∧ (mI S17 66 3).toInt = zVal (f 65) (f 64 1).toInt 7 4) from by first | (intro h; exact absurd h (by decide))) (show ((-1 : Int32).toInt = 0 ∨ (-1 : Int32).toInt = 4) → (v18.toInt = zVal (f 65) (f 64 1).toInt 0 1 ∧ (mI S17 66 1).toInt = zVal (f 65) (f 64 1).toInt 6 2) from by first | (intro h; exact absurd h (by decide))) (show qM1 (-1 : Int32) v18 (f 65) (f 64 1).toInt from by first | (unfold qM1; intro h; exact absurd h (by decide))) (show qM3 (-1 : Int32) v18 (mI S17 66 1) (mI S17 66 2) (mI S17 66 3) (f 65) (f 64 1).toInt from by first | (unfold qM3; intro h; exact absurd h (by decide))) (show qM6 (-1 : Int32) v18 (mI S17 66 1) (mI S17 66 2) (f 65) (f 64 1).toInt from by first | (unfold qM6; intro h; exact absurd h (by decide))) (show (-1 : Int32).toInt = -1 ∨ (-1 : Int32).toInt = zPol (f 65) (Int32.ofInt (zts (f 65) (f 64 1).toInt 0)) (zte (f 65) (f 64 1).toInt 0 - zts (f 65) (f 64 1).toInt 0) from by first | (exact Or.inl rfl)) (show zFm I0 L0 R0 (ma_put S17 66 0 (.inl v18)) from by first | (exact (fn9_p rp1_S17 (by decide))))
      · skip
        have g256 := i_ne h224
        refine zd (fun h257 => ?_) (fun h257 => ?_)
        · skip
          have g258 := i_eq h257
          have hI259 : zR f r C Z N (ma_put S17 66 0 (.inl v18)) := zG_sa hI_S17 (-1) (1500) rfl (by decide) (by decide) (by decide) trivial (by omega) (by omega)
          have f260 := zG_a hI 4 (-1) (1500) (c := 66) (k := 1) (by decide) (by decide)
          have q261 : (mI S1 66 1).toInt = (mI S 66 1).toInt := zG_zi (f := mI (ma_put S 64 3 (.inl (0 : Int32)))) hL_S1 rfl
          have f262 := zG_a hI_S1 4 (-1) (1500) (c := 66) (k := 1) (by decide) (by decide)
          have q263 : (mI S3 66 1).toInt = (mI S1 66 1).toInt := zG_zi (f := mI S1) hL_S3 rfl
          have f264 := zG_a hI_S3 4 (-1) (1500) (c := 66) (k := 1) (by decide) (by decide)
          have q265 : (mI S15 66 1).toInt = (mI S3 66 1).toInt := zG_zi (f := mI S3) hL_S15 rfl
          have f266 := zG_a hI_S15 4 (-1) (1500) (c := 66) (k := 1) (by decide) (by decide)
          have q267 : (mI S17 66 1).toInt = (mI S15 66 1).toInt := zG_zi (f := mI S15) hL_S17 rfl
          have f268 := zG_a hI_S17 4 (-1) (1500) (c := 66) (k := 1) (by decide) (by decide)
          have q269 : (mI S17 64 2).toInt = (mI S15 64 2).toInt := zG_zi (f := mI S15) hL_S17 rfl
          have f270 := zG_s hI_S17 (0) (100) (c := 64) (k := 2) (by decide)
          have f271 := zG_a hI 4 (-1) (1500) (c := 66) (k := 2) (by decide) (by decide)
          have q272 : (mI S1 66 2).toInt = (mI S 66 2).toInt := zG_zi (f := mI (ma_put S 64 3 (.inl (0 : Int32)))) hL_S1 rfl
          have f273 := zG_a hI_S1 4 (-1) (1500) (c := 66) (k := 2) (by decide) (by decide)
          have q274 : (mI S3 66 2).toInt = (mI S1 66 2).toInt := zG_zi (f := mI S1) hL_S3 rfl
          have f275 := zG_a hI_S3 4 (-1) (1500) (c := 66) (k := 2) (by decide) (by decide)
          have q276 : (mI S15 66 2).toInt = (mI S3 66 2).toInt := zG_zi (f := mI S3) hL_S15 rfl
          have f277 := zG_a hI_S15 4 (-1) (1500) (c := 66) (k := 2) (by decide) (by decide)
          have q278 : (mI S17 66 2).toInt = (mI S15 66 2).toInt := zG_zi (f := mI S15) hL_S17 rfl
          have f279 := zG_a hI_S17 4 (-1) (1500) (c := 66) (k := 2) (by decide) (by decide)
          have f280 := zG_a hI 4 (-1) (1500) (c := 66) (k := 3) (by decide) (by decide)
          have q281 : (mI S1 66 3).toInt = (mI S 66 3).toInt := zG_zi (f := mI (ma_put S 64 3 (.inl (0 : Int32)))) hL_S1 rfl
          have f282 := zG_a hI_S1 4 (-1) (1500) (c := 66) (k := 3) (by decide) (by decide)
          have q283 : (mI S3 66 3).toInt = (mI S1 66 3).toInt := zG_zi (f := mI S1) hL_S3 rfl
          have f284 := zG_a hI_S3 4 (-1) (1500) (c := 66) (k := 3) (by decide) (by decide)
          have q285 : (mI S15 66 3).toInt = (mI S3 66 3).toInt := zG_zi (f := mI S3) hL_S15 rfl
          have f286 := zG_a hI_S15 4 (-1) (1500) (c := 66) (k := 3) (by decide) (by decide)
          have q287 : (mI S17 66 3).toInt = (mI S15 66 3).toInt := zG_zi (f := mI S15) hL_S17 rfl
          have f288 := zG_a hI_S17 4 (-1) (1500) (c := 66) (k := 3) (by decide) (by decide)
          exact K ((-1 : Int32)) _ hI259 (show (-1 : Int32).toInt = -1 ∨ (0 ≤ (-1 : Int32).toInt ∧ (-1 : Int32).toInt ≤ 6 ∧ 0 ≤ v18.toInt ∧ ((-1 : Int32).toInt = 3 → 0 ≤ (mI S17 66 1).toInt) ∧ ((-1 : Int32).toInt = 6 → 16 ≤ (mI S17 66 1).toInt)) from by omega) (show ((-1 : Int32).toInt = -1 ∧ -1 - (mI S17 64 2).toInt = zAns (f 65) (f 64 1).toInt) ∨ ((-1 : Int32).toInt ≠ -1 ∧ zFin (-1 : Int32).toInt v18.toInt (mI S17 66 1).toInt = zAns (f 65) (f 64 1).toInt) from by first | (have qk : v4.toInt = 1 := (by omega); have q := zAns_go (s := (mI S1 64 2)) (e := (mI S1 64 3).toInt) (k := v4.toInt) rp0_S1 rp1_S1 rp0_S3 (by omega); rw [show zPts v4.toInt = [0] from by rw [qk]; rfl] at q; have q2 := q.trans (zRun_badp (s := (mI S15 64 2)) (e := (mI S15 64 3).toInt) (x := v18.toInt) (p := (mI S1 64 3).toInt) rp0_S15 (by omega) rp1_S15 (show v18.toInt = zNum (f 65) (mI S15 64 2).toInt (mI S15 64 3).toInt 16 1500 from rp0_S17) (by omega)); exact Or.inl ⟨rfl, by omega⟩) | (omega) | (exfalso; omega)) (show (-1 : Int32).toInt = 5 → (v18.toInt = zVal (f 65) (f 64 1).toInt 0 1 ∧ (mI S17 66 1).toInt = zVal (f 65) (f 64 1).toInt 6 2 ∧ (mI S17 66 2).toInt = zVal (f 65) (f 64 1).toInt 3 3 ∧ (mI S17 66 3).toInt = zVal (f 65) (f 64 1).toInt 7 4) from by first | (intro h; exact absurd h (by decide))) (show ((-1 : Int32).toInt = 0 ∨ (-1 : Int32).toInt = 4) → (v18.toInt = zVal (f 65) (f 64 1).toInt 0 1 ∧ (mI S17 66 1).toInt = zVal (f 65) (f 64 1).toInt 6 2) from by first | (intro h; exact absurd h (by decide))) (show qM1 (-1 : Int32) v18 (f 65) (f 64 1).toInt from by first | (unfold qM1; intro h; exact absurd h (by decide))) (show qM3 (-1 : Int32) v18 (mI S17 66 1) (mI S17 66 2) (mI S17 66 3) (f 65) (f 64 1).toInt from by first | (unfold qM3; intro h; exact absurd h (by decide))) (show qM6 (-1 : Int32) v18 (mI S17 66 1) (mI S17 66 2) (f 65) (f 64 1).toInt from by first | (unfold qM6; intro h; exact absurd h (by decide))) (show (-1 : Int32).toInt = -1 ∨ (-1 : Int32).toInt = zPol (f 65) (Int32.ofInt (zts (f 65) (f 64 1).toInt 0)) (zte (f 65) (f 64 1).toInt 0 - zts (f 65) (f 64 1).toInt 0) from by first | (exact Or.inl rfl)) (show zFm I0 L0 R0 (ma_put S17 66 0 (.inl v18)) from by first | (exact (fn9_p rp1_S17 (by decide))))
        · skip
          have g289 := i_ne h257
          have hI290 : zR f r C Z N (ma_put S17 66 0 (.inl v18)) := zG_sa hI_S17 (-1) (1500) rfl (by decide) (by decide) (by decide) trivial (by omega) (by omega)
          have q291 : (mI S17 64 3).toInt = (mI S15 64 3).toInt := zG_zi (f := mI S15) hL_S17 rfl
          have f292 := zG_s hI_S17 (0) (100) (c := 64) (k := 3) (by decide)
          refine sp_129_64_sq (p0 := ((mI S17 64 3).toInt)) (I0 := I0) (L0 := L0) (R0 := R0) (by omega) (by omega) (zR_dn_zY hI290) (show (mI S17 64 3).toInt = ((mI S17 64 3).toInt) from by omega) (show zFm I0 L0 R0 (ma_put S17 66 0 (.inl v18)) from by first | (exact (fn9_p rp1_S17 (by decide)))) (fun v20 S19 hL_S19 hp_v20 rp0_S19 rp1_S19 rp2_S19 rp3_S19 rp4_S19 => zi_n ⟨zG_T hL_S19, ?_⟩)
          have hI_S19 := zR_up_zY hI290 hL_S19
          have f293 := zG_s hI_S19 (0) (100) (c := 64) (k := 2) (by decide)
          have rp0_S19 : (mI S19 64 2).toInt = tk true (f 65) (f 64 1).toInt ((mI S17 64 3).toInt) := by
            have z := rp0_S19
            (try rw [show mI (ma_put S17 66 0 (.inl v18)) 65 = f 65 from funext (fun k => zG_z hI290 rfl)] at z)
            (try rw [show mI (ma_put S17 66 0 (.inl v18)) 64 1 = f 64 1 from zG_z hI290 rfl] at z)
            exact z
          have f294 := zG_s hI_S19 (0) (100) (c := 64) (k := 3) (by decide)
          have rp1_S19 : (mI S19 64 3).toInt = tk false (f 65) (f 64 1).toInt (mI S19 64 2).toInt := by
            have z := rp1_S19
            (try rw [show mI (ma_put S17 66 0 (.inl v18)) 65 = f 65 from funext (fun k => zG_z hI290 rfl)] at z)
            (try rw [show mI (ma_put S17 66 0 (.inl v18)) 64 1 = f 64 1 from zG_z hI290 rfl] at z)
            exact z
          have rp2_S19 : (v20.toInt = 1 ∧ (mI S19 64 2).toInt < (mI S19 64 3).toInt) ∨ (v20.toInt = 0 ∧ (mI S19 64 3).toInt ≤ (mI S19 64 2).toInt) := by
            have z := rp2_S19
            (try rw [show mI (ma_put S17 66 0 (.inl v18)) 65 = f 65 from funext (fun k => zG_z hI290 rfl)] at z)
            (try rw [show mI (ma_put S17 66 0 (.inl v18)) 64 1 = f 64 1 from zG_z hI290 rfl] at z)
            exact z
          have rp3_S19 : (mI S19 64 2).toInt ≤ (mI S19 64 3).toInt := by
            have z := rp3_S19
            (try rw [show mI (ma_put S17 66 0 (.inl v18)) 65 = f 65 from funext (fun k => zG_z hI290 rfl)] at z)
            (try rw [show mI (ma_put S17 66 0 (.inl v18)) 64 1 = f 64 1 from zG_z hI290 rfl] at z)
            exact z
          have rp4_S19 : zFm I0 L0 R0 S19 := by
            have z := rp4_S19
            (try rw [show mI (ma_put S17 66 0 (.inl v18)) 65 = f 65 from funext (fun k => zG_z hI290 rfl)] at z)
            (try rw [show mI (ma_put S17 66 0 (.inl v18)) 64 1 = f 64 1 from zG_z hI290 rfl] at z)
            exact z
          have b295 := i_bd v20
          refine zd (fun h296 => ?_) (fun h296 => ?_)
          · skip
            have g297 := i_eq h296
            have q298 : (mI S19 66 0).toInt = v18.toInt := zG_zi (f := mI (ma_put S17 66 0 (.inl v18))) hL_S19 rfl
            have f299 := zG_a hI_S19 4 (-1) (1500) (c := 66) (k := 0) (by decide) (by decide)
            have f300 := zG_a hI 4 (-1) (1500) (c := 66) (k := 1) (by decide) (by decide)
            have q301 : (mI S1 66 1).toInt = (mI S 66 1).toInt := zG_zi (f := mI (ma_put S 64 3 (.inl (0 : Int32)))) hL_S1 rfl
            have f302 := zG_a hI_S1 4 (-1) (1500) (c := 66) (k := 1) (by decide) (by decide)
            have q303 : (mI S3 66 1).toInt = (mI S1 66 1).toInt := zG_zi (f := mI S1) hL_S3 rfl
            have f304 := zG_a hI_S3 4 (-1) (1500) (c := 66) (k := 1) (by decide) (by decide)
            have q305 : (mI S15 66 1).toInt = (mI S3 66 1).toInt := zG_zi (f := mI S3) hL_S15 rfl
            have f306 := zG_a hI_S15 4 (-1) (1500) (c := 66) (k := 1) (by decide) (by decide)
            have q307 : (mI S17 66 1).toInt = (mI S15 66 1).toInt := zG_zi (f := mI S15) hL_S17 rfl
            have f308 := zG_a hI_S17 4 (-1) (1500) (c := 66) (k := 1) (by decide) (by decide)
            have q309 : (mI S19 66 1).toInt = (mI S17 66 1).toInt := zG_zi (f := mI (ma_put S17 66 0 (.inl v18))) hL_S19 rfl
            have f310 := zG_a hI_S19 4 (-1) (1500) (c := 66) (k := 1) (by decide) (by decide)
            have f311 := zG_a hI 4 (-1) (1500) (c := 66) (k := 2) (by decide) (by decide)
            have q312 : (mI S1 66 2).toInt = (mI S 66 2).toInt := zG_zi (f := mI (ma_put S 64 3 (.inl (0 : Int32)))) hL_S1 rfl
            have f313 := zG_a hI_S1 4 (-1) (1500) (c := 66) (k := 2) (by decide) (by decide)
            have q314 : (mI S3 66 2).toInt = (mI S1 66 2).toInt := zG_zi (f := mI S1) hL_S3 rfl
            have f315 := zG_a hI_S3 4 (-1) (1500) (c := 66) (k := 2) (by decide) (by decide)
            have q316 : (mI S15 66 2).toInt = (mI S3 66 2).toInt := zG_zi (f := mI S3) hL_S15 rfl
            have f317 := zG_a hI_S15 4 (-1) (1500) (c := 66) (k := 2) (by decide) (by decide)
            have q318 : (mI S17 66 2).toInt = (mI S15 66 2).toInt := zG_zi (f := mI S15) hL_S17 rfl
            have f319 := zG_a hI_S17 4 (-1) (1500) (c := 66) (k := 2) (by decide) (by decide)
            have q320 : (mI S19 66 2).toInt = (mI S17 66 2).toInt := zG_zi (f := mI (ma_put S17 66 0 (.inl v18))) hL_S19 rfl
            have f321 := zG_a hI_S19 4 (-1) (1500) (c := 66) (k := 2) (by decide) (by decide)
            have f322 := zG_a hI 4 (-1) (1500) (c := 66) (k := 3) (by decide) (by decide)
            have q323 : (mI S1 66 3).toInt = (mI S 66 3).toInt := zG_zi (f := mI (ma_put S 64 3 (.inl (0 : Int32)))) hL_S1 rfl
            have f324 := zG_a hI_S1 4 (-1) (1500) (c := 66) (k := 3) (by decide) (by decide)
            have q325 : (mI S3 66 3).toInt = (mI S1 66 3).toInt := zG_zi (f := mI S1) hL_S3 rfl
            have f326 := zG_a hI_S3 4 (-1) (1500) (c := 66) (k := 3) (by decide) (by decide)
            have q327 : (mI S15 66 3).toInt = (mI S3 66 3).toInt := zG_zi (f := mI S3) hL_S15 rfl
            have f328 := zG_a hI_S15 4 (-1) (1500) (c := 66) (k := 3) (by decide) (by decide)
            have q329 : (mI S17 66 3).toInt = (mI S15 66 3).toInt := zG_zi (f := mI S15) hL_S17 rfl
            have f330 := zG_a hI_S17 4 (-1) (1500) (c := 66) (k := 3) (by decide) (by decide)
            have q331 : (mI S19 66 3).toInt = (mI S17 66 3).toInt := zG_zi (f := mI (ma_put S17 66 0 (.inl v18))) hL_S19 rfl
            have f332 := zG_a hI_S19 4 (-1) (1500) (c := 66) (k := 3) (by decide) (by decide)
            exact K (v4) _ hI_S19 (show v4.toInt = -1 ∨ (0 ≤ v4.toInt ∧ v4.toInt ≤ 6 ∧ 0 ≤ (mI S19 66 0).toInt ∧ (v4.toInt = 3 → 0 ≤ (mI S19 66 1).toInt) ∧ (v4.toInt = 6 → 16 ≤ (mI S19 66 1).toInt)) from by omega) (show (v4.toInt = -1 ∧ -1 - (mI S19 64 2).toInt = zAns (f 65) (f 64 1).toInt) ∨ (v4.toInt ≠ -1 ∧ zFin v4.toInt (mI S19 66 0).toInt (mI S19 66 1).toInt = zAns (f 65) (f 64 1).toInt) from by first | (have qk : v4.toInt = 1 := (by omega); have q := zAns_go (s := (mI S1 64 2)) (e := (mI S1 64 3).toInt) (k := v4.toInt) rp0_S1 rp1_S1 rp0_S3 (by omega); rw [show zPts v4.toInt = [0] from by rw [qk]; rfl] at q; replace q := q.trans (zRun_ok0 (s := (mI S15 64 2)) (e := (mI S15 64 3).toInt) (x := v18.toInt) (p := (mI S1 64 3).toInt) rp0_S15 (by omega) rp1_S15 (show v18.toInt = zNum (f 65) (mI S15 64 2).toInt (mI S15 64 3).toInt 16 1500 from rp0_S17) (by omega)); have q2 := q.trans (zEnd_okp (s := (mI S19 64 2)) (e := (mI S19 64 3).toInt) (p := (mI S15 64 3).toInt) rp0_S19 (by omega) rp1_S19 (by omega)); exact Or.inr ⟨by omega, (zFin_eq (by omega) (by omega)).trans q2.symm⟩) | (omega) | (exfalso; omega)) (show v4.toInt = 5 → ((mI S19 66 0).toInt = zVal (f 65) (f 64 1).toInt 0 1 ∧ (mI S19 66 1).toInt = zVal (f 65) (f 64 1).toInt 6 2 ∧ (mI S19 66 2).toInt = zVal (f 65) (f 64 1).toInt 3 3 ∧ (mI S19 66 3).toInt = zVal (f 65) (f 64 1).toInt 7 4) from by first | (intro h; exfalso; omega)) (show (v4.toInt = 0 ∨ v4.toInt = 4) → ((mI S19 66 0).toInt = zVal (f 65) (f 64 1).toInt 0 1 ∧ (mI S19 66 1).toInt = zVal (f 65) (f 64 1).toInt 6 2) from by first | (intro h; exfalso; omega)) (show qM1 v4 (mI S19 66 0) (f 65) (f 64 1).toInt from by first | (unfold qM1; intro _; have a0 : (mI S1 64 2).toInt = zts (f 65) (f 64 1).toInt 0 := rp0_S1; have b0 : (mI S1 64 3).toInt = zte (f 65) (f 64 1).toInt 0 := zt_e rp1_S1 a0; have a1 : (mI S15 64 2).toInt = zts (f 65) (f 64 1).toInt 1 := zt_s rp0_S15 (by omega) b0; have b1 : (mI S15 64 3).toInt = zte (f 65) (f 64 1).toInt 1 := zt_e rp1_S15 a1; have z0 : v18.toInt = zVal (f 65) (f 64 1).toInt 0 1 := (show v18.toInt = zNum (f 65) (mI S15 64 2).toInt (mI S15 64 3).toInt 16 1500 from rp0_S17).trans (by rw [a1, b1]; rfl); exact (by omega))) (show qM3 v4 (mI S19 66 0) (mI S19 66 1) (mI S19 66 2) (mI S19 66 3) (f 65) (f 64 1).toInt from by first | (unfold qM3; intro h; exfalso; omega)) (show qM6 v4 (mI S19 66 0) (mI S19 66 1) (mI S19 66 2) (f 65) (f 64 1).toInt from by first | (unfold qM6; intro h; exfalso; omega)) (show v4.toInt = -1 ∨ v4.toInt = zPol (f 65) (Int32.ofInt (zts (f 65) (f 64 1).toInt 0)) (zte (f 65) (f 64 1).toInt 0 - zts (f 65) (f 64 1).toInt 0) from by first | (exact Or.inr (zt_p rp0_S1 rp1_S1 rp0_S3))) (show zFm I0 L0 R0 S19 from by first | (exact rp4_S19))
          · skip
            have g333 := i_ne h296
            have q334 : (mI S19 66 0).toInt = v18.toInt := zG_zi (f := mI (ma_put S17 66 0 (.inl v18))) hL_S19 rfl
            have f335 := zG_a hI_S19 4 (-1) (1500) (c := 66) (k := 0) (by decide) (by decide)
            have f336 := zG_a hI 4 (-1) (1500) (c := 66) (k := 1) (by decide) (by decide)
            have q337 : (mI S1 66 1).toInt = (mI S 66 1).toInt := zG_zi (f := mI (ma_put S 64 3 (.inl (0 : Int32)))) hL_S1 rfl
            have f338 := zG_a hI_S1 4 (-1) (1500) (c := 66) (k := 1) (by decide) (by decide)
            have q339 : (mI S3 66 1).toInt = (mI S1 66 1).toInt := zG_zi (f := mI S1) hL_S3 rfl
            have f340 := zG_a hI_S3 4 (-1) (1500) (c := 66) (k := 1) (by decide) (by decide)
            have q341 : (mI S15 66 1).toInt = (mI S3 66 1).toInt := zG_zi (f := mI S3) hL_S15 rfl
            have f342 := zG_a hI_S15 4 (-1) (1500) (c := 66) (k := 1) (by decide) (by decide)
            have q343 : (mI S17 66 1).toInt = (mI S15 66 1).toInt := zG_zi (f := mI S15) hL_S17 rfl
            have f344 := zG_a hI_S17 4 (-1) (1500) (c := 66) (k := 1) (by decide) (by decide)
            have q345 : (mI S19 66 1).toInt = (mI S17 66 1).toInt := zG_zi (f := mI (ma_put S17 66 0 (.inl v18))) hL_S19 rfl
            have f346 := zG_a hI_S19 4 (-1) (1500) (c := 66) (k := 1) (by decide) (by decide)
            have f347 := zG_a hI 4 (-1) (1500) (c := 66) (k := 2) (by decide) (by decide)
            have q348 : (mI S1 66 2).toInt = (mI S 66 2).toInt := zG_zi (f := mI (ma_put S 64 3 (.inl (0 : Int32)))) hL_S1 rfl
            have f349 := zG_a hI_S1 4 (-1) (1500) (c := 66) (k := 2) (by decide) (by decide)
            have q350 : (mI S3 66 2).toInt = (mI S1 66 2).toInt := zG_zi (f := mI S1) hL_S3 rfl
            have f351 := zG_a hI_S3 4 (-1) (1500) (c := 66) (k := 2) (by decide) (by decide)
            have q352 : (mI S15 66 2).toInt = (mI S3 66 2).toInt := zG_zi (f := mI S3) hL_S15 rfl
            have f353 := zG_a hI_S15 4 (-1) (1500) (c := 66) (k := 2) (by decide) (by decide)
            have q354 : (mI S17 66 2).toInt = (mI S15 66 2).toInt := zG_zi (f := mI S15) hL_S17 rfl
            have f355 := zG_a hI_S17 4 (-1) (1500) (c := 66) (k := 2) (by decide) (by decide)
            have q356 : (mI S19 66 2).toInt = (mI S17 66 2).toInt := zG_zi (f := mI (ma_put S17 66 0 (.inl v18))) hL_S19 rfl
            have f357 := zG_a hI_S19 4 (-1) (1500) (c := 66) (k := 2) (by decide) (by decide)
            have f358 := zG_a hI 4 (-1) (1500) (c := 66) (k := 3) (by decide) (by decide)
            have q359 : (mI S1 66 3).toInt = (mI S 66 3).toInt := zG_zi (f := mI (ma_put S 64 3 (.inl (0 : Int32)))) hL_S1 rfl
            have f360 := zG_a hI_S1 4 (-1) (1500) (c := 66) (k := 3) (by decide) (by decide)
            have q361 : (mI S3 66 3).toInt = (mI S1 66 3).toInt := zG_zi (f := mI S1) hL_S3 rfl
            have f362 := zG_a hI_S3 4 (-1) (1500) (c := 66) (k := 3) (by decide) (by decide)
            have q363 : (mI S15 66 3).toInt = (mI S3 66 3).toInt := zG_zi (f := mI S3) hL_S15 rfl
            have f364 := zG_a hI_S15 4 (-1) (1500) (c := 66) (k := 3) (by decide) (by decide)
            have q365 : (mI S17 66 3).toInt = (mI S15 66 3).toInt := zG_zi (f := mI S15) hL_S17 rfl
            have f366 := zG_a hI_S17 4 (-1) (1500) (c := 66) (k := 3) (by decide) (by decide)
            have q367 : (mI S19 66 3).toInt = (mI S17 66 3).toInt := zG_zi (f := mI (ma_put S17 66 0 (.inl v18))) hL_S19 rfl
            have f368 := zG_a hI_S19 4 (-1) (1500) (c := 66) (k := 3) (by decide) (by decide)
            exact K ((-1 : Int32)) _ hI_S19 (show (-1 : Int32).toInt = -1 ∨ (0 ≤ (-1 : Int32).toInt ∧ (-1 : Int32).toInt ≤ 6 ∧ 0 ≤ (mI S19 66 0).toInt ∧ ((-1 : Int32).toInt = 3 → 0 ≤ (mI S19 66 1).toInt) ∧ ((-1 : Int32).toInt = 6 → 16 ≤ (mI S19 66 1).toInt)) from by omega) (show ((-1 : Int32).toInt = -1 ∧ -1 - (mI S19 64 2).toInt = zAns (f 65) (f 64 1).toInt) ∨ ((-1 : Int32).toInt ≠ -1 ∧ zFin (-1 : Int32).toInt (mI S19 66 0).toInt (mI S19 66 1).toInt = zAns (f 65) (f 64 1).toInt) from by first | (have qk : v4.toInt = 1 := (by omega); have q := zAns_go (s := (mI S1 64 2)) (e := (mI S1 64 3).toInt) (k := v4.toInt) rp0_S1 rp1_S1 rp0_S3 (by omega); rw [show zPts v4.toInt = [0] from by rw [qk]; rfl] at q; replace q := q.trans (zRun_ok0 (s := (mI S15 64 2)) (e := (mI S15 64 3).toInt) (x := v18.toInt) (p := (mI S1 64 3).toInt) rp0_S15 (by omega) rp1_S15 (show v18.toInt = zNum (f 65) (mI S15 64 2).toInt (mI S15 64 3).toInt 16 1500 from rp0_S17) (by omega)); have q2 := q.trans (zEnd_badp (s := (mI S19 64 2)) (e := (mI S19 64 3).toInt) (p := (mI S15 64 3).toInt) rp0_S19 (by omega) rp1_S19 (by omega)); exact Or.inl ⟨rfl, by omega⟩) | (omega) | (exfalso; omega)) (show (-1 : Int32).toInt = 5 → ((mI S19 66 0).toInt = zVal (f 65) (f 64 1).toInt 0 1 ∧ (mI S19 66 1).toInt = zVal (f 65) (f 64 1).toInt 6 2 ∧ (mI S19 66 2).toInt = zVal (f 65) (f 64 1).toInt 3 3 ∧ (mI S19 66 3).toInt = zVal (f 65) (f 64 1).toInt 7 4) from by first | (intro h; exact absurd h (by decide))) (show ((-1 : Int32).toInt = 0 ∨ (-1 : Int32).toInt = 4) → ((mI S19 66 0).toInt = zVal (f 65) (f 64 1).toInt 0 1 ∧ (mI S19 66 1).toInt = zVal (f 65) (f 64 1).toInt 6 2) from by first | (intro h; exact absurd h (by decide))) (show qM1 (-1 : Int32) (mI S19 66 0) (f 65) (f 64 1).toInt from by first | (unfold qM1; intro h; exact absurd h (by decide))) (show qM3 (-1 : Int32) (mI S19 66 0) (mI S19 66 1) (mI S19 66 2) (mI S19 66 3) (f 65) (f 64 1).toInt from by first | (unfold qM3; intro h; exact absurd h (by decide))) (show qM6 (-1 : Int32) (mI S19 66 0) (mI S19 66 1) (mI S19 66 2) (f 65) (f 64 1).toInt from by first | (unfold qM6; intro h; exact absurd h (by decide))) (show (-1 : Int32).toInt = -1 ∨ (-1 : Int32).toInt = zPol (f 65) (Int32.ofInt (zts (f 65) (f 64 1).toInt 0)) (zte (f 65) (f 64 1).toInt 0 - zts (f 65) (f 64 1).toInt 0) from by first | (exact Or.inl rfl)) (show zFm I0 L0 R0 S19 from by first | (exact rp4_S19))
    · skip
      have g369 := i_ne h214
      have li370 : (2 : Int32).toInt = 2 := rfl
      refine zd (fun h371 => ?_) (fun h371 => ?_)
      · skip
        have g372 := i_eq h371
        have q373 : (mI S3 64 3).toInt = (mI S1 64 3).toInt := zG_zi (f := mI S1) hL_S3 rfl
        have f374 := zG_s hI_S3 (0) (100) (c := 64) (k := 3) (by decide)
        refine sp_129_64_sq (p0 := ((mI S3 64 3).toInt)) (I0 := I0) (L0 := L0) (R0 := R0) (by omega) (by omega) (zR_dn_zY hI_S3) (show (mI S3 64 3).toInt = ((mI S3 64 3).toInt) from by omega) (show zFm I0 L0 R0 S3 from by first | (exact rp1_S3)) (fun v22 S21 hL_S21 hp_v22 rp0_S21 rp1_S21 rp2_S21 rp3_S21 rp4_S21 => zi_n ⟨zG_T hL_S21, ?_⟩)
        have hI_S21 := zR_up_zY hI_S3 hL_S21
        have f375 := zG_s hI_S21 (0) (100) (c := 64) (k := 2) (by decide)
        have rp0_S21 : (mI S21 64 2).toInt = tk true (f 65) (f 64 1).toInt ((mI S3 64 3).toInt) := by
          have z := rp0_S21
          (try rw [show mI S3 65 = f 65 from funext (fun k => zG_z hI_S3 rfl)] at z)
          (try rw [show mI S3 64 1 = f 64 1 from zG_z hI_S3 rfl] at z)
          exact z
        have f376 := zG_s hI_S21 (0) (100) (c := 64) (k := 3) (by decide)
        have rp1_S21 : (mI S21 64 3).toInt = tk false (f 65) (f 64 1).toInt (mI S21 64 2).toInt := by
          have z := rp1_S21
          (try rw [show mI S3 65 = f 65 from funext (fun k => zG_z hI_S3 rfl)] at z)
          (try rw [show mI S3 64 1 = f 64 1 from zG_z hI_S3 rfl] at z)
          exact z
        have rp2_S21 : (v22.toInt = 1 ∧ (mI S21 64 2).toInt < (mI S21 64 3).toInt) ∨ (v22.toInt = 0 ∧ (mI S21 64 3).toInt ≤ (mI S21 64 2).toInt) := by
          have z := rp2_S21
          (try rw [show mI S3 65 = f 65 from funext (fun k => zG_z hI_S3 rfl)] at z)
          (try rw [show mI S3 64 1 = f 64 1 from zG_z hI_S3 rfl] at z)
          exact z
        have rp3_S21 : (mI S21 64 2).toInt ≤ (mI S21 64 3).toInt := by
          have z := rp3_S21
          (try rw [show mI S3 65 = f 65 from funext (fun k => zG_z hI_S3 rfl)] at z)
          (try rw [show mI S3 64 1 = f 64 1 from zG_z hI_S3 rfl] at z)
          exact z
        have rp4_S21 : zFm I0 L0 R0 S21 := by
          have z := rp4_S21
          (try rw [show mI S3 65 = f 65 from funext (fun k => zG_z hI_S3 rfl)] at z)
          (try rw [show mI S3 64 1 = f 64 1 from zG_z hI_S3 rfl] at z)
          exact z
        have li377 : (16 : Int32).toInt = 16 := rfl
        have li378 : (1500 : Int32).toInt = 1500 := rfl
        refine sp_134_64_sq (I0 := I0) (L0 := L0) (R0 := R0) ((16 : Int32)) ((1500 : Int32)) (by omega) (by omega) (zR_dn_zY0 hI_S21) (show (mI S21 64 2).toInt ≤ (mI S21 64 3).toInt from by omega) (show zFm I0 L0 R0 S21 from by first | (exact rp4_S21)) (fun v24 S23 hL_S23 hp_v24 rp0_S23 rp1_S23 => zi_n ⟨zG_T hL_S23, ?_⟩)
        have hI_S23 := zR_up_zY0 hI_S21 hL_S23
        have rp0_S23 : v24.toInt = zNum (f 65) (mI S21 64 2).toInt (mI S21 64 3).toInt (16 : Int32).toInt (1500 : Int32).toInt := by
          have z := rp0_S23
          (try rw [show mI S21 65 = f 65 from funext (fun k => zG_z hI_S21 rfl)] at z)
          (try rw [show mI S21 64 1 = f 64 1 from zG_z hI_S21 rfl] at z)
          exact z
        have rp1_S23 : zFm I0 L0 R0 S23 := by
          have z := rp1_S23
          (try rw [show mI S21 65 = f 65 from funext (fun k => zG_z hI_S21 rfl)] at z)
          (try rw [show mI S21 64 1 = f 64 1 from zG_z hI_S21 rfl] at z)
          exact z
        have b379 := i_bd v24
        have li380 : (-1 : Int32).toInt = -1 := rfl
        refine zd (fun h381 => ?_) (fun h381 => ?_)
        · skip
          have g382 := i_eq h381
          have hI383 : zR f r C Z N (ma_put S23 66 0 (.inl v24)) := zG_sa hI_S23 (-1) (1500) rfl (by decide) (by decide) (by decide) trivial (by omega) (by omega)
          have f384 := zG_a hI 4 (-1) (1500) (c := 66) (k := 1) (by decide) (by decide)
          have q385 : (mI S1 66 1).toInt = (mI S 66 1).toInt := zG_zi (f := mI (ma_put S 64 3 (.inl (0 : Int32)))) hL_S1 rfl
          have f386 := zG_a hI_S1 4 (-1) (1500) (c := 66) (k := 1) (by decide) (by decide)
          have q387 : (mI S3 66 1).toInt = (mI S1 66 1).toInt := zG_zi (f := mI S1) hL_S3 rfl
          have f388 := zG_a hI_S3 4 (-1) (1500) (c := 66) (k := 1) (by decide) (by decide)
          have q389 : (mI S21 66 1).toInt = (mI S3 66 1).toInt := zG_zi (f := mI S3) hL_S21 rfl
          have f390 := zG_a hI_S21 4 (-1) (1500) (c := 66) (k := 1) (by decide) (by decide)
          have q391 : (mI S23 66 1).toInt = (mI S21 66 1).toInt := zG_zi (f := mI S21) hL_S23 rfl
          have f392 := zG_a hI_S23 4 (-1) (1500) (c := 66) (k := 1) (by decide) (by decide)
          have q393 : (mI S23 64 2).toInt = (mI S21 64 2).toInt := zG_zi (f := mI S21) hL_S23 rfl
          have f394 := zG_s hI_S23 (0) (100) (c := 64) (k := 2) (by decide)
          have f395 := zG_a hI 4 (-1) (1500) (c := 66) (k := 2) (by decide) (by decide)
          have q396 : (mI S1 66 2).toInt = (mI S 66 2).toInt := zG_zi (f := mI (ma_put S 64 3 (.inl (0 : Int32)))) hL_S1 rfl
          have f397 := zG_a hI_S1 4 (-1) (1500) (c := 66) (k := 2) (by decide) (by decide)
          have q398 : (mI S3 66 2).toInt = (mI S1 66 2).toInt := zG_zi (f := mI S1) hL_S3 rfl
          have f399 := zG_a hI_S3 4 (-1) (1500) (c := 66) (k := 2) (by decide) (by decide)
          have q400 : (mI S21 66 2).toInt = (mI S3 66 2).toInt := zG_zi (f := mI S3) hL_S21 rfl
          have f401 := zG_a hI_S21 4 (-1) (1500) (c := 66) (k := 2) (by decide) (by decide)
          have q402 : (mI S23 66 2).toInt = (mI S21 66 2).toInt := zG_zi (f := mI S21) hL_S23 rfl
          have f403 := zG_a hI_S23 4 (-1) (1500) (c := 66) (k := 2) (by decide) (by decide)
          have f404 := zG_a hI 4 (-1) (1500) (c := 66) (k := 3) (by decide) (by decide)
          have q405 : (mI S1 66 3).toInt = (mI S 66 3).toInt := zG_zi (f := mI (ma_put S 64 3 (.inl (0 : Int32)))) hL_S1 rfl
          have f406 := zG_a hI_S1 4 (-1) (1500) (c := 66) (k := 3) (by decide) (by decide)
          have q407 : (mI S3 66 3).toInt = (mI S1 66 3).toInt := zG_zi (f := mI S1) hL_S3 rfl
          have f408 := zG_a hI_S3 4 (-1) (1500) (c := 66) (k := 3) (by decide) (by decide)
          have q409 : (mI S21 66 3).toInt = (mI S3 66 3).toInt := zG_zi (f := mI S3) hL_S21 rfl
          have f410 := zG_a hI_S21 4 (-1) (1500) (c := 66) (k := 3) (by decide) (by decide)
          have q411 : (mI S23 66 3).toInt = (mI S21 66 3).toInt := zG_zi (f := mI S21) hL_S23 rfl
          have f412 := zG_a hI_S23 4 (-1) (1500) (c := 66) (k := 3) (by decide) (by decide)
          exact K ((-1 : Int32)) _ hI383 (show (-1 : Int32).toInt = -1 ∨ (0 ≤ (-1 : Int32).toInt ∧ (-1 : Int32).toInt ≤ 6 ∧ 0 ≤ v24.toInt ∧ ((-1 : Int32).toInt = 3 → 0 ≤ (mI S23 66 1).toInt) ∧ ((-1 : Int32).toInt = 6 → 16 ≤ (mI S23 66 1).toInt)) from by omega) (show ((-1 : Int32).toInt = -1 ∧ -1 - (mI S23 64 2).toInt = zAns (f 65) (f 64 1).toInt) ∨ ((-1 : Int32).toInt ≠ -1 ∧ zFin (-1 : Int32).toInt v24.toInt (mI S23 66 1).toInt = zAns (f 65) (f 64 1).toInt) from by first | (have qk : v4.toInt = 2 := (by omega); have q := zAns_go (s := (mI S1 64 2)) (e := (mI S1 64 3).toInt) (k := v4.toInt) rp0_S1 rp1_S1 rp0_S3 (by omega); rw [show zPts v4.toInt = [0] from by rw [qk]; rfl] at q; have q2 := q.trans (zRun_badp (s := (mI S21 64 2)) (e := (mI S21 64 3).toInt) (x := v24.toInt) (p := (mI S1 64 3).toInt) rp0_S21 (by omega) rp1_S21 (show v24.toInt = zNum (f 65) (mI S21 64 2).toInt (mI S21 64 3).toInt 16 1500 from rp0_S23) (by omega)); exact Or.inl ⟨rfl, by omega⟩) | (omega) | (exfalso; omega)) (show (-1 : Int32).toInt = 5 → (v24.toInt = zVal (f 65) (f 64 1).toInt 0 1 ∧ (mI S23 66 1).toInt = zVal (f 65) (f 64 1).toInt 6 2 ∧ (mI S23 66 2).toInt = zVal (f 65) (f 64 1).toInt 3 3 ∧ (mI S23 66 3).toInt = zVal (f 65) (f 64 1).toInt 7 4) from by first | (intro h; exact absurd h (by decide))) (show ((-1 : Int32).toInt = 0 ∨ (-1 : Int32).toInt = 4) → (v24.toInt = zVal (f 65) (f 64 1).toInt 0 1 ∧ (mI S23 66 1).toInt = zVal (f 65) (f 64 1).toInt 6 2) from by first | (intro h; exact absurd h (by decide))) (show qM1 (-1 : Int32) v24 (f 65) (f 64 1).toInt from by first | (unfold qM1; intro h; exact absurd h (by decide))) (show qM3 (-1 : Int32) v24 (mI S23 66 1) (mI S23 66 2) (mI S23 66 3) (f 65) (f 64 1).toInt from by first | (unfold qM3; intro h; exact absurd h (by decide))) (show qM6 (-1 : Int32) v24 (mI S23 66 1) (mI S23 66 2) (f 65) (f 64 1).toInt from by first | (unfold qM6; intro h; exact absurd h (by decide))) (show (-1 : Int32).toInt = -1 ∨ (-1 : Int32).toInt = zPol (f 65) (Int32.ofInt (zts (f 65) (f 64 1).toInt 0)) (zte (f 65) (f 64 1).toInt 0 - zts (f 65) (f 64 1).toInt 0) from by first | (exact Or.inl rfl)) (show zFm I0 L0 R0 (ma_put S23 66 0 (.inl v24)) from by first | (exact (fn9_p rp1_S23 (by decide))))
        · skip
          have g413 := i_ne h381
          refine zd (fun h414 => ?_) (fun h414 => ?_)
          · skip
            have g415 := i_eq h414
            have hI416 : zR f r C Z N (ma_put S23 66 0 (.inl v24)) := zG_sa hI_S23 (-1) (1500) rfl (by decide) (by decide) (by decide) trivial (by omega) (by omega)
            have f417 := zG_a hI 4 (-1) (1500) (c := 66) (k := 1) (by decide) (by decide)
            have q418 : (mI S1 66 1).toInt = (mI S 66 1).toInt := zG_zi (f := mI (ma_put S 64 3 (.inl (0 : Int32)))) hL_S1 rfl
            have f419 := zG_a hI_S1 4 (-1) (1500) (c := 66) (k := 1) (by decide) (by decide)
            have q420 : (mI S3 66 1).toInt = (mI S1 66 1).toInt := zG_zi (f := mI S1) hL_S3 rfl
            have f421 := zG_a hI_S3 4 (-1) (1500) (c := 66) (k := 1) (by decide) (by decide)
            have q422 : (mI S21 66 1).toInt = (mI S3 66 1).toInt := zG_zi (f := mI S3) hL_S21 rfl
            have f423 := zG_a hI_S21 4 (-1) (1500) (c := 66) (k := 1) (by decide) (by decide)
            have q424 : (mI S23 66 1).toInt = (mI S21 66 1).toInt := zG_zi (f := mI S21) hL_S23 rfl
            have f425 := zG_a hI_S23 4 (-1) (1500) (c := 66) (k := 1) (by decide) (by decide)
            have q426 : (mI S23 64 2).toInt = (mI S21 64 2).toInt := zG_zi (f := mI S21) hL_S23 rfl
            have f427 := zG_s hI_S23 (0) (100) (c := 64) (k := 2) (by decide)
            have f428 := zG_a hI 4 (-1) (1500) (c := 66) (k := 2) (by decide) (by decide)
            have q429 : (mI S1 66 2).toInt = (mI S 66 2).toInt := zG_zi (f := mI (ma_put S 64 3 (.inl (0 : Int32)))) hL_S1 rfl
            have f430 := zG_a hI_S1 4 (-1) (1500) (c := 66) (k := 2) (by decide) (by decide)
            have q431 : (mI S3 66 2).toInt = (mI S1 66 2).toInt := zG_zi (f := mI S1) hL_S3 rfl
            have f432 := zG_a hI_S3 4 (-1) (1500) (c := 66) (k := 2) (by decide) (by decide)
            have q433 : (mI S21 66 2).toInt = (mI S3 66 2).toInt := zG_zi (f := mI S3) hL_S21 rfl
            have f434 := zG_a hI_S21 4 (-1) (1500) (c := 66) (k := 2) (by decide) (by decide)
            have q435 : (mI S23 66 2).toInt = (mI S21 66 2).toInt := zG_zi (f := mI S21) hL_S23 rfl
            have f436 := zG_a hI_S23 4 (-1) (1500) (c := 66) (k := 2) (by decide) (by decide)
            have f437 := zG_a hI 4 (-1) (1500) (c := 66) (k := 3) (by decide) (by decide)
            have q438 : (mI S1 66 3).toInt = (mI S 66 3).toInt := zG_zi (f := mI (ma_put S 64 3 (.inl (0 : Int32)))) hL_S1 rfl
            have f439 := zG_a hI_S1 4 (-1) (1500) (c := 66) (k := 3) (by decide) (by decide)
            have q440 : (mI S3 66 3).toInt = (mI S1 66 3).toInt := zG_zi (f := mI S1) hL_S3 rfl
            have f441 := zG_a hI_S3 4 (-1) (1500) (c := 66) (k := 3) (by decide) (by decide)
            have q442 : (mI S21 66 3).toInt = (mI S3 66 3).toInt := zG_zi (f := mI S3) hL_S21 rfl
            have f443 := zG_a hI_S21 4 (-1) (1500) (c := 66) (k := 3) (by decide) (by decide)
            have q444 : (mI S23 66 3).toInt = (mI S21 66 3).toInt := zG_zi (f := mI S21) hL_S23 rfl
            have f445 := zG_a hI_S23 4 (-1) (1500) (c := 66) (k := 3) (by decide) (by decide)
            exact K ((-1 : Int32)) _ hI416 (show (-1 : Int32).toInt = -1 ∨ (0 ≤ (-1 : Int32).toInt ∧ (-1 : Int32).toInt ≤ 6 ∧ 0 ≤ v24.toInt ∧ ((-1 : Int32).toInt = 3 → 0 ≤ (mI S23 66 1).toInt) ∧ ((-1 : Int32).toInt = 6 → 16 ≤ (mI S23 66 1).toInt)) from by omega) (show ((-1 : Int32).toInt = -1 ∧ -1 - (mI S23 64 2).toInt = zAns (f 65) (f 64 1).toInt) ∨ ((-1 : Int32).toInt ≠ -1 ∧ zFin (-1 : Int32).toInt v24.toInt (mI S23 66 1).toInt = zAns (f 65) (f 64 1).toInt) from by first | (have qk : v4.toInt = 2 := (by omega); have q := zAns_go (s := (mI S1 64 2)) (e := (mI S1 64 3).toInt) (k := v4.toInt) rp0_S1 rp1_S1 rp0_S3 (by omega); rw [show zPts v4.toInt = [0] from by rw [qk]; rfl] at q; have q2 := q.trans (zRun_badp (s := (mI S21 64 2)) (e := (mI S21 64 3).toInt) (x := v24.toInt) (p := (mI S1 64 3).toInt) rp0_S21 (by omega) rp1_S21 (show v24.toInt = zNum (f 65) (mI S21 64 2).toInt (mI S21 64 3).toInt 16 1500 from rp0_S23) (by omega)); exact Or.inl ⟨rfl, by omega⟩) | (omega) | (exfalso; omega)) (show (-1 : Int32).toInt = 5 → (v24.toInt = zVal (f 65) (f 64 1).toInt 0 1 ∧ (mI S23 66 1).toInt = zVal (f 65) (f 64 1).toInt 6 2 ∧ (mI S23 66 2).toInt = zVal (f 65) (f 64 1).toInt 3 3 ∧ (mI S23 66 3).toInt = zVal (f 65) (f 64 1).toInt 7 4) from by first | (intro h; exact absurd h (by decide))) (show ((-1 : Int32).toInt = 0 ∨ (-1 : Int32).toInt = 4) → (v24.toInt = zVal (f 65) (f 64 1).toInt 0 1 ∧ (mI S23 66 1).toInt = zVal (f 65) (f 64 1).toInt 6 2) from by first | (intro h; exact absurd h (by decide))) (show qM1 (-1 : Int32) v24 (f 65) (f 64 1).toInt from by first | (unfold qM1; intro h; exact absurd h (by decide))) (show qM3 (-1 : Int32) v24 (mI S23 66 1) (mI S23 66 2) (mI S23 66 3) (f 65) (f 64 1).toInt from by first | (unfold qM3; intro h; exact absurd h (by decide))) (show qM6 (-1 : Int32) v24 (mI S23 66 1) (mI S23 66 2) (f 65) (f 64 1).toInt from by first | (unfold qM6; intro h; exact absurd h (by decide))) (show (-1 : Int32).toInt = -1 ∨ (-1 : Int32).toInt = zPol (f 65) (Int32.ofInt (zts (f 65) (f 64 1).toInt 0)) (zte (f 65) (f 64 1).toInt 0 - zts (f 65) (f 64 1).toInt 0) from by first | (exact Or.inl rfl)) (show zFm I0 L0 R0 (ma_put S23 66 0 (.inl v24)) from by first | (exact (fn9_p rp1_S23 (by decide))))
          · skip
            have g446 := i_ne h414
            have hI447 : zR f r C Z N (ma_put S23 66 0 (.inl v24)) := zG_sa hI_S23 (-1) (1500) rfl (by decide) (by decide) (by decide) trivial (by omega) (by omega)
            have q448 : (mI S23 64 3).toInt = (mI S21 64 3).toInt := zG_zi (f := mI S21) hL_S23 rfl
            have f449 := zG_s hI_S23 (0) (100) (c := 64) (k := 3) (by decide)
            refine sp_129_64_sq (p0 := ((mI S23 64 3).toInt)) (I0 := I0) (L0 := L0) (R0 := R0) (by omega) (by omega) (zR_dn_zY hI447) (show (mI S23 64 3).toInt = ((mI S23 64 3).toInt) from by omega) (show zFm I0 L0 R0 (ma_put S23 66 0 (.inl v24)) from by first | (exact (fn9_p rp1_S23 (by decide)))) (fun v26 S25 hL_S25 hp_v26 rp0_S25 rp1_S25 rp2_S25 rp3_S25 rp4_S25 => zi_n ⟨zG_T hL_S25, ?_⟩)
            have hI_S25 := zR_up_zY hI447 hL_S25
            have f450 := zG_s hI_S25 (0) (100) (c := 64) (k := 2) (by decide)
            have rp0_S25 : (mI S25 64 2).toInt = tk true (f 65) (f 64 1).toInt ((mI S23 64 3).toInt) := by
              have z := rp0_S25
              (try rw [show mI (ma_put S23 66 0 (.inl v24)) 65 = f 65 from funext (fun k => zG_z hI447 rfl)] at z)
              (try rw [show mI (ma_put S23 66 0 (.inl v24)) 64 1 = f 64 1 from zG_z hI447 rfl] at z)
              exact z
            have f451 := zG_s hI_S25 (0) (100) (c := 64) (k := 3) (by decide)
            have rp1_S25 : (mI S25 64 3).toInt = tk false (f 65) (f 64 1).toInt (mI S25 64 2).toInt := by
              have z := rp1_S25
              (try rw [show mI (ma_put S23 66 0 (.inl v24)) 65 = f 65 from funext (fun k => zG_z hI447 rfl)] at z)
              (try rw [show mI (ma_put S23 66 0 (.inl v24)) 64 1 = f 64 1 from zG_z hI447 rfl] at z)
              exact z
            have rp2_S25 : (v26.toInt = 1 ∧ (mI S25 64 2).toInt < (mI S25 64 3).toInt) ∨ (v26.toInt = 0 ∧ (mI S25 64 3).toInt ≤ (mI S25 64 2).toInt) := by
              have z := rp2_S25
              (try rw [show mI (ma_put S23 66 0 (.inl v24)) 65 = f 65 from funext (fun k => zG_z hI447 rfl)] at z)
              (try rw [show mI (ma_put S23 66 0 (.inl v24)) 64 1 = f 64 1 from zG_z hI447 rfl] at z)
              exact z
            have rp3_S25 : (mI S25 64 2).toInt ≤ (mI S25 64 3).toInt := by
              have z := rp3_S25
              (try rw [show mI (ma_put S23 66 0 (.inl v24)) 65 = f 65 from funext (fun k => zG_z hI447 rfl)] at z)
              (try rw [show mI (ma_put S23 66 0 (.inl v24)) 64 1 = f 64 1 from zG_z hI447 rfl] at z)
              exact z
            have rp4_S25 : zFm I0 L0 R0 S25 := by
              have z := rp4_S25
              (try rw [show mI (ma_put S23 66 0 (.inl v24)) 65 = f 65 from funext (fun k => zG_z hI447 rfl)] at z)
              (try rw [show mI (ma_put S23 66 0 (.inl v24)) 64 1 = f 64 1 from zG_z hI447 rfl] at z)
              exact z
            have b452 := i_bd v26
            refine zd (fun h453 => ?_) (fun h453 => ?_)
            · skip
              have g454 := i_eq h453
              have q455 : (mI S25 66 0).toInt = v24.toInt := zG_zi (f := mI (ma_put S23 66 0 (.inl v24))) hL_S25 rfl
              have f456 := zG_a hI_S25 4 (-1) (1500) (c := 66) (k := 0) (by decide) (by decide)
              have f457 := zG_a hI 4 (-1) (1500) (c := 66) (k := 1) (by decide) (by decide)
              have q458 : (mI S1 66 1).toInt = (mI S 66 1).toInt := zG_zi (f := mI (ma_put S 64 3 (.inl (0 : Int32)))) hL_S1 rfl
              have f459 := zG_a hI_S1 4 (-1) (1500) (c := 66) (k := 1) (by decide) (by decide)
              have q460 : (mI S3 66 1).toInt = (mI S1 66 1).toInt := zG_zi (f := mI S1) hL_S3 rfl
              have f461 := zG_a hI_S3 4 (-1) (1500) (c := 66) (k := 1) (by decide) (by decide)
              have q462 : (mI S21 66 1).toInt = (mI S3 66 1).toInt := zG_zi (f := mI S3) hL_S21 rfl
              have f463 := zG_a hI_S21 4 (-1) (1500) (c := 66) (k := 1) (by decide) (by decide)
              have q464 : (mI S23 66 1).toInt = (mI S21 66 1).toInt := zG_zi (f := mI S21) hL_S23 rfl
              have f465 := zG_a hI_S23 4 (-1) (1500) (c := 66) (k := 1) (by decide) (by decide)
              have q466 : (mI S25 66 1).toInt = (mI S23 66 1).toInt := zG_zi (f := mI (ma_put S23 66 0 (.inl v24))) hL_S25 rfl
              have f467 := zG_a hI_S25 4 (-1) (1500) (c := 66) (k := 1) (by decide) (by decide)
              have f468 := zG_a hI 4 (-1) (1500) (c := 66) (k := 2) (by decide) (by decide)
              have q469 : (mI S1 66 2).toInt = (mI S 66 2).toInt := zG_zi (f := mI (ma_put S 64 3 (.inl (0 : Int32)))) hL_S1 rfl
              have f470 := zG_a hI_S1 4 (-1) (1500) (c := 66) (k := 2) (by decide) (by decide)
              have q471 : (mI S3 66 2).toInt = (mI S1 66 2).toInt := zG_zi (f := mI S1) hL_S3 rfl
              have f472 := zG_a hI_S3 4 (-1) (1500) (c := 66) (k := 2) (by decide) (by decide)
              have q473 : (mI S21 66 2).toInt = (mI S3 66 2).toInt := zG_zi (f := mI S3) hL_S21 rfl
              have f474 := zG_a hI_S21 4 (-1) (1500) (c := 66) (k := 2) (by decide) (by decide)
              have q475 : (mI S23 66 2).toInt = (mI S21 66 2).toInt := zG_zi (f := mI S21) hL_S23 rfl
              have f476 := zG_a hI_S23 4 (-1) (1500) (c := 66) (k := 2) (by decide) (by decide)
              have q477 : (mI S25 66 2).toInt = (mI S23 66 2).toInt := zG_zi (f := mI (ma_put S23 66 0 (.inl v24))) hL_S25 rfl
              have f478 := zG_a hI_S25 4 (-1) (1500) (c := 66) (k := 2) (by decide) (by decide)
              have f479 := zG_a hI 4 (-1) (1500) (c := 66) (k := 3) (by decide) (by decide)
              have q480 : (mI S1 66 3).toInt = (mI S 66 3).toInt := zG_zi (f := mI (ma_put S 64 3 (.inl (0 : Int32)))) hL_S1 rfl
              have f481 := zG_a hI_S1 4 (-1) (1500) (c := 66) (k := 3) (by decide) (by decide)
              have q482 : (mI S3 66 3).toInt = (mI S1 66 3).toInt := zG_zi (f := mI S1) hL_S3 rfl
              have f483 := zG_a hI_S3 4 (-1) (1500) (c := 66) (k := 3) (by decide) (by decide)
              have q484 : (mI S21 66 3).toInt = (mI S3 66 3).toInt := zG_zi (f := mI S3) hL_S21 rfl
              have f485 := zG_a hI_S21 4 (-1) (1500) (c := 66) (k := 3) (by decide) (by decide)
              have q486 : (mI S23 66 3).toInt = (mI S21 66 3).toInt := zG_zi (f := mI S21) hL_S23 rfl
              have f487 := zG_a hI_S23 4 (-1) (1500) (c := 66) (k := 3) (by decide) (by decide)
              have q488 : (mI S25 66 3).toInt = (mI S23 66 3).toInt := zG_zi (f := mI (ma_put S23 66 0 (.inl v24))) hL_S25 rfl
              have f489 := zG_a hI_S25 4 (-1) (1500) (c := 66) (k := 3) (by decide) (by decide)
              exact K (v4) _ hI_S25 (show v4.toInt = -1 ∨ (0 ≤ v4.toInt ∧ v4.toInt ≤ 6 ∧ 0 ≤ (mI S25 66 0).toInt ∧ (v4.toInt = 3 → 0 ≤ (mI S25 66 1).toInt) ∧ (v4.toInt = 6 → 16 ≤ (mI S25 66 1).toInt)) from by omega) (show (v4.toInt = -1 ∧ -1 - (mI S25 64 2).toInt = zAns (f 65) (f 64 1).toInt) ∨ (v4.toInt ≠ -1 ∧ zFin v4.toInt (mI S25 66 0).toInt (mI S25 66 1).toInt = zAns (f 65) (f 64 1).toInt) from by first | (have qk : v4.toInt = 2 := (by omega); have q := zAns_go (s := (mI S1 64 2)) (e := (mI S1 64 3).toInt) (k := v4.toInt) rp0_S1 rp1_S1 rp0_S3 (by omega); rw [show zPts v4.toInt = [0] from by rw [qk]; rfl] at q; replace q := q.trans (zRun_ok0 (s := (mI S21 64 2)) (e := (mI S21 64 3).toInt) (x := v24.toInt) (p := (mI S1 64 3).toInt) rp0_S21 (by omega) rp1_S21 (show v24.toInt = zNum (f 65) (mI S21 64 2).toInt (mI S21 64 3).toInt 16 1500 from rp0_S23) (by omega)); have q2 := q.trans (zEnd_okp (s := (mI S25 64 2)) (e := (mI S25 64 3).toInt) (p := (mI S21 64 3).toInt) rp0_S25 (by omega) rp1_S25 (by omega)); exact Or.inr ⟨by omega, (zFin_eq (by omega) (by omega)).trans q2.symm⟩) | (omega) | (exfalso; omega)) (show v4.toInt = 5 → ((mI S25 66 0).toInt = zVal (f 65) (f 64 1).toInt 0 1 ∧ (mI S25 66 1).toInt = zVal (f 65) (f 64 1).toInt 6 2 ∧ (mI S25 66 2).toInt = zVal (f 65) (f 64 1).toInt 3 3 ∧ (mI S25 66 3).toInt = zVal (f 65) (f 64 1).toInt 7 4) from by first | (intro h; exfalso; omega)) (show (v4.toInt = 0 ∨ v4.toInt = 4) → ((mI S25 66 0).toInt = zVal (f 65) (f 64 1).toInt 0 1 ∧ (mI S25 66 1).toInt = zVal (f 65) (f 64 1).toInt 6 2) from by first | (intro h; exfalso; omega)) (show qM1 v4 (mI S25 66 0) (f 65) (f 64 1).toInt from by first | (unfold qM1; intro _; have a0 : (mI S1 64 2).toInt = zts (f 65) (f 64 1).toInt 0 := rp0_S1; have b0 : (mI S1 64 3).toInt = zte (f 65) (f 64 1).toInt 0 := zt_e rp1_S1 a0; have a1 : (mI S21 64 2).toInt = zts (f 65) (f 64 1).toInt 1 := zt_s rp0_S21 (by omega) b0; have b1 : (mI S21 64 3).toInt = zte (f 65) (f 64 1).toInt 1 := zt_e rp1_S21 a1; have z0 : v24.toInt = zVal (f 65) (f 64 1).toInt 0 1 := (show v24.toInt = zNum (f 65) (mI S21 64 2).toInt (mI S21 64 3).toInt 16 1500 from rp0_S23).trans (by rw [a1, b1]; rfl); exact (by omega))) (show qM3 v4 (mI S25 66 0) (mI S25 66 1) (mI S25 66 2) (mI S25 66 3) (f 65) (f 64 1).toInt from by first | (unfold qM3; intro h; exfalso; omega)) (show qM6 v4 (mI S25 66 0) (mI S25 66 1) (mI S25 66 2) (f 65) (f 64 1).toInt from by first | (unfold qM6; intro h; exfalso; omega)) (show v4.toInt = -1 ∨ v4.toInt = zPol (f 65) (Int32.ofInt (zts (f 65) (f 64 1).toInt 0)) (zte (f 65) (f 64 1).toInt 0 - zts (f 65) (f 64 1).toInt 0) from by first | (exact Or.inr (zt_p rp0_S1 rp1_S1 rp0_S3))) (show zFm I0 L0 R0 S25 from by first | (exact rp4_S25))
            · skip
              have g490 := i_ne h453
              have q491 : (mI S25 66 0).toInt = v24.toInt := zG_zi (f := mI (ma_put S23 66 0 (.inl v24))) hL_S25 rfl
              have f492 := zG_a hI_S25 4 (-1) (1500) (c := 66) (k := 0) (by decide) (by decide)
              have f493 := zG_a hI 4 (-1) (1500) (c := 66) (k := 1) (by decide) (by decide)
              have q494 : (mI S1 66 1).toInt = (mI S 66 1).toInt := zG_zi (f := mI (ma_put S 64 3 (.inl (0 : Int32)))) hL_S1 rfl
              have f495 := zG_a hI_S1 4 (-1) (1500) (c := 66) (k := 1) (by decide) (by decide)
              have q496 : (mI S3 66 1).toInt = (mI S1 66 1).toInt := zG_zi (f := mI S1) hL_S3 rfl
              have f497 := zG_a hI_S3 4 (-1) (1500) (c := 66) (k := 1) (by decide) (by decide)
              have q498 : (mI S21 66 1).toInt = (mI S3 66 1).toInt := zG_zi (f := mI S3) hL_S21 rfl
              have f499 := zG_a hI_S21 4 (-1) (1500) (c := 66) (k := 1) (by decide) (by decide)
              have q500 : (mI S23 66 1).toInt = (mI S21 66 1).toInt := zG_zi (f := mI S21) hL_S23 rfl
              have f501 := zG_a hI_S23 4 (-1) (1500) (c := 66) (k := 1) (by decide) (by decide)
              have q502 : (mI S25 66 1).toInt = (mI S23 66 1).toInt := zG_zi (f := mI (ma_put S23 66 0 (.inl v24))) hL_S25 rfl
              have f503 := zG_a hI_S25 4 (-1) (1500) (c := 66) (k := 1) (by decide) (by decide)
              have f504 := zG_a hI 4 (-1) (1500) (c := 66) (k := 2) (by decide) (by decide)
              have q505 : (mI S1 66 2).toInt = (mI S 66 2).toInt := zG_zi (f := mI (ma_put S 64 3 (.inl (0 : Int32)))) hL_S1 rfl
              have f506 := zG_a hI_S1 4 (-1) (1500) (c := 66) (k := 2) (by decide) (by decide)
              have q507 : (mI S3 66 2).toInt = (mI S1 66 2).toInt := zG_zi (f := mI S1) hL_S3 rfl
              have f508 := zG_a hI_S3 4 (-1) (1500) (c := 66) (k := 2) (by decide) (by decide)
              have q509 : (mI S21 66 2).toInt = (mI S3 66 2).toInt := zG_zi (f := mI S3) hL_S21 rfl
              have f510 := zG_a hI_S21 4 (-1) (1500) (c := 66) (k := 2) (by decide) (by decide)
              have q511 : (mI S23 66 2).toInt = (mI S21 66 2).toInt := zG_zi (f := mI S21) hL_S23 rfl
              have f512 := zG_a hI_S23 4 (-1) (1500) (c := 66) (k := 2) (by decide) (by decide)
              have q513 : (mI S25 66 2).toInt = (mI S23 66 2).toInt := zG_zi (f := mI (ma_put S23 66 0 (.inl v24))) hL_S25 rfl
              have f514 := zG_a hI_S25 4 (-1) (1500) (c := 66) (k := 2) (by decide) (by decide)
              have f515 := zG_a hI 4 (-1) (1500) (c := 66) (k := 3) (by decide) (by decide)
              have q516 : (mI S1 66 3).toInt = (mI S 66 3).toInt := zG_zi (f := mI (ma_put S 64 3 (.inl (0 : Int32)))) hL_S1 rfl
              have f517 := zG_a hI_S1 4 (-1) (1500) (c := 66) (k := 3) (by decide) (by decide)
              have q518 : (mI S3 66 3).toInt = (mI S1 66 3).toInt := zG_zi (f := mI S1) hL_S3 rfl
              have f519 := zG_a hI_S3 4 (-1) (1500) (c := 66) (k := 3) (by decide) (by decide)
              have q520 : (mI S21 66 3).toInt = (mI S3 66 3).toInt := zG_zi (f := mI S3) hL_S21 rfl
              have f521 := zG_a hI_S21 4 (-1) (1500) (c := 66) (k := 3) (by decide) (by decide)
              have q522 : (mI S23 66 3).toInt = (mI S21 66 3).toInt := zG_zi (f := mI S21) hL_S23 rfl
              have f523 := zG_a hI_S23 4 (-1) (1500) (c := 66) (k := 3) (by decide) (by decide)
              have q524 : (mI S25 66 3).toInt = (mI S23 66 3).toInt := zG_zi (f := mI (ma_put S23 66 0 (.inl v24))) hL_S25 rfl
              have f525 := zG_a hI_S25 4 (-1) (1500) (c := 66) (k := 3) (by decide) (by decide)
              exact K ((-1 : Int32)) _ hI_S25 (show (-1 : Int32).toInt = -1 ∨ (0 ≤ (-1 : Int32).toInt ∧ (-1 : Int32).toInt ≤ 6 ∧ 0 ≤ (mI S25 66 0).toInt ∧ ((-1 : Int32).toInt = 3 → 0 ≤ (mI S25 66 1).toInt) ∧ ((-1 : Int32).toInt = 6 → 16 ≤ (mI S25 66 1).toInt)) from by omega) (show ((-1 : Int32).toInt = -1 ∧ -1 - (mI S25 64 2).toInt = zAns (f 65) (f 64 1).toInt) ∨ ((-1 : Int32).toInt ≠ -1 ∧ zFin (-1 : Int32).toInt (mI S25 66 0).toInt (mI S25 66 1).toInt = zAns (f 65) (f 64 1).toInt) from by first | (have qk : v4.toInt = 2 := (by omega); have q := zAns_go (s := (mI S1 64 2)) (e := (mI S1 64 3).toInt) (k := v4.toInt) rp0_S1 rp1_S1 rp0_S3 (by omega); rw [show zPts v4.toInt = [0] from by rw [qk]; rfl] at q; replace q := q.trans (zRun_ok0 (s := (mI S21 64 2)) (e := (mI S21 64 3).toInt) (x := v24.toInt) (p := (mI S1 64 3).toInt) rp0_S21 (by omega) rp1_S21 (show v24.toInt = zNum (f 65) (mI S21 64 2).toInt (mI S21 64 3).toInt 16 1500 from rp0_S23) (by omega)); have q2 := q.trans (zEnd_badp (s := (mI S25 64 2)) (e := (mI S25 64 3).toInt) (p := (mI S21 64 3).toInt) rp0_S25 (by omega) rp1_S25 (by omega)); exact Or.inl ⟨rfl, by omega⟩) | (omega) | (exfalso; omega)) (show (-1 : Int32).toInt = 5 → ((mI S25 66 0).toInt = zVal (f 65) (f 64 1).toInt 0 1 ∧ (mI S25 66 1).toInt = zVal (f 65) (f 64 1).toInt 6 2 ∧ (mI S25 66 2).toInt = zVal (f 65) (f 64 1).toInt 3 3 ∧ (mI S25 66 3).toInt = zVal (f 65) (f 64 1).toInt 7 4) from by first | (intro h; exact absurd h (by decide))) (show ((-1 : Int32).toInt = 0 ∨ (-1 : Int32).toInt = 4) → ((mI S25 66 0).toInt = zVal (f 65) (f 64 1).toInt 0 1 ∧ (mI S25 66 1).toInt = zVal (f 65) (f 64 1).toInt 6 2) from by first | (intro h; exact absurd h (by decide))) (show qM1 (-1 : Int32) (mI S25 66 0) (f 65) (f 64 1).toInt from by first | (unfold qM1; intro h; exact absurd h (by decide))) (show qM3 (-1 : Int32) (mI S25 66 0) (mI S25 66 1) (mI S25 66 2) (mI S25 66 3) (f 65) (f 64 1).toInt from by first | (unfold qM3; intro h; exact absurd h (by decide))) (show qM6 (-1 : Int32) (mI S25 66 0) (mI S25 66 1) (mI S25 66 2) (f 65) (f 64 1).toInt from by first | (unfold qM6; intro h; exact absurd h (by decide))) (show (-1 : Int32).toInt = -1 ∨ (-1 : Int32).toInt = zPol (f 65) (Int32.ofInt (zts (f 65) (f 64 1).toInt 0)) (zte (f 65) (f 64 1).toInt 0 - zts (f 65) (f 64 1).toInt 0) from by first | (exact Or.inl rfl)) (show zFm I0 L0 R0 S25 from by first | (exact rp4_S25))
      · skip
        have g526 := i_ne h371
        have li527 : (3 : Int32).toInt = 3 := rfl
        refine zd (fun h528 => ?_) (fun h528 => ?_)
        · skip
          have g529 := i_eq h528
          have q530 : (mI S3 64 3).toInt = (mI S1 64 3).toInt := zG_zi (f := mI S1) hL_S3 rfl
          have f531 := zG_s hI_S3 (0) (100) (c := 64) (k := 3) (by decide)
          refine sp_129_64_sq (p0 := ((mI S3 64 3).toInt)) (I0 := I0) (L0 := L0) (R0 := R0) (by omega) (by omega) (zR_dn_zY hI_S3) (show (mI S3 64 3).toInt = ((mI S3 64 3).toInt) from by omega) (show zFm I0 L0 R0 S3 from by first | (exact rp1_S3)) (fun v28 S27 hL_S27 hp_v28 rp0_S27 rp1_S27 rp2_S27 rp3_S27 rp4_S27 => zi_n ⟨zG_T hL_S27, ?_⟩)
          have hI_S27 := zR_up_zY hI_S3 hL_S27
          have f532 := zG_s hI_S27 (0) (100) (c := 64) (k := 2) (by decide)
          have rp0_S27 : (mI S27 64 2).toInt = tk true (f 65) (f 64 1).toInt ((mI S3 64 3).toInt) := by
            have z := rp0_S27
            (try rw [show mI S3 65 = f 65 from funext (fun k => zG_z hI_S3 rfl)] at z)
            (try rw [show mI S3 64 1 = f 64 1 from zG_z hI_S3 rfl] at z)
            exact z
          have f533 := zG_s hI_S27 (0) (100) (c := 64) (k := 3) (by decide)
          have rp1_S27 : (mI S27 64 3).toInt = tk false (f 65) (f 64 1).toInt (mI S27 64 2).toInt := by
            have z := rp1_S27
            (try rw [show mI S3 65 = f 65 from funext (fun k => zG_z hI_S3 rfl)] at z)
            (try rw [show mI S3 64 1 = f 64 1 from zG_z hI_S3 rfl] at z)
            exact z
          have rp2_S27 : (v28.toInt = 1 ∧ (mI S27 64 2).toInt < (mI S27 64 3).toInt) ∨ (v28.toInt = 0 ∧ (mI S27 64 3).toInt ≤ (mI S27 64 2).toInt) := by
            have z := rp2_S27
            (try rw [show mI S3 65 = f 65 from funext (fun k => zG_z hI_S3 rfl)] at z)
            (try rw [show mI S3 64 1 = f 64 1 from zG_z hI_S3 rfl] at z)
            exact z
          have rp3_S27 : (mI S27 64 2).toInt ≤ (mI S27 64 3).toInt := by
            have z := rp3_S27
            (try rw [show mI S3 65 = f 65 from funext (fun k => zG_z hI_S3 rfl)] at z)
            (try rw [show mI S3 64 1 = f 64 1 from zG_z hI_S3 rfl] at z)
            exact z
          have rp4_S27 : zFm I0 L0 R0 S27 := by
            have z := rp4_S27
            (try rw [show mI S3 65 = f 65 from funext (fun k => zG_z hI_S3 rfl)] at z)
            (try rw [show mI S3 64 1 = f 64 1 from zG_z hI_S3 rfl] at z)
            exact z
          have li534 : (16 : Int32).toInt = 16 := rfl
          have li535 : (1500 : Int32).toInt = 1500 := rfl
          refine sp_134_64_sq (I0 := I0) (L0 := L0) (R0 := R0) ((16 : Int32)) ((1500 : Int32)) (by omega) (by omega) (zR_dn_zY0 hI_S27) (show (mI S27 64 2).toInt ≤ (mI S27 64 3).toInt from by omega) (show zFm I0 L0 R0 S27 from by first | (exact rp4_S27)) (fun v30 S29 hL_S29 hp_v30 rp0_S29 rp1_S29 => zi_n ⟨zG_T hL_S29, ?_⟩)
          have hI_S29 := zR_up_zY0 hI_S27 hL_S29
          have rp0_S29 : v30.toInt = zNum (f 65) (mI S27 64 2).toInt (mI S27 64 3).toInt (16 : Int32).toInt (1500 : Int32).toInt := by
            have z := rp0_S29
            (try rw [show mI S27 65 = f 65 from funext (fun k => zG_z hI_S27 rfl)] at z)
            (try rw [show mI S27 64 1 = f 64 1 from zG_z hI_S27 rfl] at z)
            exact z
          have rp1_S29 : zFm I0 L0 R0 S29 := by
            have z := rp1_S29
            (try rw [show mI S27 65 = f 65 from funext (fun k => zG_z hI_S27 rfl)] at z)
            (try rw [show mI S27 64 1 = f 64 1 from zG_z hI_S27 rfl] at z)
            exact z
          have b536 := i_bd v30
          have li537 : (-1 : Int32).toInt = -1 := rfl
          refine zd (fun h538 => ?_) (fun h538 => ?_)
          · skip
            have g539 := i_eq h538
            have hI540 : zR f r C Z N (ma_put S29 66 0 (.inl v30)) := zG_sa hI_S29 (-1) (1500) rfl (by decide) (by decide) (by decide) trivial (by omega) (by omega)
            have f541 := zG_a hI 4 (-1) (1500) (c := 66) (k := 1) (by decide) (by decide)
            have q542 : (mI S1 66 1).toInt = (mI S 66 1).toInt := zG_zi (f := mI (ma_put S 64 3 (.inl (0 : Int32)))) hL_S1 rfl
            have f543 := zG_a hI_S1 4 (-1) (1500) (c := 66) (k := 1) (by decide) (by decide)
            have q544 : (mI S3 66 1).toInt = (mI S1 66 1).toInt := zG_zi (f := mI S1) hL_S3 rfl
            have f545 := zG_a hI_S3 4 (-1) (1500) (c := 66) (k := 1) (by decide) (by decide)
            have q546 : (mI S27 66 1).toInt = (mI S3 66 1).toInt := zG_zi (f := mI S3) hL_S27 rfl
            have f547 := zG_a hI_S27 4 (-1) (1500) (c := 66) (k := 1) (by decide) (by decide)
            have q548 : (mI S29 66 1).toInt = (mI S27 66 1).toInt := zG_zi (f := mI S27) hL_S29 rfl
            have f549 := zG_a hI_S29 4 (-1) (1500) (c := 66) (k := 1) (by decide) (by decide)
            have q550 : (mI S29 64 2).toInt = (mI S27 64 2).toInt := zG_zi (f := mI S27) hL_S29 rfl
            have f551 := zG_s hI_S29 (0) (100) (c := 64) (k := 2) (by decide)
            have f552 := zG_a hI 4 (-1) (1500) (c := 66) (k := 2) (by decide) (by decide)
            have q553 : (mI S1 66 2).toInt = (mI S 66 2).toInt := zG_zi (f := mI (ma_put S 64 3 (.inl (0 : Int32)))) hL_S1 rfl
            have f554 := zG_a hI_S1 4 (-1) (1500) (c := 66) (k := 2) (by decide) (by decide)
            have q555 : (mI S3 66 2).toInt = (mI S1 66 2).toInt := zG_zi (f := mI S1) hL_S3 rfl
            have f556 := zG_a hI_S3 4 (-1) (1500) (c := 66) (k := 2) (by decide) (by decide)
            have q557 : (mI S27 66 2).toInt = (mI S3 66 2).toInt := zG_zi (f := mI S3) hL_S27 rfl
            have f558 := zG_a hI_S27 4 (-1) (1500) (c := 66) (k := 2) (by decide) (by decide)
            have q559 : (mI S29 66 2).toInt = (mI S27 66 2).toInt := zG_zi (f := mI S27) hL_S29 rfl
            have f560 := zG_a hI_S29 4 (-1) (1500) (c := 66) (k := 2) (by decide) (by decide)
            have f561 := zG_a hI 4 (-1) (1500) (c := 66) (k := 3) (by decide) (by decide)
            have q562 : (mI S1 66 3).toInt = (mI S 66 3).toInt := zG_zi (f := mI (ma_put S 64 3 (.inl (0 : Int32)))) hL_S1 rfl
            have f563 := zG_a hI_S1 4 (-1) (1500) (c := 66) (k := 3) (by decide) (by decide)
            have q564 : (mI S3 66 3).toInt = (mI S1 66 3).toInt := zG_zi (f := mI S1) hL_S3 rfl
            have f565 := zG_a hI_S3 4 (-1) (1500) (c := 66) (k := 3) (by decide) (by decide)
            have q566 : (mI S27 66 3).toInt = (mI S3 66 3).toInt := zG_zi (f := mI S3) hL_S27 rfl
            have f567 := zG_a hI_S27 4 (-1) (1500) (c := 66) (k := 3) (by decide) (by decide)
            have q568 : (mI S29 66 3).toInt = (mI S27 66 3).toInt := zG_zi (f := mI S27) hL_S29 rfl
            have f569 := zG_a hI_S29 4 (-1) (1500) (c := 66) (k := 3) (by decide) (by decide)
            exact K ((-1 : Int32)) _ hI540 (show (-1 : Int32).toInt = -1 ∨ (0 ≤ (-1 : Int32).toInt ∧ (-1 : Int32).toInt ≤ 6 ∧ 0 ≤ v30.toInt ∧ ((-1 : Int32).toInt = 3 → 0 ≤ (mI S29 66 1).toInt) ∧ ((-1 : Int32).toInt = 6 → 16 ≤ (mI S29 66 1).toInt)) from by omega) (show ((-1 : Int32).toInt = -1 ∧ -1 - (mI S29 64 2).toInt = zAns (f 65) (f 64 1).toInt) ∨ ((-1 : Int32).toInt ≠ -1 ∧ zFin (-1 : Int32).toInt v30.toInt (mI S29 66 1).toInt = zAns (f 65) (f 64 1).toInt) from by first | (have qk : v4.toInt = 3 := (by omega); have q := zAns_go (s := (mI S1 64 2)) (e := (mI S1 64 3).toInt) (k := v4.toInt) rp0_S1 rp1_S1 rp0_S3 (by omega); rw [show zPts v4.toInt = [0, 0, 1, 2] from by rw [qk]; rfl] at q; have q2 := q.trans (zRun_badp (s := (mI S27 64 2)) (e := (mI S27 64 3).toInt) (x := v30.toInt) (p := (mI S1 64 3).toInt) rp0_S27 (by omega) rp1_S27 (show v30.toInt = zNum (f 65) (mI S27 64 2).toInt (mI S27 64 3).toInt 16 1500 from rp0_S29) (by omega)); exact Or.inl ⟨rfl, by omega⟩) | (omega) | (exfalso; omega)) (show (-1 : Int32).toInt = 5 → (v30.toInt = zVal (f 65) (f 64 1).toInt 0 1 ∧ (mI S29 66 1).toInt = zVal (f 65) (f 64 1).toInt 6 2 ∧ (mI S29 66 2).toInt = zVal (f 65) (f 64 1).toInt 3 3 ∧ (mI S29 66 3).toInt = zVal (f 65) (f 64 1).toInt 7 4) from by first | (intro h; exact absurd h (by decide))) (show ((-1 : Int32).toInt = 0 ∨ (-1 : Int32).toInt = 4) → (v30.toInt = zVal (f 65) (f 64 1).toInt 0 1 ∧ (mI S29 66 1).toInt = zVal (f 65) (f 64 1).toInt 6 2) from by first | (intro h; exact absurd h (by decide))) (show qM1 (-1 : Int32) v30 (f 65) (f 64 1).toInt from by first | (unfold qM1; intro h; exact absurd h (by decide))) (show qM3 (-1 : Int32) v30 (mI S29 66 1) (mI S29 66 2) (mI S29 66 3) (f 65) (f 64 1).toInt from by first | (unfold qM3; intro h; exact absurd h (by decide))) (show qM6 (-1 : Int32) v30 (mI S29 66 1) (mI S29 66 2) (f 65) (f 64 1).toInt from by first | (unfold qM6; intro h; exact absurd h (by decide))) (show (-1 : Int32).toInt = -1 ∨ (-1 : Int32).toInt = zPol (f 65) (Int32.ofInt (zts (f 65) (f 64 1).toInt 0)) (zte (f 65) (f 64 1).toInt 0 - zts (f 65) (f 64 1).toInt 0) from by first | (exact Or.inl rfl)) (show zFm I0 L0 R0 (ma_put S29 66 0 (.inl v30)) from by first | (exact (fn9_p rp1_S29 (by decide))))
          · skip
            have g570 := i_ne h538
            have hI571 : zR f r C Z N (ma_put S29 66 0 (.inl v30)) := zG_sa hI_S29 (-1) (1500) rfl (by decide) (by decide) (by decide) trivial (by omega) (by omega)
            have q572 : (mI S29 64 3).toInt = (mI S27 64 3).toInt := zG_zi (f := mI S27) hL_S29 rfl
            have f573 := zG_s hI_S29 (0) (100) (c := 64) (k := 3) (by decide)
            refine sp_129_64_sq (p0 := ((mI S29 64 3).toInt)) (I0 := I0) (L0 := L0) (R0 := R0) (by omega) (by omega) (zR_dn_zY hI571) (show (mI S29 64 3).toInt = ((mI S29 64 3).toInt) from by omega) (show zFm I0 L0 R0 (ma_put S29 66 0 (.inl v30)) from by first | (exact (fn9_p rp1_S29 (by decide)))) (fun v32 S31 hL_S31 hp_v32 rp0_S31 rp1_S31 rp2_S31 rp3_S31 rp4_S31 => zi_n ⟨zG_T hL_S31, ?_⟩)
            have hI_S31 := zR_up_zY hI571 hL_S31
            have f574 := zG_s hI_S31 (0) (100) (c := 64) (k := 2) (by decide)
            have rp0_S31 : (mI S31 64 2).toInt = tk true (f 65) (f 64 1).toInt ((mI S29 64 3).toInt) := by
              have z := rp0_S31
              (try rw [show mI (ma_put S29 66 0 (.inl v30)) 65 = f 65 from funext (fun k => zG_z hI571 rfl)] at z)
              (try rw [show mI (ma_put S29 66 0 (.inl v30)) 64 1 = f 64 1 from zG_z hI571 rfl] at z)
              exact z
            have f575 := zG_s hI_S31 (0) (100) (c := 64) (k := 3) (by decide)
            have rp1_S31 : (mI S31 64 3).toInt = tk false (f 65) (f 64 1).toInt (mI S31 64 2).toInt := by
              have z := rp1_S31
              (try rw [show mI (ma_put S29 66 0 (.inl v30)) 65 = f 65 from funext (fun k => zG_z hI571 rfl)] at z)
              (try rw [show mI (ma_put S29 66 0 (.inl v30)) 64 1 = f 64 1 from zG_z hI571 rfl] at z)
              exact z
            have rp2_S31 : (v32.toInt = 1 ∧ (mI S31 64 2).toInt < (mI S31 64 3).toInt) ∨ (v32.toInt = 0 ∧ (mI S31 64 3).toInt ≤ (mI S31 64 2).toInt) := by
              have z := rp2_S31
              (try rw [show mI (ma_put S29 66 0 (.inl v30)) 65 = f 65 from funext (fun k => zG_z hI571 rfl)] at z)
              (try rw [show mI (ma_put S29 66 0 (.inl v30)) 64 1 = f 64 1 from zG_z hI571 rfl] at z)
              exact z
            have rp3_S31 : (mI S31 64 2).toInt ≤ (mI S31 64 3).toInt := by
              have z := rp3_S31
              (try rw [show mI (ma_put S29 66 0 (.inl v30)) 65 = f 65 from funext (fun k => zG_z hI571 rfl)] at z)
              (try rw [show mI (ma_put S29 66 0 (.inl v30)) 64 1 = f 64 1 from zG_z hI571 rfl] at z)
              exact z
            have rp4_S31 : zFm I0 L0 R0 S31 := by
              have z := rp4_S31
              (try rw [show mI (ma_put S29 66 0 (.inl v30)) 65 = f 65 from funext (fun k => zG_z hI571 rfl)] at z)
              (try rw [show mI (ma_put S29 66 0 (.inl v30)) 64 1 = f 64 1 from zG_z hI571 rfl] at z)
              exact z
            refine sp_134_64_sq (I0 := I0) (L0 := L0) (R0 := R0) ((16 : Int32)) ((1500 : Int32)) (by omega) (by omega) (zR_dn_zY0 hI_S31) (show (mI S31 64 2).toInt ≤ (mI S31 64 3).toInt from by omega) (show zFm I0 L0 R0 S31 from by first | (exact rp4_S31)) (fun v34 S33 hL_S33 hp_v34 rp0_S33 rp1_S33 => zi_n ⟨zG_T hL_S33, ?_⟩)
            have hI_S33 := zR_up_zY0 hI_S31 hL_S33
            have rp0_S33 : v34.toInt = zNum (f 65) (mI S31 64 2).toInt (mI S31 64 3).toInt (16 : Int32).toInt (1500 : Int32).toInt := by
              have z := rp0_S33
              (try rw [show mI S31 65 = f 65 from funext (fun k => zG_z hI_S31 rfl)] at z)
              (try rw [show mI S31 64 1 = f 64 1 from zG_z hI_S31 rfl] at z)
              exact z
            have rp1_S33 : zFm I0 L0 R0 S33 := by
              have z := rp1_S33
              (try rw [show mI S31 65 = f 65 from funext (fun k => zG_z hI_S31 rfl)] at z)
              (try rw [show mI S31 64 1 = f 64 1 from zG_z hI_S31 rfl] at z)
              exact z
            have b576 := i_bd v34
            refine zd (fun h577 => ?_) (fun h577 => ?_)
            · skip
              have g578 := i_eq h577
              have hI579 : zR f r C Z N (ma_put S33 66 1 (.inl v34)) := zG_sa hI_S33 (-1) (1500) rfl (by decide) (by decide) (by decide) trivial (by omega) (by omega)
              have q580 : (mI S31 66 0).toInt = v30.toInt := zG_zi (f := mI (ma_put S29 66 0 (.inl v30))) hL_S31 rfl
              have f581 := zG_a hI_S31 4 (-1) (1500) (c := 66) (k := 0) (by decide) (by decide)
              have q582 : (mI S33 66 0).toInt = (mI S31 66 0).toInt := zG_zi (f := mI S31) hL_S33 rfl
              have f583 := zG_a hI_S33 4 (-1) (1500) (c := 66) (k := 0) (by decide) (by decide)
              have q584 : (mI S33 64 2).toInt = (mI S31 64 2).toInt := zG_zi (f := mI S31) hL_S33 rfl
              have f585 := zG_s hI_S33 (0) (100) (c := 64) (k := 2) (by decide)
              have f586 := zG_a hI 4 (-1) (1500) (c := 66) (k := 2) (by decide) (by decide)
              have q587 : (mI S1 66 2).toInt = (mI S 66 2).toInt := zG_zi (f := mI (ma_put S 64 3 (.inl (0 : Int32)))) hL_S1 rfl
              have f588 := zG_a hI_S1 4 (-1) (1500) (c := 66) (k := 2) (by decide) (by decide)
              have q589 : (mI S3 66 2).toInt = (mI S1 66 2).toInt := zG_zi (f := mI S1) hL_S3 rfl
              have f590 := zG_a hI_S3 4 (-1) (1500) (c := 66) (k := 2) (by decide) (by decide)
              have q591 : (mI S27 66 2).toInt = (mI S3 66 2).toInt := zG_zi (f := mI S3) hL_S27 rfl
              have f592 := zG_a hI_S27 4 (-1) (1500) (c := 66) (k := 2) (by decide) (by decide)
              have q593 : (mI S29 66 2).toInt = (mI S27 66 2).toInt := zG_zi (f := mI S27) hL_S29 rfl
              have f594 := zG_a hI_S29 4 (-1) (1500) (c := 66) (k := 2) (by decide) (by decide)
              have q595 : (mI S31 66 2).toInt = (mI S29 66 2).toInt := zG_zi (f := mI (ma_put S29 66 0 (.inl v30))) hL_S31 rfl
              have f596 := zG_a hI_S31 4 (-1) (1500) (c := 66) (k := 2) (by decide) (by decide)
              have q597 : (mI S33 66 2).toInt = (mI S31 66 2).toInt := zG_zi (f := mI S31) hL_S33 rfl
              have f598 := zG_a hI_S33 4 (-1) (1500) (c := 66) (k := 2) (by decide) (by decide)
              have f599 := zG_a hI 4 (-1) (1500) (c := 66) (k := 3) (by decide) (by decide)
              have q600 : (mI S1 66 3).toInt = (mI S 66 3).toInt := zG_zi (f := mI (ma_put S 64 3 (.inl (0 : Int32)))) hL_S1 rfl
              have f601 := zG_a hI_S1 4 (-1) (1500) (c := 66) (k := 3) (by decide) (by decide)
              have q602 : (mI S3 66 3).toInt = (mI S1 66 3).toInt := zG_zi (f := mI S1) hL_S3 rfl
              have f603 := zG_a hI_S3 4 (-1) (1500) (c := 66) (k := 3) (by decide) (by decide)
              have q604 : (mI S27 66 3).toInt = (mI S3 66 3).toInt := zG_zi (f := mI S3) hL_S27 rfl
              have f605 := zG_a hI_S27 4 (-1) (1500) (c := 66) (k := 3) (by decide) (by decide)
              have q606 : (mI S29 66 3).toInt = (mI S27 66 3).toInt := zG_zi (f := mI S27) hL_S29 rfl
              have f607 := zG_a hI_S29 4 (-1) (1500) (c := 66) (k := 3) (by decide) (by decide)
              have q608 : (mI S31 66 3).toInt = (mI S29 66 3).toInt := zG_zi (f := mI (ma_put S29 66 0 (.inl v30))) hL_S31 rfl
              have f609 := zG_a hI_S31 4 (-1) (1500) (c := 66) (k := 3) (by decide) (by decide)
              have q610 : (mI S33 66 3).toInt = (mI S31 66 3).toInt := zG_zi (f := mI S31) hL_S33 rfl
              have f611 := zG_a hI_S33 4 (-1) (1500) (c := 66) (k := 3) (by decide) (by decide)
              exact K ((-1 : Int32)) _ hI579 (show (-1 : Int32).toInt = -1 ∨ (0 ≤ (-1 : Int32).toInt ∧ (-1 : Int32).toInt ≤ 6 ∧ 0 ≤ (mI S33 66 0).toInt ∧ ((-1 : Int32).toInt = 3 → 0 ≤ v34.toInt) ∧ ((-1 : Int32).toInt = 6 → 16 ≤ v34.toInt)) from by omega) (show ((-1 : Int32).toInt = -1 ∧ -1 - (mI S33 64 2).toInt = zAns (f 65) (f 64 1).toInt) ∨ ((-1 : Int32).toInt ≠ -1 ∧ zFin (-1 : Int32).toInt (mI S33 66 0).toInt v34.toInt = zAns (f 65) (f 64 1).toInt) from by first | (have qk : v4.toInt = 3 := (by omega); have q := zAns_go (s := (mI S1 64 2)) (e := (mI S1 64 3).toInt) (k := v4.toInt) rp0_S1 rp1_S1 rp0_S3 (by omega); rw [show zPts v4.toInt = [0, 0, 1, 2] from by rw [qk]; rfl] at q; replace q := q.trans (zRun_ok0 (s := (mI S27 64 2)) (e := (mI S27 64 3).toInt) (x := v30.toInt) (p := (mI S1 64 3).toInt) rp0_S27 (by omega) rp1_S27 (show v30.toInt = zNum (f 65) (mI S27 64 2).toInt (mI S27 64 3).toInt 16 1500 from rp0_S29) (by omega)); have q2 := q.trans (zRun_badp (s := (mI S31 64 2)) (e := (mI S31 64 3).toInt) (x := v34.toInt) (p := (mI S27 64 3).toInt) rp0_S31 (by omega) rp1_S31 (show v34.toInt = zNum (f 65) (mI S31 64 2).toInt (mI S31 64 3).toInt 16 1500 from rp0_S33) (by omega)); exact Or.inl ⟨rfl, by omega⟩) | (omega) | (exfalso; omega)) (show (-1 : Int32).toInt = 5 → ((mI S33 66 0).toInt = zVal (f 65) (f 64 1).toInt 0 1 ∧ v34.toInt = zVal (f 65) (f 64 1).toInt 6 2 ∧ (mI S33 66 2).toInt = zVal (f 65) (f 64 1).toInt 3 3 ∧ (mI S33 66 3).toInt = zVal (f 65) (f 64 1).toInt 7 4) from by first | (intro h; exact absurd h (by decide))) (show ((-1 : Int32).toInt = 0 ∨ (-1 : Int32).toInt = 4) → ((mI S33 66 0).toInt = zVal (f 65) (f 64 1).toInt 0 1 ∧ v34.toInt = zVal (f 65) (f 64 1).toInt 6 2) from by first | (intro h; exact absurd h (by decide))) (show qM1 (-1 : Int32) (mI S33 66 0) (f 65) (f 64 1).toInt from by first | (unfold qM1; intro h; exact absurd h (by decide))) (show qM3 (-1 : Int32) (mI S33 66 0) v34 (mI S33 66 2) (mI S33 66 3) (f 65) (f 64 1).toInt from by first | (unfold qM3; intro h; exact absurd h (by decide))) (show qM6 (-1 : Int32) (mI S33 66 0) v34 (mI S33 66 2) (f 65) (f 64 1).toInt from by first | (unfold qM6; intro h; exact absurd h (by decide))) (show (-1 : Int32).toInt = -1 ∨ (-1 : Int32).toInt = zPol (f 65) (Int32.ofInt (zts (f 65) (f 64 1).toInt 0)) (zte (f 65) (f 64 1).toInt 0 - zts (f 65) (f 64 1).toInt 0) from by first | (exact Or.inl rfl)) (show zFm I0 L0 R0 (ma_put S33 66 1 (.inl v34)) from by first | (exact (fn9_p rp1_S33 (by decide))))
            · skip
              have g612 := i_ne h577
              have hI613 : zR f r C Z N (ma_put S33 66 1 (.inl v34)) := zG_sa hI_S33 (-1) (1500) rfl (by decide) (by decide) (by decide) trivial (by omega) (by omega)
              have q614 : (mI S33 64 3).toInt = (mI S31 64 3).toInt := zG_zi (f := mI S31) hL_S33 rfl
              have f615 := zG_s hI_S33 (0) (100) (c := 64) (k := 3) (by decide)
              refine sp_129_64_sq (p0 := ((mI S33 64 3).toInt)) (I0 := I0) (L0 := L0) (R0 := R0) (by omega) (by omega) (zR_dn_zY hI613) (show (mI S33 64 3).toInt = ((mI S33 64 3).toInt) from by omega) (show zFm I0 L0 R0 (ma_put S33 66 1 (.inl v34)) from by first | (exact (fn9_p rp1_S33 (by decide)))) (fun v36 S35 hL_S35 hp_v36 rp0_S35 rp1_S35 rp2_S35 rp3_S35 rp4_S35 => zi_n ⟨zG_T hL_S35, ?_⟩)
              have hI_S35 := zR_up_zY hI613 hL_S35
              have f616 := zG_s hI_S35 (0) (100) (c := 64) (k := 2) (by decide)
              have rp0_S35 : (mI S35 64 2).toInt = tk true (f 65) (f 64 1).toInt ((mI S33 64 3).toInt) := by
                have z := rp0_S35
                (try rw [show mI (ma_put S33 66 1 (.inl v34)) 65 = f 65 from funext (fun k => zG_z hI613 rfl)] at z)
                (try rw [show mI (ma_put S33 66 1 (.inl v34)) 64 1 = f 64 1 from zG_z hI613 rfl] at z)
                exact z
              have f617 := zG_s hI_S35 (0) (100) (c := 64) (k := 3) (by decide)
              have rp1_S35 : (mI S35 64 3).toInt = tk false (f 65) (f 64 1).toInt (mI S35 64 2).toInt := by
                have z := rp1_S35
                (try rw [show mI (ma_put S33 66 1 (.inl v34)) 65 = f 65 from funext (fun k => zG_z hI613 rfl)] at z)
                (try rw [show mI (ma_put S33 66 1 (.inl v34)) 64 1 = f 64 1 from zG_z hI613 rfl] at z)
                exact z
              have rp2_S35 : (v36.toInt = 1 ∧ (mI S35 64 2).toInt < (mI S35 64 3).toInt) ∨ (v36.toInt = 0 ∧ (mI S35 64 3).toInt ≤ (mI S35 64 2).toInt) := by
                have z := rp2_S35
                (try rw [show mI (ma_put S33 66 1 (.inl v34)) 65 = f 65 from funext (fun k => zG_z hI613 rfl)] at z)
                (try rw [show mI (ma_put S33 66 1 (.inl v34)) 64 1 = f 64 1 from zG_z hI613 rfl] at z)
                exact z
              have rp3_S35 : (mI S35 64 2).toInt ≤ (mI S35 64 3).toInt := by
                have z := rp3_S35
                (try rw [show mI (ma_put S33 66 1 (.inl v34)) 65 = f 65 from funext (fun k => zG_z hI613 rfl)] at z)
                (try rw [show mI (ma_put S33 66 1 (.inl v34)) 64 1 = f 64 1 from zG_z hI613 rfl] at z)
                exact z
              have rp4_S35 : zFm I0 L0 R0 S35 := by
                have z := rp4_S35
                (try rw [show mI (ma_put S33 66 1 (.inl v34)) 65 = f 65 from funext (fun k => zG_z hI613 rfl)] at z)
                (try rw [show mI (ma_put S33 66 1 (.inl v34)) 64 1 = f 64 1 from zG_z hI613 rfl] at z)
                exact z
              have li618 : (7 : Int32).toInt = 7 := rfl
              refine sp_134_64_sq (I0 := I0) (L0 := L0) (R0 := R0) ((1 : Int32)) ((7 : Int32)) (by omega) (by omega) (zR_dn_zY0 hI_S35) (show (mI S35 64 2).toInt ≤ (mI S35 64 3).toInt from by omega) (show zFm I0 L0 R0 S35 from by first | (exact rp4_S35)) (fun v38 S37 hL_S37 hp_v38 rp0_S37 rp1_S37 => zi_n ⟨zG_T hL_S37, ?_⟩)
              have hI_S37 := zR_up_zY0 hI_S35 hL_S37
              have rp0_S37 : v38.toInt = zNum (f 65) (mI S35 64 2).toInt (mI S35 64 3).toInt (1 : Int32).toInt (7 : Int32).toInt := by
                have z := rp0_S37
                (try rw [show mI S35 65 = f 65 from funext (fun k => zG_z hI_S35 rfl)] at z)
                (try rw [show mI S35 64 1 = f 64 1 from zG_z hI_S35 rfl] at z)
                exact z
              have rp1_S37 : zFm I0 L0 R0 S37 := by
                have z := rp1_S37
                (try rw [show mI S35 65 = f 65 from funext (fun k => zG_z hI_S35 rfl)] at z)
                (try rw [show mI S35 64 1 = f 64 1 from zG_z hI_S35 rfl] at z)
                exact z
              have b619 := i_bd v38
              refine zd (fun h620 => ?_) (fun h620 => ?_)
              · skip
                have g621 := i_eq h620
                have hI622 : zR f r C Z N (ma_put S37 66 2 (.inl v38)) := zG_sa hI_S37 (-1) (1500) rfl (by decide) (by decide) (by decide) trivial (by omega) (by omega)
                have q623 : (mI S31 66 0).toInt = v30.toInt := zG_zi (f := mI (ma_put S29 66 0 (.inl v30))) hL_S31 rfl
                have f624 := zG_a hI_S31 4 (-1) (1500) (c := 66) (k := 0) (by decide) (by decide)
                have q625 : (mI S33 66 0).toInt = (mI S31 66 0).toInt := zG_zi (f := mI S31) hL_S33 rfl
                have f626 := zG_a hI_S33 4 (-1) (1500) (c := 66) (k := 0) (by decide) (by decide)
                have q627 : (mI S35 66 0).toInt = (mI S33 66 0).toInt := zG_zi (f := mI (ma_put S33 66 1 (.inl v34))) hL_S35 rfl
                have f628 := zG_a hI_S35 4 (-1) (1500) (c := 66) (k := 0) (by decide) (by decide)
                have q629 : (mI S37 66 0).toInt = (mI S35 66 0).toInt := zG_zi (f := mI S35) hL_S37 rfl
                have f630 := zG_a hI_S37 4 (-1) (1500) (c := 66) (k := 0) (by decide) (by decide)
                have q631 : (mI S35 66 1).toInt = v34.toInt := zG_zi (f := mI (ma_put S33 66 1 (.inl v34))) hL_S35 rfl
                have f632 := zG_a hI_S35 4 (-1) (1500) (c := 66) (k := 1) (by decide) (by decide)
                have q633 : (mI S37 66 1).toInt = (mI S35 66 1).toInt := zG_zi (f := mI S35) hL_S37 rfl
                have f634 := zG_a hI_S37 4 (-1) (1500) (c := 66) (k := 1) (by decide) (by decide)
                have q635 : (mI S37 64 2).toInt = (mI S35 64 2).toInt := zG_zi (f := mI S35) hL_S37 rfl
                have f636 := zG_s hI_S37 (0) (100) (c := 64) (k := 2) (by decide)
                have f637 := zG_a hI 4 (-1) (1500) (c := 66) (k := 3) (by decide) (by decide)
                have q638 : (mI S1 66 3).toInt = (mI S 66 3).toInt := zG_zi (f := mI (ma_put S 64 3 (.inl (0 : Int32)))) hL_S1 rfl
                have f639 := zG_a hI_S1 4 (-1) (1500) (c := 66) (k := 3) (by decide) (by decide)
                have q640 : (mI S3 66 3).toInt = (mI S1 66 3).toInt := zG_zi (f := mI S1) hL_S3 rfl
                have f641 := zG_a hI_S3 4 (-1) (1500) (c := 66) (k := 3) (by decide) (by decide)
                have q642 : (mI S27 66 3).toInt = (mI S3 66 3).toInt := zG_zi (f := mI S3) hL_S27 rfl
                have f643 := zG_a hI_S27 4 (-1) (1500) (c := 66) (k := 3) (by decide) (by decide)
                have q644 : (mI S29 66 3).toInt = (mI S27 66 3).toInt := zG_zi (f := mI S27) hL_S29 rfl
                have f645 := zG_a hI_S29 4 (-1) (1500) (c := 66) (k := 3) (by decide) (by decide)
                have q646 : (mI S31 66 3).toInt = (mI S29 66 3).toInt := zG_zi (f := mI (ma_put S29 66 0 (.inl v30))) hL_S31 rfl
                have f647 := zG_a hI_S31 4 (-1) (1500) (c := 66) (k := 3) (by decide) (by decide)
                have q648 : (mI S33 66 3).toInt = (mI S31 66 3).toInt := zG_zi (f := mI S31) hL_S33 rfl
                have f649 := zG_a hI_S33 4 (-1) (1500) (c := 66) (k := 3) (by decide) (by decide)
                have q650 : (mI S35 66 3).toInt = (mI S33 66 3).toInt := zG_zi (f := mI (ma_put S33 66 1 (.inl v34))) hL_S35 rfl
                have f651 := zG_a hI_S35 4 (-1) (1500) (c := 66) (k := 3) (by decide) (by decide)
                have q652 : (mI S37 66 3).toInt = (mI S35 66 3).toInt := zG_zi (f := mI S35) hL_S37 rfl
                have f653 := zG_a hI_S37 4 (-1) (1500) (c := 66) (k := 3) (by decide) (by decide)
                exact K ((-1 : Int32)) _ hI622 (show (-1 : Int32).toInt = -1 ∨ (0 ≤ (-1 : Int32).toInt ∧ (-1 : Int32).toInt ≤ 6 ∧ 0 ≤ (mI S37 66 0).toInt ∧ ((-1 : Int32).toInt = 3 → 0 ≤ (mI S37 66 1).toInt) ∧ ((-1 : Int32).toInt = 6 → 16 ≤ (mI S37 66 1).toInt)) from by omega) (show ((-1 : Int32).toInt = -1 ∧ -1 - (mI S37 64 2).toInt = zAns (f 65) (f 64 1).toInt) ∨ ((-1 : Int32).toInt ≠ -1 ∧ zFin (-1 : Int32).toInt (mI S37 66 0).toInt (mI S37 66 1).toInt = zAns (f 65) (f 64 1).toInt) from by first | (have qk : v4.toInt = 3 := (by omega); have q := zAns_go (s := (mI S1 64 2)) (e := (mI S1 64 3).toInt) (k := v4.toInt) rp0_S1 rp1_S1 rp0_S3 (by omega); rw [show zPts v4.toInt = [0, 0, 1, 2] from by rw [qk]; rfl] at q; replace q := q.trans (zRun_ok0 (s := (mI S27 64 2)) (e := (mI S27 64 3).toInt) (x := v30.toInt) (p := (mI S1 64 3).toInt) rp0_S27 (by omega) rp1_S27 (show v30.toInt = zNum (f 65) (mI S27 64 2).toInt (mI S27 64 3).toInt 16 1500 from rp0_S29) (by omega)); replace q := q.trans (zRun_ok1 (s := (mI S31 64 2)) (e := (mI S31 64 3).toInt) (x := v34.toInt) (p := (mI S27 64 3).toInt) rp0_S31 (by omega) rp1_S31 (show v34.toInt = zNum (f 65) (mI S31 64 2).toInt (mI S31 64 3).toInt 16 1500 from rp0_S33) (by omega) (by omega)); have q2 := q.trans (zRun_badp (s := (mI S35 64 2)) (e := (mI S35 64 3).toInt) (x := v38.toInt) (p := (mI S31 64 3).toInt) rp0_S35 (by omega) rp1_S35 (show v38.toInt = zNum (f 65) (mI S35 64 2).toInt (mI S35 64 3).toInt 1 7 from rp0_S37) (by omega)); exact Or.inl ⟨rfl, by omega⟩) | (omega) | (exfalso; omega)) (show (-1 : Int32).toInt = 5 → ((mI S37 66 0).toInt = zVal (f 65) (f 64 1).toInt 0 1 ∧ (mI S37 66 1).toInt = zVal (f 65) (f 64 1).toInt 6 2 ∧ v38.toInt = zVal (f 65) (f 64 1).toInt 3 3 ∧ (mI S37 66 3).toInt = zVal (f 65) (f 64 1).toInt 7 4) from by first | (intro h; exact absurd h (by decide))) (show ((-1 : Int32).toInt = 0 ∨ (-1 : Int32).toInt = 4) → ((mI S37 66 0).toInt = zVal (f 65) (f 64 1).toInt 0 1 ∧ (mI S37 66 1).toInt = zVal (f 65) (f 64 1).toInt 6 2) from by first | (intro h; exact absurd h (by decide))) (show qM1 (-1 : Int32) (mI S37 66 0) (f 65) (f 64 1).toInt from by first | (unfold qM1; intro h; exact absurd h (by decide))) (show qM3 (-1 : Int32) (mI S37 66 0) (mI S37 66 1) v38 (mI S37 66 3) (f 65) (f 64 1).toInt from by first | (unfold qM3; intro h; exact absurd h (by decide))) (show qM6 (-1 : Int32) (mI S37 66 0) (mI S37 66 1) v38 (f 65) (f 64 1).toInt from by first | (unfold qM6; intro h; exact absurd h (by decide))) (show (-1 : Int32).toInt = -1 ∨ (-1 : Int32).toInt = zPol (f 65) (Int32.ofInt (zts (f 65) (f 64 1).toInt 0)) (zte (f 65) (f 64 1).toInt 0 - zts (f 65) (f 64 1).toInt 0) from by first | (exact Or.inl rfl)) (show zFm I0 L0 R0 (ma_put S37 66 2 (.inl v38)) from by first | (exact (fn9_p rp1_S37 (by decide))))
              · skip
                have g654 := i_ne h620
                have hI655 : zR f r C Z N (ma_put S37 66 2 (.inl v38)) := zG_sa hI_S37 (-1) (1500) rfl (by decide) (by decide) (by decide) trivial (by omega) (by omega)
                have q656 : (mI S37 64 3).toInt = (mI S35 64 3).toInt := zG_zi (f := mI S35) hL_S37 rfl
                have f657 := zG_s hI_S37 (0) (100) (c := 64) (k := 3) (by decide)
                refine sp_129_64_sq (p0 := ((mI S37 64 3).toInt)) (I0 := I0) (L0 := L0) (R0 := R0) (by omega) (by omega) (zR_dn_zY hI655) (show (mI S37 64 3).toInt = ((mI S37 64 3).toInt) from by omega) (show zFm I0 L0 R0 (ma_put S37 66 2 (.inl v38)) from by first | (exact (fn9_p rp1_S37 (by decide)))) (fun v40 S39 hL_S39 hp_v40 rp0_S39 rp1_S39 rp2_S39 rp3_S39 rp4_S39 => zi_n ⟨zG_T hL_S39, ?_⟩)
                have hI_S39 := zR_up_zY hI655 hL_S39
                have f658 := zG_s hI_S39 (0) (100) (c := 64) (k := 2) (by decide)
                have rp0_S39 : (mI S39 64 2).toInt = tk true (f 65) (f 64 1).toInt ((mI S37 64 3).toInt) := by
                  have z := rp0_S39
                  (try rw [show mI (ma_put S37 66 2 (.inl v38)) 65 = f 65 from funext (fun k => zG_z hI655 rfl)] at z)
                  (try rw [show mI (ma_put S37 66 2 (.inl v38)) 64 1 = f 64 1 from zG_z hI655 rfl] at z)
                  exact z
                have f659 := zG_s hI_S39 (0) (100) (c := 64) (k := 3) (by decide)
                have rp1_S39 : (mI S39 64 3).toInt = tk false (f 65) (f 64 1).toInt (mI S39 64 2).toInt := by
                  have z := rp1_S39
                  (try rw [show mI (ma_put S37 66 2 (.inl v38)) 65 = f 65 from funext (fun k => zG_z hI655 rfl)] at z)
                  (try rw [show mI (ma_put S37 66 2 (.inl v38)) 64 1 = f 64 1 from zG_z hI655 rfl] at z)
                  exact z
                have rp2_S39 : (v40.toInt = 1 ∧ (mI S39 64 2).toInt < (mI S39 64 3).toInt) ∨ (v40.toInt = 0 ∧ (mI S39 64 3).toInt ≤ (mI S39 64 2).toInt) := by
                  have z := rp2_S39
                  (try rw [show mI (ma_put S37 66 2 (.inl v38)) 65 = f 65 from funext (fun k => zG_z hI655 rfl)] at z)
                  (try rw [show mI (ma_put S37 66 2 (.inl v38)) 64 1 = f 64 1 from zG_z hI655 rfl] at z)
                  exact z
                have rp3_S39 : (mI S39 64 2).toInt ≤ (mI S39 64 3).toInt := by
                  have z := rp3_S39
                  (try rw [show mI (ma_put S37 66 2 (.inl v38)) 65 = f 65 from funext (fun k => zG_z hI655 rfl)] at z)
                  (try rw [show mI (ma_put S37 66 2 (.inl v38)) 64 1 = f 64 1 from zG_z hI655 rfl] at z)
                  exact z
                have rp4_S39 : zFm I0 L0 R0 S39 := by
                  have z := rp4_S39
                  (try rw [show mI (ma_put S37 66 2 (.inl v38)) 65 = f 65 from funext (fun k => zG_z hI655 rfl)] at z)
                  (try rw [show mI (ma_put S37 66 2 (.inl v38)) 64 1 = f 64 1 from zG_z hI655 rfl] at z)
                  exact z
                have li660 : (4 : Int32).toInt = 4 := rfl
                have li661 : (64 : Int32).toInt = 64 := rfl
                refine sp_134_64_sq (I0 := I0) (L0 := L0) (R0 := R0) ((4 : Int32)) ((64 : Int32)) (by omega) (by omega) (zR_dn_zY0 hI_S39) (show (mI S39 64 2).toInt ≤ (mI S39 64 3).toInt from by omega) (show zFm I0 L0 R0 S39 from by first | (exact rp4_S39)) (fun v42 S41 hL_S41 hp_v42 rp0_S41 rp1_S41 => zi_n ⟨zG_T hL_S41, ?_⟩)
                have hI_S41 := zR_up_zY0 hI_S39 hL_S41
                have rp0_S41 : v42.toInt = zNum (f 65) (mI S39 64 2).toInt (mI S39 64 3).toInt (4 : Int32).toInt (64 : Int32).toInt := by
                  have z := rp0_S41
                  (try rw [show mI S39 65 = f 65 from funext (fun k => zG_z hI_S39 rfl)] at z)
                  (try rw [show mI S39 64 1 = f 64 1 from zG_z hI_S39 rfl] at z)
                  exact z
                have rp1_S41 : zFm I0 L0 R0 S41 := by
                  have z := rp1_S41
                  (try rw [show mI S39 65 = f 65 from funext (fun k => zG_z hI_S39 rfl)] at z)
                  (try rw [show mI S39 64 1 = f 64 1 from zG_z hI_S39 rfl] at z)
                  exact z
                have b662 := i_bd v42
                refine zd (fun h663 => ?_) (fun h663 => ?_)
                · skip
                  have g664 := i_eq h663
                  have hI665 : zR f r C Z N (ma_put S41 66 3 (.inl v42)) := zG_sa hI_S41 (-1) (1500) rfl (by decide) (by decide) (by decide) trivial (by omega) (by omega)
                  have q666 : (mI S31 66 0).toInt = v30.toInt := zG_zi (f := mI (ma_put S29 66 0 (.inl v30))) hL_S31 rfl
                  have f667 := zG_a hI_S31 4 (-1) (1500) (c := 66) (k := 0) (by decide) (by decide)
                  have q668 : (mI S33 66 0).toInt = (mI S31 66 0).toInt := zG_zi (f := mI S31) hL_S33 rfl
                  have f669 := zG_a hI_S33 4 (-1) (1500) (c := 66) (k := 0) (by decide) (by decide)
                  have q670 : (mI S35 66 0).toInt = (mI S33 66 0).toInt := zG_zi (f := mI (ma_put S33 66 1 (.inl v34))) hL_S35 rfl
                  have f671 := zG_a hI_S35 4 (-1) (1500) (c := 66) (k := 0) (by decide) (by decide)
                  have q672 : (mI S37 66 0).toInt = (mI S35 66 0).toInt := zG_zi (f := mI S35) hL_S37 rfl
                  have f673 := zG_a hI_S37 4 (-1) (1500) (c := 66) (k := 0) (by decide) (by decide)
                  have q674 : (mI S39 66 0).toInt = (mI S37 66 0).toInt := zG_zi (f := mI (ma_put S37 66 2 (.inl v38))) hL_S39 rfl
                  have f675 := zG_a hI_S39 4 (-1) (1500) (c := 66) (k := 0) (by decide) (by decide)
                  have q676 : (mI S41 66 0).toInt = (mI S39 66 0).toInt := zG_zi (f := mI S39) hL_S41 rfl
                  have f677 := zG_a hI_S41 4 (-1) (1500) (c := 66) (k := 0) (by decide) (by decide)
                  have q678 : (mI S35 66 1).toInt = v34.toInt := zG_zi (f := mI (ma_put S33 66 1 (.inl v34))) hL_S35 rfl
                  have f679 := zG_a hI_S35 4 (-1) (1500) (c := 66) (k := 1) (by decide) (by decide)
                  have q680 : (mI S37 66 1).toInt = (mI S35 66 1).toInt := zG_zi (f := mI S35) hL_S37 rfl
                  have f681 := zG_a hI_S37 4 (-1) (1500) (c := 66) (k := 1) (by decide) (by decide)
                  have q682 : (mI S39 66 1).toInt = (mI S37 66 1).toInt := zG_zi (f := mI (ma_put S37 66 2 (.inl v38))) hL_S39 rfl
                  have f683 := zG_a hI_S39 4 (-1) (1500) (c := 66) (k := 1) (by decide) (by decide)
                  have q684 : (mI S41 66 1).toInt = (mI S39 66 1).toInt := zG_zi (f := mI S39) hL_S41 rfl
                  have f685 := zG_a hI_S41 4 (-1) (1500) (c := 66) (k := 1) (by decide) (by decide)
                  have q686 : (mI S41 64 2).toInt = (mI S39 64 2).toInt := zG_zi (f := mI S39) hL_S41 rfl
                  have f687 := zG_s hI_S41 (0) (100) (c := 64) (k := 2) (by decide)
                  have q688 : (mI S39 66 2).toInt = v38.toInt := zG_zi (f := mI (ma_put S37 66 2 (.inl v38))) hL_S39 rfl
                  have f689 := zG_a hI_S39 4 (-1) (1500) (c := 66) (k := 2) (by decide) (by decide)
                  have q690 : (mI S41 66 2).toInt = (mI S39 66 2).toInt := zG_zi (f := mI S39) hL_S41 rfl
                  have f691 := zG_a hI_S41 4 (-1) (1500) (c := 66) (k := 2) (by decide) (by decide)
                  exact K ((-1 : Int32)) _ hI665 (show (-1 : Int32).toInt = -1 ∨ (0 ≤ (-1 : Int32).toInt ∧ (-1 : Int32).toInt ≤ 6 ∧ 0 ≤ (mI S41 66 0).toInt ∧ ((-1 : Int32).toInt = 3 → 0 ≤ (mI S41 66 1).toInt) ∧ ((-1 : Int32).toInt = 6 → 16 ≤ (mI S41 66 1).toInt)) from by omega) (show ((-1 : Int32).toInt = -1 ∧ -1 - (mI S41 64 2).toInt = zAns (f 65) (f 64 1).toInt) ∨ ((-1 : Int32).toInt ≠ -1 ∧ zFin (-1 : Int32).toInt (mI S41 66 0).toInt (mI S41 66 1).toInt = zAns (f 65) (f 64 1).toInt) from by first | (have qk : v4.toInt = 3 := (by omega); have q := zAns_go (s := (mI S1 64 2)) (e := (mI S1 64 3).toInt) (k := v4.toInt) rp0_S1 rp1_S1 rp0_S3 (by omega); rw [show zPts v4.toInt = [0, 0, 1, 2] from by rw [qk]; rfl] at q; replace q := q.trans (zRun_ok0 (s := (mI S27 64 2)) (e := (mI S27 64 3).toInt) (x := v30.toInt) (p := (mI S1 64 3).toInt) rp0_S27 (by omega) rp1_S27 (show v30.toInt = zNum (f 65) (mI S27 64 2).toInt (mI S27 64 3).toInt 16 1500 from rp0_S29) (by omega)); replace q := q.trans (zRun_ok1 (s := (mI S31 64 2)) (e := (mI S31 64 3).toInt) (x := v34.toInt) (p := (mI S27 64 3).toInt) rp0_S31 (by omega) rp1_S31 (show v34.toInt = zNum (f 65) (mI S31 64 2).toInt (mI S31 64 3).toInt 16 1500 from rp0_S33) (by omega) (by omega)); replace q := q.trans (zRun_okn (s := (mI S35 64 2)) (e := (mI S35 64 3).toInt) (x := v38.toInt) (p := (mI S31 64 3).toInt) rp0_S35 (by omega) rp1_S35 (show v38.toInt = zNum (f 65) (mI S35 64 2).toInt (mI S35 64 3).toInt 1 7 from rp0_S37) (by omega) (by omega)); have q2 := q.trans (zRun_badp (s := (mI S39 64 2)) (e := (mI S39 64 3).toInt) (x := v42.toInt) (p := (mI S35 64 3).toInt) rp0_S39 (by omega) rp1_S39 (show v42.toInt = zNum (f 65) (mI S39 64 2).toInt (mI S39 64 3).toInt 4 64 from rp0_S41) (by omega)); exact Or.inl ⟨rfl, by omega⟩) | (omega) | (exfalso; omega)) (show (-1 : Int32).toInt = 5 → ((mI S41 66 0).toInt = zVal (f 65) (f 64 1).toInt 0 1 ∧ (mI S41 66 1).toInt = zVal (f 65) (f 64 1).toInt 6 2 ∧ (mI S41 66 2).toInt = zVal (f 65) (f 64 1).toInt 3 3 ∧ v42.toInt = zVal (f 65) (f 64 1).toInt 7 4) from by first | (intro h; exact absurd h (by decide))) (show ((-1 : Int32).toInt = 0 ∨ (-1 : Int32).toInt = 4) → ((mI S41 66 0).toInt = zVal (f 65) (f 64 1).toInt 0 1 ∧ (mI S41 66 1).toInt = zVal (f 65) (f 64 1).toInt 6 2) from by first | (intro h; exact absurd h (by decide))) (show qM1 (-1 : Int32) (mI S41 66 0) (f 65) (f 64 1).toInt from by first | (unfold qM1; intro h; exact absurd h (by decide))) (show qM3 (-1 : Int32) (mI S41 66 0) (mI S41 66 1) (mI S41 66 2) v42 (f 65) (f 64 1).toInt from by first | (unfold qM3; intro h; exact absurd h (by decide))) (show qM6 (-1 : Int32) (mI S41 66 0) (mI S41 66 1) (mI S41 66 2) (f 65) (f 64 1).toInt from by first | (unfold qM6; intro h; exact absurd h (by decide))) (show (-1 : Int32).toInt = -1 ∨ (-1 : Int32).toInt = zPol (f 65) (Int32.ofInt (zts (f 65) (f 64 1).toInt 0)) (zte (f 65) (f 64 1).toInt 0 - zts (f 65) (f 64 1).toInt 0) from by first | (exact Or.inl rfl)) (show zFm I0 L0 R0 (ma_put S41 66 3 (.inl v42)) from by first | (exact (fn9_p rp1_S41 (by decide))))
                · skip
                  have g692 := i_ne h663
                  refine zd (fun h693 => ?_) (fun h693 => ?_)
                  · skip
                    have g694 := i_eq h693
                    have hI695 : zR f r C Z N (ma_put S41 66 3 (.inl v42)) := zG_sa hI_S41 (-1) (1500) rfl (by decide) (by decide) (by decide) trivial (by omega) (by omega)
                    have q696 : (mI S31 66 0).toInt = v30.toInt := zG_zi (f := mI (ma_put S29 66 0 (.inl v30))) hL_S31 rfl
                    have f697 := zG_a hI_S31 4 (-1) (1500) (c := 66) (k := 0) (by decide) (by decide)
                    have q698 : (mI S33 66 0).toInt = (mI S31 66 0).toInt := zG_zi (f := mI S31) hL_S33 rfl
                    have f699 := zG_a hI_S33 4 (-1) (1500) (c := 66) (k := 0) (by decide) (by decide)
                    have q700 : (mI S35 66 0).toInt = (mI S33 66 0).toInt := zG_zi (f := mI (ma_put S33 66 1 (.inl v34))) hL_S35 rfl
                    have f701 := zG_a hI_S35 4 (-1) (1500) (c := 66) (k := 0) (by decide) (by decide)
                    have q702 : (mI S37 66 0).toInt = (mI S35 66 0).toInt := zG_zi (f := mI S35) hL_S37 rfl
                    have f703 := zG_a hI_S37 4 (-1) (1500) (c := 66) (k := 0) (by decide) (by decide)
                    have q704 : (mI S39 66 0).toInt = (mI S37 66 0).toInt := zG_zi (f := mI (ma_put S37 66 2 (.inl v38))) hL_S39 rfl
                    have f705 := zG_a hI_S39 4 (-1) (1500) (c := 66) (k := 0) (by decide) (by decide)
                    have q706 : (mI S41 66 0).toInt = (mI S39 66 0).toInt := zG_zi (f := mI S39) hL_S41 rfl
                    have f707 := zG_a hI_S41 4 (-1) (1500) (c := 66) (k := 0) (by decide) (by decide)
                    have q708 : (mI S35 66 1).toInt = v34.toInt := zG_zi (f := mI (ma_put S33 66 1 (.inl v34))) hL_S35 rfl
                    have f709 := zG_a hI_S35 4 (-1) (1500) (c := 66) (k := 1) (by decide) (by decide)
                    have q710 : (mI S37 66 1).toInt = (mI S35 66 1).toInt := zG_zi (f := mI S35) hL_S37 rfl
                    have f711 := zG_a hI_S37 4 (-1) (1500) (c := 66) (k := 1) (by decide) (by decide)
                    have q712 : (mI S39 66 1).toInt = (mI S37 66 1).toInt := zG_zi (f := mI (ma_put S37 66 2 (.inl v38))) hL_S39 rfl
                    have f713 := zG_a hI_S39 4 (-1) (1500) (c := 66) (k := 1) (by decide) (by decide)
                    have q714 : (mI S41 66 1).toInt = (mI S39 66 1).toInt := zG_zi (f := mI S39) hL_S41 rfl
                    have f715 := zG_a hI_S41 4 (-1) (1500) (c := 66) (k := 1) (by decide) (by decide)
                    have q716 : (mI S41 64 2).toInt = (mI S39 64 2).toInt := zG_zi (f := mI S39) hL_S41 rfl
                    have f717 := zG_s hI_S41 (0) (100) (c := 64) (k := 2) (by decide)
                    have q718 : (mI S39 66 2).toInt = v38.toInt := zG_zi (f := mI (ma_put S37 66 2 (.inl v38))) hL_S39 rfl
                    have f719 := zG_a hI_S39 4 (-1) (1500) (c := 66) (k := 2) (by decide) (by decide)
                    have q720 : (mI S41 66 2).toInt = (mI S39 66 2).toInt := zG_zi (f := mI S39) hL_S41 rfl
                    have f721 := zG_a hI_S41 4 (-1) (1500) (c := 66) (k := 2) (by decide) (by decide)
                    exact K ((-1 : Int32)) _ hI695 (show (-1 : Int32).toInt = -1 ∨ (0 ≤ (-1 : Int32).toInt ∧ (-1 : Int32).toInt ≤ 6 ∧ 0 ≤ (mI S41 66 0).toInt ∧ ((-1 : Int32).toInt = 3 → 0 ≤ (mI S41 66 1).toInt) ∧ ((-1 : Int32).toInt = 6 → 16 ≤ (mI S41 66 1).toInt)) from by omega) (show ((-1 : Int32).toInt = -1 ∧ -1 - (mI S41 64 2).toInt = zAns (f 65) (f 64 1).toInt) ∨ ((-1 : Int32).toInt ≠ -1 ∧ zFin (-1 : Int32).toInt (mI S41 66 0).toInt (mI S41 66 1).toInt = zAns (f 65) (f 64 1).toInt) from by first | (have qk : v4.toInt = 3 := (by omega); have q := zAns_go (s := (mI S1 64 2)) (e := (mI S1 64 3).toInt) (k := v4.toInt) rp0_S1 rp1_S1 rp0_S3 (by omega); rw [show zPts v4.toInt = [0, 0, 1, 2] from by rw [qk]; rfl] at q; replace q := q.trans (zRun_ok0 (s := (mI S27 64 2)) (e := (mI S27 64 3).toInt) (x := v30.toInt) (p := (mI S1 64 3).toInt) rp0_S27 (by omega) rp1_S27 (show v30.toInt = zNum (f 65) (mI S27 64 2).toInt (mI S27 64 3).toInt 16 1500 from rp0_S29) (by omega)); replace q := q.trans (zRun_ok1 (s := (mI S31 64 2)) (e := (mI S31 64 3).toInt) (x := v34.toInt) (p := (mI S27 64 3).toInt) rp0_S31 (by omega) rp1_S31 (show v34.toInt = zNum (f 65) (mI S31 64 2).toInt (mI S31 64 3).toInt 16 1500 from rp0_S33) (by omega) (by omega)); replace q := q.trans (zRun_okn (s := (mI S35 64 2)) (e := (mI S35 64 3).toInt) (x := v38.toInt) (p := (mI S31 64 3).toInt) rp0_S35 (by omega) rp1_S35 (show v38.toInt = zNum (f 65) (mI S35 64 2).toInt (mI S35 64 3).toInt 1 7 from rp0_S37) (by omega) (by omega)); have q2 := q.trans (zRun_badp (s := (mI S39 64 2)) (e := (mI S39 64 3).toInt) (x := v42.toInt) (p := (mI S35 64 3).toInt) rp0_S39 (by omega) rp1_S39 (show v42.toInt = zNum (f 65) (mI S39 64 2).toInt (mI S39 64 3).toInt 4 64 from rp0_S41) (by omega)); exact Or.inl ⟨rfl, by omega⟩) | (omega) | (exfalso; omega)) (show (-1 : Int32).toInt = 5 → ((mI S41 66 0).toInt = zVal (f 65) (f 64 1).toInt 0 1 ∧ (mI S41 66 1).toInt = zVal (f 65) (f 64 1).toInt 6 2 ∧ (mI S41 66 2).toInt = zVal (f 65) (f 64 1).toInt 3 3 ∧ v42.toInt = zVal (f 65) (f 64 1).toInt 7 4) from by first | (intro h; exact absurd h (by decide))) (show ((-1 : Int32).toInt = 0 ∨ (-1 : Int32).toInt = 4) → ((mI S41 66 0).toInt = zVal (f 65) (f 64 1).toInt 0 1 ∧ (mI S41 66 1).toInt = zVal (f 65) (f 64 1).toInt 6 2) from by first | (intro h; exact absurd h (by decide))) (show qM1 (-1 : Int32) (mI S41 66 0) (f 65) (f 64 1).toInt from by first | (unfold qM1; intro h; exact absurd h (by decide))) (show qM3 (-1 : Int32) (mI S41 66 0) (mI S41 66 1) (mI S41 66 2) v42 (f 65) (f 64 1).toInt from by first | (unfold qM3; intro h; exact absurd h (by decide))) (show qM6 (-1 : Int32) (mI S41 66 0) (mI S41 66 1) (mI S41 66 2) (f 65) (f 64 1).toInt from by first | (unfold qM6; intro h; exact absurd h (by decide))) (show (-1 : Int32).toInt = -1 ∨ (-1 : Int32).toInt = zPol (f 65) (Int32.ofInt (zts (f 65) (f 64 1).toInt 0)) (zte (f 65) (f 64 1).toInt 0 - zts (f 65) (f 64 1).toInt 0) from by first | (exact Or.inl rfl)) (show zFm I0 L0 R0 (ma_put S41 66 3 (.inl v42)) from by first | (exact (fn9_p rp1_S41 (by decide))))
                  · skip
                    have g722 := i_ne h693
                    have hI723 : zR f r C Z N (ma_put S41 66 3 (.inl v42)) := zG_sa hI_S41 (-1) (1500) rfl (by decide) (by decide) (by decide) trivial (by omega) (by omega)
                    have q724 : (mI S41 64 3).toInt = (mI S39 64 3).toInt := zG_zi (f := mI S39) hL_S41 rfl
                    have f725 := zG_s hI_S41 (0) (100) (c := 64) (k := 3) (by decide)
                    refine sp_129_64_sq (p0 := ((mI S41 64 3).toInt)) (I0 := I0) (L0 := L0) (R0 := R0) (by omega) (by omega) (zR_dn_zY hI723) (show (mI S41 64 3).toInt = ((mI S41 64 3).toInt) from by omega) (show zFm I0 L0 R0 (ma_put S41 66 3 (.inl v42)) from by first | (exact (fn9_p rp1_S41 (by decide)))) (fun v44 S43 hL_S43 hp_v44 rp0_S43 rp1_S43 rp2_S43 rp3_S43 rp4_S43 => zi_n ⟨zG_T hL_S43, ?_⟩)
                    have hI_S43 := zR_up_zY hI723 hL_S43
                    have f726 := zG_s hI_S43 (0) (100) (c := 64) (k := 2) (by decide)
                    have rp0_S43 : (mI S43 64 2).toInt = tk true (f 65) (f 64 1).toInt ((mI S41 64 3).toInt) := by
                      have z := rp0_S43
                      (try rw [show mI (ma_put S41 66 3 (.inl v42)) 65 = f 65 from funext (fun k => zG_z hI723 rfl)] at z)
                      (try rw [show mI (ma_put S41 66 3 (.inl v42)) 64 1 = f 64 1 from zG_z hI723 rfl] at z)
                      exact z
                    have f727 := zG_s hI_S43 (0) (100) (c := 64) (k := 3) (by decide)
                    have rp1_S43 : (mI S43 64 3).toInt = tk false (f 65) (f 64 1).toInt (mI S43 64 2).toInt := by
                      have z := rp1_S43
                      (try rw [show mI (ma_put S41 66 3 (.inl v42)) 65 = f 65 from funext (fun k => zG_z hI723 rfl)] at z)
                      (try rw [show mI (ma_put S41 66 3 (.inl v42)) 64 1 = f 64 1 from zG_z hI723 rfl] at z)
                      exact z
                    have rp2_S43 : (v44.toInt = 1 ∧ (mI S43 64 2).toInt < (mI S43 64 3).toInt) ∨ (v44.toInt = 0 ∧ (mI S43 64 3).toInt ≤ (mI S43 64 2).toInt) := by
                      have z := rp2_S43
                      (try rw [show mI (ma_put S41 66 3 (.inl v42)) 65 = f 65 from funext (fun k => zG_z hI723 rfl)] at z)
                      (try rw [show mI (ma_put S41 66 3 (.inl v42)) 64 1 = f 64 1 from zG_z hI723 rfl] at z)
                      exact z
                    have rp3_S43 : (mI S43 64 2).toInt ≤ (mI S43 64 3).toInt := by
                      have z := rp3_S43
                      (try rw [show mI (ma_put S41 66 3 (.inl v42)) 65 = f 65 from funext (fun k => zG_z hI723 rfl)] at z)
                      (try rw [show mI (ma_put S41 66 3 (.inl v42)) 64 1 = f 64 1 from zG_z hI723 rfl] at z)
                      exact z
                    have rp4_S43 : zFm I0 L0 R0 S43 := by
                      have z := rp4_S43
                      (try rw [show mI (ma_put S41 66 3 (.inl v42)) 65 = f 65 from funext (fun k => zG_z hI723 rfl)] at z)
                      (try rw [show mI (ma_put S41 66 3 (.inl v42)) 64 1 = f 64 1 from zG_z hI723 rfl] at z)
                      exact z
                    have b728 := i_bd v44
                    refine zd (fun h729 => ?_) (fun h729 => ?_)
                    · skip
                      have g730 := i_eq h729
                      have q731 : (mI S31 66 0).toInt = v30.toInt := zG_zi (f := mI (ma_put S29 66 0 (.inl v30))) hL_S31 rfl
                      have f732 := zG_a hI_S31 4 (-1) (1500) (c := 66) (k := 0) (by decide) (by decide)
                      have q733 : (mI S33 66 0).toInt = (mI S31 66 0).toInt := zG_zi (f := mI S31) hL_S33 rfl
                      have f734 := zG_a hI_S33 4 (-1) (1500) (c := 66) (k := 0) (by decide) (by decide)
                      have q735 : (mI S35 66 0).toInt = (mI S33 66 0).toInt := zG_zi (f := mI (ma_put S33 66 1 (.inl v34))) hL_S35 rfl
                      have f736 := zG_a hI_S35 4 (-1) (1500) (c := 66) (k := 0) (by decide) (by decide)
                      have q737 : (mI S37 66 0).toInt = (mI S35 66 0).toInt := zG_zi (f := mI S35) hL_S37 rfl
                      have f738 := zG_a hI_S37 4 (-1) (1500) (c := 66) (k := 0) (by decide) (by decide)
                      have q739 : (mI S39 66 0).toInt = (mI S37 66 0).toInt := zG_zi (f := mI (ma_put S37 66 2 (.inl v38))) hL_S39 rfl
                      have f740 := zG_a hI_S39 4 (-1) (1500) (c := 66) (k := 0) (by decide) (by decide)
                      have q741 : (mI S41 66 0).toInt = (mI S39 66 0).toInt := zG_zi (f := mI S39) hL_S41 rfl
                      have f742 := zG_a hI_S41 4 (-1) (1500) (c := 66) (k := 0) (by decide) (by decide)
                      have q743 : (mI S43 66 0).toInt = (mI S41 66 0).toInt := zG_zi (f := mI (ma_put S41 66 3 (.inl v42))) hL_S43 rfl
                      have f744 := zG_a hI_S43 4 (-1) (1500) (c := 66) (k := 0) (by decide) (by decide)
                      have q745 : (mI S35 66 1).toInt = v34.toInt := zG_zi (f := mI (ma_put S33 66 1 (.inl v34))) hL_S35 rfl
                      have f746 := zG_a hI_S35 4 (-1) (1500) (c := 66) (k := 1) (by decide) (by decide)
                      have q747 : (mI S37 66 1).toInt = (mI S35 66 1).toInt := zG_zi (f := mI S35) hL_S37 rfl
                      have f748 := zG_a hI_S37 4 (-1) (1500) (c := 66) (k := 1) (by decide) (by decide)
                      have q749 : (mI S39 66 1).toInt = (mI S37 66 1).toInt := zG_zi (f := mI (ma_put S37 66 2 (.inl v38))) hL_S39 rfl
                      have f750 := zG_a hI_S39 4 (-1) (1500) (c := 66) (k := 1) (by decide) (by decide)
                      have q751 : (mI S41 66 1).toInt = (mI S39 66 1).toInt := zG_zi (f := mI S39) hL_S41 rfl
                      have f752 := zG_a hI_S41 4 (-1) (1500) (c := 66) (k := 1) (by decide) (by decide)
                      have q753 : (mI S43 66 1).toInt = (mI S41 66 1).toInt := zG_zi (f := mI (ma_put S41 66 3 (.inl v42))) hL_S43 rfl
                      have f754 := zG_a hI_S43 4 (-1) (1500) (c := 66) (k := 1) (by decide) (by decide)
                      have q755 : (mI S39 66 2).toInt = v38.toInt := zG_zi (f := mI (ma_put S37 66 2 (.inl v38))) hL_S39 rfl
                      have f756 := zG_a hI_S39 4 (-1) (1500) (c := 66) (k := 2) (by decide) (by decide)
                      have q757 : (mI S41 66 2).toInt = (mI S39 66 2).toInt := zG_zi (f := mI S39) hL_S41 rfl
                      have f758 := zG_a hI_S41 4 (-1) (1500) (c := 66) (k := 2) (by decide) (by decide)
                      have q759 : (mI S43 66 2).toInt = (mI S41 66 2).toInt := zG_zi (f := mI (ma_put S41 66 3 (.inl v42))) hL_S43 rfl
                      have f760 := zG_a hI_S43 4 (-1) (1500) (c := 66) (k := 2) (by decide) (by decide)
                      have q761 : (mI S43 66 3).toInt = v42.toInt := zG_zi (f := mI (ma_put S41 66 3 (.inl v42))) hL_S43 rfl
                      have f762 := zG_a hI_S43 4 (-1) (1500) (c := 66) (k := 3) (by decide) (by decide)
                      exact K (v4) _ hI_S43 (show v4.toInt = -1 ∨ (0 ≤ v4.toInt ∧ v4.toInt ≤ 6 ∧ 0 ≤ (mI S43 66 0).toInt ∧ (v4.toInt = 3 → 0 ≤ (mI S43 66 1).toInt) ∧ (v4.toInt = 6 → 16 ≤ (mI S43 66 1).toInt)) from by omega) (show (v4.toInt = -1 ∧ -1 - (mI S43 64 2).toInt = zAns (f 65) (f 64 1).toInt) ∨ (v4.toInt ≠ -1 ∧ zFin v4.toInt (mI S43 66 0).toInt (mI S43 66 1).toInt = zAns (f 65) (f 64 1).toInt) from by first | (have qk : v4.toInt = 3 := (by omega); have q := zAns_go (s := (mI S1 64 2)) (e := (mI S1 64 3).toInt) (k := v4.toInt) rp0_S1 rp1_S1 rp0_S3 (by omega); rw [show zPts v4.toInt = [0, 0, 1, 2] from by rw [qk]; rfl] at q; replace q := q.trans (zRun_ok0 (s := (mI S27 64 2)) (e := (mI S27 64 3).toInt) (x := v30.toInt) (p := (mI S1 64 3).toInt) rp0_S27 (by omega) rp1_S27 (show v30.toInt = zNum (f 65) (mI S27 64 2).toInt (mI S27 64 3).toInt 16 1500 from rp0_S29) (by omega)); replace q := q.trans (zRun_ok1 (s := (mI S31 64 2)) (e := (mI S31 64 3).toInt) (x := v34.toInt) (p := (mI S27 64 3).toInt) rp0_S31 (by omega) rp1_S31 (show v34.toInt = zNum (f 65) (mI S31 64 2).toInt (mI S31 64 3).toInt 16 1500 from rp0_S33) (by omega) (by omega)); replace q := q.trans (zRun_okn (s := (mI S35 64 2)) (e := (mI S35 64 3).toInt) (x := v38.toInt) (p := (mI S31 64 3).toInt) rp0_S35 (by omega) rp1_S35 (show v38.toInt = zNum (f 65) (mI S35 64 2).toInt (mI S35 64 3).toInt 1 7 from rp0_S37) (by omega) (by omega)); replace q := q.trans (zRun_okn (s := (mI S39 64 2)) (e := (mI S39 64 3).toInt) (x := v42.toInt) (p := (mI S35 64 3).toInt) rp0_S39 (by omega) rp1_S39 (show v42.toInt = zNum (f 65) (mI S39 64 2).toInt (mI S39 64 3).toInt 4 64 from rp0_S41) (by omega) (by omega)); have q2 := q.trans (zEnd_okp (s := (mI S43 64 2)) (e := (mI S43 64 3).toInt) (p := (mI S39 64 3).toInt) rp0_S43 (by omega) rp1_S43 (by omega)); exact Or.inr ⟨by omega, (zFin_eq (by omega) (by omega)).trans q2.symm⟩) | (omega) | (exfalso; omega)) (show v4.toInt = 5 → ((mI S43 66 0).toInt = zVal (f 65) (f 64 1).toInt 0 1 ∧ (mI S43 66 1).toInt = zVal (f 65) (f 64 1).toInt 6 2 ∧ (mI S43 66 2).toInt = zVal (f 65) (f 64 1).toInt 3 3 ∧ (mI S43 66 3).toInt = zVal (f 65) (f 64 1).toInt 7 4) from by first | (intro h; exfalso; omega)) (show (v4.toInt = 0 ∨ v4.toInt = 4) → ((mI S43 66 0).toInt = zVal (f 65) (f 64 1).toInt 0 1 ∧ (mI S43 66 1).toInt = zVal (f 65) (f 64 1).toInt 6 2) from by first | (intro h; exfalso; omega)) (show qM1 v4 (mI S43 66 0) (f 65) (f 64 1).toInt from by first | (unfold qM1; intro h; exfalso; omega)) (show qM3 v4 (mI S43 66 0) (mI S43 66 1) (mI S43 66 2) (mI S43 66 3) (f 65) (f 64 1).toInt from by first | (unfold qM3; intro _; have a0 : (mI S1 64 2).toInt = zts (f 65) (f 64 1).toInt 0 := rp0_S1; have b0 : (mI S1 64 3).toInt = zte (f 65) (f 64 1).toInt 0 := zt_e rp1_S1 a0; have a1 : (mI S27 64 2).toInt = zts (f 65) (f 64 1).toInt 1 := zt_s rp0_S27 (by omega) b0; have b1 : (mI S27 64 3).toInt = zte (f 65) (f 64 1).toInt 1 := zt_e rp1_S27 a1; have a2 : (mI S31 64 2).toInt = zts (f 65) (f 64 1).toInt 2 := zt_s rp0_S31 (by omega) b1; have b2 : (mI S31 64 3).toInt = zte (f 65) (f 64 1).toInt 2 := zt_e rp1_S31 a2; have a3 : (mI S35 64 2).toInt = zts (f 65) (f 64 1).toInt 3 := zt_s rp0_S35 (by omega) b2; have b3 : (mI S35 64 3).toInt = zte (f 65) (f 64 1).toInt 3 := zt_e rp1_S35 a3; have a4 : (mI S39 64 2).toInt = zts (f 65) (f 64 1).toInt 4 := zt_s rp0_S39 (by omega) b3; have b4 : (mI S39 64 3).toInt = zte (f 65) (f 64 1).toInt 4 := zt_e rp1_S39 a4; have z0 : v30.toInt = zVal (f 65) (f 64 1).toInt 0 1 := (show v30.toInt = zNum (f 65) (mI S27 64 2).toInt (mI S27 64 3).toInt 16 1500 from rp0_S29).trans (by rw [a1, b1]; rfl); have z1 : v34.toInt = zVal (f 65) (f 64 1).toInt 0 2 := (show v34.toInt = zNum (f 65) (mI S31 64 2).toInt (mI S31 64 3).toInt 16 1500 from rp0_S33).trans (by rw [a2, b2]; rfl); have z2 : v38.toInt = zVal (f 65) (f 64 1).toInt 1 3 := (show v38.toInt = zNum (f 65) (mI S35 64 2).toInt (mI S35 64 3).toInt 1 7 from rp0_S37).trans (by rw [a3, b3]; rfl); have z3 : v42.toInt = zVal (f 65) (f 64 1).toInt 2 4 := (show v42.toInt = zNum (f 65) (mI S39 64 2).toInt (mI S39 64 3).toInt 4 64 from rp0_S41).trans (by rw [a4, b4]; rfl); exact ⟨by omega, by omega, by omega, by omega⟩)) (show qM6 v4 (mI S43 66 0) (mI S43 66 1) (mI S43 66 2) (f 65) (f 64 1).toInt from by first | (unfold qM6; intro h; exfalso; omega)) (show v4.toInt = -1 ∨ v4.toInt = zPol (f 65) (Int32.ofInt (zts (f 65) (f 64 1).toInt 0)) (zte (f 65) (f 64 1).toInt 0 - zts (f 65) (f 64 1).toInt 0) from by first | (exact Or.inr (zt_p rp0_S1 rp1_S1 rp0_S3))) (show zFm I0 L0 R0 S43 from by first | (exact rp4_S43))
                    · skip
                      have g763 := i_ne h729
                      have q764 : (mI S31 66 0).toInt = v30.toInt := zG_zi (f := mI (ma_put S29 66 0 (.inl v30))) hL_S31 rfl
                      have f765 := zG_a hI_S31 4 (-1) (1500) (c := 66) (k := 0) (by decide) (by decide)
                      have q766 : (mI S33 66 0).toInt = (mI S31 66 0).toInt := zG_zi (f := mI S31) hL_S33 rfl
                      have f767 := zG_a hI_S33 4 (-1) (1500) (c := 66) (k := 0) (by decide) (by decide)
                      have q768 : (mI S35 66 0).toInt = (mI S33 66 0).toInt := zG_zi (f := mI (ma_put S33 66 1 (.inl v34))) hL_S35 rfl
                      have f769 := zG_a hI_S35 4 (-1) (1500) (c := 66) (k := 0) (by decide) (by decide)
                      have q770 : (mI S37 66 0).toInt = (mI S35 66 0).toInt := zG_zi (f := mI S35) hL_S37 rfl
                      have f771 := zG_a hI_S37 4 (-1) (1500) (c := 66) (k := 0) (by decide) (by decide)
                      have q772 : (mI S39 66 0).toInt = (mI S37 66 0).toInt := zG_zi (f := mI (ma_put S37 66 2 (.inl v38))) hL_S39 rfl
                      have f773 := zG_a hI_S39 4 (-1) (1500) (c := 66) (k := 0) (by decide) (by decide)
                      have q774 : (mI S41 66 0).toInt = (mI S39 66 0).toInt := zG_zi (f := mI S39) hL_S41 rfl
                      have f775 := zG_a hI_S41 4 (-1) (1500) (c := 66) (k := 0) (by decide) (by decide)
                      have q776 : (mI S43 66 0).toInt = (mI S41 66 0).toInt := zG_zi (f := mI (ma_put S41 66 3 (.inl v42))) hL_S43 rfl
                      have f777 := zG_a hI_S43 4 (-1) (1500) (c := 66) (k := 0) (by decide) (by decide)
                      have q778 : (mI S35 66 1).toInt = v34.toInt := zG_zi (f := mI (ma_put S33 66 1 (.inl v34))) hL_S35 rfl
                      have f779 := zG_a hI_S35 4 (-1) (1500) (c := 66) (k := 1) (by decide) (by decide)
                      have q780 : (mI S37 66 1).toInt = (mI S35 66 1).toInt := zG_zi (f := mI S35) hL_S37 rfl
                      have f781 := zG_a hI_S37 4 (-1) (1500) (c := 66) (k := 1) (by decide) (by decide)
                      have q782 : (mI S39 66 1).toInt = (mI S37 66 1).toInt := zG_zi (f := mI (ma_put S37 66 2 (.inl v38))) hL_S39 rfl
                      have f783 := zG_a hI_S39 4 (-1) (1500) (c := 66) (k := 1) (by decide) (by decide)
                      have q784 : (mI S41 66 1).toInt = (mI S39 66 1).toInt := zG_zi (f := mI S39) hL_S41 rfl
                      have f785 := zG_a hI_S41 4 (-1) (1500) (c := 66) (k := 1) (by decide) (by decide)
                      have q786 : (mI S43 66 1).toInt = (mI S41 66 1).toInt := zG_zi (f := mI (ma_put S41 66 3 (.inl v42))) hL_S43 rfl
                      have f787 := zG_a hI_S43 4 (-1) (1500) (c := 66) (k := 1) (by decide) (by decide)
                      have q788 : (mI S39 66 2).toInt = v38.toInt := zG_zi (f := mI (ma_put S37 66 2 (.inl v38))) hL_S39 rfl
                      have f789 := zG_a hI_S39 4 (-1) (1500) (c := 66) (k := 2) (by decide) (by decide)
                      have q790 : (mI S41 66 2).toInt = (mI S39 66 2).toInt := zG_zi (f := mI S39) hL_S41 rfl
                      have f791 := zG_a hI_S41 4 (-1) (1500) (c := 66) (k := 2) (by decide) (by decide)
                      have q792 : (mI S43 66 2).toInt = (mI S41 66 2).toInt := zG_zi (f := mI (ma_put S41 66 3 (.inl v42))) hL_S43 rfl
                      have f793 := zG_a hI_S43 4 (-1) (1500) (c := 66) (k := 2) (by decide) (by decide)
                      have q794 : (mI S43 66 3).toInt = v42.toInt := zG_zi (f := mI (ma_put S41 66 3 (.inl v42))) hL_S43 rfl
                      have f795 := zG_a hI_S43 4 (-1) (1500) (c := 66) (k := 3) (by decide) (by decide)
                      exact K ((-1 : Int32)) _ hI_S43 (show (-1 : Int32).toInt = -1 ∨ (0 ≤ (-1 : Int32).toInt ∧ (-1 : Int32).toInt ≤ 6 ∧ 0 ≤ (mI S43 66 0).toInt ∧ ((-1 : Int32).toInt = 3 → 0 ≤ (mI S43 66 1).toInt) ∧ ((-1 : Int32).toInt = 6 → 16 ≤ (mI S43 66 1).toInt)) from by omega) (show ((-1 : Int32).toInt = -1 ∧ -1 - (mI S43 64 2).toInt = zAns (f 65) (f 64 1).toInt) ∨ ((-1 : Int32).toInt ≠ -1 ∧ zFin (-1 : Int32).toInt (mI S43 66 0).toInt (mI S43 66 1).toInt = zAns (f 65) (f 64 1).toInt) from by first | (have qk : v4.toInt = 3 := (by omega); have q := zAns_go (s := (mI S1 64 2)) (e := (mI S1 64 3).toInt) (k := v4.toInt) rp0_S1 rp1_S1 rp0_S3 (by omega); rw [show zPts v4.toInt = [0, 0, 1, 2] from by rw [qk]; rfl] at q; replace q := q.trans (zRun_ok0 (s := (mI S27 64 2)) (e := (mI S27 64 3).toInt) (x := v30.toInt) (p := (mI S1 64 3).toInt) rp0_S27 (by omega) rp1_S27 (show v30.toInt = zNum (f 65) (mI S27 64 2).toInt (mI S27 64 3).toInt 16 1500 from rp0_S29) (by omega)); replace q := q.trans (zRun_ok1 (s := (mI S31 64 2)) (e := (mI S31 64 3).toInt) (x := v34.toInt) (p := (mI S27 64 3).toInt) rp0_S31 (by omega) rp1_S31 (show v34.toInt = zNum (f 65) (mI S31 64 2).toInt (mI S31 64 3).toInt 16 1500 from rp0_S33) (by omega) (by omega)); replace q := q.trans (zRun_okn (s := (mI S35 64 2)) (e := (mI S35 64 3).toInt) (x := v38.toInt) (p := (mI S31 64 3).toInt) rp0_S35 (by omega) rp1_S35 (show v38.toInt = zNum (f 65) (mI S35 64 2).toInt (mI S35 64 3).toInt 1 7 from rp0_S37) (by omega) (by omega)); replace q := q.trans (zRun_okn (s := (mI S39 64 2)) (e := (mI S39 64 3).toInt) (x := v42.toInt) (p := (mI S35 64 3).toInt) rp0_S39 (by omega) rp1_S39 (show v42.toInt = zNum (f 65) (mI S39 64 2).toInt (mI S39 64 3).toInt 4 64 from rp0_S41) (by omega) (by omega)); have q2 := q.trans (zEnd_badp (s := (mI S43 64 2)) (e := (mI S43 64 3).toInt) (p := (mI S39 64 3).toInt) rp0_S43 (by omega) rp1_S43 (by omega)); exact Or.inl ⟨rfl, by omega⟩) | (omega) | (exfalso; omega)) (show (-1 : Int32).toInt = 5 → ((mI S43 66 0).toInt = zVal (f 65) (f 64 1).toInt 0 1 ∧ (mI S43 66 1).toInt = zVal (f 65) (f 64 1).toInt 6 2 ∧ (mI S43 66 2).toInt = zVal (f 65) (f 64 1).toInt 3 3 ∧ (mI S43 66 3).toInt = zVal (f 65) (f 64 1).toInt 7 4) from by first | (intro h; exact absurd h (by decide))) (show ((-1 : Int32).toInt = 0 ∨ (-1 : Int32).toInt = 4) → ((mI S43 66 0).toInt = zVal (f 65) (f 64 1).toInt 0 1 ∧ (mI S43 66 1).toInt = zVal (f 65) (f 64 1).toInt 6 2) from by first | (intro h; exact absurd h (by decide))) (show qM1 (-1 : Int32) (mI S43 66 0) (f 65) (f 64 1).toInt from by first | (unfold qM1; intro h; exact absurd h (by decide))) (show qM3 (-1 : Int32) (mI S43 66 0) (mI S43 66 1) (mI S43 66 2) (mI S43 66 3) (f 65) (f 64 1).toInt from by first | (unfold qM3; intro h; exact absurd h (by decide))) (show qM6 (-1 : Int32) (mI S43 66 0) (mI S43 66 1) (mI S43 66 2) (f 65) (f 64 1).toInt from by first | (unfold qM6; intro h; exact absurd h (by decide))) (show (-1 : Int32).toInt = -1 ∨ (-1 : Int32).toInt = zPol (f 65) (Int32.ofInt (zts (f 65) (f 64 1).toInt 0)) (zte (f 65) (f 64 1).toInt 0 - zts (f 65) (f 64 1).toInt 0) from by first | (exact Or.inl rfl)) (show zFm I0 L0 R0 S43 from by first | (exact rp4_S43))
        · skip
          have g796 := i_ne h528
          have li797 : (4 : Int32).toInt = 4 := rfl
          refine zd (fun h798 => ?_) (fun h798 => ?_)
          · skip
            have g799 := i_eq h798
            have q800 : (mI S3 64 3).toInt = (mI S1 64 3).toInt := zG_zi (f := mI S1) hL_S3 rfl
            have f801 := zG_s hI_S3 (0) (100) (c := 64) (k := 3) (by decide)
            refine sp_129_64_sq (p0 := ((mI S3 64 3).toInt)) (I0 := I0) (L0 := L0) (R0 := R0) (by omega) (by omega) (zR_dn_zY hI_S3) (show (mI S3 64 3).toInt = ((mI S3 64 3).toInt) from by omega) (show zFm I0 L0 R0 S3 from by first | (exact rp1_S3)) (fun v46 S45 hL_S45 hp_v46 rp0_S45 rp1_S45 rp2_S45 rp3_S45 rp4_S45 => zi_n ⟨zG_T hL_S45, ?_⟩)
            have hI_S45 := zR_up_zY hI_S3 hL_S45
            have f802 := zG_s hI_S45 (0) (100) (c := 64) (k := 2) (by decide)
            have rp0_S45 : (mI S45 64 2).toInt = tk true (f 65) (f 64 1).toInt ((mI S3 64 3).toInt) := by
              have z := rp0_S45
              (try rw [show mI S3 65 = f 65 from funext (fun k => zG_z hI_S3 rfl)] at z)
              (try rw [show mI S3 64 1 = f 64 1 from zG_z hI_S3 rfl] at z)
              exact z
            have f803 := zG_s hI_S45 (0) (100) (c := 64) (k := 3) (by decide)
            have rp1_S45 : (mI S45 64 3).toInt = tk false (f 65) (f 64 1).toInt (mI S45 64 2).toInt := by
              have z := rp1_S45
              (try rw [show mI S3 65 = f 65 from funext (fun k => zG_z hI_S3 rfl)] at z)
              (try rw [show mI S3 64 1 = f 64 1 from zG_z hI_S3 rfl] at z)
              exact z
            have rp2_S45 : (v46.toInt = 1 ∧ (mI S45 64 2).toInt < (mI S45 64 3).toInt) ∨ (v46.toInt = 0 ∧ (mI S45 64 3).toInt ≤ (mI S45 64 2).toInt) := by
              have z := rp2_S45
              (try rw [show mI S3 65 = f 65 from funext (fun k => zG_z hI_S3 rfl)] at z)
              (try rw [show mI S3 64 1 = f 64 1 from zG_z hI_S3 rfl] at z)
              exact z
            have rp3_S45 : (mI S45 64 2).toInt ≤ (mI S45 64 3).toInt := by
              have z := rp3_S45
              (try rw [show mI S3 65 = f 65 from funext (fun k => zG_z hI_S3 rfl)] at z)
              (try rw [show mI S3 64 1 = f 64 1 from zG_z hI_S3 rfl] at z)
              exact z
            have rp4_S45 : zFm I0 L0 R0 S45 := by
              have z := rp4_S45
              (try rw [show mI S3 65 = f 65 from funext (fun k => zG_z hI_S3 rfl)] at z)
              (try rw [show mI S3 64 1 = f 64 1 from zG_z hI_S3 rfl] at z)
              exact z
            have li804 : (16 : Int32).toInt = 16 := rfl
            have li805 : (1500 : Int32).toInt = 1500 := rfl
            refine sp_134_64_sq (I0 := I0) (L0 := L0) (R0 := R0) ((16 : Int32)) ((1500 : Int32)) (by omega) (by omega) (zR_dn_zY0 hI_S45) (show (mI S45 64 2).toInt ≤ (mI S45 64 3).toInt from by omega) (show zFm I0 L0 R0 S45 from by first | (exact rp4_S45)) (fun v48 S47 hL_S47 hp_v48 rp0_S47 rp1_S47 => zi_n ⟨zG_T hL_S47, ?_⟩)
            have hI_S47 := zR_up_zY0 hI_S45 hL_S47
            have rp0_S47 : v48.toInt = zNum (f 65) (mI S45 64 2).toInt (mI S45 64 3).toInt (16 : Int32).toInt (1500 : Int32).toInt := by
              have z := rp0_S47
              (try rw [show mI S45 65 = f 65 from funext (fun k => zG_z hI_S45 rfl)] at z)
              (try rw [show mI S45 64 1 = f 64 1 from zG_z hI_S45 rfl] at z)
              exact z
            have rp1_S47 : zFm I0 L0 R0 S47 := by
              have z := rp1_S47
              (try rw [show mI S45 65 = f 65 from funext (fun k => zG_z hI_S45 rfl)] at z)
              (try rw [show mI S45 64 1 = f 64 1 from zG_z hI_S45 rfl] at z)
              exact z
            have b806 := i_bd v48
            have li807 : (-1 : Int32).toInt = -1 := rfl
            refine zd (fun h808 => ?_) (fun h808 => ?_)
            · skip
              have g809 := i_eq h808
              have hI810 : zR f r C Z N (ma_put S47 66 0 (.inl v48)) := zG_sa hI_S47 (-1) (1500) rfl (by decide) (by decide) (by decide) trivial (by omega) (by omega)
              have f811 := zG_a hI 4 (-1) (1500) (c := 66) (k := 1) (by decide) (by decide)
              have q812 : (mI S1 66 1).toInt = (mI S 66 1).toInt := zG_zi (f := mI (ma_put S 64 3 (.inl (0 : Int32)))) hL_S1 rfl
              have f813 := zG_a hI_S1 4 (-1) (1500) (c := 66) (k := 1) (by decide) (by decide)
              have q814 : (mI S3 66 1).toInt = (mI S1 66 1).toInt := zG_zi (f := mI S1) hL_S3 rfl
              have f815 := zG_a hI_S3 4 (-1) (1500) (c := 66) (k := 1) (by decide) (by decide)
              have q816 : (mI S45 66 1).toInt = (mI S3 66 1).toInt := zG_zi (f := mI S3) hL_S45 rfl
              have f817 := zG_a hI_S45 4 (-1) (1500) (c := 66) (k := 1) (by decide) (by decide)
              have q818 : (mI S47 66 1).toInt = (mI S45 66 1).toInt := zG_zi (f := mI S45) hL_S47 rfl
              have f819 := zG_a hI_S47 4 (-1) (1500) (c := 66) (k := 1) (by decide) (by decide)
              have q820 : (mI S47 64 2).toInt = (mI S45 64 2).toInt := zG_zi (f := mI S45) hL_S47 rfl
              have f821 := zG_s hI_S47 (0) (100) (c := 64) (k := 2) (by decide)
              have f822 := zG_a hI 4 (-1) (1500) (c := 66) (k := 2) (by decide) (by decide)
              have q823 : (mI S1 66 2).toInt = (mI S 66 2).toInt := zG_zi (f := mI (ma_put S 64 3 (.inl (0 : Int32)))) hL_S1 rfl
              have f824 := zG_a hI_S1 4 (-1) (1500) (c := 66) (k := 2) (by decide) (by decide)
              have q825 : (mI S3 66 2).toInt = (mI S1 66 2).toInt := zG_zi (f := mI S1) hL_S3 rfl
              have f826 := zG_a hI_S3 4 (-1) (1500) (c := 66) (k := 2) (by decide) (by decide)
              have q827 : (mI S45 66 2).toInt = (mI S3 66 2).toInt := zG_zi (f := mI S3) hL_S45 rfl
              have f828 := zG_a hI_S45 4 (-1) (1500) (c := 66) (k := 2) (by decide) (by decide)
              have q829 : (mI S47 66 2).toInt = (mI S45 66 2).toInt := zG_zi (f := mI S45) hL_S47 rfl
              have f830 := zG_a hI_S47 4 (-1) (1500) (c := 66) (k := 2) (by decide) (by decide)
              have f831 := zG_a hI 4 (-1) (1500) (c := 66) (k := 3) (by decide) (by decide)
              have q832 : (mI S1 66 3).toInt = (mI S 66 3).toInt := zG_zi (f := mI (ma_put S 64 3 (.inl (0 : Int32)))) hL_S1 rfl
              have f833 := zG_a hI_S1 4 (-1) (1500) (c := 66) (k := 3) (by decide) (by decide)
              have q834 : (mI S3 66 3).toInt = (mI S1 66 3).toInt := zG_zi (f := mI S1) hL_S3 rfl
              have f835 := zG_a hI_S3 4 (-1) (1500) (c := 66) (k := 3) (by decide) (by decide)
              have q836 : (mI S45 66 3).toInt = (mI S3 66 3).toInt := zG_zi (f := mI S3) hL_S45 rfl
              have f837 := zG_a hI_S45 4 (-1) (1500) (c := 66) (k := 3) (by decide) (by decide)
              have q838 : (mI S47 66 3).toInt = (mI S45 66 3).toInt := zG_zi (f := mI S45) hL_S47 rfl
              have f839 := zG_a hI_S47 4 (-1) (1500) (c := 66) (k := 3) (by decide) (by decide)
              exact K ((-1 : Int32)) _ hI810 (show (-1 : Int32).toInt = -1 ∨ (0 ≤ (-1 : Int32).toInt ∧ (-1 : Int32).toInt ≤ 6 ∧ 0 ≤ v48.toInt ∧ ((-1 : Int32).toInt = 3 → 0 ≤ (mI S47 66 1).toInt) ∧ ((-1 : Int32).toInt = 6 → 16 ≤ (mI S47 66 1).toInt)) from by omega) (show ((-1 : Int32).toInt = -1 ∧ -1 - (mI S47 64 2).toInt = zAns (f 65) (f 64 1).toInt) ∨ ((-1 : Int32).toInt ≠ -1 ∧ zFin (-1 : Int32).toInt v48.toInt (mI S47 66 1).toInt = zAns (f 65) (f 64 1).toInt) from by first | (have qk : v4.toInt = 4 := (by omega); have q := zAns_go (s := (mI S1 64 2)) (e := (mI S1 64 3).toInt) (k := v4.toInt) rp0_S1 rp1_S1 rp0_S3 (by omega); rw [show zPts v4.toInt = [0, 6] from by rw [qk]; rfl] at q; have q2 := q.trans (zRun_badp (s := (mI S45 64 2)) (e := (mI S45 64 3).toInt) (x := v48.toInt) (p := (mI S1 64 3).toInt) rp0_S45 (by omega) rp1_S45 (show v48.toInt = zNum (f 65) (mI S45 64 2).toInt (mI S45 64 3).toInt 16 1500 from rp0_S47) (by omega)); exact Or.inl ⟨rfl, by omega⟩) | (omega) | (exfalso; omega)) (show (-1 : Int32).toInt = 5 → (v48.toInt = zVal (f 65) (f 64 1).toInt 0 1 ∧ (mI S47 66 1).toInt = zVal (f 65) (f 64 1).toInt 6 2 ∧ (mI S47 66 2).toInt = zVal (f 65) (f 64 1).toInt 3 3 ∧ (mI S47 66 3).toInt = zVal (f 65) (f 64 1).toInt 7 4) from by first | (intro h; exact absurd h (by decide))) (show ((-1 : Int32).toInt = 0 ∨ (-1 : Int32).toInt = 4) → (v48.toInt = zVal (f 65) (f 64 1).toInt 0 1 ∧ (mI S47 66 1).toInt = zVal (f 65) (f 64 1).toInt 6 2) from by first | (intro h; exact absurd h (by decide))) (show qM1 (-1 : Int32) v48 (f 65) (f 64 1).toInt from by first | (unfold qM1; intro h; exact absurd h (by decide))) (show qM3 (-1 : Int32) v48 (mI S47 66 1) (mI S47 66 2) (mI S47 66 3) (f 65) (f 64 1).toInt from by first | (unfold qM3; intro h; exact absurd h (by decide))) (show qM6 (-1 : Int32) v48 (mI S47 66 1) (mI S47 66 2) (f 65) (f 64 1).toInt from by first | (unfold qM6; intro h; exact absurd h (by decide))) (show (-1 : Int32).toInt = -1 ∨ (-1 : Int32).toInt = zPol (f 65) (Int32.ofInt (zts (f 65) (f 64 1).toInt 0)) (zte (f 65) (f 64 1).toInt 0 - zts (f 65) (f 64 1).toInt 0) from by first | (exact Or.inl rfl)) (show zFm I0 L0 R0 (ma_put S47 66 0 (.inl v48)) from by first | (exact (fn9_p rp1_S47 (by decide))))
            · skip
              have g840 := i_ne h808
              have hI841 : zR f r C Z N (ma_put S47 66 0 (.inl v48)) := zG_sa hI_S47 (-1) (1500) rfl (by decide) (by decide) (by decide) trivial (by omega) (by omega)
              have q842 : (mI S47 64 3).toInt = (mI S45 64 3).toInt := zG_zi (f := mI S45) hL_S47 rfl
              have f843 := zG_s hI_S47 (0) (100) (c := 64) (k := 3) (by decide)
              refine sp_129_64_sq (p0 := ((mI S47 64 3).toInt)) (I0 := I0) (L0 := L0) (R0 := R0) (by omega) (by omega) (zR_dn_zY hI841) (show (mI S47 64 3).toInt = ((mI S47 64 3).toInt) from by omega) (show zFm I0 L0 R0 (ma_put S47 66 0 (.inl v48)) from by first | (exact (fn9_p rp1_S47 (by decide)))) (fun v50 S49 hL_S49 hp_v50 rp0_S49 rp1_S49 rp2_S49 rp3_S49 rp4_S49 => zi_n ⟨zG_T hL_S49, ?_⟩)
              have hI_S49 := zR_up_zY hI841 hL_S49
              have f844 := zG_s hI_S49 (0) (100) (c := 64) (k := 2) (by decide)
              have rp0_S49 : (mI S49 64 2).toInt = tk true (f 65) (f 64 1).toInt ((mI S47 64 3).toInt) := by
                have z := rp0_S49
                (try rw [show mI (ma_put S47 66 0 (.inl v48)) 65 = f 65 from funext (fun k => zG_z hI841 rfl)] at z)
                (try rw [show mI (ma_put S47 66 0 (.inl v48)) 64 1 = f 64 1 from zG_z hI841 rfl] at z)
                exact z
              have f845 := zG_s hI_S49 (0) (100) (c := 64) (k := 3) (by decide)
              have rp1_S49 : (mI S49 64 3).toInt = tk false (f 65) (f 64 1).toInt (mI S49 64 2).toInt := by
                have z := rp1_S49
                (try rw [show mI (ma_put S47 66 0 (.inl v48)) 65 = f 65 from funext (fun k => zG_z hI841 rfl)] at z)
                (try rw [show mI (ma_put S47 66 0 (.inl v48)) 64 1 = f 64 1 from zG_z hI841 rfl] at z)
                exact z
              have rp2_S49 : (v50.toInt = 1 ∧ (mI S49 64 2).toInt < (mI S49 64 3).toInt) ∨ (v50.toInt = 0 ∧ (mI S49 64 3).toInt ≤ (mI S49 64 2).toInt) := by
                have z := rp2_S49
                (try rw [show mI (ma_put S47 66 0 (.inl v48)) 65 = f 65 from funext (fun k => zG_z hI841 rfl)] at z)
                (try rw [show mI (ma_put S47 66 0 (.inl v48)) 64 1 = f 64 1 from zG_z hI841 rfl] at z)
                exact z
              have rp3_S49 : (mI S49 64 2).toInt ≤ (mI S49 64 3).toInt := by
                have z := rp3_S49
                (try rw [show mI (ma_put S47 66 0 (.inl v48)) 65 = f 65 from funext (fun k => zG_z hI841 rfl)] at z)
                (try rw [show mI (ma_put S47 66 0 (.inl v48)) 64 1 = f 64 1 from zG_z hI841 rfl] at z)
                exact z
              have rp4_S49 : zFm I0 L0 R0 S49 := by
                have z := rp4_S49
                (try rw [show mI (ma_put S47 66 0 (.inl v48)) 65 = f 65 from funext (fun k => zG_z hI841 rfl)] at z)
                (try rw [show mI (ma_put S47 66 0 (.inl v48)) 64 1 = f 64 1 from zG_z hI841 rfl] at z)
                exact z
              refine sp_135_64_sq (I0 := I0) (L0 := L0) (R0 := R0) (by omega) (by omega) (zR_dn_zY0 hI_S49) (show zFm I0 L0 R0 S49 from by first | (exact rp4_S49)) (fun v52 S51 hL_S51 hp_v52 rp0_S51 rp1_S51 => zi_n ⟨zG_T hL_S51, ?_⟩)
              have hI_S51 := zR_up_zY0 hI_S49 hL_S51
              have rp0_S51 : v52.toInt = zForm (f 65) (mI S49 64 2) ((mI S49 64 3).toInt - (mI S49 64 2).toInt) := by
                have z := rp0_S51
                (try rw [show mI S49 65 = f 65 from funext (fun k => zG_z hI_S49 rfl)] at z)
                (try rw [show mI S49 64 1 = f 64 1 from zG_z hI_S49 rfl] at z)
                exact z
              have rp1_S51 : zFm I0 L0 R0 S51 := by
                have z := rp1_S51
                (try rw [show mI S49 65 = f 65 from funext (fun k => zG_z hI_S49 rfl)] at z)
                (try rw [show mI S49 64 1 = f 64 1 from zG_z hI_S49 rfl] at z)
                exact z
              have b846 := i_bd v52
              refine zd (fun h847 => ?_) (fun h847 => ?_)
              · skip
                have g848 := i_eq h847
                have hI849 : zR f r C Z N (ma_put S51 66 1 (.inl v52)) := zG_sa hI_S51 (-1) (1500) rfl (by decide) (by decide) (by decide) trivial (by omega) (by omega)
                have q850 : (mI S49 66 0).toInt = v48.toInt := zG_zi (f := mI (ma_put S47 66 0 (.inl v48))) hL_S49 rfl
                have f851 := zG_a hI_S49 4 (-1) (1500) (c := 66) (k := 0) (by decide) (by decide)
                have q852 : (mI S51 66 0).toInt = (mI S49 66 0).toInt := zG_zi (f := mI S49) hL_S51 rfl
                have f853 := zG_a hI_S51 4 (-1) (1500) (c := 66) (k := 0) (by decide) (by decide)
                have q854 : (mI S51 64 2).toInt = (mI S49 64 2).toInt := zG_zi (f := mI S49) hL_S51 rfl
                have f855 := zG_s hI_S51 (0) (100) (c := 64) (k := 2) (by decide)
                have f856 := zG_a hI 4 (-1) (1500) (c := 66) (k := 2) (by decide) (by decide)
                have q857 : (mI S1 66 2).toInt = (mI S 66 2).toInt := zG_zi (f := mI (ma_put S 64 3 (.inl (0 : Int32)))) hL_S1 rfl
                have f858 := zG_a hI_S1 4 (-1) (1500) (c := 66) (k := 2) (by decide) (by decide)
                have q859 : (mI S3 66 2).toInt = (mI S1 66 2).toInt := zG_zi (f := mI S1) hL_S3 rfl
                have f860 := zG_a hI_S3 4 (-1) (1500) (c := 66) (k := 2) (by decide) (by decide)
                have q861 : (mI S45 66 2).toInt = (mI S3 66 2).toInt := zG_zi (f := mI S3) hL_S45 rfl
                have f862 := zG_a hI_S45 4 (-1) (1500) (c := 66) (k := 2) (by decide) (by decide)
                have q863 : (mI S47 66 2).toInt = (mI S45 66 2).toInt := zG_zi (f := mI S45) hL_S47 rfl
                have f864 := zG_a hI_S47 4 (-1) (1500) (c := 66) (k := 2) (by decide) (by decide)
                have q865 : (mI S49 66 2).toInt = (mI S47 66 2).toInt := zG_zi (f := mI (ma_put S47 66 0 (.inl v48))) hL_S49 rfl
                have f866 := zG_a hI_S49 4 (-1) (1500) (c := 66) (k := 2) (by decide) (by decide)
                have q867 : (mI S51 66 2).toInt = (mI S49 66 2).toInt := zG_zi (f := mI S49) hL_S51 rfl
                have f868 := zG_a hI_S51 4 (-1) (1500) (c := 66) (k := 2) (by decide) (by decide)
                have f869 := zG_a hI 4 (-1) (1500) (c := 66) (k := 3) (by decide) (by decide)
                have q870 : (mI S1 66 3).toInt = (mI S 66 3).toInt := zG_zi (f := mI (ma_put S 64 3 (.inl (0 : Int32)))) hL_S1 rfl
                have f871 := zG_a hI_S1 4 (-1) (1500) (c := 66) (k := 3) (by decide) (by decide)
                have q872 : (mI S3 66 3).toInt = (mI S1 66 3).toInt := zG_zi (f := mI S1) hL_S3 rfl
                have f873 := zG_a hI_S3 4 (-1) (1500) (c := 66) (k := 3) (by decide) (by decide)
                have q874 : (mI S45 66 3).toInt = (mI S3 66 3).toInt := zG_zi (f := mI S3) hL_S45 rfl
                have f875 := zG_a hI_S45 4 (-1) (1500) (c := 66) (k := 3) (by decide) (by decide)
                have q876 : (mI S47 66 3).toInt = (mI S45 66 3).toInt := zG_zi (f := mI S45) hL_S47 rfl
                have f877 := zG_a hI_S47 4 (-1) (1500) (c := 66) (k := 3) (by decide) (by decide)
                have q878 : (mI S49 66 3).toInt = (mI S47 66 3).toInt := zG_zi (f := mI (ma_put S47 66 0 (.inl v48))) hL_S49 rfl
                have f879 := zG_a hI_S49 4 (-1) (1500) (c := 66) (k := 3) (by decide) (by decide)
                have q880 : (mI S51 66 3).toInt = (mI S49 66 3).toInt := zG_zi (f := mI S49) hL_S51 rfl
                have f881 := zG_a hI_S51 4 (-1) (1500) (c := 66) (k := 3) (by decide) (by decide)
                exact K ((-1 : Int32)) _ hI849 (show (-1 : Int32).toInt = -1 ∨ (0 ≤ (-1 : Int32).toInt ∧ (-1 : Int32).toInt ≤ 6 ∧ 0 ≤ (mI S51 66 0).toInt ∧ ((-1 : Int32).toInt = 3 → 0 ≤ v52.toInt) ∧ ((-1 : Int32).toInt = 6 → 16 ≤ v52.toInt)) from by omega) (show ((-1 : Int32).toInt = -1 ∧ -1 - (mI S51 64 2).toInt = zAns (f 65) (f 64 1).toInt) ∨ ((-1 : Int32).toInt ≠ -1 ∧ zFin (-1 : Int32).toInt (mI S51 66 0).toInt v52.toInt = zAns (f 65) (f 64 1).toInt) from by first | (have qk : v4.toInt = 4 := (by omega); have q := zAns_go (s := (mI S1 64 2)) (e := (mI S1 64 3).toInt) (k := v4.toInt) rp0_S1 rp1_S1 rp0_S3 (by omega); rw [show zPts v4.toInt = [0, 6] from by rw [qk]; rfl] at q; replace q := q.trans (zRun_ok0 (s := (mI S45 64 2)) (e := (mI S45 64 3).toInt) (x := v48.toInt) (p := (mI S1 64 3).toInt) rp0_S45 (by omega) rp1_S45 (show v48.toInt = zNum (f 65) (mI S45 64 2).toInt (mI S45 64 3).toInt 16 1500 from rp0_S47) (by omega)); have q2 := q.trans (zRun_badp (s := (mI S49 64 2)) (e := (mI S49 64 3).toInt) (x := v52.toInt) (p := (mI S45 64 3).toInt) rp0_S49 (by omega) rp1_S49 (zPart_f rp0_S51) (by omega)); exact Or.inl ⟨rfl, by omega⟩) | (omega) | (exfalso; omega)) (show (-1 : Int32).toInt = 5 → ((mI S51 66 0).toInt = zVal (f 65) (f 64 1).toInt 0 1 ∧ v52.toInt = zVal (f 65) (f 64 1).toInt 6 2 ∧ (mI S51 66 2).toInt = zVal (f 65) (f 64 1).toInt 3 3 ∧ (mI S51 66 3).toInt = zVal (f 65) (f 64 1).toInt 7 4) from by first | (intro h; exact absurd h (by decide))) (show ((-1 : Int32).toInt = 0 ∨ (-1 : Int32).toInt = 4) → ((mI S51 66 0).toInt = zVal (f 65) (f 64 1).toInt 0 1 ∧ v52.toInt = zVal (f 65) (f 64 1).toInt 6 2) from by first | (intro h; exact absurd h (by decide))) (show qM1 (-1 : Int32) (mI S51 66 0) (f 65) (f 64 1).toInt from by first | (unfold qM1; intro h; exact absurd h (by decide))) (show qM3 (-1 : Int32) (mI S51 66 0) v52 (mI S51 66 2) (mI S51 66 3) (f 65) (f 64 1).toInt from by first | (unfold qM3; intro h; exact absurd h (by decide))) (show qM6 (-1 : Int32) (mI S51 66 0) v52 (mI S51 66 2) (f 65) (f 64 1).toInt from by first | (unfold qM6; intro h; exact absurd h (by decide))) (show (-1 : Int32).toInt = -1 ∨ (-1 : Int32).toInt = zPol (f 65) (Int32.ofInt (zts (f 65) (f 64 1).toInt 0)) (zte (f 65) (f 64 1).toInt 0 - zts (f 65) (f 64 1).toInt 0) from by first | (exact Or.inl rfl)) (show zFm I0 L0 R0 (ma_put S51 66 1 (.inl v52)) from by first | (exact (fn9_p rp1_S51 (by decide))))
              · skip
                have g882 := i_ne h847
                refine zd (fun h883 => ?_) (fun h883 => ?_)
                · skip
                  have g884 := i_eq h883
                  have hI885 : zR f r C Z N (ma_put S51 66 1 (.inl v52)) := zG_sa hI_S51 (-1) (1500) rfl (by decide) (by decide) (by decide) trivial (by omega) (by omega)
                  have q886 : (mI S49 66 0).toInt = v48.toInt := zG_zi (f := mI (ma_put S47 66 0 (.inl v48))) hL_S49 rfl
                  have f887 := zG_a hI_S49 4 (-1) (1500) (c := 66) (k := 0) (by decide) (by decide)
                  have q888 : (mI S51 66 0).toInt = (mI S49 66 0).toInt := zG_zi (f := mI S49) hL_S51 rfl
                  have f889 := zG_a hI_S51 4 (-1) (1500) (c := 66) (k := 0) (by decide) (by decide)
                  have q890 : (mI S51 64 2).toInt = (mI S49 64 2).toInt := zG_zi (f := mI S49) hL_S51 rfl
                  have f891 := zG_s hI_S51 (0) (100) (c := 64) (k := 2) (by decide)
                  have f892 := zG_a hI 4 (-1) (1500) (c := 66) (k := 2) (by decide) (by decide)
                  have q893 : (mI S1 66 2).toInt = (mI S 66 2).toInt := zG_zi (f := mI (ma_put S 64 3 (.inl (0 : Int32)))) hL_S1 rfl
                  have f894 := zG_a hI_S1 4 (-1) (1500) (c := 66) (k := 2) (by decide) (by decide)
                  have q895 : (mI S3 66 2).toInt = (mI S1 66 2).toInt := zG_zi (f := mI S1) hL_S3 rfl
                  have f896 := zG_a hI_S3 4 (-1) (1500) (c := 66) (k := 2) (by decide) (by decide)
                  have q897 : (mI S45 66 2).toInt = (mI S3 66 2).toInt := zG_zi (f := mI S3) hL_S45 rfl
                  have f898 := zG_a hI_S45 4 (-1) (1500) (c := 66) (k := 2) (by decide) (by decide)
                  have q899 : (mI S47 66 2).toInt = (mI S45 66 2).toInt := zG_zi (f := mI S45) hL_S47 rfl
                  have f900 := zG_a hI_S47 4 (-1) (1500) (c := 66) (k := 2) (by decide) (by decide)
                  have q901 : (mI S49 66 2).toInt = (mI S47 66 2).toInt := zG_zi (f := mI (ma_put S47 66 0 (.inl v48))) hL_S49 rfl
                  have f902 := zG_a hI_S49 4 (-1) (1500) (c := 66) (k := 2) (by decide) (by decide)
                  have q903 : (mI S51 66 2).toInt = (mI S49 66 2).toInt := zG_zi (f := mI S49) hL_S51 rfl
                  have f904 := zG_a hI_S51 4 (-1) (1500) (c := 66) (k := 2) (by decide) (by decide)
                  have f905 := zG_a hI 4 (-1) (1500) (c := 66) (k := 3) (by decide) (by decide)
                  have q906 : (mI S1 66 3).toInt = (mI S 66 3).toInt := zG_zi (f := mI (ma_put S 64 3 (.inl (0 : Int32)))) hL_S1 rfl
                  have f907 := zG_a hI_S1 4 (-1) (1500) (c := 66) (k := 3) (by decide) (by decide)
                  have q908 : (mI S3 66 3).toInt = (mI S1 66 3).toInt := zG_zi (f := mI S1) hL_S3 rfl
                  have f909 := zG_a hI_S3 4 (-1) (1500) (c := 66) (k := 3) (by decide) (by decide)
                  have q910 : (mI S45 66 3).toInt = (mI S3 66 3).toInt := zG_zi (f := mI S3) hL_S45 rfl
                  have f911 := zG_a hI_S45 4 (-1) (1500) (c := 66) (k := 3) (by decide) (by decide)
                  have q912 : (mI S47 66 3).toInt = (mI S45 66 3).toInt := zG_zi (f := mI S45) hL_S47 rfl
                  have f913 := zG_a hI_S47 4 (-1) (1500) (c := 66) (k := 3) (by decide) (by decide)
                  have q914 : (mI S49 66 3).toInt = (mI S47 66 3).toInt := zG_zi (f := mI (ma_put S47 66 0 (.inl v48))) hL_S49 rfl
                  have f915 := zG_a hI_S49 4 (-1) (1500) (c := 66) (k := 3) (by decide) (by decide)
                  have q916 : (mI S51 66 3).toInt = (mI S49 66 3).toInt := zG_zi (f := mI S49) hL_S51 rfl
                  have f917 := zG_a hI_S51 4 (-1) (1500) (c := 66) (k := 3) (by decide) (by decide)
                  exact K ((-1 : Int32)) _ hI885 (show (-1 : Int32).toInt = -1 ∨ (0 ≤ (-1 : Int32).toInt ∧ (-1 : Int32).toInt ≤ 6 ∧ 0 ≤ (mI S51 66 0).toInt ∧ ((-1 : Int32).toInt = 3 → 0 ≤ v52.toInt) ∧ ((-1 : Int32).toInt = 6 → 16 ≤ v52.toInt)) from by omega) (show ((-1 : Int32).toInt = -1 ∧ -1 - (mI S51 64 2).toInt = zAns (f 65) (f 64 1).toInt) ∨ ((-1 : Int32).toInt ≠ -1 ∧ zFin (-1 : Int32).toInt (mI S51 66 0).toInt v52.toInt = zAns (f 65) (f 64 1).toInt) from by first | (have qk : v4.toInt = 4 := (by omega); have q := zAns_go (s := (mI S1 64 2)) (e := (mI S1 64 3).toInt) (k := v4.toInt) rp0_S1 rp1_S1 rp0_S3 (by omega); rw [show zPts v4.toInt = [0, 6] from by rw [qk]; rfl] at q; replace q := q.trans (zRun_ok0 (s := (mI S45 64 2)) (e := (mI S45 64 3).toInt) (x := v48.toInt) (p := (mI S1 64 3).toInt) rp0_S45 (by omega) rp1_S45 (show v48.toInt = zNum (f 65) (mI S45 64 2).toInt (mI S45 64 3).toInt 16 1500 from rp0_S47) (by omega)); have q2 := q.trans (zRun_badp (s := (mI S49 64 2)) (e := (mI S49 64 3).toInt) (x := v52.toInt) (p := (mI S45 64 3).toInt) rp0_S49 (by omega) rp1_S49 (zPart_f rp0_S51) (by omega)); exact Or.inl ⟨rfl, by omega⟩) | (omega) | (exfalso; omega)) (show (-1 : Int32).toInt = 5 → ((mI S51 66 0).toInt = zVal (f 65) (f 64 1).toInt 0 1 ∧ v52.toInt = zVal (f 65) (f 64 1).toInt 6 2 ∧ (mI S51 66 2).toInt = zVal (f 65) (f 64 1).toInt 3 3 ∧ (mI S51 66 3).toInt = zVal (f 65) (f 64 1).toInt 7 4) from by first | (intro h; exact absurd h (by decide))) (show ((-1 : Int32).toInt = 0 ∨ (-1 : Int32).toInt = 4) → ((mI S51 66 0).toInt = zVal (f 65) (f 64 1).toInt 0 1 ∧ v52.toInt = zVal (f 65) (f 64 1).toInt 6 2) from by first | (intro h; exact absurd h (by decide))) (show qM1 (-1 : Int32) (mI S51 66 0) (f 65) (f 64 1).toInt from by first | (unfold qM1; intro h; exact absurd h (by decide))) (show qM3 (-1 : Int32) (mI S51 66 0) v52 (mI S51 66 2) (mI S51 66 3) (f 65) (f 64 1).toInt from by first | (unfold qM3; intro h; exact absurd h (by decide))) (show qM6 (-1 : Int32) (mI S51 66 0) v52 (mI S51 66 2) (f 65) (f 64 1).toInt from by first | (unfold qM6; intro h; exact absurd h (by decide))) (show (-1 : Int32).toInt = -1 ∨ (-1 : Int32).toInt = zPol (f 65) (Int32.ofInt (zts (f 65) (f 64 1).toInt 0)) (zte (f 65) (f 64 1).toInt 0 - zts (f 65) (f 64 1).toInt 0) from by first | (exact Or.inl rfl)) (show zFm I0 L0 R0 (ma_put S51 66 1 (.inl v52)) from by first | (exact (fn9_p rp1_S51 (by decide))))
                · skip
                  have g918 := i_ne h883
                  have hI919 : zR f r C Z N (ma_put S51 66 1 (.inl v52)) := zG_sa hI_S51 (-1) (1500) rfl (by decide) (by decide) (by decide) trivial (by omega) (by omega)
                  have q920 : (mI S51 64 3).toInt = (mI S49 64 3).toInt := zG_zi (f := mI S49) hL_S51 rfl
                  have f921 := zG_s hI_S51 (0) (100) (c := 64) (k := 3) (by decide)
                  refine sp_129_64_sq (p0 := ((mI S51 64 3).toInt)) (I0 := I0) (L0 := L0) (R0 := R0) (by omega) (by omega) (zR_dn_zY hI919) (show (mI S51 64 3).toInt = ((mI S51 64 3).toInt) from by omega) (show zFm I0 L0 R0 (ma_put S51 66 1 (.inl v52)) from by first | (exact (fn9_p rp1_S51 (by decide)))) (fun v54 S53 hL_S53 hp_v54 rp0_S53 rp1_S53 rp2_S53 rp3_S53 rp4_S53 => zi_n ⟨zG_T hL_S53, ?_⟩)
                  have hI_S53 := zR_up_zY hI919 hL_S53
                  have f922 := zG_s hI_S53 (0) (100) (c := 64) (k := 2) (by decide)
                  have rp0_S53 : (mI S53 64 2).toInt = tk true (f 65) (f 64 1).toInt ((mI S51 64 3).toInt) := by
                    have z := rp0_S53
                    (try rw [show mI (ma_put S51 66 1 (.inl v52)) 65 = f 65 from funext (fun k => zG_z hI919 rfl)] at z)
                    (try rw [show mI (ma_put S51 66 1 (.inl v52)) 64 1 = f 64 1 from zG_z hI919 rfl] at z)
                    exact z
                  have f923 := zG_s hI_S53 (0) (100) (c := 64) (k := 3) (by decide)
                  have rp1_S53 : (mI S53 64 3).toInt = tk false (f 65) (f 64 1).toInt (mI S53 64 2).toInt := by
                    have z := rp1_S53
                    (try rw [show mI (ma_put S51 66 1 (.inl v52)) 65 = f 65 from funext (fun k => zG_z hI919 rfl)] at z)
                    (try rw [show mI (ma_put S51 66 1 (.inl v52)) 64 1 = f 64 1 from zG_z hI919 rfl] at z)
                    exact z
                  have rp2_S53 : (v54.toInt = 1 ∧ (mI S53 64 2).toInt < (mI S53 64 3).toInt) ∨ (v54.toInt = 0 ∧ (mI S53 64 3).toInt ≤ (mI S53 64 2).toInt) := by
                    have z := rp2_S53
                    (try rw [show mI (ma_put S51 66 1 (.inl v52)) 65 = f 65 from funext (fun k => zG_z hI919 rfl)] at z)
                    (try rw [show mI (ma_put S51 66 1 (.inl v52)) 64 1 = f 64 1 from zG_z hI919 rfl] at z)
                    exact z
                  have rp3_S53 : (mI S53 64 2).toInt ≤ (mI S53 64 3).toInt := by
                    have z := rp3_S53
                    (try rw [show mI (ma_put S51 66 1 (.inl v52)) 65 = f 65 from funext (fun k => zG_z hI919 rfl)] at z)
                    (try rw [show mI (ma_put S51 66 1 (.inl v52)) 64 1 = f 64 1 from zG_z hI919 rfl] at z)
                    exact z
                  have rp4_S53 : zFm I0 L0 R0 S53 := by
                    have z := rp4_S53
                    (try rw [show mI (ma_put S51 66 1 (.inl v52)) 65 = f 65 from funext (fun k => zG_z hI919 rfl)] at z)
                    (try rw [show mI (ma_put S51 66 1 (.inl v52)) 64 1 = f 64 1 from zG_z hI919 rfl] at z)
                    exact z
                  have b924 := i_bd v54
                  refine zd (fun h925 => ?_) (fun h925 => ?_)
                  · skip
                    have g926 := i_eq h925
                    have q927 : (mI S49 66 0).toInt = v48.toInt := zG_zi (f := mI (ma_put S47 66 0 (.inl v48))) hL_S49 rfl
                    have f928 := zG_a hI_S49 4 (-1) (1500) (c := 66) (k := 0) (by decide) (by decide)
                    have q929 : (mI S51 66 0).toInt = (mI S49 66 0).toInt := zG_zi (f := mI S49) hL_S51 rfl
                    have f930 := zG_a hI_S51 4 (-1) (1500) (c := 66) (k := 0) (by decide) (by decide)
                    have q931 : (mI S53 66 0).toInt = (mI S51 66 0).toInt := zG_zi (f := mI (ma_put S51 66 1 (.inl v52))) hL_S53 rfl
                    have f932 := zG_a hI_S53 4 (-1) (1500) (c := 66) (k := 0) (by decide) (by decide)
                    have q933 : (mI S53 66 1).toInt = v52.toInt := zG_zi (f := mI (ma_put S51 66 1 (.inl v52))) hL_S53 rfl
                    have f934 := zG_a hI_S53 4 (-1) (1500) (c := 66) (k := 1) (by decide) (by decide)
                    have f935 := zG_a hI 4 (-1) (1500) (c := 66) (k := 2) (by decide) (by decide)
                    have q936 : (mI S1 66 2).toInt = (mI S 66 2).toInt := zG_zi (f := mI (ma_put S 64 3 (.inl (0 : Int32)))) hL_S1 rfl
                    have f937 := zG_a hI_S1 4 (-1) (1500) (c := 66) (k := 2) (by decide) (by decide)
                    have q938 : (mI S3 66 2).toInt = (mI S1 66 2).toInt := zG_zi (f := mI S1) hL_S3 rfl
                    have f939 := zG_a hI_S3 4 (-1) (1500) (c := 66) (k := 2) (by decide) (by decide)
                    have q940 : (mI S45 66 2).toInt = (mI S3 66 2).toInt := zG_zi (f := mI S3) hL_S45 rfl
                    have f941 := zG_a hI_S45 4 (-1) (1500) (c := 66) (k := 2) (by decide) (by decide)
                    have q942 : (mI S47 66 2).toInt = (mI S45 66 2).toInt := zG_zi (f := mI S45) hL_S47 rfl
                    have f943 := zG_a hI_S47 4 (-1) (1500) (c := 66) (k := 2) (by decide) (by decide)
                    have q944 : (mI S49 66 2).toInt = (mI S47 66 2).toInt := zG_zi (f := mI (ma_put S47 66 0 (.inl v48))) hL_S49 rfl
                    have f945 := zG_a hI_S49 4 (-1) (1500) (c := 66) (k := 2) (by decide) (by decide)
                    have q946 : (mI S51 66 2).toInt = (mI S49 66 2).toInt := zG_zi (f := mI S49) hL_S51 rfl
                    have f947 := zG_a hI_S51 4 (-1) (1500) (c := 66) (k := 2) (by decide) (by decide)
                    have q948 : (mI S53 66 2).toInt = (mI S51 66 2).toInt := zG_zi (f := mI (ma_put S51 66 1 (.inl v52))) hL_S53 rfl
                    have f949 := zG_a hI_S53 4 (-1) (1500) (c := 66) (k := 2) (by decide) (by decide)
                    have f950 := zG_a hI 4 (-1) (1500) (c := 66) (k := 3) (by decide) (by decide)
                    have q951 : (mI S1 66 3).toInt = (mI S 66 3).toInt := zG_zi (f := mI (ma_put S 64 3 (.inl (0 : Int32)))) hL_S1 rfl
                    have f952 := zG_a hI_S1 4 (-1) (1500) (c := 66) (k := 3) (by decide) (by decide)
                    have q953 : (mI S3 66 3).toInt = (mI S1 66 3).toInt := zG_zi (f := mI S1) hL_S3 rfl
                    have f954 := zG_a hI_S3 4 (-1) (1500) (c := 66) (k := 3) (by decide) (by decide)
                    have q955 : (mI S45 66 3).toInt = (mI S3 66 3).toInt := zG_zi (f := mI S3) hL_S45 rfl
                    have f956 := zG_a hI_S45 4 (-1) (1500) (c := 66) (k := 3) (by decide) (by decide)
                    have q957 : (mI S47 66 3).toInt = (mI S45 66 3).toInt := zG_zi (f := mI S45) hL_S47 rfl
                    have f958 := zG_a hI_S47 4 (-1) (1500) (c := 66) (k := 3) (by decide) (by decide)
                    have q959 : (mI S49 66 3).toInt = (mI S47 66 3).toInt := zG_zi (f := mI (ma_put S47 66 0 (.inl v48))) hL_S49 rfl
                    have f960 := zG_a hI_S49 4 (-1) (1500) (c := 66) (k := 3) (by decide) (by decide)
                    have q961 : (mI S51 66 3).toInt = (mI S49 66 3).toInt := zG_zi (f := mI S49) hL_S51 rfl
                    have f962 := zG_a hI_S51 4 (-1) (1500) (c := 66) (k := 3) (by decide) (by decide)
                    have q963 : (mI S53 66 3).toInt = (mI S51 66 3).toInt := zG_zi (f := mI (ma_put S51 66 1 (.inl v52))) hL_S53 rfl
                    have f964 := zG_a hI_S53 4 (-1) (1500) (c := 66) (k := 3) (by decide) (by decide)
                    exact K (v4) _ hI_S53 (show v4.toInt = -1 ∨ (0 ≤ v4.toInt ∧ v4.toInt ≤ 6 ∧ 0 ≤ (mI S53 66 0).toInt ∧ (v4.toInt = 3 → 0 ≤ (mI S53 66 1).toInt) ∧ (v4.toInt = 6 → 16 ≤ (mI S53 66 1).toInt)) from by omega) (show (v4.toInt = -1 ∧ -1 - (mI S53 64 2).toInt = zAns (f 65) (f 64 1).toInt) ∨ (v4.toInt ≠ -1 ∧ zFin v4.toInt (mI S53 66 0).toInt (mI S53 66 1).toInt = zAns (f 65) (f 64 1).toInt) from by first | (have qk : v4.toInt = 4 := (by omega); have q := zAns_go (s := (mI S1 64 2)) (e := (mI S1 64 3).toInt) (k := v4.toInt) rp0_S1 rp1_S1 rp0_S3 (by omega); rw [show zPts v4.toInt = [0, 6] from by rw [qk]; rfl] at q; replace q := q.trans (zRun_ok0 (s := (mI S45 64 2)) (e := (mI S45 64 3).toInt) (x := v48.toInt) (p := (mI S1 64 3).toInt) rp0_S45 (by omega) rp1_S45 (show v48.toInt = zNum (f 65) (mI S45 64 2).toInt (mI S45 64 3).toInt 16 1500 from rp0_S47) (by omega)); replace q := q.trans (zRun_okn (s := (mI S49 64 2)) (e := (mI S49 64 3).toInt) (x := v52.toInt) (p := (mI S45 64 3).toInt) rp0_S49 (by omega) rp1_S49 (zPart_f rp0_S51) (by omega) (by omega)); have q2 := q.trans (zEnd_okp (s := (mI S53 64 2)) (e := (mI S53 64 3).toInt) (p := (mI S49 64 3).toInt) rp0_S53 (by omega) rp1_S53 (by omega)); exact Or.inr ⟨by omega, (zFin_eq (by omega) (by omega)).trans q2.symm⟩) | (omega) | (exfalso; omega)) (show v4.toInt = 5 → ((mI S53 66 0).toInt = zVal (f 65) (f 64 1).toInt 0 1 ∧ (mI S53 66 1).toInt = zVal (f 65) (f 64 1).toInt 6 2 ∧ (mI S53 66 2).toInt = zVal (f 65) (f 64 1).toInt 3 3 ∧ (mI S53 66 3).toInt = zVal (f 65) (f 64 1).toInt 7 4) from by first | (intro h; exfalso; omega)) (show (v4.toInt = 0 ∨ v4.toInt = 4) → ((mI S53 66 0).toInt = zVal (f 65) (f 64 1).toInt 0 1 ∧ (mI S53 66 1).toInt = zVal (f 65) (f 64 1).toInt 6 2) from by first | (intro _; have a0 : (mI S1 64 2).toInt = zts (f 65) (f 64 1).toInt 0 := rp0_S1; have b0 : (mI S1 64 3).toInt = zte (f 65) (f 64 1).toInt 0 := zt_e rp1_S1 a0; have a1 : (mI S45 64 2).toInt = zts (f 65) (f 64 1).toInt 1 := zt_s rp0_S45 (by omega) b0; have b1 : (mI S45 64 3).toInt = zte (f 65) (f 64 1).toInt 1 := zt_e rp1_S45 a1; have a2 : (mI S49 64 2).toInt = zts (f 65) (f 64 1).toInt 2 := zt_s rp0_S49 (by omega) b1; have b2 : (mI S49 64 3).toInt = zte (f 65) (f 64 1).toInt 2 := zt_e rp1_S49 a2; have z0 := (show v48.toInt = zVal (f 65) (f 64 1).toInt 0 1 from (show v48.toInt = zNum (f 65) (mI S45 64 2).toInt (mI S45 64 3).toInt 16 1500 from rp0_S47).trans (by rw [a1, b1]; rfl)); have z1 := (show v52.toInt = zVal (f 65) (f 64 1).toInt 6 2 from (zPart_f (a := 0) rp0_S51).trans (by rw [a2, b2]; rfl)); exact ⟨by omega, by omega⟩)) (show qM1 v4 (mI S53 66 0) (f 65) (f 64 1).toInt from by first | (unfold qM1; intro h; exfalso; omega)) (show qM3 v4 (mI S53 66 0) (mI S53 66 1) (mI S53 66 2) (mI S53 66 3) (f 65) (f 64 1).toInt from by first | (unfold qM3; intro h; exfalso; omega)) (show qM6 v4 (mI S53 66 0) (mI S53 66 1) (mI S53 66 2) (f 65) (f 64 1).toInt from by first | (unfold qM6; intro h; exfalso; omega)) (show v4.toInt = -1 ∨ v4.toInt = zPol (f 65) (Int32.ofInt (zts (f 65) (f 64 1).toInt 0)) (zte (f 65) (f 64 1).toInt 0 - zts (f 65) (f 64 1).toInt 0) from by first | (exact Or.inr (zt_p rp0_S1 rp1_S1 rp0_S3))) (show zFm I0 L0 R0 S53 from by first | (exact rp4_S53))
                  · skip
                    have g965 := i_ne h925
                    have q966 : (mI S49 66 0).toInt = v48.toInt := zG_zi (f := mI (ma_put S47 66 0 (.inl v48))) hL_S49 rfl
                    have f967 := zG_a hI_S49 4 (-1) (1500) (c := 66) (k := 0) (by decide) (by decide)
                    have q968 : (mI S51 66 0).toInt = (mI S49 66 0).toInt := zG_zi (f := mI S49) hL_S51 rfl
                    have f969 := zG_a hI_S51 4 (-1) (1500) (c := 66) (k := 0) (by decide) (by decide)
                    have q970 : (mI S53 66 0).toInt = (mI S51 66 0).toInt := zG_zi (f := mI (ma_put S51 66 1 (.inl v52))) hL_S53 rfl
                    have f971 := zG_a hI_S53 4 (-1) (1500) (c := 66) (k := 0) (by decide) (by decide)
                    have q972 : (mI S53 66 1).toInt = v52.toInt := zG_zi (f := mI (ma_put S51 66 1 (.inl v52))) hL_S53 rfl
                    have f973 := zG_a hI_S53 4 (-1) (1500) (c := 66) (k := 1) (by decide) (by decide)
                    have f974 := zG_a hI 4 (-1) (1500) (c := 66) (k := 2) (by decide) (by decide)
                    have q975 : (mI S1 66 2).toInt = (mI S 66 2).toInt := zG_zi (f := mI (ma_put S 64 3 (.inl (0 : Int32)))) hL_S1 rfl
                    have f976 := zG_a hI_S1 4 (-1) (1500) (c := 66) (k := 2) (by decide) (by decide)
                    have q977 : (mI S3 66 2).toInt = (mI S1 66 2).toInt := zG_zi (f := mI S1) hL_S3 rfl
                    have f978 := zG_a hI_S3 4 (-1) (1500) (c := 66) (k := 2) (by decide) (by decide)
                    have q979 : (mI S45 66 2).toInt = (mI S3 66 2).toInt := zG_zi (f := mI S3) hL_S45 rfl
                    have f980 := zG_a hI_S45 4 (-1) (1500) (c := 66) (k := 2) (by decide) (by decide)
                    have q981 : (mI S47 66 2).toInt = (mI S45 66 2).toInt := zG_zi (f := mI S45) hL_S47 rfl
                    have f982 := zG_a hI_S47 4 (-1) (1500) (c := 66) (k := 2) (by decide) (by decide)
                    have q983 : (mI S49 66 2).toInt = (mI S47 66 2).toInt := zG_zi (f := mI (ma_put S47 66 0 (.inl v48))) hL_S49 rfl
                    have f984 := zG_a hI_S49 4 (-1) (1500) (c := 66) (k := 2) (by decide) (by decide)
                    have q985 : (mI S51 66 2).toInt = (mI S49 66 2).toInt := zG_zi (f := mI S49) hL_S51 rfl
                    have f986 := zG_a hI_S51 4 (-1) (1500) (c := 66) (k := 2) (by decide) (by decide)
                    have q987 : (mI S53 66 2).toInt = (mI S51 66 2).toInt := zG_zi (f := mI (ma_put S51 66 1 (.inl v52))) hL_S53 rfl
                    have f988 := zG_a hI_S53 4 (-1) (1500) (c := 66) (k := 2) (by decide) (by decide)
                    have f989 := zG_a hI 4 (-1) (1500) (c := 66) (k := 3) (by decide) (by decide)
                    have q990 : (mI S1 66 3).toInt = (mI S 66 3).toInt := zG_zi (f := mI (ma_put S 64 3 (.inl (0 : Int32)))) hL_S1 rfl
                    have f991 := zG_a hI_S1 4 (-1) (1500) (c := 66) (k := 3) (by decide) (by decide)
                    have q992 : (mI S3 66 3).toInt = (mI S1 66 3).toInt := zG_zi (f := mI S1) hL_S3 rfl
                    have f993 := zG_a hI_S3 4 (-1) (1500) (c := 66) (k := 3) (by decide) (by decide)
                    have q994 : (mI S45 66 3).toInt = (mI S3 66 3).toInt := zG_zi (f := mI S3) hL_S45 rfl
                    have f995 := zG_a hI_S45 4 (-1) (1500) (c := 66) (k := 3) (by decide) (by decide)
                    have q996 : (mI S47 66 3).toInt = (mI S45 66 3).toInt := zG_zi (f := mI S45) hL_S47 rfl
                    have f997 := zG_a hI_S47 4 (-1) (1500) (c := 66) (k := 3) (by decide) (by decide)
                    have q998 : (mI S49 66 3).toInt = (mI S47 66 3).toInt := zG_zi (f := mI (ma_put S47 66 0 (.inl v48))) hL_S49 rfl
                    have f999 := zG_a hI_S49 4 (-1) (1500) (c := 66) (k := 3) (by decide) (by decide)
                    have q1000 : (mI S51 66 3).toInt = (mI S49 66 3).toInt := zG_zi (f := mI S49) hL_S51 rfl
                    have f1001 := zG_a hI_S51 4 (-1) (1500) (c := 66) (k := 3) (by decide) (by decide)
                    have q1002 : (mI S53 66 3).toInt = (mI S51 66 3).toInt := zG_zi (f := mI (ma_put S51 66 1 (.inl v52))) hL_S53 rfl
                    have f1003 := zG_a hI_S53 4 (-1) (1500) (c := 66) (k := 3) (by decide) (by decide)
                    exact K ((-1 : Int32)) _ hI_S53 (show (-1 : Int32).toInt = -1 ∨ (0 ≤ (-1 : Int32).toInt ∧ (-1 : Int32).toInt ≤ 6 ∧ 0 ≤ (mI S53 66 0).toInt ∧ ((-1 : Int32).toInt = 3 → 0 ≤ (mI S53 66 1).toInt) ∧ ((-1 : Int32).toInt = 6 → 16 ≤ (mI S53 66 1).toInt)) from by omega) (show ((-1 : Int32).toInt = -1 ∧ -1 - (mI S53 64 2).toInt = zAns (f 65) (f 64 1).toInt) ∨ ((-1 : Int32).toInt ≠ -1 ∧ zFin (-1 : Int32).toInt (mI S53 66 0).toInt (mI S53 66 1).toInt = zAns (f 65) (f 64 1).toInt) from by first | (have qk : v4.toInt = 4 := (by omega); have q := zAns_go (s := (mI S1 64 2)) (e := (mI S1 64 3).toInt) (k := v4.toInt) rp0_S1 rp1_S1 rp0_S3 (by omega); rw [show zPts v4.toInt = [0, 6] from by rw [qk]; rfl] at q; replace q := q.trans (zRun_ok0 (s := (mI S45 64 2)) (e := (mI S45 64 3).toInt) (x := v48.toInt) (p := (mI S1 64 3).toInt) rp0_S45 (by omega) rp1_S45 (show v48.toInt = zNum (f 65) (mI S45 64 2).toInt (mI S45 64 3).toInt 16 1500 from rp0_S47) (by omega)); replace q := q.trans (zRun_okn (s := (mI S49 64 2)) (e := (mI S49 64 3).toInt) (x := v52.toInt) (p := (mI S45 64 3).toInt) rp0_S49 (by omega) rp1_S49 (zPart_f rp0_S51) (by omega) (by omega)); have q2 := q.trans (zEnd_badp (s := (mI S53 64 2)) (e := (mI S53 64 3).toInt) (p := (mI S49 64 3).toInt) rp0_S53 (by omega) rp1_S53 (by omega)); exact Or.inl ⟨rfl, by omega⟩) | (omega) | (exfalso; omega)) (show (-1 : Int32).toInt = 5 → ((mI S53 66 0).toInt = zVal (f 65) (f 64 1).toInt 0 1 ∧ (mI S53 66 1).toInt = zVal (f 65) (f 64 1).toInt 6 2 ∧ (mI S53 66 2).toInt = zVal (f 65) (f 64 1).toInt 3 3 ∧ (mI S53 66 3).toInt = zVal (f 65) (f 64 1).toInt 7 4) from by first | (intro h; exact absurd h (by decide))) (show ((-1 : Int32).toInt = 0 ∨ (-1 : Int32).toInt = 4) → ((mI S53 66 0).toInt = zVal (f 65) (f 64 1).toInt 0 1 ∧ (mI S53 66 1).toInt = zVal (f 65) (f 64 1).toInt 6 2) from by first | (intro h; exact absurd h (by decide))) (show qM1 (-1 : Int32) (mI S53 66 0) (f 65) (f 64 1).toInt from by first | (unfold qM1; intro h; exact absurd h (by decide))) (show qM3 (-1 : Int32) (mI S53 66 0) (mI S53 66 1) (mI S53 66 2) (mI S53 66 3) (f 65) (f 64 1).toInt from by first | (unfold qM3; intro h; exact absurd h (by decide))) (show qM6 (-1 : Int32) (mI S53 66 0) (mI S53 66 1) (mI S53 66 2) (f 65) (f 64 1).toInt from by first | (unfold qM6; intro h; exact absurd h (by decide))) (show (-1 : Int32).toInt = -1 ∨ (-1 : Int32).toInt = zPol (f 65) (Int32.ofInt (zts (f 65) (f 64 1).toInt 0)) (zte (f 65) (f 64 1).toInt 0 - zts (f 65) (f 64 1).toInt 0) from by first | (exact Or.inl rfl)) (show zFm I0 L0 R0 S53 from by first | (exact rp4_S53))
          · skip
            have g1004 := i_ne h798
            have li1005 : (5 : Int32).toInt = 5 := rfl
            refine zd (fun h1006 => ?_) (fun h1006 => ?_)
            · skip
              have g1007 := i_eq h1006
              have q1008 : (mI S3 64 3).toInt = (mI S1 64 3).toInt := zG_zi (f := mI S1) hL_S3 rfl
              have f1009 := zG_s hI_S3 (0) (100) (c := 64) (k := 3) (by decide)
              refine sp_129_64_sq (p0 := ((mI S3 64 3).toInt)) (I0 := I0) (L0 := L0) (R0 := R0) (by omega) (by omega) (zR_dn_zY hI_S3) (show (mI S3 64 3).toInt = ((mI S3 64 3).toInt) from by omega) (show zFm I0 L0 R0 S3 from by first | (exact rp1_S3)) (fun v56 S55 hL_S55 hp_v56 rp0_S55 rp1_S55 rp2_S55 rp3_S55 rp4_S55 => zi_n ⟨zG_T hL_S55, ?_⟩)
              have hI_S55 := zR_up_zY hI_S3 hL_S55
              have f1010 := zG_s hI_S55 (0) (100) (c := 64) (k := 2) (by decide)
              have rp0_S55 : (mI S55 64 2).toInt = tk true (f 65) (f 64 1).toInt ((mI S3 64 3).toInt) := by
                have z := rp0_S55
                (try rw [show mI S3 65 = f 65 from funext (fun k => zG_z hI_S3 rfl)] at z)
                (try rw [show mI S3 64 1 = f 64 1 from zG_z hI_S3 rfl] at z)
                exact z
              have f1011 := zG_s hI_S55 (0) (100) (c := 64) (k := 3) (by decide)
              have rp1_S55 : (mI S55 64 3).toInt = tk false (f 65) (f 64 1).toInt (mI S55 64 2).toInt := by
                have z := rp1_S55
                (try rw [show mI S3 65 = f 65 from funext (fun k => zG_z hI_S3 rfl)] at z)
                (try rw [show mI S3 64 1 = f 64 1 from zG_z hI_S3 rfl] at z)
                exact z
              have rp2_S55 : (v56.toInt = 1 ∧ (mI S55 64 2).toInt < (mI S55 64 3).toInt) ∨ (v56.toInt = 0 ∧ (mI S55 64 3).toInt ≤ (mI S55 64 2).toInt) := by
                have z := rp2_S55
                (try rw [show mI S3 65 = f 65 from funext (fun k => zG_z hI_S3 rfl)] at z)
                (try rw [show mI S3 64 1 = f 64 1 from zG_z hI_S3 rfl] at z)
                exact z
              have rp3_S55 : (mI S55 64 2).toInt ≤ (mI S55 64 3).toInt := by
                have z := rp3_S55
                (try rw [show mI S3 65 = f 65 from funext (fun k => zG_z hI_S3 rfl)] at z)
                (try rw [show mI S3 64 1 = f 64 1 from zG_z hI_S3 rfl] at z)
                exact z
              have rp4_S55 : zFm I0 L0 R0 S55 := by
                have z := rp4_S55
                (try rw [show mI S3 65 = f 65 from funext (fun k => zG_z hI_S3 rfl)] at z)
                (try rw [show mI S3 64 1 = f 64 1 from zG_z hI_S3 rfl] at z)
                exact z
              have li1012 : (16 : Int32).toInt = 16 := rfl
              have li1013 : (1500 : Int32).toInt = 1500 := rfl
              refine sp_134_64_sq (I0 := I0) (L0 := L0) (R0 := R0) ((16 : Int32)) ((1500 : Int32)) (by omega) (by omega) (zR_dn_zY0 hI_S55) (show (mI S55 64 2).toInt ≤ (mI S55 64 3).toInt from by omega) (show zFm I0 L0 R0 S55 from by first | (exact rp4_S55)) (fun v58 S57 hL_S57 hp_v58 rp0_S57 rp1_S57 => zi_n ⟨zG_T hL_S57, ?_⟩)
              have hI_S57 := zR_up_zY0 hI_S55 hL_S57
              have rp0_S57 : v58.toInt = zNum (f 65) (mI S55 64 2).toInt (mI S55 64 3).toInt (16 : Int32).toInt (1500 : Int32).toInt := by
                have z := rp0_S57
                (try rw [show mI S55 65 = f 65 from funext (fun k => zG_z hI_S55 rfl)] at z)
                (try rw [show mI S55 64 1 = f 64 1 from zG_z hI_S55 rfl] at z)
                exact z
              have rp1_S57 : zFm I0 L0 R0 S57 := by
                have z := rp1_S57
                (try rw [show mI S55 65 = f 65 from funext (fun k => zG_z hI_S55 rfl)] at z)
                (try rw [show mI S55 64 1 = f 64 1 from zG_z hI_S55 rfl] at z)
                exact z
              have b1014 := i_bd v58
              have li1015 : (-1 : Int32).toInt = -1 := rfl
              refine zd (fun h1016 => ?_) (fun h1016 => ?_)
              · skip
                have g1017 := i_eq h1016
                have hI1018 : zR f r C Z N (ma_put S57 66 0 (.inl v58)) := zG_sa hI_S57 (-1) (1500) rfl (by decide) (by decide) (by decide) trivial (by omega) (by omega)
                have f1019 := zG_a hI 4 (-1) (1500) (c := 66) (k := 1) (by decide) (by decide)
                have q1020 : (mI S1 66 1).toInt = (mI S 66 1).toInt := zG_zi (f := mI (ma_put S 64 3 (.inl (0 : Int32)))) hL_S1 rfl
                have f1021 := zG_a hI_S1 4 (-1) (1500) (c := 66) (k := 1) (by decide) (by decide)
                have q1022 : (mI S3 66 1).toInt = (mI S1 66 1).toInt := zG_zi (f := mI S1) hL_S3 rfl
                have f1023 := zG_a hI_S3 4 (-1) (1500) (c := 66) (k := 1) (by decide) (by decide)
                have q1024 : (mI S55 66 1).toInt = (mI S3 66 1).toInt := zG_zi (f := mI S3) hL_S55 rfl
                have f1025 := zG_a hI_S55 4 (-1) (1500) (c := 66) (k := 1) (by decide) (by decide)
                have q1026 : (mI S57 66 1).toInt = (mI S55 66 1).toInt := zG_zi (f := mI S55) hL_S57 rfl
                have f1027 := zG_a hI_S57 4 (-1) (1500) (c := 66) (k := 1) (by decide) (by decide)
                have q1028 : (mI S57 64 2).toInt = (mI S55 64 2).toInt := zG_zi (f := mI S55) hL_S57 rfl
                have f1029 := zG_s hI_S57 (0) (100) (c := 64) (k := 2) (by decide)
                have f1030 := zG_a hI 4 (-1) (1500) (c := 66) (k := 2) (by decide) (by decide)
                have q1031 : (mI S1 66 2).toInt = (mI S 66 2).toInt := zG_zi (f := mI (ma_put S 64 3 (.inl (0 : Int32)))) hL_S1 rfl
                have f1032 := zG_a hI_S1 4 (-1) (1500) (c := 66) (k := 2) (by decide) (by decide)
                have q1033 : (mI S3 66 2).toInt = (mI S1 66 2).toInt := zG_zi (f := mI S1) hL_S3 rfl
                have f1034 := zG_a hI_S3 4 (-1) (1500) (c := 66) (k := 2) (by decide) (by decide)
                have q1035 : (mI S55 66 2).toInt = (mI S3 66 2).toInt := zG_zi (f := mI S3) hL_S55 rfl
                have f1036 := zG_a hI_S55 4 (-1) (1500) (c := 66) (k := 2) (by decide) (by decide)
                have q1037 : (mI S57 66 2).toInt = (mI S55 66 2).toInt := zG_zi (f := mI S55) hL_S57 rfl
                have f1038 := zG_a hI_S57 4 (-1) (1500) (c := 66) (k := 2) (by decide) (by decide)
                have f1039 := zG_a hI 4 (-1) (1500) (c := 66) (k := 3) (by decide) (by decide)
                have q1040 : (mI S1 66 3).toInt = (mI S 66 3).toInt := zG_zi (f := mI (ma_put S 64 3 (.inl (0 : Int32)))) hL_S1 rfl
                have f1041 := zG_a hI_S1 4 (-1) (1500) (c := 66) (k := 3) (by decide) (by decide)
                have q1042 : (mI S3 66 3).toInt = (mI S1 66 3).toInt := zG_zi (f := mI S1) hL_S3 rfl
                have f1043 := zG_a hI_S3 4 (-1) (1500) (c := 66) (k := 3) (by decide) (by decide)
                have q1044 : (mI S55 66 3).toInt = (mI S3 66 3).toInt := zG_zi (f := mI S3) hL_S55 rfl
                have f1045 := zG_a hI_S55 4 (-1) (1500) (c := 66) (k := 3) (by decide) (by decide)
                have q1046 : (mI S57 66 3).toInt = (mI S55 66 3).toInt := zG_zi (f := mI S55) hL_S57 rfl
                have f1047 := zG_a hI_S57 4 (-1) (1500) (c := 66) (k := 3) (by decide) (by decide)
                exact K ((-1 : Int32)) _ hI1018 (show (-1 : Int32).toInt = -1 ∨ (0 ≤ (-1 : Int32).toInt ∧ (-1 : Int32).toInt ≤ 6 ∧ 0 ≤ v58.toInt ∧ ((-1 : Int32).toInt = 3 → 0 ≤ (mI S57 66 1).toInt) ∧ ((-1 : Int32).toInt = 6 → 16 ≤ (mI S57 66 1).toInt)) from by omega) (show ((-1 : Int32).toInt = -1 ∧ -1 - (mI S57 64 2).toInt = zAns (f 65) (f 64 1).toInt) ∨ ((-1 : Int32).toInt ≠ -1 ∧ zFin (-1 : Int32).toInt v58.toInt (mI S57 66 1).toInt = zAns (f 65) (f 64 1).toInt) from by first | (have qk : v4.toInt = 5 := (by omega); have q := zAns_go (s := (mI S1 64 2)) (e := (mI S1 64 3).toInt) (k := v4.toInt) rp0_S1 rp1_S1 rp0_S3 (by omega); rw [show zPts v4.toInt = [0, 6, 3, 7] from by rw [qk]; rfl] at q; have q2 := q.trans (zRun_badp (s := (mI S55 64 2)) (e := (mI S55 64 3).toInt) (x := v58.toInt) (p := (mI S1 64 3).toInt) rp0_S55 (by omega) rp1_S55 (show v58.toInt = zNum (f 65) (mI S55 64 2).toInt (mI S55 64 3).toInt 16 1500 from rp0_S57) (by omega)); exact Or.inl ⟨rfl, by omega⟩) | (omega) | (exfalso; omega)) (show (-1 : Int32).toInt = 5 → (v58.toInt = zVal (f 65) (f 64 1).toInt 0 1 ∧ (mI S57 66 1).toInt = zVal (f 65) (f 64 1).toInt 6 2 ∧ (mI S57 66 2).toInt = zVal (f 65) (f 64 1).toInt 3 3 ∧ (mI S57 66 3).toInt = zVal (f 65) (f 64 1).toInt 7 4) from by first | (intro h; exact absurd h (by decide))) (show ((-1 : Int32).toInt = 0 ∨ (-1 : Int32).toInt = 4) → (v58.toInt = zVal (f 65) (f 64 1).toInt 0 1 ∧ (mI S57 66 1).toInt = zVal (f 65) (f 64 1).toInt 6 2) from by first | (intro h; exact absurd h (by decide))) (show qM1 (-1 : Int32) v58 (f 65) (f 64 1).toInt from by first | (unfold qM1; intro h; exact absurd h (by decide))) (show qM3 (-1 : Int32) v58 (mI S57 66 1) (mI S57 66 2) (mI S57 66 3) (f 65) (f 64 1).toInt from by first | (unfold qM3; intro h; exact absurd h (by decide))) (show qM6 (-1 : Int32) v58 (mI S57 66 1) (mI S57 66 2) (f 65) (f 64 1).toInt from by first | (unfold qM6; intro h; exact absurd h (by decide))) (show (-1 : Int32).toInt = -1 ∨ (-1 : Int32).toInt = zPol (f 65) (Int32.ofInt (zts (f 65) (f 64 1).toInt 0)) (zte (f 65) (f 64 1).toInt 0 - zts (f 65) (f 64 1).toInt 0) from by first | (exact Or.inl rfl)) (show zFm I0 L0 R0 (ma_put S57 66 0 (.inl v58)) from by first | (exact (fn9_p rp1_S57 (by decide))))
              · skip
                have g1048 := i_ne h1016
                have hI1049 : zR f r C Z N (ma_put S57 66 0 (.inl v58)) := zG_sa hI_S57 (-1) (1500) rfl (by decide) (by decide) (by decide) trivial (by omega) (by omega)
                have q1050 : (mI S57 64 3).toInt = (mI S55 64 3).toInt := zG_zi (f := mI S55) hL_S57 rfl
                have f1051 := zG_s hI_S57 (0) (100) (c := 64) (k := 3) (by decide)
                refine sp_129_64_sq (p0 := ((mI S57 64 3).toInt)) (I0 := I0) (L0 := L0) (R0 := R0) (by omega) (by omega) (zR_dn_zY hI1049) (show (mI S57 64 3).toInt = ((mI S57 64 3).toInt) from by omega) (show zFm I0 L0 R0 (ma_put S57 66 0 (.inl v58)) from by first | (exact (fn9_p rp1_S57 (by decide)))) (fun v60 S59 hL_S59 hp_v60 rp0_S59 rp1_S59 rp2_S59 rp3_S59 rp4_S59 => zi_n ⟨zG_T hL_S59, ?_⟩)
                have hI_S59 := zR_up_zY hI1049 hL_S59
                have f1052 := zG_s hI_S59 (0) (100) (c := 64) (k := 2) (by decide)
                have rp0_S59 : (mI S59 64 2).toInt = tk true (f 65) (f 64 1).toInt ((mI S57 64 3).toInt) := by
                  have z := rp0_S59
                  (try rw [show mI (ma_put S57 66 0 (.inl v58)) 65 = f 65 from funext (fun k => zG_z hI1049 rfl)] at z)
                  (try rw [show mI (ma_put S57 66 0 (.inl v58)) 64 1 = f 64 1 from zG_z hI1049 rfl] at z)
                  exact z
                have f1053 := zG_s hI_S59 (0) (100) (c := 64) (k := 3) (by decide)
                have rp1_S59 : (mI S59 64 3).toInt = tk false (f 65) (f 64 1).toInt (mI S59 64 2).toInt := by
                  have z := rp1_S59
                  (try rw [show mI (ma_put S57 66 0 (.inl v58)) 65 = f 65 from funext (fun k => zG_z hI1049 rfl)] at z)
                  (try rw [show mI (ma_put S57 66 0 (.inl v58)) 64 1 = f 64 1 from zG_z hI1049 rfl] at z)
                  exact z
                have rp2_S59 : (v60.toInt = 1 ∧ (mI S59 64 2).toInt < (mI S59 64 3).toInt) ∨ (v60.toInt = 0 ∧ (mI S59 64 3).toInt ≤ (mI S59 64 2).toInt) := by
                  have z := rp2_S59
                  (try rw [show mI (ma_put S57 66 0 (.inl v58)) 65 = f 65 from funext (fun k => zG_z hI1049 rfl)] at z)
                  (try rw [show mI (ma_put S57 66 0 (.inl v58)) 64 1 = f 64 1 from zG_z hI1049 rfl] at z)
                  exact z
                have rp3_S59 : (mI S59 64 2).toInt ≤ (mI S59 64 3).toInt := by
                  have z := rp3_S59
                  (try rw [show mI (ma_put S57 66 0 (.inl v58)) 65 = f 65 from funext (fun k => zG_z hI1049 rfl)] at z)
                  (try rw [show mI (ma_put S57 66 0 (.inl v58)) 64 1 = f 64 1 from zG_z hI1049 rfl] at z)
                  exact z
                have rp4_S59 : zFm I0 L0 R0 S59 := by
                  have z := rp4_S59
                  (try rw [show mI (ma_put S57 66 0 (.inl v58)) 65 = f 65 from funext (fun k => zG_z hI1049 rfl)] at z)
                  (try rw [show mI (ma_put S57 66 0 (.inl v58)) 64 1 = f 64 1 from zG_z hI1049 rfl] at z)
                  exact z
                refine sp_135_64_sq (I0 := I0) (L0 := L0) (R0 := R0) (by omega) (by omega) (zR_dn_zY0 hI_S59) (show zFm I0 L0 R0 S59 from by first | (exact rp4_S59)) (fun v62 S61 hL_S61 hp_v62 rp0_S61 rp1_S61 => zi_n ⟨zG_T hL_S61, ?_⟩)
                have hI_S61 := zR_up_zY0 hI_S59 hL_S61
                have rp0_S61 : v62.toInt = zForm (f 65) (mI S59 64 2) ((mI S59 64 3).toInt - (mI S59 64 2).toInt) := by
                  have z := rp0_S61
                  (try rw [show mI S59 65 = f 65 from funext (fun k => zG_z hI_S59 rfl)] at z)
                  (try rw [show mI S59 64 1 = f 64 1 from zG_z hI_S59 rfl] at z)
                  exact z
                have rp1_S61 : zFm I0 L0 R0 S61 := by
                  have z := rp1_S61
                  (try rw [show mI S59 65 = f 65 from funext (fun k => zG_z hI_S59 rfl)] at z)
                  (try rw [show mI S59 64 1 = f 64 1 from zG_z hI_S59 rfl] at z)
                  exact z
                have b1054 := i_bd v62
                refine zd (fun h1055 => ?_) (fun h1055 => ?_)
                · skip
                  have g1056 := i_eq h1055
                  have hI1057 : zR f r C Z N (ma_put S61 66 1 (.inl v62)) := zG_sa hI_S61 (-1) (1500) rfl (by decide) (by decide) (by decide) trivial (by omega) (by omega)
                  have q1058 : (mI S59 66 0).toInt = v58.toInt := zG_zi (f := mI (ma_put S57 66 0 (.inl v58))) hL_S59 rfl
                  have f1059 := zG_a hI_S59 4 (-1) (1500) (c := 66) (k := 0) (by decide) (by decide)
                  have q1060 : (mI S61 66 0).toInt = (mI S59 66 0).toInt := zG_zi (f := mI S59) hL_S61 rfl
                  have f1061 := zG_a hI_S61 4 (-1) (1500) (c := 66) (k := 0) (by decide) (by decide)
                  have q1062 : (mI S61 64 2).toInt = (mI S59 64 2).toInt := zG_zi (f := mI S59) hL_S61 rfl
                  have f1063 := zG_s hI_S61 (0) (100) (c := 64) (k := 2) (by decide)
                  have f1064 := zG_a hI 4 (-1) (1500) (c := 66) (k := 2) (by decide) (by decide)
                  have q1065 : (mI S1 66 2).toInt = (mI S 66 2).toInt := zG_zi (f := mI (ma_put S 64 3 (.inl (0 : Int32)))) hL_S1 rfl
                  have f1066 := zG_a hI_S1 4 (-1) (1500) (c := 66) (k := 2) (by decide) (by decide)
                  have q1067 : (mI S3 66 2).toInt = (mI S1 66 2).toInt := zG_zi (f := mI S1) hL_S3 rfl
                  have f1068 := zG_a hI_S3 4 (-1) (1500) (c := 66) (k := 2) (by decide) (by decide)
                  have q1069 : (mI S55 66 2).toInt = (mI S3 66 2).toInt := zG_zi (f := mI S3) hL_S55 rfl
                  have f1070 := zG_a hI_S55 4 (-1) (1500) (c := 66) (k := 2) (by decide) (by decide)
                  have q1071 : (mI S57 66 2).toInt = (mI S55 66 2).toInt := zG_zi (f := mI S55) hL_S57 rfl
                  have f1072 := zG_a hI_S57 4 (-1) (1500) (c := 66) (k := 2) (by decide) (by decide)
                  have q1073 : (mI S59 66 2).toInt = (mI S57 66 2).toInt := zG_zi (f := mI (ma_put S57 66 0 (.inl v58))) hL_S59 rfl
                  have f1074 := zG_a hI_S59 4 (-1) (1500) (c := 66) (k := 2) (by decide) (by decide)
                  have q1075 : (mI S61 66 2).toInt = (mI S59 66 2).toInt := zG_zi (f := mI S59) hL_S61 rfl
                  have f1076 := zG_a hI_S61 4 (-1) (1500) (c := 66) (k := 2) (by decide) (by decide)
                  have f1077 := zG_a hI 4 (-1) (1500) (c := 66) (k := 3) (by decide) (by decide)
                  have q1078 : (mI S1 66 3).toInt = (mI S 66 3).toInt := zG_zi (f := mI (ma_put S 64 3 (.inl (0 : Int32)))) hL_S1 rfl
                  have f1079 := zG_a hI_S1 4 (-1) (1500) (c := 66) (k := 3) (by decide) (by decide)
                  have q1080 : (mI S3 66 3).toInt = (mI S1 66 3).toInt := zG_zi (f := mI S1) hL_S3 rfl
                  have f1081 := zG_a hI_S3 4 (-1) (1500) (c := 66) (k := 3) (by decide) (by decide)
                  have q1082 : (mI S55 66 3).toInt = (mI S3 66 3).toInt := zG_zi (f := mI S3) hL_S55 rfl
                  have f1083 := zG_a hI_S55 4 (-1) (1500) (c := 66) (k := 3) (by decide) (by decide)
                  have q1084 : (mI S57 66 3).toInt = (mI S55 66 3).toInt := zG_zi (f := mI S55) hL_S57 rfl
                  have f1085 := zG_a hI_S57 4 (-1) (1500) (c := 66) (k := 3) (by decide) (by decide)
                  have q1086 : (mI S59 66 3).toInt = (mI S57 66 3).toInt := zG_zi (f := mI (ma_put S57 66 0 (.inl v58))) hL_S59 rfl
                  have f1087 := zG_a hI_S59 4 (-1) (1500) (c := 66) (k := 3) (by decide) (by decide)
                  have q1088 : (mI S61 66 3).toInt = (mI S59 66 3).toInt := zG_zi (f := mI S59) hL_S61 rfl
                  have f1089 := zG_a hI_S61 4 (-1) (1500) (c := 66) (k := 3) (by decide) (by decide)
                  exact K ((-1 : Int32)) _ hI1057 (show (-1 : Int32).toInt = -1 ∨ (0 ≤ (-1 : Int32).toInt ∧ (-1 : Int32).toInt ≤ 6 ∧ 0 ≤ (mI S61 66 0).toInt ∧ ((-1 : Int32).toInt = 3 → 0 ≤ v62.toInt) ∧ ((-1 : Int32).toInt = 6 → 16 ≤ v62.toInt)) from by omega) (show ((-1 : Int32).toInt = -1 ∧ -1 - (mI S61 64 2).toInt = zAns (f 65) (f 64 1).toInt) ∨ ((-1 : Int32).toInt ≠ -1 ∧ zFin (-1 : Int32).toInt (mI S61 66 0).toInt v62.toInt = zAns (f 65) (f 64 1).toInt) from by first | (have qk : v4.toInt = 5 := (by omega); have q := zAns_go (s := (mI S1 64 2)) (e := (mI S1 64 3).toInt) (k := v4.toInt) rp0_S1 rp1_S1 rp0_S3 (by omega); rw [show zPts v4.toInt = [0, 6, 3, 7] from by rw [qk]; rfl] at q; replace q := q.trans (zRun_ok0 (s := (mI S55 64 2)) (e := (mI S55 64 3).toInt) (x := v58.toInt) (p := (mI S1 64 3).toInt) rp0_S55 (by omega) rp1_S55 (show v58.toInt = zNum (f 65) (mI S55 64 2).toInt (mI S55 64 3).toInt 16 1500 from rp0_S57) (by omega)); have q2 := q.trans (zRun_badp (s := (mI S59 64 2)) (e := (mI S59 64 3).toInt) (x := v62.toInt) (p := (mI S55 64 3).toInt) rp0_S59 (by omega) rp1_S59 (zPart_f rp0_S61) (by omega)); exact Or.inl ⟨rfl, by omega⟩) | (omega) | (exfalso; omega)) (show (-1 : Int32).toInt = 5 → ((mI S61 66 0).toInt = zVal (f 65) (f 64 1).toInt 0 1 ∧ v62.toInt = zVal (f 65) (f 64 1).toInt 6 2 ∧ (mI S61 66 2).toInt = zVal (f 65) (f 64 1).toInt 3 3 ∧ (mI S61 66 3).toInt = zVal (f 65) (f 64 1).toInt 7 4) from by first | (intro h; exact absurd h (by decide))) (show ((-1 : Int32).toInt = 0 ∨ (-1 : Int32).toInt = 4) → ((mI S61 66 0).toInt = zVal (f 65) (f 64 1).toInt 0 1 ∧ v62.toInt = zVal (f 65) (f 64 1).toInt 6 2) from by first | (intro h; exact absurd h (by decide))) (show qM1 (-1 : Int32) (mI S61 66 0) (f 65) (f 64 1).toInt from by first | (unfold qM1; intro h; exact absurd h (by decide))) (show qM3 (-1 : Int32) (mI S61 66 0) v62 (mI S61 66 2) (mI S61 66 3) (f 65) (f 64 1).toInt from by first | (unfold qM3; intro h; exact absurd h (by decide))) (show qM6 (-1 : Int32) (mI S61 66 0) v62 (mI S61 66 2) (f 65) (f 64 1).toInt from by first | (unfold qM6; intro h; exact absurd h (by decide))) (show (-1 : Int32).toInt = -1 ∨ (-1 : Int32).toInt = zPol (f 65) (Int32.ofInt (zts (f 65) (f 64 1).toInt 0)) (zte (f 65) (f 64 1).toInt 0 - zts (f 65) (f 64 1).toInt 0) from by first | (exact Or.inl rfl)) (show zFm I0 L0 R0 (ma_put S61 66 1 (.inl v62)) from by first | (exact (fn9_p rp1_S61 (by decide))))
                · skip
                  have g1090 := i_ne h1055
                  have hI1091 : zR f r C Z N (ma_put S61 66 1 (.inl v62)) := zG_sa hI_S61 (-1) (1500) rfl (by decide) (by decide) (by decide) trivial (by omega) (by omega)
                  have q1092 : (mI S61 64 3).toInt = (mI S59 64 3).toInt := zG_zi (f := mI S59) hL_S61 rfl
                  have f1093 := zG_s hI_S61 (0) (100) (c := 64) (k := 3) (by decide)
                  refine sp_129_64_sq (p0 := ((mI S61 64 3).toInt)) (I0 := I0) (L0 := L0) (R0 := R0) (by omega) (by omega) (zR_dn_zY hI1091) (show (mI S61 64 3).toInt = ((mI S61 64 3).toInt) from by omega) (show zFm I0 L0 R0 (ma_put S61 66 1 (.inl v62)) from by first | (exact (fn9_p rp1_S61 (by decide)))) (fun v64 S63 hL_S63 hp_v64 rp0_S63 rp1_S63 rp2_S63 rp3_S63 rp4_S63 => zi_n ⟨zG_T hL_S63, ?_⟩)
                  have hI_S63 := zR_up_zY hI1091 hL_S63
                  have f1094 := zG_s hI_S63 (0) (100) (c := 64) (k := 2) (by decide)
                  have rp0_S63 : (mI S63 64 2).toInt = tk true (f 65) (f 64 1).toInt ((mI S61 64 3).toInt) := by
                    have z := rp0_S63
                    (try rw [show mI (ma_put S61 66 1 (.inl v62)) 65 = f 65 from funext (fun k => zG_z hI1091 rfl)] at z)
                    (try rw [show mI (ma_put S61 66 1 (.inl v62)) 64 1 = f 64 1 from zG_z hI1091 rfl] at z)
                    exact z
                  have f1095 := zG_s hI_S63 (0) (100) (c := 64) (k := 3) (by decide)
                  have rp1_S63 : (mI S63 64 3).toInt = tk false (f 65) (f 64 1).toInt (mI S63 64 2).toInt := by
                    have z := rp1_S63
                    (try rw [show mI (ma_put S61 66 1 (.inl v62)) 65 = f 65 from funext (fun k => zG_z hI1091 rfl)] at z)
                    (try rw [show mI (ma_put S61 66 1 (.inl v62)) 64 1 = f 64 1 from zG_z hI1091 rfl] at z)
                    exact z
                  have rp2_S63 : (v64.toInt = 1 ∧ (mI S63 64 2).toInt < (mI S63 64 3).toInt) ∨ (v64.toInt = 0 ∧ (mI S63 64 3).toInt ≤ (mI S63 64 2).toInt) := by
                    have z := rp2_S63
                    (try rw [show mI (ma_put S61 66 1 (.inl v62)) 65 = f 65 from funext (fun k => zG_z hI1091 rfl)] at z)
                    (try rw [show mI (ma_put S61 66 1 (.inl v62)) 64 1 = f 64 1 from zG_z hI1091 rfl] at z)
                    exact z
                  have rp3_S63 : (mI S63 64 2).toInt ≤ (mI S63 64 3).toInt := by
                    have z := rp3_S63
                    (try rw [show mI (ma_put S61 66 1 (.inl v62)) 65 = f 65 from funext (fun k => zG_z hI1091 rfl)] at z)
                    (try rw [show mI (ma_put S61 66 1 (.inl v62)) 64 1 = f 64 1 from zG_z hI1091 rfl] at z)
                    exact z
                  have rp4_S63 : zFm I0 L0 R0 S63 := by
                    have z := rp4_S63
                    (try rw [show mI (ma_put S61 66 1 (.inl v62)) 65 = f 65 from funext (fun k => zG_z hI1091 rfl)] at z)
                    (try rw [show mI (ma_put S61 66 1 (.inl v62)) 64 1 = f 64 1 from zG_z hI1091 rfl] at z)
                    exact z
                  have li1096 : (50 : Int32).toInt = 50 := rfl
                  refine sp_134_64_sq (I0 := I0) (L0 := L0) (R0 := R0) ((1 : Int32)) ((50 : Int32)) (by omega) (by omega) (zR_dn_zY0 hI_S63) (show (mI S63 64 2).toInt ≤ (mI S63 64 3).toInt from by omega) (show zFm I0 L0 R0 S63 from by first | (exact rp4_S63)) (fun v66 S65 hL_S65 hp_v66 rp0_S65 rp1_S65 => zi_n ⟨zG_T hL_S65, ?_⟩)
                  have hI_S65 := zR_up_zY0 hI_S63 hL_S65
                  have rp0_S65 : v66.toInt = zNum (f 65) (mI S63 64 2).toInt (mI S63 64 3).toInt (1 : Int32).toInt (50 : Int32).toInt := by
                    have z := rp0_S65
                    (try rw [show mI S63 65 = f 65 from funext (fun k => zG_z hI_S63 rfl)] at z)
                    (try rw [show mI S63 64 1 = f 64 1 from zG_z hI_S63 rfl] at z)
                    exact z
                  have rp1_S65 : zFm I0 L0 R0 S65 := by
                    have z := rp1_S65
                    (try rw [show mI S63 65 = f 65 from funext (fun k => zG_z hI_S63 rfl)] at z)
                    (try rw [show mI S63 64 1 = f 64 1 from zG_z hI_S63 rfl] at z)
                    exact z
                  have b1097 := i_bd v66
                  refine zd (fun h1098 => ?_) (fun h1098 => ?_)
                  · skip
                    have g1099 := i_eq h1098
                    have hI1100 : zR f r C Z N (ma_put S65 66 2 (.inl v66)) := zG_sa hI_S65 (-1) (1500) rfl (by decide) (by decide) (by decide) trivial (by omega) (by omega)
                    have q1101 : (mI S59 66 0).toInt = v58.toInt := zG_zi (f := mI (ma_put S57 66 0 (.inl v58))) hL_S59 rfl
                    have f1102 := zG_a hI_S59 4 (-1) (1500) (c := 66) (k := 0) (by decide) (by decide)
                    have q1103 : (mI S61 66 0).toInt = (mI S59 66 0).toInt := zG_zi (f := mI S59) hL_S61 rfl
                    have f1104 := zG_a hI_S61 4 (-1) (1500) (c := 66) (k := 0) (by decide) (by decide)
                    have q1105 : (mI S63 66 0).toInt = (mI S61 66 0).toInt := zG_zi (f := mI (ma_put S61 66 1 (.inl v62))) hL_S63 rfl
                    have f1106 := zG_a hI_S63 4 (-1) (1500) (c := 66) (k := 0) (by decide) (by decide)
                    have q1107 : (mI S65 66 0).toInt = (mI S63 66 0).toInt := zG_zi (f := mI S63) hL_S65 rfl
                    have f1108 := zG_a hI_S65 4 (-1) (1500) (c := 66) (k := 0) (by decide) (by decide)
                    have q1109 : (mI S63 66 1).toInt = v62.toInt := zG_zi (f := mI (ma_put S61 66 1 (.inl v62))) hL_S63 rfl
                    have f1110 := zG_a hI_S63 4 (-1) (1500) (c := 66) (k := 1) (by decide) (by decide)
                    have q1111 : (mI S65 66 1).toInt = (mI S63 66 1).toInt := zG_zi (f := mI S63) hL_S65 rfl
                    have f1112 := zG_a hI_S65 4 (-1) (1500) (c := 66) (k := 1) (by decide) (by decide)
                    have q1113 : (mI S65 64 2).toInt = (mI S63 64 2).toInt := zG_zi (f := mI S63) hL_S65 rfl
                    have f1114 := zG_s hI_S65 (0) (100) (c := 64) (k := 2) (by decide)
                    have f1115 := zG_a hI 4 (-1) (1500) (c := 66) (k := 3) (by decide) (by decide)
                    have q1116 : (mI S1 66 3).toInt = (mI S 66 3).toInt := zG_zi (f := mI (ma_put S 64 3 (.inl (0 : Int32)))) hL_S1 rfl
                    have f1117 := zG_a hI_S1 4 (-1) (1500) (c := 66) (k := 3) (by decide) (by decide)
                    have q1118 : (mI S3 66 3).toInt = (mI S1 66 3).toInt := zG_zi (f := mI S1) hL_S3 rfl
                    have f1119 := zG_a hI_S3 4 (-1) (1500) (c := 66) (k := 3) (by decide) (by decide)
                    have q1120 : (mI S55 66 3).toInt = (mI S3 66 3).toInt := zG_zi (f := mI S3) hL_S55 rfl
                    have f1121 := zG_a hI_S55 4 (-1) (1500) (c := 66) (k := 3) (by decide) (by decide)
                    have q1122 : (mI S57 66 3).toInt = (mI S55 66 3).toInt := zG_zi (f := mI S55) hL_S57 rfl
                    have f1123 := zG_a hI_S57 4 (-1) (1500) (c := 66) (k := 3) (by decide) (by decide)
                    have q1124 : (mI S59 66 3).toInt = (mI S57 66 3).toInt := zG_zi (f := mI (ma_put S57 66 0 (.inl v58))) hL_S59 rfl
                    have f1125 := zG_a hI_S59 4 (-1) (1500) (c := 66) (k := 3) (by decide) (by decide)
                    have q1126 : (mI S61 66 3).toInt = (mI S59 66 3).toInt := zG_zi (f := mI S59) hL_S61 rfl
                    have f1127 := zG_a hI_S61 4 (-1) (1500) (c := 66) (k := 3) (by decide) (by decide)
                    have q1128 : (mI S63 66 3).toInt = (mI S61 66 3).toInt := zG_zi (f := mI (ma_put S61 66 1 (.inl v62))) hL_S63 rfl
                    have f1129 := zG_a hI_S63 4 (-1) (1500) (c := 66) (k := 3) (by decide) (by decide)
                    have q1130 : (mI S65 66 3).toInt = (mI S63 66 3).toInt := zG_zi (f := mI S63) hL_S65 rfl
                    have f1131 := zG_a hI_S65 4 (-1) (1500) (c := 66) (k := 3) (by decide) (by decide)
                    exact K ((-1 : Int32)) _ hI1100 (show (-1 : Int32).toInt = -1 ∨ (0 ≤ (-1 : Int32).toInt ∧ (-1 : Int32).toInt ≤ 6 ∧ 0 ≤ (mI S65 66 0).toInt ∧ ((-1 : Int32).toInt = 3 → 0 ≤ (mI S65 66 1).toInt) ∧ ((-1 : Int32).toInt = 6 → 16 ≤ (mI S65 66 1).toInt)) from by omega) (show ((-1 : Int32).toInt = -1 ∧ -1 - (mI S65 64 2).toInt = zAns (f 65) (f 64 1).toInt) ∨ ((-1 : Int32).toInt ≠ -1 ∧ zFin (-1 : Int32).toInt (mI S65 66 0).toInt (mI S65 66 1).toInt = zAns (f 65) (f 64 1).toInt) from by first | (have qk : v4.toInt = 5 := (by omega); have q := zAns_go (s := (mI S1 64 2)) (e := (mI S1 64 3).toInt) (k := v4.toInt) rp0_S1 rp1_S1 rp0_S3 (by omega); rw [show zPts v4.toInt = [0, 6, 3, 7] from by rw [qk]; rfl] at q; replace q := q.trans (zRun_ok0 (s := (mI S55 64 2)) (e := (mI S55 64 3).toInt) (x := v58.toInt) (p := (mI S1 64 3).toInt) rp0_S55 (by omega) rp1_S55 (show v58.toInt = zNum (f 65) (mI S55 64 2).toInt (mI S55 64 3).toInt 16 1500 from rp0_S57) (by omega)); replace q := q.trans (zRun_okn (s := (mI S59 64 2)) (e := (mI S59 64 3).toInt) (x := v62.toInt) (p := (mI S55 64 3).toInt) rp0_S59 (by omega) rp1_S59 (zPart_f rp0_S61) (by omega) (by omega)); have q2 := q.trans (zRun_badp (s := (mI S63 64 2)) (e := (mI S63 64 3).toInt) (x := v66.toInt) (p := (mI S59 64 3).toInt) rp0_S63 (by omega) rp1_S63 (show v66.toInt = zNum (f 65) (mI S63 64 2).toInt (mI S63 64 3).toInt 1 50 from rp0_S65) (by omega)); exact Or.inl ⟨rfl, by omega⟩) | (omega) | (exfalso; omega)) (show (-1 : Int32).toInt = 5 → ((mI S65 66 0).toInt = zVal (f 65) (f 64 1).toInt 0 1 ∧ (mI S65 66 1).toInt = zVal (f 65) (f 64 1).toInt 6 2 ∧ v66.toInt = zVal (f 65) (f 64 1).toInt 3 3 ∧ (mI S65 66 3).toInt = zVal (f 65) (f 64 1).toInt 7 4) from by first | (intro h; exact absurd h (by decide))) (show ((-1 : Int32).toInt = 0 ∨ (-1 : Int32).toInt = 4) → ((mI S65 66 0).toInt = zVal (f 65) (f 64 1).toInt 0 1 ∧ (mI S65 66 1).toInt = zVal (f 65) (f 64 1).toInt 6 2) from by first | (intro h; exact absurd h (by decide))) (show qM1 (-1 : Int32) (mI S65 66 0) (f 65) (f 64 1).toInt from by first | (unfold qM1; intro h; exact absurd h (by decide))) (show qM3 (-1 : Int32) (mI S65 66 0) (mI S65 66 1) v66 (mI S65 66 3) (f 65) (f 64 1).toInt from by first | (unfold qM3; intro h; exact absurd h (by decide))) (show qM6 (-1 : Int32) (mI S65 66 0) (mI S65 66 1) v66 (f 65) (f 64 1).toInt from by first | (unfold qM6; intro h; exact absurd h (by decide))) (show (-1 : Int32).toInt = -1 ∨ (-1 : Int32).toInt = zPol (f 65) (Int32.ofInt (zts (f 65) (f 64 1).toInt 0)) (zte (f 65) (f 64 1).toInt 0 - zts (f 65) (f 64 1).toInt 0) from by first | (exact Or.inl rfl)) (show zFm I0 L0 R0 (ma_put S65 66 2 (.inl v66)) from by first | (exact (fn9_p rp1_S65 (by decide))))
                  · skip
                    have g1132 := i_ne h1098
                    have hI1133 : zR f r C Z N (ma_put S65 66 2 (.inl v66)) := zG_sa hI_S65 (-1) (1500) rfl (by decide) (by decide) (by decide) trivial (by omega) (by omega)
                    have q1134 : (mI S65 64 3).toInt = (mI S63 64 3).toInt := zG_zi (f := mI S63) hL_S65 rfl
                    have f1135 := zG_s hI_S65 (0) (100) (c := 64) (k := 3) (by decide)
                    refine sp_129_64_sq (p0 := ((mI S65 64 3).toInt)) (I0 := I0) (L0 := L0) (R0 := R0) (by omega) (by omega) (zR_dn_zY hI1133) (show (mI S65 64 3).toInt = ((mI S65 64 3).toInt) from by omega) (show zFm I0 L0 R0 (ma_put S65 66 2 (.inl v66)) from by first | (exact (fn9_p rp1_S65 (by decide)))) (fun v68 S67 hL_S67 hp_v68 rp0_S67 rp1_S67 rp2_S67 rp3_S67 rp4_S67 => zi_n ⟨zG_T hL_S67, ?_⟩)
                    have hI_S67 := zR_up_zY hI1133 hL_S67
                    have f1136 := zG_s hI_S67 (0) (100) (c := 64) (k := 2) (by decide)
                    have rp0_S67 : (mI S67 64 2).toInt = tk true (f 65) (f 64 1).toInt ((mI S65 64 3).toInt) := by
                      have z := rp0_S67
                      (try rw [show mI (ma_put S65 66 2 (.inl v66)) 65 = f 65 from funext (fun k => zG_z hI1133 rfl)] at z)
                      (try rw [show mI (ma_put S65 66 2 (.inl v66)) 64 1 = f 64 1 from zG_z hI1133 rfl] at z)
                      exact z
                    have f1137 := zG_s hI_S67 (0) (100) (c := 64) (k := 3) (by decide)
                    have rp1_S67 : (mI S67 64 3).toInt = tk false (f 65) (f 64 1).toInt (mI S67 64 2).toInt := by
                      have z := rp1_S67
                      (try rw [show mI (ma_put S65 66 2 (.inl v66)) 65 = f 65 from funext (fun k => zG_z hI1133 rfl)] at z)
                      (try rw [show mI (ma_put S65 66 2 (.inl v66)) 64 1 = f 64 1 from zG_z hI1133 rfl] at z)
                      exact z
                    have rp2_S67 : (v68.toInt = 1 ∧ (mI S67 64 2).toInt < (mI S67 64 3).toInt) ∨ (v68.toInt = 0 ∧ (mI S67 64 3).toInt ≤ (mI S67 64 2).toInt) := by
                      have z := rp2_S67
                      (try rw [show mI (ma_put S65 66 2 (.inl v66)) 65 = f 65 from funext (fun k => zG_z hI1133 rfl)] at z)
                      (try rw [show mI (ma_put S65 66 2 (.inl v66)) 64 1 = f 64 1 from zG_z hI1133 rfl] at z)
                      exact z
                    have rp3_S67 : (mI S67 64 2).toInt ≤ (mI S67 64 3).toInt := by
                      have z := rp3_S67
                      (try rw [show mI (ma_put S65 66 2 (.inl v66)) 65 = f 65 from funext (fun k => zG_z hI1133 rfl)] at z)
                      (try rw [show mI (ma_put S65 66 2 (.inl v66)) 64 1 = f 64 1 from zG_z hI1133 rfl] at z)
                      exact z
                    have rp4_S67 : zFm I0 L0 R0 S67 := by
                      have z := rp4_S67
                      (try rw [show mI (ma_put S65 66 2 (.inl v66)) 65 = f 65 from funext (fun k => zG_z hI1133 rfl)] at z)
                      (try rw [show mI (ma_put S65 66 2 (.inl v66)) 64 1 = f 64 1 from zG_z hI1133 rfl] at z)
                      exact z
                    refine sp_136_64_sq (I0 := I0) (L0 := L0) (R0 := R0) (by omega) (by omega) (zR_dn_zY0 hI_S67) (show zFm I0 L0 R0 S67 from by first | (exact rp4_S67)) (fun v70 S69 hL_S69 hp_v70 rp0_S69 rp1_S69 => zi_n ⟨zG_T hL_S69, ?_⟩)
                    have hI_S69 := zR_up_zY0 hI_S67 hL_S69
                    have rp0_S69 : v70.toInt = zBar (f 65) (mI S67 64 2) ((mI S67 64 3).toInt - (mI S67 64 2).toInt) := by
                      have z := rp0_S69
                      (try rw [show mI S67 65 = f 65 from funext (fun k => zG_z hI_S67 rfl)] at z)
                      (try rw [show mI S67 64 1 = f 64 1 from zG_z hI_S67 rfl] at z)
                      exact z
                    have rp1_S69 : zFm I0 L0 R0 S69 := by
                      have z := rp1_S69
                      (try rw [show mI S67 65 = f 65 from funext (fun k => zG_z hI_S67 rfl)] at z)
                      (try rw [show mI S67 64 1 = f 64 1 from zG_z hI_S67 rfl] at z)
                      exact z
                    have b1138 := i_bd v70
                    refine zd (fun h1139 => ?_) (fun h1139 => ?_)
                    · skip
                      have g1140 := i_eq h1139
                      have hI1141 : zR f r C Z N (ma_put S69 66 3 (.inl v70)) := zG_sa hI_S69 (-1) (1500) rfl (by decide) (by decide) (by decide) trivial (by omega) (by omega)
                      have q1142 : (mI S59 66 0).toInt = v58.toInt := zG_zi (f := mI (ma_put S57 66 0 (.inl v58))) hL_S59 rfl
                      have f1143 := zG_a hI_S59 4 (-1) (1500) (c := 66) (k := 0) (by decide) (by decide)
                      have q1144 : (mI S61 66 0).toInt = (mI S59 66 0).toInt := zG_zi (f := mI S59) hL_S61 rfl
                      have f1145 := zG_a hI_S61 4 (-1) (1500) (c := 66) (k := 0) (by decide) (by decide)
                      have q1146 : (mI S63 66 0).toInt = (mI S61 66 0).toInt := zG_zi (f := mI (ma_put S61 66 1 (.inl v62))) hL_S63 rfl
                      have f1147 := zG_a hI_S63 4 (-1) (1500) (c := 66) (k := 0) (by decide) (by decide)
                      have q1148 : (mI S65 66 0).toInt = (mI S63 66 0).toInt := zG_zi (f := mI S63) hL_S65 rfl
                      have f1149 := zG_a hI_S65 4 (-1) (1500) (c := 66) (k := 0) (by decide) (by decide)
                      have q1150 : (mI S67 66 0).toInt = (mI S65 66 0).toInt := zG_zi (f := mI (ma_put S65 66 2 (.inl v66))) hL_S67 rfl
                      have f1151 := zG_a hI_S67 4 (-1) (1500) (c := 66) (k := 0) (by decide) (by decide)
                      have q1152 : (mI S69 66 0).toInt = (mI S67 66 0).toInt := zG_zi (f := mI S67) hL_S69 rfl
                      have f1153 := zG_a hI_S69 4 (-1) (1500) (c := 66) (k := 0) (by decide) (by decide)
                      have q1154 : (mI S63 66 1).toInt = v62.toInt := zG_zi (f := mI (ma_put S61 66 1 (.inl v62))) hL_S63 rfl
                      have f1155 := zG_a hI_S63 4 (-1) (1500) (c := 66) (k := 1) (by decide) (by decide)
                      have q1156 : (mI S65 66 1).toInt = (mI S63 66 1).toInt := zG_zi (f := mI S63) hL_S65 rfl
                      have f1157 := zG_a hI_S65 4 (-1) (1500) (c := 66) (k := 1) (by decide) (by decide)
                      have q1158 : (mI S67 66 1).toInt = (mI S65 66 1).toInt := zG_zi (f := mI (ma_put S65 66 2 (.inl v66))) hL_S67 rfl
                      have f1159 := zG_a hI_S67 4 (-1) (1500) (c := 66) (k := 1) (by decide) (by decide)
                      have q1160 : (mI S69 66 1).toInt = (mI S67 66 1).toInt := zG_zi (f := mI S67) hL_S69 rfl
                      have f1161 := zG_a hI_S69 4 (-1) (1500) (c := 66) (k := 1) (by decide) (by decide)
                      have q1162 : (mI S69 64 2).toInt = (mI S67 64 2).toInt := zG_zi (f := mI S67) hL_S69 rfl
                      have f1163 := zG_s hI_S69 (0) (100) (c := 64) (k := 2) (by decide)
                      have q1164 : (mI S67 66 2).toInt = v66.toInt := zG_zi (f := mI (ma_put S65 66 2 (.inl v66))) hL_S67 rfl
                      have f1165 := zG_a hI_S67 4 (-1) (1500) (c := 66) (k := 2) (by decide) (by decide)
                      have q1166 : (mI S69 66 2).toInt = (mI S67 66 2).toInt := zG_zi (f := mI S67) hL_S69 rfl
                      have f1167 := zG_a hI_S69 4 (-1) (1500) (c := 66) (k := 2) (by decide) (by decide)
                      exact K ((-1 : Int32)) _ hI1141 (show (-1 : Int32).toInt = -1 ∨ (0 ≤ (-1 : Int32).toInt ∧ (-1 : Int32).toInt ≤ 6 ∧ 0 ≤ (mI S69 66 0).toInt ∧ ((-1 : Int32).toInt = 3 → 0 ≤ (mI S69 66 1).toInt) ∧ ((-1 : Int32).toInt = 6 → 16 ≤ (mI S69 66 1).toInt)) from by omega) (show ((-1 : Int32).toInt = -1 ∧ -1 - (mI S69 64 2).toInt = zAns (f 65) (f 64 1).toInt) ∨ ((-1 : Int32).toInt ≠ -1 ∧ zFin (-1 : Int32).toInt (mI S69 66 0).toInt (mI S69 66 1).toInt = zAns (f 65) (f 64 1).toInt) from by first | (have qk : v4.toInt = 5 := (by omega); have q := zAns_go (s := (mI S1 64 2)) (e := (mI S1 64 3).toInt) (k := v4.toInt) rp0_S1 rp1_S1 rp0_S3 (by omega); rw [show zPts v4.toInt = [0, 6, 3, 7] from by rw [qk]; rfl] at q; replace q := q.trans (zRun_ok0 (s := (mI S55 64 2)) (e := (mI S55 64 3).toInt) (x := v58.toInt) (p := (mI S1 64 3).toInt) rp0_S55 (by omega) rp1_S55 (show v58.toInt = zNum (f 65) (mI S55 64 2).toInt (mI S55 64 3).toInt 16 1500 from rp0_S57) (by omega)); replace q := q.trans (zRun_okn (s := (mI S59 64 2)) (e := (mI S59 64 3).toInt) (x := v62.toInt) (p := (mI S55 64 3).toInt) rp0_S59 (by omega) rp1_S59 (zPart_f rp0_S61) (by omega) (by omega)); replace q := q.trans (zRun_okn (s := (mI S63 64 2)) (e := (mI S63 64 3).toInt) (x := v66.toInt) (p := (mI S59 64 3).toInt) rp0_S63 (by omega) rp1_S63 (show v66.toInt = zNum (f 65) (mI S63 64 2).toInt (mI S63 64 3).toInt 1 50 from rp0_S65) (by omega) (by omega)); have q2 := q.trans (zRun_badp (s := (mI S67 64 2)) (e := (mI S67 64 3).toInt) (x := v70.toInt) (p := (mI S63 64 3).toInt) rp0_S67 (by omega) rp1_S67 (zPart_b rp0_S69) (by omega)); exact Or.inl ⟨rfl, by omega⟩) | (omega) | (exfalso; omega)) (show (-1 : Int32).toInt = 5 → ((mI S69 66 0).toInt = zVal (f 65) (f 64 1).toInt 0 1 ∧ (mI S69 66 1).toInt = zVal (f 65) (f 64 1).toInt 6 2 ∧ (mI S69 66 2).toInt = zVal (f 65) (f 64 1).toInt 3 3 ∧ v70.toInt = zVal (f 65) (f 64 1).toInt 7 4) from by first | (intro h; exact absurd h (by decide))) (show ((-1 : Int32).toInt = 0 ∨ (-1 : Int32).toInt = 4) → ((mI S69 66 0).toInt = zVal (f 65) (f 64 1).toInt 0 1 ∧ (mI S69 66 1).toInt = zVal (f 65) (f 64 1).toInt 6 2) from by first | (intro h; exact absurd h (by decide))) (show qM1 (-1 : Int32) (mI S69 66 0) (f 65) (f 64 1).toInt from by first | (unfold qM1; intro h; exact absurd h (by decide))) (show qM3 (-1 : Int32) (mI S69 66 0) (mI S69 66 1) (mI S69 66 2) v70 (f 65) (f 64 1).toInt from by first | (unfold qM3; intro h; exact absurd h (by decide))) (show qM6 (-1 : Int32) (mI S69 66 0) (mI S69 66 1) (mI S69 66 2) (f 65) (f 64 1).toInt from by first | (unfold qM6; intro h; exact absurd h (by decide))) (show (-1 : Int32).toInt = -1 ∨ (-1 : Int32).toInt = zPol (f 65) (Int32.ofInt (zts (f 65) (f 64 1).toInt 0)) (zte (f 65) (f 64 1).toInt 0 - zts (f 65) (f 64 1).toInt 0) from by first | (exact Or.inl rfl)) (show zFm I0 L0 R0 (ma_put S69 66 3 (.inl v70)) from by first | (exact (fn9_p rp1_S69 (by decide))))
                    · skip
                      have g1168 := i_ne h1139
                      refine zd (fun h1169 => ?_) (fun h1169 => ?_)
                      · skip
                        have g1170 := i_eq h1169
                        have hI1171 : zR f r C Z N (ma_put S69 66 3 (.inl v70)) := zG_sa hI_S69 (-1) (1500) rfl (by decide) (by decide) (by decide) trivial (by omega) (by omega)
                        have q1172 : (mI S59 66 0).toInt = v58.toInt := zG_zi (f := mI (ma_put S57 66 0 (.inl v58))) hL_S59 rfl
                        have f1173 := zG_a hI_S59 4 (-1) (1500) (c := 66) (k := 0) (by decide) (by decide)
                        have q1174 : (mI S61 66 0).toInt = (mI S59 66 0).toInt := zG_zi (f := mI S59) hL_S61 rfl
                        have f1175 := zG_a hI_S61 4 (-1) (1500) (c := 66) (k := 0) (by decide) (by decide)
                        have q1176 : (mI S63 66 0).toInt = (mI S61 66 0).toInt := zG_zi (f := mI (ma_put S61 66 1 (.inl v62))) hL_S63 rfl
                        have f1177 := zG_a hI_S63 4 (-1) (1500) (c := 66) (k := 0) (by decide) (by decide)
                        have q1178 : (mI S65 66 0).toInt = (mI S63 66 0).toInt := zG_zi (f := mI S63) hL_S65 rfl
                        have f1179 := zG_a hI_S65 4 (-1) (1500) (c := 66) (k := 0) (by decide) (by decide)
                        have q1180 : (mI S67 66 0).toInt = (mI S65 66 0).toInt := zG_zi (f := mI (ma_put S65 66 2 (.inl v66))) hL_S67 rfl
                        have f1181 := zG_a hI_S67 4 (-1) (1500) (c := 66) (k := 0) (by decide) (by decide)
                        have q1182 : (mI S69 66 0).toInt = (mI S67 66 0).toInt := zG_zi (f := mI S67) hL_S69 rfl
                        have f1183 := zG_a hI_S69 4 (-1) (1500) (c := 66) (k := 0) (by decide) (by decide)
                        have q1184 : (mI S63 66 1).toInt = v62.toInt := zG_zi (f := mI (ma_put S61 66 1 (.inl v62))) hL_S63 rfl
                        have f1185 := zG_a hI_S63 4 (-1) (1500) (c := 66) (k := 1) (by decide) (by decide)
                        have q1186 : (mI S65 66 1).toInt = (mI S63 66 1).toInt := zG_zi (f := mI S63) hL_S65 rfl
                        have f1187 := zG_a hI_S65 4 (-1) (1500) (c := 66) (k := 1) (by decide) (by decide)
                        have q1188 : (mI S67 66 1).toInt = (mI S65 66 1).toInt := zG_zi (f := mI (ma_put S65 66 2 (.inl v66))) hL_S67 rfl
                        have f1189 := zG_a hI_S67 4 (-1) (1500) (c := 66) (k := 1) (by decide) (by decide)
                        have q1190 : (mI S69 66 1).toInt = (mI S67 66 1).toInt := zG_zi (f := mI S67) hL_S69 rfl
                        have f1191 := zG_a hI_S69 4 (-1) (1500) (c := 66) (k := 1) (by decide) (by decide)
                        have q1192 : (mI S69 64 2).toInt = (mI S67 64 2).toInt := zG_zi (f := mI S67) hL_S69 rfl
                        have f1193 := zG_s hI_S69 (0) (100) (c := 64) (k := 2) (by decide)
                        have q1194 : (mI S67 66 2).toInt = v66.toInt := zG_zi (f := mI (ma_put S65 66 2 (.inl v66))) hL_S67 rfl
                        have f1195 := zG_a hI_S67 4 (-1) (1500) (c := 66) (k := 2) (by decide) (by decide)
                        have q1196 : (mI S69 66 2).toInt = (mI S67 66 2).toInt := zG_zi (f := mI S67) hL_S69 rfl
                        have f1197 := zG_a hI_S69 4 (-1) (1500) (c := 66) (k := 2) (by decide) (by decide)
                        exact K ((-1 : Int32)) _ hI1171 (show (-1 : Int32).toInt = -1 ∨ (0 ≤ (-1 : Int32).toInt ∧ (-1 : Int32).toInt ≤ 6 ∧ 0 ≤ (mI S69 66 0).toInt ∧ ((-1 : Int32).toInt = 3 → 0 ≤ (mI S69 66 1).toInt) ∧ ((-1 : Int32).toInt = 6 → 16 ≤ (mI S69 66 1).toInt)) from by omega) (show ((-1 : Int32).toInt = -1 ∧ -1 - (mI S69 64 2).toInt = zAns (f 65) (f 64 1).toInt) ∨ ((-1 : Int32).toInt ≠ -1 ∧ zFin (-1 : Int32).toInt (mI S69 66 0).toInt (mI S69 66 1).toInt = zAns (f 65) (f 64 1).toInt) from by first | (have qk : v4.toInt = 5 := (by omega); have q := zAns_go (s := (mI S1 64 2)) (e := (mI S1 64 3).toInt) (k := v4.toInt) rp0_S1 rp1_S1 rp0_S3 (by omega); rw [show zPts v4.toInt = [0, 6, 3, 7] from by rw [qk]; rfl] at q; replace q := q.trans (zRun_ok0 (s := (mI S55 64 2)) (e := (mI S55 64 3).toInt) (x := v58.toInt) (p := (mI S1 64 3).toInt) rp0_S55 (by omega) rp1_S55 (show v58.toInt = zNum (f 65) (mI S55 64 2).toInt (mI S55 64 3).toInt 16 1500 from rp0_S57) (by omega)); replace q := q.trans (zRun_okn (s := (mI S59 64 2)) (e := (mI S59 64 3).toInt) (x := v62.toInt) (p := (mI S55 64 3).toInt) rp0_S59 (by omega) rp1_S59 (zPart_f rp0_S61) (by omega) (by omega)); replace q := q.trans (zRun_okn (s := (mI S63 64 2)) (e := (mI S63 64 3).toInt) (x := v66.toInt) (p := (mI S59 64 3).toInt) rp0_S63 (by omega) rp1_S63 (show v66.toInt = zNum (f 65) (mI S63 64 2).toInt (mI S63 64 3).toInt 1 50 from rp0_S65) (by omega) (by omega)); have q2 := q.trans (zRun_badp (s := (mI S67 64 2)) (e := (mI S67 64 3).toInt) (x := v70.toInt) (p := (mI S63 64 3).toInt) rp0_S67 (by omega) rp1_S67 (zPart_b rp0_S69) (by omega)); exact Or.inl ⟨rfl, by omega⟩) | (omega) | (exfalso; omega)) (show (-1 : Int32).toInt = 5 → ((mI S69 66 0).toInt = zVal (f 65) (f 64 1).toInt 0 1 ∧ (mI S69 66 1).toInt = zVal (f 65) (f 64 1).toInt 6 2 ∧ (mI S69 66 2).toInt = zVal (f 65) (f 64 1).toInt 3 3 ∧ v70.toInt = zVal (f 65) (f 64 1).toInt 7 4) from by first | (intro h; exact absurd h (by decide))) (show ((-1 : Int32).toInt = 0 ∨ (-1 : Int32).toInt = 4) → ((mI S69 66 0).toInt = zVal (f 65) (f 64 1).toInt 0 1 ∧ (mI S69 66 1).toInt = zVal (f 65) (f 64 1).toInt 6 2) from by first | (intro h; exact absurd h (by decide))) (show qM1 (-1 : Int32) (mI S69 66 0) (f 65) (f 64 1).toInt from by first | (unfold qM1; intro h; exact absurd h (by decide))) (show qM3 (-1 : Int32) (mI S69 66 0) (mI S69 66 1) (mI S69 66 2) v70 (f 65) (f 64 1).toInt from by first | (unfold qM3; intro h; exact absurd h (by decide))) (show qM6 (-1 : Int32) (mI S69 66 0) (mI S69 66 1) (mI S69 66 2) (f 65) (f 64 1).toInt from by first | (unfold qM6; intro h; exact absurd h (by decide))) (show (-1 : Int32).toInt = -1 ∨ (-1 : Int32).toInt = zPol (f 65) (Int32.ofInt (zts (f 65) (f 64 1).toInt 0)) (zte (f 65) (f 64 1).toInt 0 - zts (f 65) (f 64 1).toInt 0) from by first | (exact Or.inl rfl)) (show zFm I0 L0 R0 (ma_put S69 66 3 (.inl v70)) from by first | (exact (fn9_p rp1_S69 (by decide))))
                      · skip
                        have g1198 := i_ne h1169
                        have hI1199 : zR f r C Z N (ma_put S69 66 3 (.inl v70)) := zG_sa hI_S69 (-1) (1500) rfl (by decide) (by decide) (by decide) trivial (by omega) (by omega)
                        have q1200 : (mI S69 64 3).toInt = (mI S67 64 3).toInt := zG_zi (f := mI S67) hL_S69 rfl
                        have f1201 := zG_s hI_S69 (0) (100) (c := 64) (k := 3) (by decide)
                        refine sp_129_64_sq (p0 := ((mI S69 64 3).toInt)) (I0 := I0) (L0 := L0) (R0 := R0) (by omega) (by omega) (zR_dn_zY hI1199) (show (mI S69 64 3).toInt = ((mI S69 64 3).toInt) from by omega) (show zFm I0 L0 R0 (ma_put S69 66 3 (.inl v70)) from by first | (exact (fn9_p rp1_S69 (by decide)))) (fun v72 S71 hL_S71 hp_v72 rp0_S71 rp1_S71 rp2_S71 rp3_S71 rp4_S71 => zi_n ⟨zG_T hL_S71, ?_⟩)
                        have hI_S71 := zR_up_zY hI1199 hL_S71
                        have f1202 := zG_s hI_S71 (0) (100) (c := 64) (k := 2) (by decide)
                        have rp0_S71 : (mI S71 64 2).toInt = tk true (f 65) (f 64 1).toInt ((mI S69 64 3).toInt) := by
                          have z := rp0_S71
                          (try rw [show mI (ma_put S69 66 3 (.inl v70)) 65 = f 65 from funext (fun k => zG_z hI1199 rfl)] at z)
                          (try rw [show mI (ma_put S69 66 3 (.inl v70)) 64 1 = f 64 1 from zG_z hI1199 rfl] at z)
                          exact z
                        have f1203 := zG_s hI_S71 (0) (100) (c := 64) (k := 3) (by decide)
                        have rp1_S71 : (mI S71 64 3).toInt = tk false (f 65) (f 64 1).toInt (mI S71 64 2).toInt := by
                          have z := rp1_S71
                          (try rw [show mI (ma_put S69 66 3 (.inl v70)) 65 = f 65 from funext (fun k => zG_z hI1199 rfl)] at z)
                          (try rw [show mI (ma_put S69 66 3 (.inl v70)) 64 1 = f 64 1 from zG_z hI1199 rfl] at z)
                          exact z
                        have rp2_S71 : (v72.toInt = 1 ∧ (mI S71 64 2).toInt < (mI S71 64 3).toInt) ∨ (v72.toInt = 0 ∧ (mI S71 64 3).toInt ≤ (mI S71 64 2).toInt) := by
                          have z := rp2_S71
                          (try rw [show mI (ma_put S69 66 3 (.inl v70)) 65 = f 65 from funext (fun k => zG_z hI1199 rfl)] at z)
                          (try rw [show mI (ma_put S69 66 3 (.inl v70)) 64 1 = f 64 1 from zG_z hI1199 rfl] at z)
                          exact z
                        have rp3_S71 : (mI S71 64 2).toInt ≤ (mI S71 64 3).toInt := by
                          have z := rp3_S71
                          (try rw [show mI (ma_put S69 66 3 (.inl v70)) 65 = f 65 from funext (fun k => zG_z hI1199 rfl)] at z)
                          (try rw [show mI (ma_put S69 66 3 (.inl v70)) 64 1 = f 64 1 from zG_z hI1199 rfl] at z)
                          exact z
                        have rp4_S71 : zFm I0 L0 R0 S71 := by
                          have z := rp4_S71
                          (try rw [show mI (ma_put S69 66 3 (.inl v70)) 65 = f 65 from funext (fun k => zG_z hI1199 rfl)] at z)
                          (try rw [show mI (ma_put S69 66 3 (.inl v70)) 64 1 = f 64 1 from zG_z hI1199 rfl] at z)
                          exact z
                        have b1204 := i_bd v72
                        refine zd (fun h1205 => ?_) (fun h1205 => ?_)
                        · skip
                          have g1206 := i_eq h1205
                          have q1207 : (mI S59 66 0).toInt = v58.toInt := zG_zi (f := mI (ma_put S57 66 0 (.inl v58))) hL_S59 rfl
                          have f1208 := zG_a hI_S59 4 (-1) (1500) (c := 66) (k := 0) (by decide) (by decide)
                          have q1209 : (mI S61 66 0).toInt = (mI S59 66 0).toInt := zG_zi (f := mI S59) hL_S61 rfl
                          have f1210 := zG_a hI_S61 4 (-1) (1500) (c := 66) (k := 0) (by decide) (by decide)
                          have q1211 : (mI S63 66 0).toInt = (mI S61 66 0).toInt := zG_zi (f := mI (ma_put S61 66 1 (.inl v62))) hL_S63 rfl
                          have f1212 := zG_a hI_S63 4 (-1) (1500) (c := 66) (k := 0) (by decide) (by decide)
                          have q1213 : (mI S65 66 0).toInt = (mI S63 66 0).toInt := zG_zi (f := mI S63) hL_S65 rfl
                          have f1214 := zG_a hI_S65 4 (-1) (1500) (c := 66) (k := 0) (by decide) (by decide)
                          have q1215 : (mI S67 66 0).toInt = (mI S65 66 0).toInt := zG_zi (f := mI (ma_put S65 66 2 (.inl v66))) hL_S67 rfl
                          have f1216 := zG_a hI_S67 4 (-1) (1500) (c := 66) (k := 0) (by decide) (by decide)
                          have q1217 : (mI S69 66 0).toInt = (mI S67 66 0).toInt := zG_zi (f := mI S67) hL_S69 rfl
                          have f1218 := zG_a hI_S69 4 (-1) (1500) (c := 66) (k := 0) (by decide) (by decide)
                          have q1219 : (mI S71 66 0).toInt = (mI S69 66 0).toInt := zG_zi (f := mI (ma_put S69 66 3 (.inl v70))) hL_S71 rfl
                          have f1220 := zG_a hI_S71 4 (-1) (1500) (c := 66) (k := 0) (by decide) (by decide)
                          have q1221 : (mI S63 66 1).toInt = v62.toInt := zG_zi (f := mI (ma_put S61 66 1 (.inl v62))) hL_S63 rfl
                          have f1222 := zG_a hI_S63 4 (-1) (1500) (c := 66) (k := 1) (by decide) (by decide)
                          have q1223 : (mI S65 66 1).toInt = (mI S63 66 1).toInt := zG_zi (f := mI S63) hL_S65 rfl
                          have f1224 := zG_a hI_S65 4 (-1) (1500) (c := 66) (k := 1) (by decide) (by decide)
                          have q1225 : (mI S67 66 1).toInt = (mI S65 66 1).toInt := zG_zi (f := mI (ma_put S65 66 2 (.inl v66))) hL_S67 rfl
                          have f1226 := zG_a hI_S67 4 (-1) (1500) (c := 66) (k := 1) (by decide) (by decide)
                          have q1227 : (mI S69 66 1).toInt = (mI S67 66 1).toInt := zG_zi (f := mI S67) hL_S69 rfl
                          have f1228 := zG_a hI_S69 4 (-1) (1500) (c := 66) (k := 1) (by decide) (by decide)
                          have q1229 : (mI S71 66 1).toInt = (mI S69 66 1).toInt := zG_zi (f := mI (ma_put S69 66 3 (.inl v70))) hL_S71 rfl
                          have f1230 := zG_a hI_S71 4 (-1) (1500) (c := 66) (k := 1) (by decide) (by decide)
                          have q1231 : (mI S67 66 2).toInt = v66.toInt := zG_zi (f := mI (ma_put S65 66 2 (.inl v66))) hL_S67 rfl
                          have f1232 := zG_a hI_S67 4 (-1) (1500) (c := 66) (k := 2) (by decide) (by decide)
                          have q1233 : (mI S69 66 2).toInt = (mI S67 66 2).toInt := zG_zi (f := mI S67) hL_S69 rfl
                          have f1234 := zG_a hI_S69 4 (-1) (1500) (c := 66) (k := 2) (by decide) (by decide)
                          have q1235 : (mI S71 66 2).toInt = (mI S69 66 2).toInt := zG_zi (f := mI (ma_put S69 66 3 (.inl v70))) hL_S71 rfl
                          have f1236 := zG_a hI_S71 4 (-1) (1500) (c := 66) (k := 2) (by decide) (by decide)
                          have q1237 : (mI S71 66 3).toInt = v70.toInt := zG_zi (f := mI (ma_put S69 66 3 (.inl v70))) hL_S71 rfl
                          have f1238 := zG_a hI_S71 4 (-1) (1500) (c := 66) (k := 3) (by decide) (by decide)
                          exact K (v4) _ hI_S71 (show v4.toInt = -1 ∨ (0 ≤ v4.toInt ∧ v4.toInt ≤ 6 ∧ 0 ≤ (mI S71 66 0).toInt ∧ (v4.toInt = 3 → 0 ≤ (mI S71 66 1).toInt) ∧ (v4.toInt = 6 → 16 ≤ (mI S71 66 1).toInt)) from by omega) (show (v4.toInt = -1 ∧ -1 - (mI S71 64 2).toInt = zAns (f 65) (f 64 1).toInt) ∨ (v4.toInt ≠ -1 ∧ zFin v4.toInt (mI S71 66 0).toInt (mI S71 66 1).toInt = zAns (f 65) (f 64 1).toInt) from by first | (have qk : v4.toInt = 5 := (by omega); have q := zAns_go (s := (mI S1 64 2)) (e := (mI S1 64 3).toInt) (k := v4.toInt) rp0_S1 rp1_S1 rp0_S3 (by omega); rw [show zPts v4.toInt = [0, 6, 3, 7] from by rw [qk]; rfl] at q; replace q := q.trans (zRun_ok0 (s := (mI S55 64 2)) (e := (mI S55 64 3).toInt) (x := v58.toInt) (p := (mI S1 64 3).toInt) rp0_S55 (by omega) rp1_S55 (show v58.toInt = zNum (f 65) (mI S55 64 2).toInt (mI S55 64 3).toInt 16 1500 from rp0_S57) (by omega)); replace q := q.trans (zRun_okn (s := (mI S59 64 2)) (e := (mI S59 64 3).toInt) (x := v62.toInt) (p := (mI S55 64 3).toInt) rp0_S59 (by omega) rp1_S59 (zPart_f rp0_S61) (by omega) (by omega)); replace q := q.trans (zRun_okn (s := (mI S63 64 2)) (e := (mI S63 64 3).toInt) (x := v66.toInt) (p := (mI S59 64 3).toInt) rp0_S63 (by omega) rp1_S63 (show v66.toInt = zNum (f 65) (mI S63 64 2).toInt (mI S63 64 3).toInt 1 50 from rp0_S65) (by omega) (by omega)); replace q := q.trans (zRun_okn (s := (mI S67 64 2)) (e := (mI S67 64 3).toInt) (x := v70.toInt) (p := (mI S63 64 3).toInt) rp0_S67 (by omega) rp1_S67 (zPart_b rp0_S69) (by omega) (by omega)); have q2 := q.trans (zEnd_okp (s := (mI S71 64 2)) (e := (mI S71 64 3).toInt) (p := (mI S67 64 3).toInt) rp0_S71 (by omega) rp1_S71 (by omega)); exact Or.inr ⟨by omega, (zFin_eq (by omega) (by omega)).trans q2.symm⟩) | (omega) | (exfalso; omega)) (show v4.toInt = 5 → ((mI S71 66 0).toInt = zVal (f 65) (f 64 1).toInt 0 1 ∧ (mI S71 66 1).toInt = zVal (f 65) (f 64 1).toInt 6 2 ∧ (mI S71 66 2).toInt = zVal (f 65) (f 64 1).toInt 3 3 ∧ (mI S71 66 3).toInt = zVal (f 65) (f 64 1).toInt 7 4) from by first | (intro _; have a0 : (mI S1 64 2).toInt = zts (f 65) (f 64 1).toInt 0 := rp0_S1; have b0 : (mI S1 64 3).toInt = zte (f 65) (f 64 1).toInt 0 := zt_e rp1_S1 a0; have a1 : (mI S55 64 2).toInt = zts (f 65) (f 64 1).toInt 1 := zt_s rp0_S55 (by omega) b0; have b1 : (mI S55 64 3).toInt = zte (f 65) (f 64 1).toInt 1 := zt_e rp1_S55 a1; have a2 : (mI S59 64 2).toInt = zts (f 65) (f 64 1).toInt 2 := zt_s rp0_S59 (by omega) b1; have b2 : (mI S59 64 3).toInt = zte (f 65) (f 64 1).toInt 2 := zt_e rp1_S59 a2; have a3 : (mI S63 64 2).toInt = zts (f 65) (f 64 1).toInt 3 := zt_s rp0_S63 (by omega) b2; have b3 : (mI S63 64 3).toInt = zte (f 65) (f 64 1).toInt 3 := zt_e rp1_S63 a3; have a4 : (mI S67 64 2).toInt = zts (f 65) (f 64 1).toInt 4 := zt_s rp0_S67 (by omega) b3; have b4 : (mI S67 64 3).toInt = zte (f 65) (f 64 1).toInt 4 := zt_e rp1_S67 a4; have z0 := (show v58.toInt = zVal (f 65) (f 64 1).toInt 0 1 from (show v58.toInt = zNum (f 65) (mI S55 64 2).toInt (mI S55 64 3).toInt 16 1500 from rp0_S57).trans (by rw [a1, b1]; rfl)); have z1 := (show v62.toInt = zVal (f 65) (f 64 1).toInt 6 2 from (zPart_f (a := 0) rp0_S61).trans (by rw [a2, b2]; rfl)); have z2 := (show v66.toInt = zVal (f 65) (f 64 1).toInt 3 3 from (show v66.toInt = zNum (f 65) (mI S63 64 2).toInt (mI S63 64 3).toInt 1 50 from rp0_S65).trans (by rw [a3, b3]; rfl)); have z3 := (show v70.toInt = zVal (f 65) (f 64 1).toInt 7 4 from (zPart_b (a := 0) rp0_S69).trans (by rw [a4, b4]; rfl)); exact ⟨by omega, by omega, by omega, by omega⟩)) (show (v4.toInt = 0 ∨ v4.toInt = 4) → ((mI S71 66 0).toInt = zVal (f 65) (f 64 1).toInt 0 1 ∧ (mI S71 66 1).toInt = zVal (f 65) (f 64 1).toInt 6 2) from by first | (intro h; exfalso; omega)) (show qM1 v4 (mI S71 66 0) (f 65) (f 64 1).toInt from by first | (unfold qM1; intro h; exfalso; omega)) (show qM3 v4 (mI S71 66 0) (mI S71 66 1) (mI S71 66 2) (mI S71 66 3) (f 65) (f 64 1).toInt from by first | (unfold qM3; intro h; exfalso; omega)) (show qM6 v4 (mI S71 66 0) (mI S71 66 1) (mI S71 66 2) (f 65) (f 64 1).toInt from by first | (unfold qM6; intro h; exfalso; omega)) (show v4.toInt = -1 ∨ v4.toInt = zPol (f 65) (Int32.ofInt (zts (f 65) (f 64 1).toInt 0)) (zte (f 65) (f 64 1).toInt 0 - zts (f 65) (f 64 1).toInt 0) from by first | (exact Or.inr (zt_p rp0_S1 rp1_S1 rp0_S3))) (show zFm I0 L0 R0 S71 from by first | (exact rp4_S71))
                        · skip
                          have g1239 := i_ne h1205
                          have q1240 : (mI S59 66 0).toInt = v58.toInt := zG_zi (f := mI (ma_put S57 66 0 (.inl v58))) hL_S59 rfl
                          have f1241 := zG_a hI_S59 4 (-1) (1500) (c := 66) (k := 0) (by decide) (by decide)
                          have q1242 : (mI S61 66 0).toInt = (mI S59 66 0).toInt := zG_zi (f := mI S59) hL_S61 rfl
                          have f1243 := zG_a hI_S61 4 (-1) (1500) (c := 66) (k := 0) (by decide) (by decide)
                          have q1244 : (mI S63 66 0).toInt = (mI S61 66 0).toInt := zG_zi (f := mI (ma_put S61 66 1 (.inl v62))) hL_S63 rfl
                          have f1245 := zG_a hI_S63 4 (-1) (1500) (c := 66) (k := 0) (by decide) (by decide)
                          have q1246 : (mI S65 66 0).toInt = (mI S63 66 0).toInt := zG_zi (f := mI S63) hL_S65 rfl
                          have f1247 := zG_a hI_S65 4 (-1) (1500) (c := 66) (k := 0) (by decide) (by decide)
                          have q1248 : (mI S67 66 0).toInt = (mI S65 66 0).toInt := zG_zi (f := mI (ma_put S65 66 2 (.inl v66))) hL_S67 rfl
                          have f1249 := zG_a hI_S67 4 (-1) (1500) (c := 66) (k := 0) (by decide) (by decide)
                          have q1250 : (mI S69 66 0).toInt = (mI S67 66 0).toInt := zG_zi (f := mI S67) hL_S69 rfl
                          have f1251 := zG_a hI_S69 4 (-1) (1500) (c := 66) (k := 0) (by decide) (by decide)
                          have q1252 : (mI S71 66 0).toInt = (mI S69 66 0).toInt := zG_zi (f := mI (ma_put S69 66 3 (.inl v70))) hL_S71 rfl
                          have f1253 := zG_a hI_S71 4 (-1) (1500) (c := 66) (k := 0) (by decide) (by decide)
                          have q1254 : (mI S63 66 1).toInt = v62.toInt := zG_zi (f := mI (ma_put S61 66 1 (.inl v62))) hL_S63 rfl
                          have f1255 := zG_a hI_S63 4 (-1) (1500) (c := 66) (k := 1) (by decide) (by decide)
                          have q1256 : (mI S65 66 1).toInt = (mI S63 66 1).toInt := zG_zi (f := mI S63) hL_S65 rfl
                          have f1257 := zG_a hI_S65 4 (-1) (1500) (c := 66) (k := 1) (by decide) (by decide)
                          have q1258 : (mI S67 66 1).toInt = (mI S65 66 1).toInt := zG_zi (f := mI (ma_put S65 66 2 (.inl v66))) hL_S67 rfl
                          have f1259 := zG_a hI_S67 4 (-1) (1500) (c := 66) (k := 1) (by decide) (by decide)
                          have q1260 : (mI S69 66 1).toInt = (mI S67 66 1).toInt := zG_zi (f := mI S67) hL_S69 rfl
                          have f1261 := zG_a hI_S69 4 (-1) (1500) (c := 66) (k := 1) (by decide) (by decide)
                          have q1262 : (mI S71 66 1).toInt = (mI S69 66 1).toInt := zG_zi (f := mI (ma_put S69 66 3 (.inl v70))) hL_S71 rfl
                          have f1263 := zG_a hI_S71 4 (-1) (1500) (c := 66) (k := 1) (by decide) (by decide)
                          have q1264 : (mI S67 66 2).toInt = v66.toInt := zG_zi (f := mI (ma_put S65 66 2 (.inl v66))) hL_S67 rfl
                          have f1265 := zG_a hI_S67 4 (-1) (1500) (c := 66) (k := 2) (by decide) (by decide)
                          have q1266 : (mI S69 66 2).toInt = (mI S67 66 2).toInt := zG_zi (f := mI S67) hL_S69 rfl
                          have f1267 := zG_a hI_S69 4 (-1) (1500) (c := 66) (k := 2) (by decide) (by decide)
                          have q1268 : (mI S71 66 2).toInt = (mI S69 66 2).toInt := zG_zi (f := mI (ma_put S69 66 3 (.inl v70))) hL_S71 rfl
                          have f1269 := zG_a hI_S71 4 (-1) (1500) (c := 66) (k := 2) (by decide) (by decide)
                          have q1270 : (mI S71 66 3).toInt = v70.toInt := zG_zi (f := mI (ma_put S69 66 3 (.inl v70))) hL_S71 rfl
                          have f1271 := zG_a hI_S71 4 (-1) (1500) (c := 66) (k := 3) (by decide) (by decide)
                          exact K ((-1 : Int32)) _ hI_S71 (show (-1 : Int32).toInt = -1 ∨ (0 ≤ (-1 : Int32).toInt ∧ (-1 : Int32).toInt ≤ 6 ∧ 0 ≤ (mI S71 66 0).toInt ∧ ((-1 : Int32).toInt = 3 → 0 ≤ (mI S71 66 1).toInt) ∧ ((-1 : Int32).toInt = 6 → 16 ≤ (mI S71 66 1).toInt)) from by omega) (show ((-1 : Int32).toInt = -1 ∧ -1 - (mI S71 64 2).toInt = zAns (f 65) (f 64 1).toInt) ∨ ((-1 : Int32).toInt ≠ -1 ∧ zFin (-1 : Int32).toInt (mI S71 66 0).toInt (mI S71 66 1).toInt = zAns (f 65) (f 64 1).toInt) from by first | (have qk : v4.toInt = 5 := (by omega); have q := zAns_go (s := (mI S1 64 2)) (e := (mI S1 64 3).toInt) (k := v4.toInt) rp0_S1 rp1_S1 rp0_S3 (by omega); rw [show zPts v4.toInt = [0, 6, 3, 7] from by rw [qk]; rfl] at q; replace q := q.trans (zRun_ok0 (s := (mI S55 64 2)) (e := (mI S55 64 3).toInt) (x := v58.toInt) (p := (mI S1 64 3).toInt) rp0_S55 (by omega) rp1_S55 (show v58.toInt = zNum (f 65) (mI S55 64 2).toInt (mI S55 64 3).toInt 16 1500 from rp0_S57) (by omega)); replace q := q.trans (zRun_okn (s := (mI S59 64 2)) (e := (mI S59 64 3).toInt) (x := v62.toInt) (p := (mI S55 64 3).toInt) rp0_S59 (by omega) rp1_S59 (zPart_f rp0_S61) (by omega) (by omega)); replace q := q.trans (zRun_okn (s := (mI S63 64 2)) (e := (mI S63 64 3).toInt) (x := v66.toInt) (p := (mI S59 64 3).toInt) rp0_S63 (by omega) rp1_S63 (show v66.toInt = zNum (f 65) (mI S63 64 2).toInt (mI S63 64 3).toInt 1 50 from rp0_S65) (by omega) (by omega)); replace q := q.trans (zRun_okn (s := (mI S67 64 2)) (e := (mI S67 64 3).toInt) (x := v70.toInt) (p := (mI S63 64 3).toInt) rp0_S67 (by omega) rp1_S67 (zPart_b rp0_S69) (by omega) (by omega)); have q2 := q.trans (zEnd_badp (s := (mI S71 64 2)) (e := (mI S71 64 3).toInt) (p := (mI S67 64 3).toInt) rp0_S71 (by omega) rp1_S71 (by omega)); exact Or.inl ⟨rfl, by omega⟩) | (omega) | (exfalso; omega)) (show (-1 : Int32).toInt = 5 → ((mI S71 66 0).toInt = zVal (f 65) (f 64 1).toInt 0 1 ∧ (mI S71 66 1).toInt = zVal (f 65) (f 64 1).toInt 6 2 ∧ (mI S71 66 2).toInt = zVal (f 65) (f 64 1).toInt 3 3 ∧ (mI S71 66 3).toInt = zVal (f 65) (f 64 1).toInt 7 4) from by first | (intro h; exact absurd h (by decide))) (show ((-1 : Int32).toInt = 0 ∨ (-1 : Int32).toInt = 4) → ((mI S71 66 0).toInt = zVal (f 65) (f 64 1).toInt 0 1 ∧ (mI S71 66 1).toInt = zVal (f 65) (f 64 1).toInt 6 2) from by first | (intro h; exact absurd h (by decide))) (show qM1 (-1 : Int32) (mI S71 66 0) (f 65) (f 64 1).toInt from by first | (unfold qM1; intro h; exact absurd h (by decide))) (show qM3 (-1 : Int32) (mI S71 66 0) (mI S71 66 1) (mI S71 66 2) (mI S71 66 3) (f 65) (f 64 1).toInt from by first | (unfold qM3; intro h; exact absurd h (by decide))) (show qM6 (-1 : Int32) (mI S71 66 0) (mI S71 66 1) (mI S71 66 2) (f 65) (f 64 1).toInt from by first | (unfold qM6; intro h; exact absurd h (by decide))) (show (-1 : Int32).toInt = -1 ∨ (-1 : Int32).toInt = zPol (f 65) (Int32.ofInt (zts (f 65) (f 64 1).toInt 0)) (zte (f 65) (f 64 1).toInt 0 - zts (f 65) (f 64 1).toInt 0) from by first | (exact Or.inl rfl)) (show zFm I0 L0 R0 S71 from by first | (exact rp4_S71))
            · skip
              have g1272 := i_ne h1006
              have li1273 : (6 : Int32).toInt = 6 := rfl
              refine zd (fun h1274 => ?_) (fun h1274 => ?_)
              · skip
                have g1275 := i_eq h1274
                have q1276 : (mI S3 64 3).toInt = (mI S1 64 3).toInt := zG_zi (f := mI S1) hL_S3 rfl
                have f1277 := zG_s hI_S3 (0) (100) (c := 64) (k := 3) (by decide)
                refine sp_129_64_sq (p0 := ((mI S3 64 3).toInt)) (I0 := I0) (L0 := L0) (R0 := R0) (by omega) (by omega) (zR_dn_zY hI_S3) (show (mI S3 64 3).toInt = ((mI S3 64 3).toInt) from by omega) (show zFm I0 L0 R0 S3 from by first | (exact rp1_S3)) (fun v74 S73 hL_S73 hp_v74 rp0_S73 rp1_S73 rp2_S73 rp3_S73 rp4_S73 => zi_n ⟨zG_T hL_S73, ?_⟩)
                have hI_S73 := zR_up_zY hI_S3 hL_S73
                have f1278 := zG_s hI_S73 (0) (100) (c := 64) (k := 2) (by decide)
                have rp0_S73 : (mI S73 64 2).toInt = tk true (f 65) (f 64 1).toInt ((mI S3 64 3).toInt) := by
                  have z := rp0_S73
                  (try rw [show mI S3 65 = f 65 from funext (fun k => zG_z hI_S3 rfl)] at z)
                  (try rw [show mI S3 64 1 = f 64 1 from zG_z hI_S3 rfl] at z)
                  exact z
                have f1279 := zG_s hI_S73 (0) (100) (c := 64) (k := 3) (by decide)
                have rp1_S73 : (mI S73 64 3).toInt = tk false (f 65) (f 64 1).toInt (mI S73 64 2).toInt := by
                  have z := rp1_S73
                  (try rw [show mI S3 65 = f 65 from funext (fun k => zG_z hI_S3 rfl)] at z)
                  (try rw [show mI S3 64 1 = f 64 1 from zG_z hI_S3 rfl] at z)
                  exact z
                have rp2_S73 : (v74.toInt = 1 ∧ (mI S73 64 2).toInt < (mI S73 64 3).toInt) ∨ (v74.toInt = 0 ∧ (mI S73 64 3).toInt ≤ (mI S73 64 2).toInt) := by
                  have z := rp2_S73
                  (try rw [show mI S3 65 = f 65 from funext (fun k => zG_z hI_S3 rfl)] at z)
                  (try rw [show mI S3 64 1 = f 64 1 from zG_z hI_S3 rfl] at z)
                  exact z
                have rp3_S73 : (mI S73 64 2).toInt ≤ (mI S73 64 3).toInt := by
                  have z := rp3_S73
                  (try rw [show mI S3 65 = f 65 from funext (fun k => zG_z hI_S3 rfl)] at z)
                  (try rw [show mI S3 64 1 = f 64 1 from zG_z hI_S3 rfl] at z)
                  exact z
                have rp4_S73 : zFm I0 L0 R0 S73 := by
                  have z := rp4_S73
                  (try rw [show mI S3 65 = f 65 from funext (fun k => zG_z hI_S3 rfl)] at z)
                  (try rw [show mI S3 64 1 = f 64 1 from zG_z hI_S3 rfl] at z)
                  exact z
                have li1280 : (16 : Int32).toInt = 16 := rfl
                have li1281 : (1500 : Int32).toInt = 1500 := rfl
                refine sp_134_64_sq (I0 := I0) (L0 := L0) (R0 := R0) ((16 : Int32)) ((1500 : Int32)) (by omega) (by omega) (zR_dn_zY0 hI_S73) (show (mI S73 64 2).toInt ≤ (mI S73 64 3).toInt from by omega) (show zFm I0 L0 R0 S73 from by first | (exact rp4_S73)) (fun v76 S75 hL_S75 hp_v76 rp0_S75 rp1_S75 => zi_n ⟨zG_T hL_S75, ?_⟩)
                have hI_S75 := zR_up_zY0 hI_S73 hL_S75
                have rp0_S75 : v76.toInt = zNum (f 65) (mI S73 64 2).toInt (mI S73 64 3).toInt (16 : Int32).toInt (1500 : Int32).toInt := by
                  have z := rp0_S75
                  (try rw [show mI S73 65 = f 65 from funext (fun k => zG_z hI_S73 rfl)] at z)
                  (try rw [show mI S73 64 1 = f 64 1 from zG_z hI_S73 rfl] at z)
                  exact z
                have rp1_S75 : zFm I0 L0 R0 S75 := by
                  have z := rp1_S75
                  (try rw [show mI S73 65 = f 65 from funext (fun k => zG_z hI_S73 rfl)] at z)
                  (try rw [show mI S73 64 1 = f 64 1 from zG_z hI_S73 rfl] at z)
                  exact z
                have b1282 := i_bd v76
                have li1283 : (-1 : Int32).toInt = -1 := rfl
                refine zd (fun h1284 => ?_) (fun h1284 => ?_)
                · skip
                  have g1285 := i_eq h1284
                  have hI1286 : zR f r C Z N (ma_put S75 66 0 (.inl v76)) := zG_sa hI_S75 (-1) (1500) rfl (by decide) (by decide) (by decide) trivial (by omega) (by omega)
                  have f1287 := zG_a hI 4 (-1) (1500) (c := 66) (k := 1) (by decide) (by decide)
                  have q1288 : (mI S1 66 1).toInt = (mI S 66 1).toInt := zG_zi (f := mI (ma_put S 64 3 (.inl (0 : Int32)))) hL_S1 rfl
                  have f1289 := zG_a hI_S1 4 (-1) (1500) (c := 66) (k := 1) (by decide) (by decide)
                  have q1290 : (mI S3 66 1).toInt = (mI S1 66 1).toInt := zG_zi (f := mI S1) hL_S3 rfl
                  have f1291 := zG_a hI_S3 4 (-1) (1500) (c := 66) (k := 1) (by decide) (by decide)
                  have q1292 : (mI S73 66 1).toInt = (mI S3 66 1).toInt := zG_zi (f := mI S3) hL_S73 rfl
                  have f1293 := zG_a hI_S73 4 (-1) (1500) (c := 66) (k := 1) (by decide) (by decide)
                  have q1294 : (mI S75 66 1).toInt = (mI S73 66 1).toInt := zG_zi (f := mI S73) hL_S75 rfl
                  have f1295 := zG_a hI_S75 4 (-1) (1500) (c := 66) (k := 1) (by decide) (by decide)
                  have q1296 : (mI S75 64 2).toInt = (mI S73 64 2).toInt := zG_zi (f := mI S73) hL_S75 rfl
                  have f1297 := zG_s hI_S75 (0) (100) (c := 64) (k := 2) (by decide)
                  have f1298 := zG_a hI 4 (-1) (1500) (c := 66) (k := 2) (by decide) (by decide)
                  have q1299 : (mI S1 66 2).toInt = (mI S 66 2).toInt := zG_zi (f := mI (ma_put S 64 3 (.inl (0 : Int32)))) hL_S1 rfl
                  have f1300 := zG_a hI_S1 4 (-1) (1500) (c := 66) (k := 2) (by decide) (by decide)
                  have q1301 : (mI S3 66 2).toInt = (mI S1 66 2).toInt := zG_zi (f := mI S1) hL_S3 rfl
                  have f1302 := zG_a hI_S3 4 (-1) (1500) (c := 66) (k := 2) (by decide) (by decide)
                  have q1303 : (mI S73 66 2).toInt = (mI S3 66 2).toInt := zG_zi (f := mI S3) hL_S73 rfl
                  have f1304 := zG_a hI_S73 4 (-1) (1500) (c := 66) (k := 2) (by decide) (by decide)
                  have q1305 : (mI S75 66 2).toInt = (mI S73 66 2).toInt := zG_zi (f := mI S73) hL_S75 rfl
                  have f1306 := zG_a hI_S75 4 (-1) (1500) (c := 66) (k := 2) (by decide) (by decide)
                  have f1307 := zG_a hI 4 (-1) (1500) (c := 66) (k := 3) (by decide) (by decide)
                  have q1308 : (mI S1 66 3).toInt = (mI S 66 3).toInt := zG_zi (f := mI (ma_put S 64 3 (.inl (0 : Int32)))) hL_S1 rfl
                  have f1309 := zG_a hI_S1 4 (-1) (1500) (c := 66) (k := 3) (by decide) (by decide)
                  have q1310 : (mI S3 66 3).toInt = (mI S1 66 3).toInt := zG_zi (f := mI S1) hL_S3 rfl
                  have f1311 := zG_a hI_S3 4 (-1) (1500) (c := 66) (k := 3) (by decide) (by decide)
                  have q1312 : (mI S73 66 3).toInt = (mI S3 66 3).toInt := zG_zi (f := mI S3) hL_S73 rfl
                  have f1313 := zG_a hI_S73 4 (-1) (1500) (c := 66) (k := 3) (by decide) (by decide)
                  have q1314 : (mI S75 66 3).toInt = (mI S73 66 3).toInt := zG_zi (f := mI S73) hL_S75 rfl
                  have f1315 := zG_a hI_S75 4 (-1) (1500) (c := 66) (k := 3) (by decide) (by decide)
                  exact K ((-1 : Int32)) _ hI1286 (show (-1 : Int32).toInt = -1 ∨ (0 ≤ (-1 : Int32).toInt ∧ (-1 : Int32).toInt ≤ 6 ∧ 0 ≤ v76.toInt ∧ ((-1 : Int32).toInt = 3 → 0 ≤ (mI S75 66 1).toInt) ∧ ((-1 : Int32).toInt = 6 → 16 ≤ (mI S75 66 1).toInt)) from by omega) (show ((-1 : Int32).toInt = -1 ∧ -1 - (mI S75 64 2).toInt = zAns (f 65) (f 64 1).toInt) ∨ ((-1 : Int32).toInt ≠ -1 ∧ zFin (-1 : Int32).toInt v76.toInt (mI S75 66 1).toInt = zAns (f 65) (f 64 1).toInt) from by first | (have qk : v4.toInt = 6 := (by omega); have q := zAns_go (s := (mI S1 64 2)) (e := (mI S1 64 3).toInt) (k := v4.toInt) rp0_S1 rp1_S1 rp0_S3 (by omega); rw [show zPts v4.toInt = [0, 4, 5] from by rw [qk]; rfl] at q; have q2 := q.trans (zRun_badp (s := (mI S73 64 2)) (e := (mI S73 64 3).toInt) (x := v76.toInt) (p := (mI S1 64 3).toInt) rp0_S73 (by omega) rp1_S73 (show v76.toInt = zNum (f 65) (mI S73 64 2).toInt (mI S73 64 3).toInt 16 1500 from rp0_S75) (by omega)); exact Or.inl ⟨rfl, by omega⟩) | (omega) | (exfalso; omega)) (show (-1 : Int32).toInt = 5 → (v76.toInt = zVal (f 65) (f 64 1).toInt 0 1 ∧ (mI S75 66 1).toInt = zVal (f 65) (f 64 1).toInt 6 2 ∧ (mI S75 66 2).toInt = zVal (f 65) (f 64 1).toInt 3 3 ∧ (mI S75 66 3).toInt = zVal (f 65) (f 64 1).toInt 7 4) from by first | (intro h; exact absurd h (by decide))) (show ((-1 : Int32).toInt = 0 ∨ (-1 : Int32).toInt = 4) → (v76.toInt = zVal (f 65) (f 64 1).toInt 0 1 ∧ (mI S75 66 1).toInt = zVal (f 65) (f 64 1).toInt 6 2) from by first | (intro h; exact absurd h (by decide))) (show qM1 (-1 : Int32) v76 (f 65) (f 64 1).toInt from by first | (unfold qM1; intro h; exact absurd h (by decide))) (show qM3 (-1 : Int32) v76 (mI S75 66 1) (mI S75 66 2) (mI S75 66 3) (f 65) (f 64 1).toInt from by first | (unfold qM3; intro h; exact absurd h (by decide))) (show qM6 (-1 : Int32) v76 (mI S75 66 1) (mI S75 66 2) (f 65) (f 64 1).toInt from by first | (unfold qM6; intro h; exact absurd h (by decide))) (show (-1 : Int32).toInt = -1 ∨ (-1 : Int32).toInt = zPol (f 65) (Int32.ofInt (zts (f 65) (f 64 1).toInt 0)) (zte (f 65) (f 64 1).toInt 0 - zts (f 65) (f 64 1).toInt 0) from by first | (exact Or.inl rfl)) (show zFm I0 L0 R0 (ma_put S75 66 0 (.inl v76)) from by first | (exact (fn9_p rp1_S75 (by decide))))
                · skip
                  have g1316 := i_ne h1284
                  have hI1317 : zR f r C Z N (ma_put S75 66 0 (.inl v76)) := zG_sa hI_S75 (-1) (1500) rfl (by decide) (by decide) (by decide) trivial (by omega) (by omega)
                  have q1318 : (mI S75 64 3).toInt = (mI S73 64 3).toInt := zG_zi (f := mI S73) hL_S75 rfl
                  have f1319 := zG_s hI_S75 (0) (100) (c := 64) (k := 3) (by decide)
                  refine sp_129_64_sq (p0 := ((mI S75 64 3).toInt)) (I0 := I0) (L0 := L0) (R0 := R0) (by omega) (by omega) (zR_dn_zY hI1317) (show (mI S75 64 3).toInt = ((mI S75 64 3).toInt) from by omega) (show zFm I0 L0 R0 (ma_put S75 66 0 (.inl v76)) from by first | (exact (fn9_p rp1_S75 (by decide)))) (fun v78 S77 hL_S77 hp_v78 rp0_S77 rp1_S77 rp2_S77 rp3_S77 rp4_S77 => zi_n ⟨zG_T hL_S77, ?_⟩)
                  have hI_S77 := zR_up_zY hI1317 hL_S77
                  have f1320 := zG_s hI_S77 (0) (100) (c := 64) (k := 2) (by decide)
                  have rp0_S77 : (mI S77 64 2).toInt = tk true (f 65) (f 64 1).toInt ((mI S75 64 3).toInt) := by
                    have z := rp0_S77
                    (try rw [show mI (ma_put S75 66 0 (.inl v76)) 65 = f 65 from funext (fun k => zG_z hI1317 rfl)] at z)
                    (try rw [show mI (ma_put S75 66 0 (.inl v76)) 64 1 = f 64 1 from zG_z hI1317 rfl] at z)
                    exact z
                  have f1321 := zG_s hI_S77 (0) (100) (c := 64) (k := 3) (by decide)
                  have rp1_S77 : (mI S77 64 3).toInt = tk false (f 65) (f 64 1).toInt (mI S77 64 2).toInt := by
                    have z := rp1_S77
                    (try rw [show mI (ma_put S75 66 0 (.inl v76)) 65 = f 65 from funext (fun k => zG_z hI1317 rfl)] at z)
                    (try rw [show mI (ma_put S75 66 0 (.inl v76)) 64 1 = f 64 1 from zG_z hI1317 rfl] at z)
                    exact z
                  have rp2_S77 : (v78.toInt = 1 ∧ (mI S77 64 2).toInt < (mI S77 64 3).toInt) ∨ (v78.toInt = 0 ∧ (mI S77 64 3).toInt ≤ (mI S77 64 2).toInt) := by
                    have z := rp2_S77
                    (try rw [show mI (ma_put S75 66 0 (.inl v76)) 65 = f 65 from funext (fun k => zG_z hI1317 rfl)] at z)
                    (try rw [show mI (ma_put S75 66 0 (.inl v76)) 64 1 = f 64 1 from zG_z hI1317 rfl] at z)
                    exact z
                  have rp3_S77 : (mI S77 64 2).toInt ≤ (mI S77 64 3).toInt := by
                    have z := rp3_S77
                    (try rw [show mI (ma_put S75 66 0 (.inl v76)) 65 = f 65 from funext (fun k => zG_z hI1317 rfl)] at z)
                    (try rw [show mI (ma_put S75 66 0 (.inl v76)) 64 1 = f 64 1 from zG_z hI1317 rfl] at z)
                    exact z
                  have rp4_S77 : zFm I0 L0 R0 S77 := by
                    have z := rp4_S77
                    (try rw [show mI (ma_put S75 66 0 (.inl v76)) 65 = f 65 from funext (fun k => zG_z hI1317 rfl)] at z)
                    (try rw [show mI (ma_put S75 66 0 (.inl v76)) 64 1 = f 64 1 from zG_z hI1317 rfl] at z)
                    exact z
                  have li1322 : (256 : Int32).toInt = 256 := rfl
                  have q1323 : (mI S77 66 0).toInt = v76.toInt := zG_zi (f := mI (ma_put S75 66 0 (.inl v76))) hL_S77 rfl
                  have f1324 := zG_a hI_S77 4 (-1) (1500) (c := 66) (k := 0) (by decide) (by decide)
                  first | have f1325 := i_div (x := (mI S77 66 0)) (y := (4 : Int32)) (by omega) (by omega) | have b1326 := i_bd ((mI S77 66 0) / (4 : Int32))
                  try have f1327 : (((mI S77 66 0) / (4 : Int32))).toInt = (mI S77 66 0).toInt / 4 := (i_div (x := (mI S77 66 0)) (y := (4 : Int32)) (by omega) (by omega)).2.2.1
                  have f1328 := i_min (256 : Int32) ((mI S77 66 0) / (4 : Int32))
                  refine sp_134_64_sq (I0 := I0) (L0 := L0) (R0 := R0) ((16 : Int32)) ((if ((mI S77 66 0) / (4 : Int32)) < (256 : Int32) then ((mI S77 66 0) / (4 : Int32)) else (256 : Int32))) (by omega) (by omega) (zR_dn_zY0 hI_S77) (show (mI S77 64 2).toInt ≤ (mI S77 64 3).toInt from by omega) (show zFm I0 L0 R0 S77 from by first | (exact rp4_S77)) (fun v80 S79 hL_S79 hp_v80 rp0_S79 rp1_S79 => zi_n ⟨zG_T hL_S79, ?_⟩)
                  have hI_S79 := zR_up_zY0 hI_S77 hL_S79
                  have rp0_S79 : v80.toInt = zNum (f 65) (mI S77 64 2).toInt (mI S77 64 3).toInt (16 : Int32).toInt (if ((mI S77 66 0) / (4 : Int32)) < (256 : Int32) then ((mI S77 66 0) / (4 : Int32)) else (256 : Int32)).toInt := by
                    have z := rp0_S79
                    (try rw [show mI S77 65 = f 65 from funext (fun k => zG_z hI_S77 rfl)] at z)
                    (try rw [show mI S77 64 1 = f 64 1 from zG_z hI_S77 rfl] at z)
                    exact z
                  have rp1_S79 : zFm I0 L0 R0 S79 := by
                    have z := rp1_S79
                    (try rw [show mI S77 65 = f 65 from funext (fun k => zG_z hI_S77 rfl)] at z)
                    (try rw [show mI S77 64 1 = f 64 1 from zG_z hI_S77 rfl] at z)
                    exact z
                  have b1329 := i_bd v80
                  refine zd (fun h1330 => ?_) (fun h1330 => ?_)
                  · skip
                    have g1331 := i_eq h1330
                    have hI1332 : zR f r C Z N (ma_put S79 66 1 (.inl v80)) := zG_sa hI_S79 (-1) (1500) rfl (by decide) (by decide) (by decide) trivial (by omega) (by omega)
                    have q1333 : (mI S79 66 0).toInt = (mI S77 66 0).toInt := zG_zi (f := mI S77) hL_S79 rfl
                    have f1334 := zG_a hI_S79 4 (-1) (1500) (c := 66) (k := 0) (by decide) (by decide)
                    have q1335 : (mI S79 64 2).toInt = (mI S77 64 2).toInt := zG_zi (f := mI S77) hL_S79 rfl
                    have f1336 := zG_s hI_S79 (0) (100) (c := 64) (k := 2) (by decide)
                    have f1337 := zG_a hI 4 (-1) (1500) (c := 66) (k := 2) (by decide) (by decide)
                    have q1338 : (mI S1 66 2).toInt = (mI S 66 2).toInt := zG_zi (f := mI (ma_put S 64 3 (.inl (0 : Int32)))) hL_S1 rfl
                    have f1339 := zG_a hI_S1 4 (-1) (1500) (c := 66) (k := 2) (by decide) (by decide)
                    have q1340 : (mI S3 66 2).toInt = (mI S1 66 2).toInt := zG_zi (f := mI S1) hL_S3 rfl
                    have f1341 := zG_a hI_S3 4 (-1) (1500) (c := 66) (k := 2) (by decide) (by decide)
                    have q1342 : (mI S73 66 2).toInt = (mI S3 66 2).toInt := zG_zi (f := mI S3) hL_S73 rfl
                    have f1343 := zG_a hI_S73 4 (-1) (1500) (c := 66) (k := 2) (by decide) (by decide)
                    have q1344 : (mI S75 66 2).toInt = (mI S73 66 2).toInt := zG_zi (f := mI S73) hL_S75 rfl
                    have f1345 := zG_a hI_S75 4 (-1) (1500) (c := 66) (k := 2) (by decide) (by decide)
                    have q1346 : (mI S77 66 2).toInt = (mI S75 66 2).toInt := zG_zi (f := mI (ma_put S75 66 0 (.inl v76))) hL_S77 rfl
                    have f1347 := zG_a hI_S77 4 (-1) (1500) (c := 66) (k := 2) (by decide) (by decide)
                    have q1348 : (mI S79 66 2).toInt = (mI S77 66 2).toInt := zG_zi (f := mI S77) hL_S79 rfl
                    have f1349 := zG_a hI_S79 4 (-1) (1500) (c := 66) (k := 2) (by decide) (by decide)
                    have f1350 := zG_a hI 4 (-1) (1500) (c := 66) (k := 3) (by decide) (by decide)
                    have q1351 : (mI S1 66 3).toInt = (mI S 66 3).toInt := zG_zi (f := mI (ma_put S 64 3 (.inl (0 : Int32)))) hL_S1 rfl
                    have f1352 := zG_a hI_S1 4 (-1) (1500) (c := 66) (k := 3) (by decide) (by decide)
                    have q1353 : (mI S3 66 3).toInt = (mI S1 66 3).toInt := zG_zi (f := mI S1) hL_S3 rfl
                    have f1354 := zG_a hI_S3 4 (-1) (1500) (c := 66) (k := 3) (by decide) (by decide)
                    have q1355 : (mI S73 66 3).toInt = (mI S3 66 3).toInt := zG_zi (f := mI S3) hL_S73 rfl
                    have f1356 := zG_a hI_S73 4 (-1) (1500) (c := 66) (k := 3) (by decide) (by decide)
                    have q1357 : (mI S75 66 3).toInt = (mI S73 66 3).toInt := zG_zi (f := mI S73) hL_S75 rfl
                    have f1358 := zG_a hI_S75 4 (-1) (1500) (c := 66) (k := 3) (by decide) (by decide)
                    have q1359 : (mI S77 66 3).toInt = (mI S75 66 3).toInt := zG_zi (f := mI (ma_put S75 66 0 (.inl v76))) hL_S77 rfl
                    have f1360 := zG_a hI_S77 4 (-1) (1500) (c := 66) (k := 3) (by decide) (by decide)
                    have q1361 : (mI S79 66 3).toInt = (mI S77 66 3).toInt := zG_zi (f := mI S77) hL_S79 rfl
                    have f1362 := zG_a hI_S79 4 (-1) (1500) (c := 66) (k := 3) (by decide) (by decide)
                    exact K ((-1 : Int32)) _ hI1332 (show (-1 : Int32).toInt = -1 ∨ (0 ≤ (-1 : Int32).toInt ∧ (-1 : Int32).toInt ≤ 6 ∧ 0 ≤ (mI S79 66 0).toInt ∧ ((-1 : Int32).toInt = 3 → 0 ≤ v80.toInt) ∧ ((-1 : Int32).toInt = 6 → 16 ≤ v80.toInt)) from by omega) (show ((-1 : Int32).toInt = -1 ∧ -1 - (mI S79 64 2).toInt = zAns (f 65) (f 64 1).toInt) ∨ ((-1 : Int32).toInt ≠ -1 ∧ zFin (-1 : Int32).toInt (mI S79 66 0).toInt v80.toInt = zAns (f 65) (f 64 1).toInt) from by first | (have qk : v4.toInt = 6 := (by omega); have q := zAns_go (s := (mI S1 64 2)) (e := (mI S1 64 3).toInt) (k := v4.toInt) rp0_S1 rp1_S1 rp0_S3 (by omega); rw [show zPts v4.toInt = [0, 4, 5] from by rw [qk]; rfl] at q; replace q := q.trans (zRun_ok0 (s := (mI S73 64 2)) (e := (mI S73 64 3).toInt) (x := v76.toInt) (p := (mI S1 64 3).toInt) rp0_S73 (by omega) rp1_S73 (show v76.toInt = zNum (f 65) (mI S73 64 2).toInt (mI S73 64 3).toInt 16 1500 from rp0_S75) (by omega)); have q2 := q.trans (zRun_badp (s := (mI S77 64 2)) (e := (mI S77 64 3).toInt) (x := v80.toInt) (p := (mI S73 64 3).toInt) rp0_S77 (by omega) rp1_S77 (show v80.toInt = zNum (f 65) (mI S77 64 2).toInt (mI S77 64 3).toInt 16 (zmn v76.toInt) from (show v80.toInt = zNum (f 65) (mI S77 64 2).toInt (mI S77 64 3).toInt 16 _ from rp0_S79).trans (congrArg (zNum (f 65) (mI S77 64 2).toInt (mI S77 64 3).toInt 16) (zmn_of (by omega) (by omega) (by omega)))) (by omega)); exact Or.inl ⟨rfl, by omega⟩) | (omega) | (exfalso; omega)) (show (-1 : Int32).toInt = 5 → ((mI S79 66 0).toInt = zVal (f 65) (f 64 1).toInt 0 1 ∧ v80.toInt = zVal (f 65) (f 64 1).toInt 6 2 ∧ (mI S79 66 2).toInt = zVal (f 65) (f 64 1).toInt 3 3 ∧ (mI S79 66 3).toInt = zVal (f 65) (f 64 1).toInt 7 4) from by first | (intro h; exact absurd h (by decide))) (show ((-1 : Int32).toInt = 0 ∨ (-1 : Int32).toInt = 4) → ((mI S79 66 0).toInt = zVal (f 65) (f 64 1).toInt 0 1 ∧ v80.toInt = zVal (f 65) (f 64 1).toInt 6 2) from by first | (intro h; exact absurd h (by decide))) (show qM1 (-1 : Int32) (mI S79 66 0) (f 65) (f 64 1).toInt from by first | (unfold qM1; intro h; exact absurd h (by decide))) (show qM3 (-1 : Int32) (mI S79 66 0) v80 (mI S79 66 2) (mI S79 66 3) (f 65) (f 64 1).toInt from by first | (unfold qM3; intro h; exact absurd h (by decide))) (show qM6 (-1 : Int32) (mI S79 66 0) v80 (mI S79 66 2) (f 65) (f 64 1).toInt from by first | (unfold qM6; intro h; exact absurd h (by decide))) (show (-1 : Int32).toInt = -1 ∨ (-1 : Int32).toInt = zPol (f 65) (Int32.ofInt (zts (f 65) (f 64 1).toInt 0)) (zte (f 65) (f 64 1).toInt 0 - zts (f 65) (f 64 1).toInt 0) from by first | (exact Or.inl rfl)) (show zFm I0 L0 R0 (ma_put S79 66 1 (.inl v80)) from by first | (exact (fn9_p rp1_S79 (by decide))))
                  · skip
                    have g1363 := i_ne h1330
                    have hI1364 : zR f r C Z N (ma_put S79 66 1 (.inl v80)) := zG_sa hI_S79 (-1) (1500) rfl (by decide) (by decide) (by decide) trivial (by omega) (by omega)
                    have q1365 : (mI S79 64 3).toInt = (mI S77 64 3).toInt := zG_zi (f := mI S77) hL_S79 rfl
                    have f1366 := zG_s hI_S79 (0) (100) (c := 64) (k := 3) (by decide)
                    refine sp_129_64_sq (p0 := ((mI S79 64 3).toInt)) (I0 := I0) (L0 := L0) (R0 := R0) (by omega) (by omega) (zR_dn_zY hI1364) (show (mI S79 64 3).toInt = ((mI S79 64 3).toInt) from by omega) (show zFm I0 L0 R0 (ma_put S79 66 1 (.inl v80)) from by first | (exact (fn9_p rp1_S79 (by decide)))) (fun v82 S81 hL_S81 hp_v82 rp0_S81 rp1_S81 rp2_S81 rp3_S81 rp4_S81 => zi_n ⟨zG_T hL_S81, ?_⟩)
                    have hI_S81 := zR_up_zY hI1364 hL_S81
                    have f1367 := zG_s hI_S81 (0) (100) (c := 64) (k := 2) (by decide)
                    have rp0_S81 : (mI S81 64 2).toInt = tk true (f 65) (f 64 1).toInt ((mI S79 64 3).toInt) := by
                      have z := rp0_S81
                      (try rw [show mI (ma_put S79 66 1 (.inl v80)) 65 = f 65 from funext (fun k => zG_z hI1364 rfl)] at z)
                      (try rw [show mI (ma_put S79 66 1 (.inl v80)) 64 1 = f 64 1 from zG_z hI1364 rfl] at z)
                      exact z
                    have f1368 := zG_s hI_S81 (0) (100) (c := 64) (k := 3) (by decide)
                    have rp1_S81 : (mI S81 64 3).toInt = tk false (f 65) (f 64 1).toInt (mI S81 64 2).toInt := by
                      have z := rp1_S81
                      (try rw [show mI (ma_put S79 66 1 (.inl v80)) 65 = f 65 from funext (fun k => zG_z hI1364 rfl)] at z)
                      (try rw [show mI (ma_put S79 66 1 (.inl v80)) 64 1 = f 64 1 from zG_z hI1364 rfl] at z)
                      exact z
                    have rp2_S81 : (v82.toInt = 1 ∧ (mI S81 64 2).toInt < (mI S81 64 3).toInt) ∨ (v82.toInt = 0 ∧ (mI S81 64 3).toInt ≤ (mI S81 64 2).toInt) := by
                      have z := rp2_S81
                      (try rw [show mI (ma_put S79 66 1 (.inl v80)) 65 = f 65 from funext (fun k => zG_z hI1364 rfl)] at z)
                      (try rw [show mI (ma_put S79 66 1 (.inl v80)) 64 1 = f 64 1 from zG_z hI1364 rfl] at z)
                      exact z
                    have rp3_S81 : (mI S81 64 2).toInt ≤ (mI S81 64 3).toInt := by
                      have z := rp3_S81
                      (try rw [show mI (ma_put S79 66 1 (.inl v80)) 65 = f 65 from funext (fun k => zG_z hI1364 rfl)] at z)
                      (try rw [show mI (ma_put S79 66 1 (.inl v80)) 64 1 = f 64 1 from zG_z hI1364 rfl] at z)
                      exact z
                    have rp4_S81 : zFm I0 L0 R0 S81 := by
                      have z := rp4_S81
                      (try rw [show mI (ma_put S79 66 1 (.inl v80)) 65 = f 65 from funext (fun k => zG_z hI1364 rfl)] at z)
                      (try rw [show mI (ma_put S79 66 1 (.inl v80)) 64 1 = f 64 1 from zG_z hI1364 rfl] at z)
                      exact z
                    have li1369 : (100 : Int32).toInt = 100 := rfl
                    refine sp_134_64_sq (I0 := I0) (L0 := L0) (R0 := R0) ((0 : Int32)) ((100 : Int32)) (by omega) (by omega) (zR_dn_zY0 hI_S81) (show (mI S81 64 2).toInt ≤ (mI S81 64 3).toInt from by omega) (show zFm I0 L0 R0 S81 from by first | (exact rp4_S81)) (fun v84 S83 hL_S83 hp_v84 rp0_S83 rp1_S83 => zi_n ⟨zG_T hL_S83, ?_⟩)
                    have hI_S83 := zR_up_zY0 hI_S81 hL_S83
                    have rp0_S83 : v84.toInt = zNum (f 65) (mI S81 64 2).toInt (mI S81 64 3).toInt (0 : Int32).toInt (100 : Int32).toInt := by
                      have z := rp0_S83
                      (try rw [show mI S81 65 = f 65 from funext (fun k => zG_z hI_S81 rfl)] at z)
                      (try rw [show mI S81 64 1 = f 64 1 from zG_z hI_S81 rfl] at z)
                      exact z
                    have rp1_S83 : zFm I0 L0 R0 S83 := by
                      have z := rp1_S83
                      (try rw [show mI S81 65 = f 65 from funext (fun k => zG_z hI_S81 rfl)] at z)
                      (try rw [show mI S81 64 1 = f 64 1 from zG_z hI_S81 rfl] at z)
                      exact z
                    have b1370 := i_bd v84
                    refine zd (fun h1371 => ?_) (fun h1371 => ?_)
                    · skip
                      have g1372 := i_eq h1371
                      have hI1373 : zR f r C Z N (ma_put S83 66 2 (.inl v84)) := zG_sa hI_S83 (-1) (1500) rfl (by decide) (by decide) (by decide) trivial (by omega) (by omega)
                      have q1374 : (mI S79 66 0).toInt = (mI S77 66 0).toInt := zG_zi (f := mI S77) hL_S79 rfl
                      have f1375 := zG_a hI_S79 4 (-1) (1500) (c := 66) (k := 0) (by decide) (by decide)
                      have q1376 : (mI S81 66 0).toInt = (mI S79 66 0).toInt := zG_zi (f := mI (ma_put S79 66 1 (.inl v80))) hL_S81 rfl
                      have f1377 := zG_a hI_S81 4 (-1) (1500) (c := 66) (k := 0) (by decide) (by decide)
                      have q1378 : (mI S83 66 0).toInt = (mI S81 66 0).toInt := zG_zi (f := mI S81) hL_S83 rfl
                      have f1379 := zG_a hI_S83 4 (-1) (1500) (c := 66) (k := 0) (by decide) (by decide)
                      have q1380 : (mI S81 66 1).toInt = v80.toInt := zG_zi (f := mI (ma_put S79 66 1 (.inl v80))) hL_S81 rfl
                      have f1381 := zG_a hI_S81 4 (-1) (1500) (c := 66) (k := 1) (by decide) (by decide)
                      have q1382 : (mI S83 66 1).toInt = (mI S81 66 1).toInt := zG_zi (f := mI S81) hL_S83 rfl
                      have f1383 := zG_a hI_S83 4 (-1) (1500) (c := 66) (k := 1) (by decide) (by decide)
                      have q1384 : (mI S83 64 2).toInt = (mI S81 64 2).toInt := zG_zi (f := mI S81) hL_S83 rfl
                      have f1385 := zG_s hI_S83 (0) (100) (c := 64) (k := 2) (by decide)
                      have f1386 := zG_a hI 4 (-1) (1500) (c := 66) (k := 3) (by decide) (by decide)
                      have q1387 : (mI S1 66 3).toInt = (mI S 66 3).toInt := zG_zi (f := mI (ma_put S 64 3 (.inl (0 : Int32)))) hL_S1 rfl
                      have f1388 := zG_a hI_S1 4 (-1) (1500) (c := 66) (k := 3) (by decide) (by decide)
                      have q1389 : (mI S3 66 3).toInt = (mI S1 66 3).toInt := zG_zi (f := mI S1) hL_S3 rfl
                      have f1390 := zG_a hI_S3 4 (-1) (1500) (c := 66) (k := 3) (by decide) (by decide)
                      have q1391 : (mI S73 66 3).toInt = (mI S3 66 3).toInt := zG_zi (f := mI S3) hL_S73 rfl
                      have f1392 := zG_a hI_S73 4 (-1) (1500) (c := 66) (k := 3) (by decide) (by decide)
                      have q1393 : (mI S75 66 3).toInt = (mI S73 66 3).toInt := zG_zi (f := mI S73) hL_S75 rfl
                      have f1394 := zG_a hI_S75 4 (-1) (1500) (c := 66) (k := 3) (by decide) (by decide)
                      have q1395 : (mI S77 66 3).toInt = (mI S75 66 3).toInt := zG_zi (f := mI (ma_put S75 66 0 (.inl v76))) hL_S77 rfl
                      have f1396 := zG_a hI_S77 4 (-1) (1500) (c := 66) (k := 3) (by decide) (by decide)
                      have q1397 : (mI S79 66 3).toInt = (mI S77 66 3).toInt := zG_zi (f := mI S77) hL_S79 rfl
                      have f1398 := zG_a hI_S79 4 (-1) (1500) (c := 66) (k := 3) (by decide) (by decide)
                      have q1399 : (mI S81 66 3).toInt = (mI S79 66 3).toInt := zG_zi (f := mI (ma_put S79 66 1 (.inl v80))) hL_S81 rfl
                      have f1400 := zG_a hI_S81 4 (-1) (1500) (c := 66) (k := 3) (by decide) (by decide)
                      have q1401 : (mI S83 66 3).toInt = (mI S81 66 3).toInt := zG_zi (f := mI S81) hL_S83 rfl
                      have f1402 := zG_a hI_S83 4 (-1) (1500) (c := 66) (k := 3) (by decide) (by decide)
                      exact K ((-1 : Int32)) _ hI1373 (show (-1 : Int32).toInt = -1 ∨ (0 ≤ (-1 : Int32).toInt ∧ (-1 : Int32).toInt ≤ 6 ∧ 0 ≤ (mI S83 66 0).toInt ∧ ((-1 : Int32).toInt = 3 → 0 ≤ (mI S83 66 1).toInt) ∧ ((-1 : Int32).toInt = 6 → 16 ≤ (mI S83 66 1).toInt)) from by omega) (show ((-1 : Int32).toInt = -1 ∧ -1 - (mI S83 64 2).toInt = zAns (f 65) (f 64 1).toInt) ∨ ((-1 : Int32).toInt ≠ -1 ∧ zFin (-1 : Int32).toInt (mI S83 66 0).toInt (mI S83 66 1).toInt = zAns (f 65) (f 64 1).toInt) from by first | (have qk : v4.toInt = 6 := (by omega); have q := zAns_go (s := (mI S1 64 2)) (e := (mI S1 64 3).toInt) (k := v4.toInt) rp0_S1 rp1_S1 rp0_S3 (by omega); rw [show zPts v4.toInt = [0, 4, 5] from by rw [qk]; rfl] at q; replace q := q.trans (zRun_ok0 (s := (mI S73 64 2)) (e := (mI S73 64 3).toInt) (x := v76.toInt) (p := (mI S1 64 3).toInt) rp0_S73 (by omega) rp1_S73 (show v76.toInt = zNum (f 65) (mI S73 64 2).toInt (mI S73 64 3).toInt 16 1500 from rp0_S75) (by omega)); replace q := q.trans (zRun_ok1 (s := (mI S77 64 2)) (e := (mI S77 64 3).toInt) (x := v80.toInt) (p := (mI S73 64 3).toInt) rp0_S77 (by omega) rp1_S77 (show v80.toInt = zNum (f 65) (mI S77 64 2).toInt (mI S77 64 3).toInt 16 (zmn v76.toInt) from (show v80.toInt = zNum (f 65) (mI S77 64 2).toInt (mI S77 64 3).toInt 16 _ from rp0_S79).trans (congrArg (zNum (f 65) (mI S77 64 2).toInt (mI S77 64 3).toInt 16) (zmn_of (by omega) (by omega) (by omega)))) (by omega) (by omega)); have q2 := q.trans (zRun_badp (s := (mI S81 64 2)) (e := (mI S81 64 3).toInt) (x := v84.toInt) (p := (mI S77 64 3).toInt) rp0_S81 (by omega) rp1_S81 (show v84.toInt = zNum (f 65) (mI S81 64 2).toInt (mI S81 64 3).toInt 0 100 from rp0_S83) (by omega)); exact Or.inl ⟨rfl, by omega⟩) | (omega) | (exfalso; omega)) (show (-1 : Int32).toInt = 5 → ((mI S83 66 0).toInt = zVal (f 65) (f 64 1).toInt 0 1 ∧ (mI S83 66 1).toInt = zVal (f 65) (f 64 1).toInt 6 2 ∧ v84.toInt = zVal (f 65) (f 64 1).toInt 3 3 ∧ (mI S83 66 3).toInt = zVal (f 65) (f 64 1).toInt 7 4) from by first | (intro h; exact absurd h (by decide))) (show ((-1 : Int32).toInt = 0 ∨ (-1 : Int32).toInt = 4) → ((mI S83 66 0).toInt = zVal (f 65) (f 64 1).toInt 0 1 ∧ (mI S83 66 1).toInt = zVal (f 65) (f 64 1).toInt 6 2) from by first | (intro h; exact absurd h (by decide))) (show qM1 (-1 : Int32) (mI S83 66 0) (f 65) (f 64 1).toInt from by first | (unfold qM1; intro h; exact absurd h (by decide))) (show qM3 (-1 : Int32) (mI S83 66 0) (mI S83 66 1) v84 (mI S83 66 3) (f 65) (f 64 1).toInt from by first | (unfold qM3; intro h; exact absurd h (by decide))) (show qM6 (-1 : Int32) (mI S83 66 0) (mI S83 66 1) v84 (f 65) (f 64 1).toInt from by first | (unfold qM6; intro h; exact absurd h (by decide))) (show (-1 : Int32).toInt = -1 ∨ (-1 : Int32).toInt = zPol (f 65) (Int32.ofInt (zts (f 65) (f 64 1).toInt 0)) (zte (f 65) (f 64 1).toInt 0 - zts (f 65) (f 64 1).toInt 0) from by first | (exact Or.inl rfl)) (show zFm I0 L0 R0 (ma_put S83 66 2 (.inl v84)) from by first | (exact (fn9_p rp1_S83 (by decide))))
                    · skip
                      have g1403 := i_ne h1371
                      refine zd (fun h1404 => ?_) (fun h1404 => ?_)
                      · skip
                        have g1405 := i_eq h1404
                        have hI1406 : zR f r C Z N (ma_put S83 66 2 (.inl v84)) := zG_sa hI_S83 (-1) (1500) rfl (by decide) (by decide) (by decide) trivial (by omega) (by omega)
                        have q1407 : (mI S79 66 0).toInt = (mI S77 66 0).toInt := zG_zi (f := mI S77) hL_S79 rfl
                        have f1408 := zG_a hI_S79 4 (-1) (1500) (c := 66) (k := 0) (by decide) (by decide)
                        have q1409 : (mI S81 66 0).toInt = (mI S79 66 0).toInt := zG_zi (f := mI (ma_put S79 66 1 (.inl v80))) hL_S81 rfl
                        have f1410 := zG_a hI_S81 4 (-1) (1500) (c := 66) (k := 0) (by decide) (by decide)
                        have q1411 : (mI S83 66 0).toInt = (mI S81 66 0).toInt := zG_zi (f := mI S81) hL_S83 rfl
                        have f1412 := zG_a hI_S83 4 (-1) (1500) (c := 66) (k := 0) (by decide) (by decide)
                        have q1413 : (mI S81 66 1).toInt = v80.toInt := zG_zi (f := mI (ma_put S79 66 1 (.inl v80))) hL_S81 rfl
                        have f1414 := zG_a hI_S81 4 (-1) (1500) (c := 66) (k := 1) (by decide) (by decide)
                        have q1415 : (mI S83 66 1).toInt = (mI S81 66 1).toInt := zG_zi (f := mI S81) hL_S83 rfl
                        have f1416 := zG_a hI_S83 4 (-1) (1500) (c := 66) (k := 1) (by decide) (by decide)
                        have q1417 : (mI S83 64 2).toInt = (mI S81 64 2).toInt := zG_zi (f := mI S81) hL_S83 rfl
                        have f1418 := zG_s hI_S83 (0) (100) (c := 64) (k := 2) (by decide)
                        have f1419 := zG_a hI 4 (-1) (1500) (c := 66) (k := 3) (by decide) (by decide)
                        have q1420 : (mI S1 66 3).toInt = (mI S 66 3).toInt := zG_zi (f := mI (ma_put S 64 3 (.inl (0 : Int32)))) hL_S1 rfl
                        have f1421 := zG_a hI_S1 4 (-1) (1500) (c := 66) (k := 3) (by decide) (by decide)
                        have q1422 : (mI S3 66 3).toInt = (mI S1 66 3).toInt := zG_zi (f := mI S1) hL_S3 rfl
                        have f1423 := zG_a hI_S3 4 (-1) (1500) (c := 66) (k := 3) (by decide) (by decide)
                        have q1424 : (mI S73 66 3).toInt = (mI S3 66 3).toInt := zG_zi (f := mI S3) hL_S73 rfl
                        have f1425 := zG_a hI_S73 4 (-1) (1500) (c := 66) (k := 3) (by decide) (by decide)
                        have q1426 : (mI S75 66 3).toInt = (mI S73 66 3).toInt := zG_zi (f := mI S73) hL_S75 rfl
                        have f1427 := zG_a hI_S75 4 (-1) (1500) (c := 66) (k := 3) (by decide) (by decide)
                        have q1428 : (mI S77 66 3).toInt = (mI S75 66 3).toInt := zG_zi (f := mI (ma_put S75 66 0 (.inl v76))) hL_S77 rfl
                        have f1429 := zG_a hI_S77 4 (-1) (1500) (c := 66) (k := 3) (by decide) (by decide)
                        have q1430 : (mI S79 66 3).toInt = (mI S77 66 3).toInt := zG_zi (f := mI S77) hL_S79 rfl
                        have f1431 := zG_a hI_S79 4 (-1) (1500) (c := 66) (k := 3) (by decide) (by decide)
                        have q1432 : (mI S81 66 3).toInt = (mI S79 66 3).toInt := zG_zi (f := mI (ma_put S79 66 1 (.inl v80))) hL_S81 rfl
                        have f1433 := zG_a hI_S81 4 (-1) (1500) (c := 66) (k := 3) (by decide) (by decide)
                        have q1434 : (mI S83 66 3).toInt = (mI S81 66 3).toInt := zG_zi (f := mI S81) hL_S83 rfl
                        have f1435 := zG_a hI_S83 4 (-1) (1500) (c := 66) (k := 3) (by decide) (by decide)
                        exact K ((-1 : Int32)) _ hI1406 (show (-1 : Int32).toInt = -1 ∨ (0 ≤ (-1 : Int32).toInt ∧ (-1 : Int32).toInt ≤ 6 ∧ 0 ≤ (mI S83 66 0).toInt ∧ ((-1 : Int32).toInt = 3 → 0 ≤ (mI S83 66 1).toInt) ∧ ((-1 : Int32).toInt = 6 → 16 ≤ (mI S83 66 1).toInt)) from by omega) (show ((-1 : Int32).toInt = -1 ∧ -1 - (mI S83 64 2).toInt = zAns (f 65) (f 64 1).toInt) ∨ ((-1 : Int32).toInt ≠ -1 ∧ zFin (-1 : Int32).toInt (mI S83 66 0).toInt (mI S83 66 1).toInt = zAns (f 65) (f 64 1).toInt) from by first | (have qk : v4.toInt = 6 := (by omega); have q := zAns_go (s := (mI S1 64 2)) (e := (mI S1 64 3).toInt) (k := v4.toInt) rp0_S1 rp1_S1 rp0_S3 (by omega); rw [show zPts v4.toInt = [0, 4, 5] from by rw [qk]; rfl] at q; replace q := q.trans (zRun_ok0 (s := (mI S73 64 2)) (e := (mI S73 64 3).toInt) (x := v76.toInt) (p := (mI S1 64 3).toInt) rp0_S73 (by omega) rp1_S73 (show v76.toInt = zNum (f 65) (mI S73 64 2).toInt (mI S73 64 3).toInt 16 1500 from rp0_S75) (by omega)); replace q := q.trans (zRun_ok1 (s := (mI S77 64 2)) (e := (mI S77 64 3).toInt) (x := v80.toInt) (p := (mI S73 64 3).toInt) rp0_S77 (by omega) rp1_S77 (show v80.toInt = zNum (f 65) (mI S77 64 2).toInt (mI S77 64 3).toInt 16 (zmn v76.toInt) from (show v80.toInt = zNum (f 65) (mI S77 64 2).toInt (mI S77 64 3).toInt 16 _ from rp0_S79).trans (congrArg (zNum (f 65) (mI S77 64 2).toInt (mI S77 64 3).toInt 16) (zmn_of (by omega) (by omega) (by omega)))) (by omega) (by omega)); have q2 := q.trans (zRun_badp (s := (mI S81 64 2)) (e := (mI S81 64 3).toInt) (x := v84.toInt) (p := (mI S77 64 3).toInt) rp0_S81 (by omega) rp1_S81 (show v84.toInt = zNum (f 65) (mI S81 64 2).toInt (mI S81 64 3).toInt 0 100 from rp0_S83) (by omega)); exact Or.inl ⟨rfl, by omega⟩) | (omega) | (exfalso; omega)) (show (-1 : Int32).toInt = 5 → ((mI S83 66 0).toInt = zVal (f 65) (f 64 1).toInt 0 1 ∧ (mI S83 66 1).toInt = zVal (f 65) (f 64 1).toInt 6 2 ∧ v84.toInt = zVal (f 65) (f 64 1).toInt 3 3 ∧ (mI S83 66 3).toInt = zVal (f 65) (f 64 1).toInt 7 4) from by first | (intro h; exact absurd h (by decide))) (show ((-1 : Int32).toInt = 0 ∨ (-1 : Int32).toInt = 4) → ((mI S83 66 0).toInt = zVal (f 65) (f 64 1).toInt 0 1 ∧ (mI S83 66 1).toInt = zVal (f 65) (f 64 1).toInt 6 2) from by first | (intro h; exact absurd h (by decide))) (show qM1 (-1 : Int32) (mI S83 66 0) (f 65) (f 64 1).toInt from by first | (unfold qM1; intro h; exact absurd h (by decide))) (show qM3 (-1 : Int32) (mI S83 66 0) (mI S83 66 1) v84 (mI S83 66 3) (f 65) (f 64 1).toInt from by first | (unfold qM3; intro h; exact absurd h (by decide))) (show qM6 (-1 : Int32) (mI S83 66 0) (mI S83 66 1) v84 (f 65) (f 64 1).toInt from by first | (unfold qM6; intro h; exact absurd h (by decide))) (show (-1 : Int32).toInt = -1 ∨ (-1 : Int32).toInt = zPol (f 65) (Int32.ofInt (zts (f 65) (f 64 1).toInt 0)) (zte (f 65) (f 64 1).toInt 0 - zts (f 65) (f 64 1).toInt 0) from by first | (exact Or.inl rfl)) (show zFm I0 L0 R0 (ma_put S83 66 2 (.inl v84)) from by first | (exact (fn9_p rp1_S83 (by decide))))
                      · skip
                        have g1436 := i_ne h1404
                        have hI1437 : zR f r C Z N (ma_put S83 66 2 (.inl v84)) := zG_sa hI_S83 (-1) (1500) rfl (by decide) (by decide) (by decide) trivial (by omega) (by omega)
                        have q1438 : (mI S83 64 3).toInt = (mI S81 64 3).toInt := zG_zi (f := mI S81) hL_S83 rfl
                        have f1439 := zG_s hI_S83 (0) (100) (c := 64) (k := 3) (by decide)
                        refine sp_129_64_sq (p0 := ((mI S83 64 3).toInt)) (I0 := I0) (L0 := L0) (R0 := R0) (by omega) (by omega) (zR_dn_zY hI1437) (show (mI S83 64 3).toInt = ((mI S83 64 3).toInt) from by omega) (show zFm I0 L0 R0 (ma_put S83 66 2 (.inl v84)) from by first | (exact (fn9_p rp1_S83 (by decide)))) (fun v86 S85 hL_S85 hp_v86 rp0_S85 rp1_S85 rp2_S85 rp3_S85 rp4_S85 => zi_n ⟨zG_T hL_S85, ?_⟩)
                        have hI_S85 := zR_up_zY hI1437 hL_S85
                        have f1440 := zG_s hI_S85 (0) (100) (c := 64) (k := 2) (by decide)
                        have rp0_S85 : (mI S85 64 2).toInt = tk true (f 65) (f 64 1).toInt ((mI S83 64 3).toInt) := by
                          have z := rp0_S85
                          (try rw [show mI (ma_put S83 66 2 (.inl v84)) 65 = f 65 from funext (fun k => zG_z hI1437 rfl)] at z)
                          (try rw [show mI (ma_put S83 66 2 (.inl v84)) 64 1 = f 64 1 from zG_z hI1437 rfl] at z)
                          exact z
                        have f1441 := zG_s hI_S85 (0) (100) (c := 64) (k := 3) (by decide)
                        have rp1_S85 : (mI S85 64 3).toInt = tk false (f 65) (f 64 1).toInt (mI S85 64 2).toInt := by
                          have z := rp1_S85
                          (try rw [show mI (ma_put S83 66 2 (.inl v84)) 65 = f 65 from funext (fun k => zG_z hI1437 rfl)] at z)
                          (try rw [show mI (ma_put S83 66 2 (.inl v84)) 64 1 = f 64 1 from zG_z hI1437 rfl] at z)
                          exact z
                        have rp2_S85 : (v86.toInt = 1 ∧ (mI S85 64 2).toInt < (mI S85 64 3).toInt) ∨ (v86.toInt = 0 ∧ (mI S85 64 3).toInt ≤ (mI S85 64 2).toInt) := by
                          have z := rp2_S85
                          (try rw [show mI (ma_put S83 66 2 (.inl v84)) 65 = f 65 from funext (fun k => zG_z hI1437 rfl)] at z)
                          (try rw [show mI (ma_put S83 66 2 (.inl v84)) 64 1 = f 64 1 from zG_z hI1437 rfl] at z)
                          exact z
                        have rp3_S85 : (mI S85 64 2).toInt ≤ (mI S85 64 3).toInt := by
                          have z := rp3_S85
                          (try rw [show mI (ma_put S83 66 2 (.inl v84)) 65 = f 65 from funext (fun k => zG_z hI1437 rfl)] at z)
                          (try rw [show mI (ma_put S83 66 2 (.inl v84)) 64 1 = f 64 1 from zG_z hI1437 rfl] at z)
                          exact z
                        have rp4_S85 : zFm I0 L0 R0 S85 := by
                          have z := rp4_S85
                          (try rw [show mI (ma_put S83 66 2 (.inl v84)) 65 = f 65 from funext (fun k => zG_z hI1437 rfl)] at z)
                          (try rw [show mI (ma_put S83 66 2 (.inl v84)) 64 1 = f 64 1 from zG_z hI1437 rfl] at z)
                          exact z
                        have b1442 := i_bd v86
                        refine zd (fun h1443 => ?_) (fun h1443 => ?_)
                        · skip
                          have g1444 := i_eq h1443
                          have q1445 : (mI S79 66 0).toInt = (mI S77 66 0).toInt := zG_zi (f := mI S77) hL_S79 rfl
                          have f1446 := zG_a hI_S79 4 (-1) (1500) (c := 66) (k := 0) (by decide) (by decide)
                          have q1447 : (mI S81 66 0).toInt = (mI S79 66 0).toInt := zG_zi (f := mI (ma_put S79 66 1 (.inl v80))) hL_S81 rfl
                          have f1448 := zG_a hI_S81 4 (-1) (1500) (c := 66) (k := 0) (by decide) (by decide)
                          have q1449 : (mI S83 66 0).toInt = (mI S81 66 0).toInt := zG_zi (f := mI S81) hL_S83 rfl
                          have f1450 := zG_a hI_S83 4 (-1) (1500) (c := 66) (k := 0) (by decide) (by decide)
                          have q1451 : (mI S85 66 0).toInt = (mI S83 66 0).toInt := zG_zi (f := mI (ma_put S83 66 2 (.inl v84))) hL_S85 rfl
                          have f1452 := zG_a hI_S85 4 (-1) (1500) (c := 66) (k := 0) (by decide) (by decide)
                          have q1453 : (mI S81 66 1).toInt = v80.toInt := zG_zi (f := mI (ma_put S79 66 1 (.inl v80))) hL_S81 rfl
                          have f1454 := zG_a hI_S81 4 (-1) (1500) (c := 66) (k := 1) (by decide) (by decide)
                          have q1455 : (mI S83 66 1).toInt = (mI S81 66 1).toInt := zG_zi (f := mI S81) hL_S83 rfl
                          have f1456 := zG_a hI_S83 4 (-1) (1500) (c := 66) (k := 1) (by decide) (by decide)
                          have q1457 : (mI S85 66 1).toInt = (mI S83 66 1).toInt := zG_zi (f := mI (ma_put S83 66 2 (.inl v84))) hL_S85 rfl
                          have f1458 := zG_a hI_S85 4 (-1) (1500) (c := 66) (k := 1) (by decide) (by decide)
                          have q1459 : (mI S85 66 2).toInt = v84.toInt := zG_zi (f := mI (ma_put S83 66 2 (.inl v84))) hL_S85 rfl
                          have f1460 := zG_a hI_S85 4 (-1) (1500) (c := 66) (k := 2) (by decide) (by decide)
                          have f1461 := zG_a hI 4 (-1) (1500) (c := 66) (k := 3) (by decide) (by decide)
                          have q1462 : (mI S1 66 3).toInt = (mI S 66 3).toInt := zG_zi (f := mI (ma_put S 64 3 (.inl (0 : Int32)))) hL_S1 rfl
                          have f1463 := zG_a hI_S1 4 (-1) (1500) (c := 66) (k := 3) (by decide) (by decide)
                          have q1464 : (mI S3 66 3).toInt = (mI S1 66 3).toInt := zG_zi (f := mI S1) hL_S3 rfl
                          have f1465 := zG_a hI_S3 4 (-1) (1500) (c := 66) (k := 3) (by decide) (by decide)
                          have q1466 : (mI S73 66 3).toInt = (mI S3 66 3).toInt := zG_zi (f := mI S3) hL_S73 rfl
                          have f1467 := zG_a hI_S73 4 (-1) (1500) (c := 66) (k := 3) (by decide) (by decide)
                          have q1468 : (mI S75 66 3).toInt = (mI S73 66 3).toInt := zG_zi (f := mI S73) hL_S75 rfl
                          have f1469 := zG_a hI_S75 4 (-1) (1500) (c := 66) (k := 3) (by decide) (by decide)
                          have q1470 : (mI S77 66 3).toInt = (mI S75 66 3).toInt := zG_zi (f := mI (ma_put S75 66 0 (.inl v76))) hL_S77 rfl
                          have f1471 := zG_a hI_S77 4 (-1) (1500) (c := 66) (k := 3) (by decide) (by decide)
                          have q1472 : (mI S79 66 3).toInt = (mI S77 66 3).toInt := zG_zi (f := mI S77) hL_S79 rfl
                          have f1473 := zG_a hI_S79 4 (-1) (1500) (c := 66) (k := 3) (by decide) (by decide)
                          have q1474 : (mI S81 66 3).toInt = (mI S79 66 3).toInt := zG_zi (f := mI (ma_put S79 66 1 (.inl v80))) hL_S81 rfl
                          have f1475 := zG_a hI_S81 4 (-1) (1500) (c := 66) (k := 3) (by decide) (by decide)
                          have q1476 : (mI S83 66 3).toInt = (mI S81 66 3).toInt := zG_zi (f := mI S81) hL_S83 rfl
                          have f1477 := zG_a hI_S83 4 (-1) (1500) (c := 66) (k := 3) (by decide) (by decide)
                          have q1478 : (mI S85 66 3).toInt = (mI S83 66 3).toInt := zG_zi (f := mI (ma_put S83 66 2 (.inl v84))) hL_S85 rfl
                          have f1479 := zG_a hI_S85 4 (-1) (1500) (c := 66) (k := 3) (by decide) (by decide)
                          exact K (v4) _ hI_S85 (show v4.toInt = -1 ∨ (0 ≤ v4.toInt ∧ v4.toInt ≤ 6 ∧ 0 ≤ (mI S85 66 0).toInt ∧ (v4.toInt = 3 → 0 ≤ (mI S85 66 1).toInt) ∧ (v4.toInt = 6 → 16 ≤ (mI S85 66 1).toInt)) from by omega) (show (v4.toInt = -1 ∧ -1 - (mI S85 64 2).toInt = zAns (f 65) (f 64 1).toInt) ∨ (v4.toInt ≠ -1 ∧ zFin v4.toInt (mI S85 66 0).toInt (mI S85 66 1).toInt = zAns (f 65) (f 64 1).toInt) from by first | (have qk : v4.toInt = 6 := (by omega); have q := zAns_go (s := (mI S1 64 2)) (e := (mI S1 64 3).toInt) (k := v4.toInt) rp0_S1 rp1_S1 rp0_S3 (by omega); rw [show zPts v4.toInt = [0, 4, 5] from by rw [qk]; rfl] at q; replace q := q.trans (zRun_ok0 (s := (mI S73 64 2)) (e := (mI S73 64 3).toInt) (x := v76.toInt) (p := (mI S1 64 3).toInt) rp0_S73 (by omega) rp1_S73 (show v76.toInt = zNum (f 65) (mI S73 64 2).toInt (mI S73 64 3).toInt 16 1500 from rp0_S75) (by omega)); replace q := q.trans (zRun_ok1 (s := (mI S77 64 2)) (e := (mI S77 64 3).toInt) (x := v80.toInt) (p := (mI S73 64 3).toInt) rp0_S77 (by omega) rp1_S77 (show v80.toInt = zNum (f 65) (mI S77 64 2).toInt (mI S77 64 3).toInt 16 (zmn v76.toInt) from (show v80.toInt = zNum (f 65) (mI S77 64 2).toInt (mI S77 64 3).toInt 16 _ from rp0_S79).trans (congrArg (zNum (f 65) (mI S77 64 2).toInt (mI S77 64 3).toInt 16) (zmn_of (by omega) (by omega) (by omega)))) (by omega) (by omega)); replace q := q.trans (zRun_okn (s := (mI S81 64 2)) (e := (mI S81 64 3).toInt) (x := v84.toInt) (p := (mI S77 64 3).toInt) rp0_S81 (by omega) rp1_S81 (show v84.toInt = zNum (f 65) (mI S81 64 2).toInt (mI S81 64 3).toInt 0 100 from rp0_S83) (by omega) (by omega)); have q2 := q.trans (zEnd_okp (s := (mI S85 64 2)) (e := (mI S85 64 3).toInt) (p := (mI S81 64 3).toInt) rp0_S85 (by omega) rp1_S85 (by omega)); exact Or.inr ⟨by omega, (zFin_eq (by omega) (by omega)).trans q2.symm⟩) | (omega) | (exfalso; omega)) (show v4.toInt = 5 → ((mI S85 66 0).toInt = zVal (f 65) (f 64 1).toInt 0 1 ∧ (mI S85 66 1).toInt = zVal (f 65) (f 64 1).toInt 6 2 ∧ (mI S85 66 2).toInt = zVal (f 65) (f 64 1).toInt 3 3 ∧ (mI S85 66 3).toInt = zVal (f 65) (f 64 1).toInt 7 4) from by first | (intro h; exfalso; omega)) (show (v4.toInt = 0 ∨ v4.toInt = 4) → ((mI S85 66 0).toInt = zVal (f 65) (f 64 1).toInt 0 1 ∧ (mI S85 66 1).toInt = zVal (f 65) (f 64 1).toInt 6 2) from by first | (intro h; exfalso; omega)) (show qM1 v4 (mI S85 66 0) (f 65) (f 64 1).toInt from by first | (unfold qM1; intro h; exfalso; omega)) (show qM3 v4 (mI S85 66 0) (mI S85 66 1) (mI S85 66 2) (mI S85 66 3) (f 65) (f 64 1).toInt from by first | (unfold qM3; intro h; exfalso; omega)) (show qM6 v4 (mI S85 66 0) (mI S85 66 1) (mI S85 66 2) (f 65) (f 64 1).toInt from by first | (unfold qM6; intro _; have a0 : (mI S1 64 2).toInt = zts (f 65) (f 64 1).toInt 0 := rp0_S1; have b0 : (mI S1 64 3).toInt = zte (f 65) (f 64 1).toInt 0 := zt_e rp1_S1 a0; have a1 : (mI S73 64 2).toInt = zts (f 65) (f 64 1).toInt 1 := zt_s rp0_S73 (by omega) b0; have b1 : (mI S73 64 3).toInt = zte (f 65) (f 64 1).toInt 1 := zt_e rp1_S73 a1; have a2 : (mI S77 64 2).toInt = zts (f 65) (f 64 1).toInt 2 := zt_s rp0_S77 (by omega) b1; have b2 : (mI S77 64 3).toInt = zte (f 65) (f 64 1).toInt 2 := zt_e rp1_S77 a2; have a3 : (mI S81 64 2).toInt = zts (f 65) (f 64 1).toInt 3 := zt_s rp0_S81 (by omega) b2; have b3 : (mI S81 64 3).toInt = zte (f 65) (f 64 1).toInt 3 := zt_e rp1_S81 a3; have z0 : v76.toInt = zVal (f 65) (f 64 1).toInt 0 1 := (show v76.toInt = zNum (f 65) (mI S73 64 2).toInt (mI S73 64 3).toInt 16 1500 from rp0_S75).trans (by rw [a1, b1]; rfl); have z1 : v80.toInt = zV4 (f 65) (f 64 1).toInt := (show v80.toInt = zNum (f 65) (mI S77 64 2).toInt (mI S77 64 3).toInt 16 (zmn v76.toInt) from (show v80.toInt = zNum (f 65) (mI S77 64 2).toInt (mI S77 64 3).toInt 16 _ from rp0_S79).trans (congrArg (zNum (f 65) (mI S77 64 2).toInt (mI S77 64 3).toInt 16) (zmn_of (by omega) (by omega) (by omega)))).trans (by rw [a2, b2, z0]; rfl); have z2 : v84.toInt = zVal (f 65) (f 64 1).toInt 5 3 := (show v84.toInt = zNum (f 65) (mI S81 64 2).toInt (mI S81 64 3).toInt 0 100 from rp0_S83).trans (by rw [a3, b3]; rfl); exact ⟨by omega, by omega, by omega⟩)) (show v4.toInt = -1 ∨ v4.toInt = zPol (f 65) (Int32.ofInt (zts (f 65) (f 64 1).toInt 0)) (zte (f 65) (f 64 1).toInt 0 - zts (f 65) (f 64 1).toInt 0) from by first | (exact Or.inr (zt_p rp0_S1 rp1_S1 rp0_S3))) (show zFm I0 L0 R0 S85 from by first | (exact rp4_S85))
                        · skip
                          have g1480 := i_ne h1443
                          have q1481 : (mI S79 66 0).toInt = (mI S77 66 0).toInt := zG_zi (f := mI S77) hL_S79 rfl
                          have f1482 := zG_a hI_S79 4 (-1) (1500) (c := 66) (k := 0) (by decide) (by decide)
                          have q1483 : (mI S81 66 0).toInt = (mI S79 66 0).toInt := zG_zi (f := mI (ma_put S79 66 1 (.inl v80))) hL_S81 rfl
                          have f1484 := zG_a hI_S81 4 (-1) (1500) (c := 66) (k := 0) (by decide) (by decide)
                          have q1485 : (mI S83 66 0).toInt = (mI S81 66 0).toInt := zG_zi (f := mI S81) hL_S83 rfl
                          have f1486 := zG_a hI_S83 4 (-1) (1500) (c := 66) (k := 0) (by decide) (by decide)
                          have q1487 : (mI S85 66 0).toInt = (mI S83 66 0).toInt := zG_zi (f := mI (ma_put S83 66 2 (.inl v84))) hL_S85 rfl
                          have f1488 := zG_a hI_S85 4 (-1) (1500) (c := 66) (k := 0) (by decide) (by decide)
                          have q1489 : (mI S81 66 1).toInt = v80.toInt := zG_zi (f := mI (ma_put S79 66 1 (.inl v80))) hL_S81 rfl
                          have f1490 := zG_a hI_S81 4 (-1) (1500) (c := 66) (k := 1) (by decide) (by decide)
                          have q1491 : (mI S83 66 1).toInt = (mI S81 66 1).toInt := zG_zi (f := mI S81) hL_S83 rfl
                          have f1492 := zG_a hI_S83 4 (-1) (1500) (c := 66) (k := 1) (by decide) (by decide)
                          have q1493 : (mI S85 66 1).toInt = (mI S83 66 1).toInt := zG_zi (f := mI (ma_put S83 66 2 (.inl v84))) hL_S85 rfl
                          have f1494 := zG_a hI_S85 4 (-1) (1500) (c := 66) (k := 1) (by decide) (by decide)
                          have q1495 : (mI S85 66 2).toInt = v84.toInt := zG_zi (f := mI (ma_put S83 66 2 (.inl v84))) hL_S85 rfl
                          have f1496 := zG_a hI_S85 4 (-1) (1500) (c := 66) (k := 2) (by decide) (by decide)
                          have f1497 := zG_a hI 4 (-1) (1500) (c := 66) (k := 3) (by decide) (by decide)
                          have q1498 : (mI S1 66 3).toInt = (mI S 66 3).toInt := zG_zi (f := mI (ma_put S 64 3 (.inl (0 : Int32)))) hL_S1 rfl
                          have f1499 := zG_a hI_S1 4 (-1) (1500) (c := 66) (k := 3) (by decide) (by decide)
                          have q1500 : (mI S3 66 3).toInt = (mI S1 66 3).toInt := zG_zi (f := mI S1) hL_S3 rfl
                          have f1501 := zG_a hI_S3 4 (-1) (1500) (c := 66) (k := 3) (by decide) (by decide)
                          have q1502 : (mI S73 66 3).toInt = (mI S3 66 3).toInt := zG_zi (f := mI S3) hL_S73 rfl
                          have f1503 := zG_a hI_S73 4 (-1) (1500) (c := 66) (k := 3) (by decide) (by decide)
                          have q1504 : (mI S75 66 3).toInt = (mI S73 66 3).toInt := zG_zi (f := mI S73) hL_S75 rfl
                          have f1505 := zG_a hI_S75 4 (-1) (1500) (c := 66) (k := 3) (by decide) (by decide)
                          have q1506 : (mI S77 66 3).toInt = (mI S75 66 3).toInt := zG_zi (f := mI (ma_put S75 66 0 (.inl v76))) hL_S77 rfl
                          have f1507 := zG_a hI_S77 4 (-1) (1500) (c := 66) (k := 3) (by decide) (by decide)
                          have q1508 : (mI S79 66 3).toInt = (mI S77 66 3).toInt := zG_zi (f := mI S77) hL_S79 rfl
                          have f1509 := zG_a hI_S79 4 (-1) (1500) (c := 66) (k := 3) (by decide) (by decide)
                          have q1510 : (mI S81 66 3).toInt = (mI S79 66 3).toInt := zG_zi (f := mI (ma_put S79 66 1 (.inl v80))) hL_S81 rfl
                          have f1511 := zG_a hI_S81 4 (-1) (1500) (c := 66) (k := 3) (by decide) (by decide)
                          have q1512 : (mI S83 66 3).toInt = (mI S81 66 3).toInt := zG_zi (f := mI S81) hL_S83 rfl
                          have f1513 := zG_a hI_S83 4 (-1) (1500) (c := 66) (k := 3) (by decide) (by decide)
                          have q1514 : (mI S85 66 3).toInt = (mI S83 66 3).toInt := zG_zi (f := mI (ma_put S83 66 2 (.inl v84))) hL_S85 rfl
                          have f1515 := zG_a hI_S85 4 (-1) (1500) (c := 66) (k := 3) (by decide) (by decide)
                          exact K ((-1 : Int32)) _ hI_S85 (show (-1 : Int32).toInt = -1 ∨ (0 ≤ (-1 : Int32).toInt ∧ (-1 : Int32).toInt ≤ 6 ∧ 0 ≤ (mI S85 66 0).toInt ∧ ((-1 : Int32).toInt = 3 → 0 ≤ (mI S85 66 1).toInt) ∧ ((-1 : Int32).toInt = 6 → 16 ≤ (mI S85 66 1).toInt)) from by omega) (show ((-1 : Int32).toInt = -1 ∧ -1 - (mI S85 64 2).toInt = zAns (f 65) (f 64 1).toInt) ∨ ((-1 : Int32).toInt ≠ -1 ∧ zFin (-1 : Int32).toInt (mI S85 66 0).toInt (mI S85 66 1).toInt = zAns (f 65) (f 64 1).toInt) from by first | (have qk : v4.toInt = 6 := (by omega); have q := zAns_go (s := (mI S1 64 2)) (e := (mI S1 64 3).toInt) (k := v4.toInt) rp0_S1 rp1_S1 rp0_S3 (by omega); rw [show zPts v4.toInt = [0, 4, 5] from by rw [qk]; rfl] at q; replace q := q.trans (zRun_ok0 (s := (mI S73 64 2)) (e := (mI S73 64 3).toInt) (x := v76.toInt) (p := (mI S1 64 3).toInt) rp0_S73 (by omega) rp1_S73 (show v76.toInt = zNum (f 65) (mI S73 64 2).toInt (mI S73 64 3).toInt 16 1500 from rp0_S75) (by omega)); replace q := q.trans (zRun_ok1 (s := (mI S77 64 2)) (e := (mI S77 64 3).toInt) (x := v80.toInt) (p := (mI S73 64 3).toInt) rp0_S77 (by omega) rp1_S77 (show v80.toInt = zNum (f 65) (mI S77 64 2).toInt (mI S77 64 3).toInt 16 (zmn v76.toInt) from (show v80.toInt = zNum (f 65) (mI S77 64 2).toInt (mI S77 64 3).toInt 16 _ from rp0_S79).trans (congrArg (zNum (f 65) (mI S77 64 2).toInt (mI S77 64 3).toInt 16) (zmn_of (by omega) (by omega) (by omega)))) (by omega) (by omega)); replace q := q.trans (zRun_okn (s := (mI S81 64 2)) (e := (mI S81 64 3).toInt) (x := v84.toInt) (p := (mI S77 64 3).toInt) rp0_S81 (by omega) rp1_S81 (show v84.toInt = zNum (f 65) (mI S81 64 2).toInt (mI S81 64 3).toInt 0 100 from rp0_S83) (by omega) (by omega)); have q2 := q.trans (zEnd_badp (s := (mI S85 64 2)) (e := (mI S85 64 3).toInt) (p := (mI S81 64 3).toInt) rp0_S85 (by omega) rp1_S85 (by omega)); exact Or.inl ⟨rfl, by omega⟩) | (omega) | (exfalso; omega)) (show (-1 : Int32).toInt = 5 → ((mI S85 66 0).toInt = zVal (f 65) (f 64 1).toInt 0 1 ∧ (mI S85 66 1).toInt = zVal (f 65) (f 64 1).toInt 6 2 ∧ (mI S85 66 2).toInt = zVal (f 65) (f 64 1).toInt 3 3 ∧ (mI S85 66 3).toInt = zVal (f 65) (f 64 1).toInt 7 4) from by first | (intro h; exact absurd h (by decide))) (show ((-1 : Int32).toInt = 0 ∨ (-1 : Int32).toInt = 4) → ((mI S85 66 0).toInt = zVal (f 65) (f 64 1).toInt 0 1 ∧ (mI S85 66 1).toInt = zVal (f 65) (f 64 1).toInt 6 2) from by first | (intro h; exact absurd h (by decide))) (show qM1 (-1 : Int32) (mI S85 66 0) (f 65) (f 64 1).toInt from by first | (unfold qM1; intro h; exact absurd h (by decide))) (show qM3 (-1 : Int32) (mI S85 66 0) (mI S85 66 1) (mI S85 66 2) (mI S85 66 3) (f 65) (f 64 1).toInt from by first | (unfold qM3; intro h; exact absurd h (by decide))) (show qM6 (-1 : Int32) (mI S85 66 0) (mI S85 66 1) (mI S85 66 2) (f 65) (f 64 1).toInt from by first | (unfold qM6; intro h; exact absurd h (by decide))) (show (-1 : Int32).toInt = -1 ∨ (-1 : Int32).toInt = zPol (f 65) (Int32.ofInt (zts (f 65) (f 64 1).toInt 0)) (zte (f 65) (f 64 1).toInt 0 - zts (f 65) (f 64 1).toInt 0) from by first | (exact Or.inl rfl)) (show zFm I0 L0 R0 S85 from by first | (exact rp4_S85))
              · skip
                have g1516 := i_ne h1274
                have li1517 : (-1 : Int32).toInt = -1 := rfl
                refine zd (fun h1518 => ?_) (fun h1518 => ?_)
                · skip
                  have g1519 := i_eq h1518
                  have f1520 := zG_a hI 4 (-1) (1500) (c := 66) (k := 0) (by decide) (by decide)
                  have q1521 : (mI S1 66 0).toInt = (mI S 66 0).toInt := zG_zi (f := mI (ma_put S 64 3 (.inl (0 : Int32)))) hL_S1 rfl
                  have f1522 := zG_a hI_S1 4 (-1) (1500) (c := 66) (k := 0) (by decide) (by decide)
                  have q1523 : (mI S3 66 0).toInt = (mI S1 66 0).toInt := zG_zi (f := mI S1) hL_S3 rfl
                  have f1524 := zG_a hI_S3 4 (-1) (1500) (c := 66) (k := 0) (by decide) (by decide)
                  have f1525 := zG_a hI 4 (-1) (1500) (c := 66) (k := 1) (by decide) (by decide)
                  have q1526 : (mI S1 66 1).toInt = (mI S 66 1).toInt := zG_zi (f := mI (ma_put S 64 3 (.inl (0 : Int32)))) hL_S1 rfl
                  have f1527 := zG_a hI_S1 4 (-1) (1500) (c := 66) (k := 1) (by decide) (by decide)
                  have q1528 : (mI S3 66 1).toInt = (mI S1 66 1).toInt := zG_zi (f := mI S1) hL_S3 rfl
                  have f1529 := zG_a hI_S3 4 (-1) (1500) (c := 66) (k := 1) (by decide) (by decide)
                  have q1530 : (mI S3 64 2).toInt = (mI S1 64 2).toInt := zG_zi (f := mI S1) hL_S3 rfl
                  have f1531 := zG_s hI_S3 (0) (100) (c := 64) (k := 2) (by decide)
                  have f1532 := zG_a hI 4 (-1) (1500) (c := 66) (k := 2) (by decide) (by decide)
                  have q1533 : (mI S1 66 2).toInt = (mI S 66 2).toInt := zG_zi (f := mI (ma_put S 64 3 (.inl (0 : Int32)))) hL_S1 rfl
                  have f1534 := zG_a hI_S1 4 (-1) (1500) (c := 66) (k := 2) (by decide) (by decide)
                  have q1535 : (mI S3 66 2).toInt = (mI S1 66 2).toInt := zG_zi (f := mI S1) hL_S3 rfl
                  have f1536 := zG_a hI_S3 4 (-1) (1500) (c := 66) (k := 2) (by decide) (by decide)
                  have f1537 := zG_a hI 4 (-1) (1500) (c := 66) (k := 3) (by decide) (by decide)
                  have q1538 : (mI S1 66 3).toInt = (mI S 66 3).toInt := zG_zi (f := mI (ma_put S 64 3 (.inl (0 : Int32)))) hL_S1 rfl
                  have f1539 := zG_a hI_S1 4 (-1) (1500) (c := 66) (k := 3) (by decide) (by decide)
                  have q1540 : (mI S3 66 3).toInt = (mI S1 66 3).toInt := zG_zi (f := mI S1) hL_S3 rfl
                  have f1541 := zG_a hI_S3 4 (-1) (1500) (c := 66) (k := 3) (by decide) (by decide)
                  exact K ((-1 : Int32)) _ hI_S3 (show (-1 : Int32).toInt = -1 ∨ (0 ≤ (-1 : Int32).toInt ∧ (-1 : Int32).toInt ≤ 6 ∧ 0 ≤ (mI S3 66 0).toInt ∧ ((-1 : Int32).toInt = 3 → 0 ≤ (mI S3 66 1).toInt) ∧ ((-1 : Int32).toInt = 6 → 16 ≤ (mI S3 66 1).toInt)) from by omega) (show ((-1 : Int32).toInt = -1 ∧ -1 - (mI S3 64 2).toInt = zAns (f 65) (f 64 1).toInt) ∨ ((-1 : Int32).toInt ≠ -1 ∧ zFin (-1 : Int32).toInt (mI S3 66 0).toInt (mI S3 66 1).toInt = zAns (f 65) (f 64 1).toInt) from by first | (exact Or.inl ⟨rfl, by have q := zAns_bad (s := (mI S1 64 2)) (e := (mI S1 64 3).toInt) (k := v4.toInt) rp0_S1 rp1_S1 rp0_S3 (by omega); omega⟩) | (omega) | (exfalso; omega)) (show (-1 : Int32).toInt = 5 → ((mI S3 66 0).toInt = zVal (f 65) (f 64 1).toInt 0 1 ∧ (mI S3 66 1).toInt = zVal (f 65) (f 64 1).toInt 6 2 ∧ (mI S3 66 2).toInt = zVal (f 65) (f 64 1).toInt 3 3 ∧ (mI S3 66 3).toInt = zVal (f 65) (f 64 1).toInt 7 4) from by first | (intro h; exact absurd h (by decide))) (show ((-1 : Int32).toInt = 0 ∨ (-1 : Int32).toInt = 4) → ((mI S3 66 0).toInt = zVal (f 65) (f 64 1).toInt 0 1 ∧ (mI S3 66 1).toInt = zVal (f 65) (f 64 1).toInt 6 2) from by first | (intro h; exact absurd h (by decide))) (show qM1 (-1 : Int32) (mI S3 66 0) (f 65) (f 64 1).toInt from by first | (unfold qM1; intro h; exact absurd h (by decide))) (show qM3 (-1 : Int32) (mI S3 66 0) (mI S3 66 1) (mI S3 66 2) (mI S3 66 3) (f 65) (f 64 1).toInt from by first | (unfold qM3; intro h; exact absurd h (by decide))) (show qM6 (-1 : Int32) (mI S3 66 0) (mI S3 66 1) (mI S3 66 2) (f 65) (f 64 1).toInt from by first | (unfold qM6; intro h; exact absurd h (by decide))) (show (-1 : Int32).toInt = -1 ∨ (-1 : Int32).toInt = zPol (f 65) (Int32.ofInt (zts (f 65) (f 64 1).toInt 0)) (zte (f 65) (f 64 1).toInt 0 - zts (f 65) (f 64 1).toInt 0) from by first | (exact Or.inl rfl)) (show zFm I0 L0 R0 S3 from by first | (exact rp1_S3))
                · skip
                  have g1542 := i_ne h1518
                  have q1543 : (mI S3 64 3).toInt = (mI S1 64 3).toInt := zG_zi (f := mI S1) hL_S3 rfl
                  have f1544 := zG_s hI_S3 (0) (100) (c := 64) (k := 3) (by decide)
                  refine sp_129_64_sq (p0 := ((mI S3 64 3).toInt)) (I0 := I0) (L0 := L0) (R0 := R0) (by omega) (by omega) (zR_dn_zY hI_S3) (show (mI S3 64 3).toInt = ((mI S3 64 3).toInt) from by omega) (show zFm I0 L0 R0 S3 from by first | (exact rp1_S3)) (fun v88 S87 hL_S87 hp_v88 rp0_S87 rp1_S87 rp2_S87 rp3_S87 rp4_S87 => zi_n ⟨zG_T hL_S87, ?_⟩)
                  have hI_S87 := zR_up_zY hI_S3 hL_S87
                  have f1545 := zG_s hI_S87 (0) (100) (c := 64) (k := 2) (by decide)
                  have rp0_S87 : (mI S87 64 2).toInt = tk true (f 65) (f 64 1).toInt ((mI S3 64 3).toInt) := by
                    have z := rp0_S87
                    (try rw [show mI S3 65 = f 65 from funext (fun k => zG_z hI_S3 rfl)] at z)
                    (try rw [show mI S3 64 1 = f 64 1 from zG_z hI_S3 rfl] at z)
                    exact z
                  have f1546 := zG_s hI_S87 (0) (100) (c := 64) (k := 3) (by decide)
                  have rp1_S87 : (mI S87 64 3).toInt = tk false (f 65) (f 64 1).toInt (mI S87 64 2).toInt := by
                    have z := rp1_S87
                    (try rw [show mI S3 65 = f 65 from funext (fun k => zG_z hI_S3 rfl)] at z)
                    (try rw [show mI S3 64 1 = f 64 1 from zG_z hI_S3 rfl] at z)
                    exact z
                  have rp2_S87 : (v88.toInt = 1 ∧ (mI S87 64 2).toInt < (mI S87 64 3).toInt) ∨ (v88.toInt = 0 ∧ (mI S87 64 3).toInt ≤ (mI S87 64 2).toInt) := by
                    have z := rp2_S87
                    (try rw [show mI S3 65 = f 65 from funext (fun k => zG_z hI_S3 rfl)] at z)
                    (try rw [show mI S3 64 1 = f 64 1 from zG_z hI_S3 rfl] at z)
                    exact z
                  have rp3_S87 : (mI S87 64 2).toInt ≤ (mI S87 64 3).toInt := by
                    have z := rp3_S87
                    (try rw [show mI S3 65 = f 65 from funext (fun k => zG_z hI_S3 rfl)] at z)
                    (try rw [show mI S3 64 1 = f 64 1 from zG_z hI_S3 rfl] at z)
                    exact z
                  have rp4_S87 : zFm I0 L0 R0 S87 := by
                    have z := rp4_S87
                    (try rw [show mI S3 65 = f 65 from funext (fun k => zG_z hI_S3 rfl)] at z)
                    (try rw [show mI S3 64 1 = f 64 1 from zG_z hI_S3 rfl] at z)
                    exact z
                  have b1547 := i_bd v88
                  refine zd (fun h1548 => ?_) (fun h1548 => ?_)
                  · skip
                    have g1549 := i_eq h1548
                    have f1550 := zG_a hI 4 (-1) (1500) (c := 66) (k := 0) (by decide) (by decide)
                    have q1551 : (mI S1 66 0).toInt = (mI S 66 0).toInt := zG_zi (f := mI (ma_put S 64 3 (.inl (0 : Int32)))) hL_S1 rfl
                    have f1552 := zG_a hI_S1 4 (-1) (1500) (c := 66) (k := 0) (by decide) (by decide)
                    have q1553 : (mI S3 66 0).toInt = (mI S1 66 0).toInt := zG_zi (f := mI S1) hL_S3 rfl
                    have f1554 := zG_a hI_S3 4 (-1) (1500) (c := 66) (k := 0) (by decide) (by decide)
                    have q1555 : (mI S87 66 0).toInt = (mI S3 66 0).toInt := zG_zi (f := mI S3) hL_S87 rfl
                    have f1556 := zG_a hI_S87 4 (-1) (1500) (c := 66) (k := 0) (by decide) (by decide)
                    have f1557 := zG_a hI 4 (-1) (1500) (c := 66) (k := 1) (by decide) (by decide)
                    have q1558 : (mI S1 66 1).toInt = (mI S 66 1).toInt := zG_zi (f := mI (ma_put S 64 3 (.inl (0 : Int32)))) hL_S1 rfl
                    have f1559 := zG_a hI_S1 4 (-1) (1500) (c := 66) (k := 1) (by decide) (by decide)
                    have q1560 : (mI S3 66 1).toInt = (mI S1 66 1).toInt := zG_zi (f := mI S1) hL_S3 rfl
                    have f1561 := zG_a hI_S3 4 (-1) (1500) (c := 66) (k := 1) (by decide) (by decide)
                    have q1562 : (mI S87 66 1).toInt = (mI S3 66 1).toInt := zG_zi (f := mI S3) hL_S87 rfl
                    have f1563 := zG_a hI_S87 4 (-1) (1500) (c := 66) (k := 1) (by decide) (by decide)
                    have f1564 := zG_a hI 4 (-1) (1500) (c := 66) (k := 2) (by decide) (by decide)
                    have q1565 : (mI S1 66 2).toInt = (mI S 66 2).toInt := zG_zi (f := mI (ma_put S 64 3 (.inl (0 : Int32)))) hL_S1 rfl
                    have f1566 := zG_a hI_S1 4 (-1) (1500) (c := 66) (k := 2) (by decide) (by decide)
                    have q1567 : (mI S3 66 2).toInt = (mI S1 66 2).toInt := zG_zi (f := mI S1) hL_S3 rfl
                    have f1568 := zG_a hI_S3 4 (-1) (1500) (c := 66) (k := 2) (by decide) (by decide)
                    have q1569 : (mI S87 66 2).toInt = (mI S3 66 2).toInt := zG_zi (f := mI S3) hL_S87 rfl
                    have f1570 := zG_a hI_S87 4 (-1) (1500) (c := 66) (k := 2) (by decide) (by decide)
                    have f1571 := zG_a hI 4 (-1) (1500) (c := 66) (k := 3) (by decide) (by decide)
                    have q1572 : (mI S1 66 3).toInt = (mI S 66 3).toInt := zG_zi (f := mI (ma_put S 64 3 (.inl (0 : Int32)))) hL_S1 rfl
                    have f1573 := zG_a hI_S1 4 (-1) (1500) (c := 66) (k := 3) (by decide) (by decide)
                    have q1574 : (mI S3 66 3).toInt = (mI S1 66 3).toInt := zG_zi (f := mI S1) hL_S3 rfl
                    have f1575 := zG_a hI_S3 4 (-1) (1500) (c := 66) (k := 3) (by decide) (by decide)
                    have q1576 : (mI S87 66 3).toInt = (mI S3 66 3).toInt := zG_zi (f := mI S3) hL_S87 rfl
                    have f1577 := zG_a hI_S87 4 (-1) (1500) (c := 66) (k := 3) (by decide) (by decide)
                    exact K (v4) _ hI_S87 (show v4.toInt = -1 ∨ (0 ≤ v4.toInt ∧ v4.toInt ≤ 6 ∧ 0 ≤ (mI S87 66 0).toInt ∧ (v4.toInt = 3 → 0 ≤ (mI S87 66 1).toInt) ∧ (v4.toInt = 6 → 16 ≤ (mI S87 66 1).toInt)) from by omega) (show (v4.toInt = -1 ∧ -1 - (mI S87 64 2).toInt = zAns (f 65) (f 64 1).toInt) ∨ (v4.toInt ≠ -1 ∧ zFin v4.toInt (mI S87 66 0).toInt (mI S87 66 1).toInt = zAns (f 65) (f 64 1).toInt) from by first | (omega) | (exfalso; omega)) (show v4.toInt = 5 → ((mI S87 66 0).toInt = zVal (f 65) (f 64 1).toInt 0 1 ∧ (mI S87 66 1).toInt = zVal (f 65) (f 64 1).toInt 6 2 ∧ (mI S87 66 2).toInt = zVal (f 65) (f 64 1).toInt 3 3 ∧ (mI S87 66 3).toInt = zVal (f 65) (f 64 1).toInt 7 4) from by first | (intro h; exfalso; omega)) (show (v4.toInt = 0 ∨ v4.toInt = 4) → ((mI S87 66 0).toInt = zVal (f 65) (f 64 1).toInt 0 1 ∧ (mI S87 66 1).toInt = zVal (f 65) (f 64 1).toInt 6 2) from by first | (intro h; exfalso; omega)) (show qM1 v4 (mI S87 66 0) (f 65) (f 64 1).toInt from by first | (unfold qM1; intro h; exfalso; omega)) (show qM3 v4 (mI S87 66 0) (mI S87 66 1) (mI S87 66 2) (mI S87 66 3) (f 65) (f 64 1).toInt from by first | (unfold qM3; intro h; exfalso; omega)) (show qM6 v4 (mI S87 66 0) (mI S87 66 1) (mI S87 66 2) (f 65) (f 64 1).toInt from by first | (unfold qM6; intro h; exfalso; omega)) (show v4.toInt = -1 ∨ v4.toInt = zPol (f 65) (Int32.ofInt (zts (f 65) (f 64 1).toInt 0)) (zte (f 65) (f 64 1).toInt 0 - zts (f 65) (f 64 1).toInt 0) from by first | (exact Or.inr (zt_p rp0_S1 rp1_S1 rp0_S3))) (show zFm I0 L0 R0 S87 from by first | (exact rp4_S87))
                  · skip
                    have g1578 := i_ne h1548
                    have f1579 := zG_a hI 4 (-1) (1500) (c := 66) (k := 0) (by decide) (by decide)
                    have q1580 : (mI S1 66 0).toInt = (mI S 66 0).toInt := zG_zi (f := mI (ma_put S 64 3 (.inl (0 : Int32)))) hL_S1 rfl
                    have f1581 := zG_a hI_S1 4 (-1) (1500) (c := 66) (k := 0) (by decide) (by decide)
                    have q1582 : (mI S3 66 0).toInt = (mI S1 66 0).toInt := zG_zi (f := mI S1) hL_S3 rfl
                    have f1583 := zG_a hI_S3 4 (-1) (1500) (c := 66) (k := 0) (by decide) (by decide)
                    have q1584 : (mI S87 66 0).toInt = (mI S3 66 0).toInt := zG_zi (f := mI S3) hL_S87 rfl
                    have f1585 := zG_a hI_S87 4 (-1) (1500) (c := 66) (k := 0) (by decide) (by decide)
                    have f1586 := zG_a hI 4 (-1) (1500) (c := 66) (k := 1) (by decide) (by decide)
                    have q1587 : (mI S1 66 1).toInt = (mI S 66 1).toInt := zG_zi (f := mI (ma_put S 64 3 (.inl (0 : Int32)))) hL_S1 rfl
                    have f1588 := zG_a hI_S1 4 (-1) (1500) (c := 66) (k := 1) (by decide) (by decide)
                    have q1589 : (mI S3 66 1).toInt = (mI S1 66 1).toInt := zG_zi (f := mI S1) hL_S3 rfl
                    have f1590 := zG_a hI_S3 4 (-1) (1500) (c := 66) (k := 1) (by decide) (by decide)
                    have q1591 : (mI S87 66 1).toInt = (mI S3 66 1).toInt := zG_zi (f := mI S3) hL_S87 rfl
                    have f1592 := zG_a hI_S87 4 (-1) (1500) (c := 66) (k := 1) (by decide) (by decide)
                    have f1593 := zG_a hI 4 (-1) (1500) (c := 66) (k := 2) (by decide) (by decide)
                    have q1594 : (mI S1 66 2).toInt = (mI S 66 2).toInt := zG_zi (f := mI (ma_put S 64 3 (.inl (0 : Int32)))) hL_S1 rfl
                    have f1595 := zG_a hI_S1 4 (-1) (1500) (c := 66) (k := 2) (by decide) (by decide)
                    have q1596 : (mI S3 66 2).toInt = (mI S1 66 2).toInt := zG_zi (f := mI S1) hL_S3 rfl
                    have f1597 := zG_a hI_S3 4 (-1) (1500) (c := 66) (k := 2) (by decide) (by decide)
                    have q1598 : (mI S87 66 2).toInt = (mI S3 66 2).toInt := zG_zi (f := mI S3) hL_S87 rfl
                    have f1599 := zG_a hI_S87 4 (-1) (1500) (c := 66) (k := 2) (by decide) (by decide)
                    have f1600 := zG_a hI 4 (-1) (1500) (c := 66) (k := 3) (by decide) (by decide)
                    have q1601 : (mI S1 66 3).toInt = (mI S 66 3).toInt := zG_zi (f := mI (ma_put S 64 3 (.inl (0 : Int32)))) hL_S1 rfl
                    have f1602 := zG_a hI_S1 4 (-1) (1500) (c := 66) (k := 3) (by decide) (by decide)
                    have q1603 : (mI S3 66 3).toInt = (mI S1 66 3).toInt := zG_zi (f := mI S1) hL_S3 rfl
                    have f1604 := zG_a hI_S3 4 (-1) (1500) (c := 66) (k := 3) (by decide) (by decide)
                    have q1605 : (mI S87 66 3).toInt = (mI S3 66 3).toInt := zG_zi (f := mI S3) hL_S87 rfl
                    have f1606 := zG_a hI_S87 4 (-1) (1500) (c := 66) (k := 3) (by decide) (by decide)
                    exact K ((-1 : Int32)) _ hI_S87 (show (-1 : Int32).toInt = -1 ∨ (0 ≤ (-1 : Int32).toInt ∧ (-1 : Int32).toInt ≤ 6 ∧ 0 ≤ (mI S87 66 0).toInt ∧ ((-1 : Int32).toInt = 3 → 0 ≤ (mI S87 66 1).toInt) ∧ ((-1 : Int32).toInt = 6 → 16 ≤ (mI S87 66 1).toInt)) from by omega) (show ((-1 : Int32).toInt = -1 ∧ -1 - (mI S87 64 2).toInt = zAns (f 65) (f 64 1).toInt) ∨ ((-1 : Int32).toInt ≠ -1 ∧ zFin (-1 : Int32).toInt (mI S87 66 0).toInt (mI S87 66 1).toInt = zAns (f 65) (f 64 1).toInt) from by first | (omega) | (exfalso; omega)) (show (-1 : Int32).toInt = 5 → ((mI S87 66 0).toInt = zVal (f 65) (f 64 1).toInt 0 1 ∧ (mI S87 66 1).toInt = zVal (f 65) (f 64 1).toInt 6 2 ∧ (mI S87 66 2).toInt = zVal (f 65) (f 64 1).toInt 3 3 ∧ (mI S87 66 3).toInt = zVal (f 65) (f 64 1).toInt 7 4) from by first | (intro h; exact absurd h (by decide))) (show ((-1 : Int32).toInt = 0 ∨ (-1 : Int32).toInt = 4) → ((mI S87 66 0).toInt = zVal (f 65) (f 64 1).toInt 0 1 ∧ (mI S87 66 1).toInt = zVal (f 65) (f 64 1).toInt 6 2) from by first | (intro h; exact absurd h (by decide))) (show qM1 (-1 : Int32) (mI S87 66 0) (f 65) (f 64 1).toInt from by first | (unfold qM1; intro h; exact absurd h (by decide))) (show qM3 (-1 : Int32) (mI S87 66 0) (mI S87 66 1) (mI S87 66 2) (mI S87 66 3) (f 65) (f 64 1).toInt from by first | (unfold qM3; intro h; exact absurd h (by decide))) (show qM6 (-1 : Int32) (mI S87 66 0) (mI S87 66 1) (mI S87 66 2) (f 65) (f 64 1).toInt from by first | (unfold qM6; intro h; exact absurd h (by decide))) (show (-1 : Int32).toInt = -1 ∨ (-1 : Int32).toInt = zPol (f 65) (Int32.ofInt (zts (f 65) (f 64 1).toInt 0)) (zte (f 65) (f 64 1).toInt 0 - zts (f 65) (f 64 1).toInt 0) from by first | (exact Or.inl rfl)) (show zFm I0 L0 R0 S87 from by first | (exact rp4_S87))

