/-! texts (written by wip/tools/gen95d.py) -/
theorem g_128_64_n_0 {X : Nat × (Nat → Int32)} {d w : Nat} {S : ma_S} {Q : Option ma_V ⊕ Nat → ma_S → Prop}  (hd : 8 ≤ d) (hw : 163 ≤ w) (hS : zT S) (h : ma_wp X (d - 1) (w - 21) 129 0 [(0, .inr (.inr (some 64)))] [] (ma_put S 64 3 (.inl (0 : Int32))) (zi (fun v2 S1 => zT S1 ∧ (ma_wp X (d - 1) (w - 20) 130 0 [(0, .inr (.inr (some 64)))] [] S1 (zi (fun v4 S3 => zT S3 ∧ (if v4 = (0 : Int32) then (ma_wp X (d - 1) (w - 21) 129 0 [(0, .inr (.inr (some 64)))] [] S3 (zi (fun v6 S5 => zT S5 ∧ (ma_wp X ((d - 1) - 1) ((w - 21) - 25) 134 0 [(0, .inr (.inr (some 64))), (1, .inl (16 : Int32)), (2, .inl (1500 : Int32))] [] S5 (zi (fun v8 S7 => zT S7 ∧ (if v8 = (-1 : Int32) then (Q (.inl (some (.inl (-1 : Int32)))) (ma_put S7 66 0 (.inl v8))) else (ma_wp X (d - 1) (w - 21) 129 0 [(0, .inr (.inr (some 64)))] [] (ma_put S7 66 0 (.inl v8)) (zi (fun v10 S9 => zT S9 ∧ (ma_wp X ((d - 1) - 1) ((w - 21) - 20) 135 0 [(0, .inr (.inr (some 64)))] [] S9 (zi (fun v12 S11 => zT S11 ∧ (if v12 = (-1 : Int32) then (Q (.inl (some (.inl (-1 : Int32)))) (ma_put S11 66 1 (.inl v12))) else (if v4 = (-1 : Int32) then (Q (.inl (some (.inl (-1 : Int32)))) (ma_put S11 66 1 (.inl v12))) else (ma_wp X (d - 1) (w - 21) 129 0 [(0, .inr (.inr (some 64)))] [] (ma_put S11 66 1 (.inl v12)) (zi (fun v14 S13 => zT S13 ∧ (if v14 = 0 then (Q (.inl (some (.inl v4))) S13) else (Q (.inl (some (.inl (-1 : Int32)))) S13))) (fun x S9 => Q (.inr x) S9)))))) (fun _ _ => False)))) (fun x S9 => Q (.inr x) S9))))) (fun _ _ => False)))) (fun x S9 => Q (.inr x) S9))) else (if v4 = (1 : Int32) then (ma_wp X (d - 1) (w - 21) 129 0 [(0, .inr (.inr (some 64)))] [] S3 (zi (fun v16 S15 => zT S15 ∧ (ma_wp X ((d - 1) - 1) ((w - 21) - 25) 134 0 [(0, .inr (.inr (some 64))), (1, .inl (16 : Int32)), (2, .inl (1500 : Int32))] [] S15 (zi (fun v18 S17 => zT S17 ∧ (if v18 = (-1 : Int32) then (Q (.inl (some (.inl (-1 : Int32)))) (ma_put S17 66 0 (.inl v18))) else (if v4 = (-1 : Int32) then (Q (.inl (some (.inl (-1 : Int32)))) (ma_put S17 66 0 (.inl v18))) else (ma_wp X (d - 1) (w - 21) 129 0 [(0, .inr (.inr (some 64)))] [] (ma_put S17 66 0 (.inl v18)) (zi (fun v20 S19 => zT S19 ∧ (if v20 = 0 then (Q (.inl (some (.inl v4))) S19) else (Q (.inl (some (.inl (-1 : Int32)))) S19))) (fun x S9 => Q (.inr x) S9)))))) (fun _ _ => False)))) (fun x S9 => Q (.inr x) S9))) else (if v4 = (2 : Int32) then (ma_wp X (d - 1) (w - 21) 129 0 [(0, .inr (.inr (some 64)))] [] S3 (zi (fun v22 S21 => zT S21 ∧ (ma_wp X ((d - 1) - 1) ((w - 21) - 25) 134 0 [(0, .inr (.inr (some 64))), (1, .inl (16 : Int32)), (2, .inl (1500 : Int32))] [] S21 (zi (fun v24 S23 => zT S23 ∧ (if v24 = (-1 : Int32) then (Q (.inl (some (.inl (-1 : Int32)))) (ma_put S23 66 0 (.inl v24))) else (if v4 = (-1 : Int32) then (Q (.inl (some (.inl (-1 : Int32)))) (ma_put S23 66 0 (.inl v24))) else (ma_wp X (d - 1) (w - 21) 129 0 [(0, .inr (.inr (some 64)))] [] (ma_put S23 66 0 (.inl v24)) (zi (fun v26 S25 => zT S25 ∧ (if v26 = 0 then (Q (.inl (some (.inl v4))) S25) else (Q (.inl (some (.inl (-1 : Int32)))) S25))) (fun x S9 => Q (.inr x) S9)))))) (fun _ _ => False)))) (fun x S9 => Q (.inr x) S9))) else (if v4 = (3 : Int32) then (ma_wp X (d - 1) (w - 21) 129 0 [(0, .inr (.inr (some 64)))] [] S3 (zi (fun v28 S27 => zT S27 ∧ (ma_wp X ((d - 1) - 1) ((w - 21) - 25) 134 0 [(0, .inr (.inr (some 64))), (1, .inl (16 : Int32)), (2, .inl (1500 : Int32))] [] S27 (zi (fun v30 S29 => zT S29 ∧ (if v30 = (-1 : Int32) then (Q (.inl (some (.inl (-1 : Int32)))) (ma_put S29 66 0 (.inl v30))) else (ma_wp X (d - 1) (w - 21) 129 0 [(0, .inr (.inr (some 64)))] [] (ma_put S29 66 0 (.inl v30)) (zi (fun v32 S31 => zT S31 ∧ (ma_wp X ((d - 1) - 1) ((w - 21) - 25) 134 0 [(0, .inr (.inr (some 64))), (1, .inl (16 : Int32)), (2, .inl (1500 : Int32))] [] S31 (zi (fun v34 S33 => zT S33 ∧ (if v34 = (-1 : Int32) then (Q (.inl (some (.inl (-1 : Int32)))) (ma_put S33 66 1 (.inl v34))) else (ma_wp X (d - 1) (w - 21) 129 0 [(0, .inr (.inr (some 64)))] [] (ma_put S33 66 1 (.inl v34)) (zi (fun v36 S35 => zT S35 ∧ (ma_wp X ((d - 1) - 1) ((w - 21) - 25) 134 0 [(0, .inr (.inr (some 64))), (1, .inl (1 : Int32)), (2, .inl (7 : Int32))] [] S35 (zi (fun v38 S37 => zT S37 ∧ (if v38 = (-1 : Int32) then (Q (.inl (some (.inl (-1 : Int32)))) (ma_put S37 66 2 (.inl v38))) else (ma_wp X (d - 1) (w - 21) 129 0 [(0, .inr (.inr (some 64)))] [] (ma_put S37 66 2 (.inl v38)) (zi (fun v40 S39 => zT S39 ∧ (ma_wp X ((d - 1) - 1) ((w - 21) - 25) 134 0 [(0, .inr (.inr (some 64))), (1, .inl (4 : Int32)), (2, .inl (64 : Int32))] [] S39 (zi (fun v42 S41 => zT S41 ∧ (if v42 = (-1 : Int32) then (Q (.inl (some (.inl (-1 : Int32)))) (ma_put S41 66 3 (.inl v42))) else (if v4 = (-1 : Int32) then (Q (.inl (some (.inl (-1 : Int32)))) (ma_put S41 66 3 (.inl v42))) else (ma_wp X (d - 1) (w - 21) 129 0 [(0, .inr (.inr (some 64)))] [] (ma_put S41 66 3 (.inl v42)) (zi (fun v44 S43 => zT S43 ∧ (if v44 = 0 then (Q (.inl (some (.inl v4))) S43) else (Q (.inl (some (.inl (-1 : Int32)))) S43))) (fun x S9 => Q (.inr x) S9)))))) (fun _ _ => False)))) (fun x S9 => Q (.inr x) S9))))) (fun _ _ => False)))) (fun x S9 => Q (.inr x) S9))))) (fun _ _ => False)))) (fun x S9 => Q (.inr x) S9))))) (fun _ _ => False)))) (fun x S9 => Q (.inr x) S9))) else (if v4 = (4 : Int32) then (ma_wp X (d - 1) (w - 21) 129 0 [(0, .inr (.inr (some 64)))] [] S3 (zi (fun v46 S45 => zT S45 ∧ (ma_wp X ((d - 1) - 1) ((w - 21) - 25) 134 0 [(0, .inr (.inr (some 64))), (1, .inl (16 : Int32)), (2, .inl (1500 : Int32))] [] S45 (zi (fun v48 S47 => zT S47 ∧ (if v48 = (-1 : Int32) then (Q (.inl (some (.inl (-1 : Int32)))) (ma_put S47 66 0 (.inl v48))) else (ma_wp X (d - 1) (w - 21) 129 0 [(0, .inr (.inr (some 64)))] [] (ma_put S47 66 0 (.inl v48)) (zi (fun v50 S49 => zT S49 ∧ (ma_wp X ((d - 1) - 1) ((w - 21) - 20) 135 0 [(0, .inr (.inr (some 64)))] [] S49 (zi (fun v52 S51 => zT S51 ∧ (if v52 = (-1 : Int32) then (Q (.inl (some (.inl (-1 : Int32)))) (ma_put S51 66 1 (.inl v52))) else (if v4 = (-1 : Int32) then (Q (.inl (some (.inl (-1 : Int32)))) (ma_put S51 66 1 (.inl v52))) else (ma_wp X (d - 1) (w - 21) 129 0 [(0, .inr (.inr (some 64)))] [] (ma_put S51 66 1 (.inl v52)) (zi (fun v54 S53 => zT S53 ∧ (if v54 = 0 then (Q (.inl (some (.inl v4))) S53) else (Q (.inl (some (.inl (-1 : Int32)))) S53))) (fun x S9 => Q (.inr x) S9)))))) (fun _ _ => False)))) (fun x S9 => Q (.inr x) S9))))) (fun _ _ => False)))) (fun x S9 => Q (.inr x) S9))) else (if v4 = (5 : Int32) then (ma_wp X (d - 1) (w - 21) 129 0 [(0, .inr (.inr (some 64)))] [] S3 (zi (fun v56 S55 => zT S55 ∧ (ma_wp X ((d - 1) - 1) ((w - 21) - 25) 134 0 [(0, .inr (.inr (some 64))), (1, .inl (16 : Int32)), (2, .inl (1500 : Int32))] [] S55 (zi (fun v58 S57 => zT S57 ∧ (if v58 = (-1 : Int32) then (Q (.inl (some (.inl (-1 : Int32)))) (ma_put S57 66 0 (.inl v58))) else (ma_wp X (d - 1) (w - 21) 129 0 [(0, .inr (.inr (some 64)))] [] (ma_put S57 66 0 (.inl v58)) (zi (fun v60 S59 => zT S59 ∧ (ma_wp X ((d - 1) - 1) ((w - 21) - 20) 135 0 [(0, .inr (.inr (some 64)))] [] S59 (zi (fun v62 S61 => zT S61 ∧ (if v62 = (-1 : Int32) then (Q (.inl (some (.inl (-1 : Int32)))) (ma_put S61 66 1 (.inl v62))) else (ma_wp X (d - 1) (w - 21) 129 0 [(0, .inr (.inr (some 64)))] [] (ma_put S61 66 1 (.inl v62)) (zi (fun v64 S63 => zT S63 ∧ (ma_wp X ((d - 1) - 1) ((w - 21) - 25) 134 0 [(0, .inr (.inr (some 64))), (1, .inl (1 : Int32)), (2, .inl (50 : Int32))] [] S63 (zi (fun v66 S65 => zT S65 ∧ (if v66 = (-1 : Int32) then (Q (.inl (some (.inl (-1 : Int32)))) (ma_put S65 66 2 (.inl v66))) else (ma_wp X (d - 1) (w - 21) 129 0 [(0, .inr (.inr (some 64)))] [] (ma_put S65 66 2 (.inl v66)) (zi (fun v68 S67 => zT S67 ∧ (ma_wp X ((d - 1) - 1) ((w - 21) - 20) 136 0 [(0, .inr (.inr (some 64)))] [] S67 (zi (fun v70 S69 => zT S69 ∧ (if v70 = (-1 : Int32) then (Q (.inl (some (.inl (-1 : Int32)))) (ma_put S69 66 3 (.inl v70))) else (if v4 = (-1 : Int32) then (Q (.inl (some (.inl (-1 : Int32)))) (ma_put S69 66 3 (.inl v70))) else (ma_wp X (d - 1) (w - 21) 129 0 [(0, .inr (.inr (some 64)))] [] (ma_put S69 66 3 (.inl v70)) (zi (fun v72 S71 => zT S71 ∧ (if v72 = 0 then (Q (.inl (some (.inl v4))) S71) else (Q (.inl (some (.inl (-1 : Int32)))) S71))) (fun x S9 => Q (.inr x) S9)))))) (fun _ _ => False)))) (fun x S9 => Q (.inr x) S9))))) (fun _ _ => False)))) (fun x S9 => Q (.inr x) S9))))) (fun _ _ => False)))) (fun x S9 => Q (.inr x) S9))))) (fun _ _ => False)))) (fun x S9 => Q (.inr x) S9))) else (if v4 = (6 : Int32) then (ma_wp X (d - 1) (w - 21) 129 0 [(0, .inr (.inr (some 64)))] [] S3 (zi (fun v74 S73 => zT S73 ∧ (ma_wp X ((d - 1) - 1) ((w - 21) - 25) 134 0 [(0, .inr (.inr (some 64))), (1, .inl (16 : Int32)), (2, .inl (1500 : Int32))] [] S73 (zi (fun v76 S75 => zT S75 ∧ (if v76 = (-1 : Int32) then (Q (.inl (some (.inl (-1 : Int32)))) (ma_put S75 66 0 (.inl v76))) else (ma_wp X (d - 1) (w - 21) 129 0 [(0, .inr (.inr (some 64)))] [] (ma_put S75 66 0 (.inl v76)) (zi (fun v78 S77 => zT S77 ∧ (ma_wp X ((d - 1) - 1) ((w - 21) - 25) 134 0 [(0, .inr (.inr (some 64))), (1, .inl (16 : Int32)), (2, .inl (if ((mI S77 66 0) / (4 : Int32)) < (256 : Int32) then ((mI S77 66 0) / (4 : Int32)) else (256 : Int32)))] [] S77 (zi (fun v80 S79 => zT S79 ∧ (if v80 = (-1 : Int32) then (Q (.inl (some (.inl (-1 : Int32)))) (ma_put S79 66 1 (.inl v80))) else (ma_wp X (d - 1) (w - 21) 129 0 [(0, .inr (.inr (some 64)))] [] (ma_put S79 66 1 (.inl v80)) (zi (fun v82 S81 => zT S81 ∧ (ma_wp X ((d - 1) - 1) ((w - 21) - 25) 134 0 [(0, .inr (.inr (some 64))), (1, .inl (0 : Int32)), (2, .inl (100 : Int32))] [] S81 (zi (fun v84 S83 => zT S83 ∧ (if v84 = (-1 : Int32) then (Q (.inl (some (.inl (-1 : Int32)))) (ma_put S83 66 2 (.inl v84))) else (if v4 = (-1 : Int32) then (Q (.inl (some (.inl (-1 : Int32)))) (ma_put S83 66 2 (.inl v84))) else (ma_wp X (d - 1) (w - 21) 129 0 [(0, .inr (.inr (some 64)))] [] (ma_put S83 66 2 (.inl v84)) (zi (fun v86 S85 => zT S85 ∧ (if v86 = 0 then (Q (.inl (some (.inl v4))) S85) else (Q (.inl (some (.inl (-1 : Int32)))) S85))) (fun x S9 => Q (.inr x) S9)))))) (fun _ _ => False)))) (fun x S9 => Q (.inr x) S9))))) (fun _ _ => False)))) (fun x S9 => Q (.inr x) S9))))) (fun _ _ => False)))) (fun x S9 => Q (.inr x) S9))) else (if v4 = (-1 : Int32) then (Q (.inl (some (.inl (-1 : Int32)))) S3) else (ma_wp X (d - 1) (w - 21) 129 0 [(0, .inr (.inr (some 64)))] [] S3 (zi (fun v88 S87 => zT S87 ∧ (if v88 = 0 then (Q (.inl (some (.inl v4))) S87) else (Q (.inl (some (.inl (-1 : Int32)))) S87))) (fun x S9 => Q (.inr x) S9)))))))))))) (fun x S9 => Q (.inr x) S9)))) (fun x S9 => Q (.inr x) S9))) : ma_wp X d w 128 0 [(0, .inr (.inr (some 64)))] [] S Q := by
  refine zw_push hm_128 dX11_readPolicy_0 (v := .inr (.inr (some 64))) rfl ?_
  refine zw_push hm_128 dX11_readPolicy_1 (v := .inl (0 : Int32)) rfl ?_
  refine zw_pf hm_128 dX11_readPolicy_2 (zT_is hS s_64) (zT_t hS s_64) p_11_275_11 zk_int ?_
  refine zw_push hm_128 dX11_readPolicy_5 (v := .inr (.inr (some 64))) rfl ?_
  refine zw_cv hm_128 dX11_readPolicy_6 v_11_278_11 hm_129 [] [] rfl (zT_rt (zT_pi hS) s_64 rfl) ⟨by omega, by omega⟩ rfl (zw_mono h (zi_go ?_ ?_))
  · intro v2 S1 hv
    obtain ⟨hS1, h⟩ := hv
    refine zw_stk hm_128 dX11_readPolicy_9 (st' := []) rfl rfl ?_
    refine zw_push hm_128 dX11_readPolicy_10 (v := .inr (.inr (some 64))) rfl ?_
    refine zw_cv hm_128 dX11_readPolicy_11 v_11_281_11 hm_130 [] [] rfl (zT_rt hS1 s_64 rfl) ⟨by omega, by omega⟩ rfl (zw_mono h (zi_go ?_ ?_))
    · intro v4 S3 hv
      obtain ⟨hS3, h⟩ := hv
      refine zw_sto hm_128 dX11_readPolicy_14 [(1, .inl v4), (0, .inr (.inr (some 64)))] rfl rfl rfl ?_
      refine zw_push hm_128 dX11_readPolicy_15 (v := .inl v4) rfl ?_
      refine zw_cs hm_128 dX11_readPolicy_16 pn_11_284 sl_11_284 hm_132 [.inl v4] [] rfl ⟨by omega, by omega⟩ rfl ?_
      show ma_wp X (d - 1) (w - 20) 132 0 [(0, .inl v4)] [] S3 _
      refine zw_push hm_132 dX11_partsOf_0 (v := .inl v4) rfl ?_
      by_cases hc0 : v4 = (0 : Int32)
      · rw [if_pos hc0] at h
        refine zw_jmp hm_132 dX11_partsOf_1 (t := 44) (st' := []) rfl rfl rfl (ma_jmp_tab (by rw [hc0]; decide +kernel)) ?_
        refine zw_txc hm_132 dX11_partsOf_44 txi_11_319 ?_
        refine zw_aret hm_132 dX11_partsOf_47 ?_
        show ma_wp X d w 128 19 [(1, .inl v4), (0, .inr (.inr (some 64)))] [.inr (.inr (some 7))] S3 _
        refine zw_sto hm_128 dX11_readPolicy_19 [(2, .inr (.inr (some 7))), (1, .inl v4), (0, .inr (.inr (some 64)))] rfl rfl rfl ?_
        refine zw_push hm_128 dX11_readPolicy_20 (v := .inl (0 : Int32)) rfl ?_
        refine zw_sto hm_128 dX11_readPolicy_21 [(3, .inl (0 : Int32)), (2, .inr (.inr (some 7))), (1, .inl v4), (0, .inr (.inr (some 64)))] rfl rfl rfl ?_
        refine zw_push hm_128 dX11_readPolicy_22 (v := .inl (0 : Int32)) rfl ?_
        refine zw_push hm_128 dX11_readPolicy_23 (v := .inr (.inr (some 7))) rfl ?_
        refine zw_cv hm_128 dX11_readPolicy_24 v_11_288_17 hm_277 [] [.inl (0 : Int32)] rfl rfl ⟨by omega, by omega⟩ rfl (tx_len (v := (2 : Int32)) (by decide) (by omega) (by omega) rfl rfl ?_)
        show ma_wp X d w 128 27 [(3, .inl (0 : Int32)), (2, .inr (.inr (some 7))), (1, .inl v4), (0, .inr (.inr (some 64)))] [.inl (2 : Int32), .inl (0 : Int32)] S3 _
        refine zw_if2 hm_128 dX11_readPolicy_27 (t := 73) rfl zc2_ge (fun hc => absurd hc (by decide)) (fun _ => ?_)
        refine zw_push hm_128 dX11_readPolicy_30 (v := .inl (0 : Int32)) rfl ?_
        refine zw_push hm_128 dX11_readPolicy_31 (v := .inl (4 : Int32)) rfl ?_
        refine zw_if2 hm_128 dX11_readPolicy_32 (t := 73) rfl zc2_ge (fun hc => absurd hc (by decide)) (fun _ => ?_)
        refine zw_push hm_128 dX11_readPolicy_35 (v := .inr (.inr (some 64))) rfl ?_
        refine zw_cv hm_128 dX11_readPolicy_36 v_11_278_11 hm_129 [] [] rfl (zT_rt hS3 s_64 rfl) ⟨by omega, by omega⟩ rfl (zw_mono h (zi_go ?_ ?_))
        · intro v6 S5 hv
          obtain ⟨hS5, h⟩ := hv
          refine zw_stk hm_128 dX11_readPolicy_39 (st' := []) rfl rfl ?_
          refine zw_push hm_128 dX11_readPolicy_40 (v := .inr (.inr (some 64))) rfl ?_
          refine zw_gf hm_128 dX11_readPolicy_41 (v := .inr (.inr (some 66))) (zT_is hS5 s_64) (zT_t hS5 s_64) rfl f_11_13_11 (zT_f hS5 r_64_4) ?_
          refine zw_push hm_128 dX11_readPolicy_44 (v := .inl (0 : Int32)) rfl ?_
          refine zw_push hm_128 dX11_readPolicy_45 (v := .inr (.inr (some 64))) rfl ?_
          refine zw_push hm_128 dX11_readPolicy_46 (v := .inr (.inr (some 7))) rfl ?_
          refine zw_push hm_128 dX11_readPolicy_47 (v := .inl (0 : Int32)) rfl ?_
          refine zw_cv hm_128 dX11_readPolicy_48 v_11_293_17 hm_279 [.inl (0 : Int32)] [.inr (.inr (some 64)), .inl (0 : Int32), .inr (.inr (some 66))] rfl rfl ⟨by omega, by omega⟩ rfl (tx_char (v := (114 : Int32)) (by decide) (by omega) (by omega) (by decide) (by decide) (by decide) (by decide) ?_)
          show ma_wp X d w 128 51 [(3, .inl (0 : Int32)), (2, .inr (.inr (some 7))), (1, .inl v4), (0, .inr (.inr (some 64)))] [.inl (114 : Int32), .inr (.inr (some 64)), .inl (0 : Int32), .inr (.inr (some 66))] S5 _
          refine zw_cv hm_128 dX11_readPolicy_51 v_11_297_11 hm_133 [.inl (114 : Int32)] [.inl (0 : Int32), .inr (.inr (some 66))] rfl (zT_rt hS5 s_64 rfl) ⟨by omega, by omega⟩ rfl ?_
          show ma_wp X (d - 1) (w - 21) 133 0 [(0, .inr (.inr (some 64))), (1, .inl (114 : Int32))] [] S5 _
          refine zw_push hm_133 dX11_partToken_0 (v := .inl (114 : Int32)) rfl ?_
          refine zw_jmp hm_133 dX11_partToken_1 (t := 68) (st' := []) rfl rfl rfl (by decide +kernel) ?_
          refine zw_push hm_133 dX11_partToken_68 (v := .inr (.inr (some 64))) rfl ?_
          refine zw_push hm_133 dX11_partToken_69 (v := .inl (16 : Int32)) rfl ?_
          refine zw_push hm_133 dX11_partToken_71 (v := .inl (1500 : Int32)) rfl ?_
          refine zw_cv hm_133 dX11_partToken_74 v_11_331_11 hm_134 [.inl (1500 : Int32), .inl (16 : Int32)] [] rfl (zT_rt hS5 s_64 rfl) ⟨by omega, by omega⟩ rfl (zw_mono h (zi_go ?_ ?_))
          · intro v8 S7 hv
            obtain ⟨hS7, h⟩ := hv
            refine zw_iret hm_133 dX11_partToken_77 ?_
            show ma_wp X d w 128 54 [(3, .inl (0 : Int32)), (2, .inr (.inr (some 7))), (1, .inl v4), (0, .inr (.inr (some 64)))] [.inl v8, .inl (0 : Int32), .inr (.inr (some 66))] S7 _
            refine zw_ias hm_128 dX11_readPolicy_54 (zT_is hS7 s_66) (zT_h hS7 s_66) rfl ⟨by decide, by decide⟩ ?_
            refine zw_push hm_128 dX11_readPolicy_55 (v := .inr (.inr (some 64))) rfl ?_
            refine zw_gf hm_128 dX11_readPolicy_56 (v := .inr (.inr (some 66))) (zT_is (zT_pi hS7) s_64) (zT_t (zT_pi hS7) s_64) rfl f_11_13_11 (zT_f (zT_pi hS7) r_64_4) ?_
            refine zw_push hm_128 dX11_readPolicy_59 (v := .inl (0 : Int32)) rfl ?_
            refine zw_ia hm_128 dX11_readPolicy_60 (zT_is (zT_pi hS7) s_66) (zT_h (zT_pi hS7) s_66) rfl ⟨by decide, by decide⟩ ?_
            show ma_wp X d w 128 61 [(3, .inl (0 : Int32)), (2, .inr (.inr (some 7))), (1, .inl v4), (0, .inr (.inr (some 64)))] [.inl v8] (ma_put S7 66 0 (.inl v8)) _
            refine zw_push hm_128 dX11_readPolicy_61 (v := .inl (-1 : Int32)) rfl ?_
            refine zw_if2 hm_128 dX11_readPolicy_62 (t := 67) rfl zc2_ne ?_ ?_
            · intro hc
              rw [if_neg hc] at h
              refine zw_sto hm_128 dX11_readPolicy_67 [(3, .inl (1 : Int32)), (2, .inr (.inr (some 7))), (1, .inl v4), (0, .inr (.inr (some 64)))] rfl rfl rfl ?_
              refine zw_goto hm_128 dX11_readPolicy_70 (t := 22) rfl ?_
              refine zw_push hm_128 dX11_readPolicy_22 (v := .inl (1 : Int32)) rfl ?_
              refine zw_push hm_128 dX11_readPolicy_23 (v := .inr (.inr (some 7))) rfl ?_
              refine zw_cv hm_128 dX11_readPolicy_24 v_11_288_17 hm_277 [] [.inl (1 : Int32)] rfl rfl ⟨by omega, by omega⟩ rfl (tx_len (v := (2 : Int32)) (by decide) (by omega) (by omega) rfl rfl ?_)
              show ma_wp X d w 128 27 [(3, .inl (1 : Int32)), (2, .inr (.inr (some 7))), (1, .inl v4), (0, .inr (.inr (some 64)))] [.inl (2 : Int32), .inl (1 : Int32)] (ma_put S7 66 0 (.inl v8)) _
              refine zw_if2 hm_128 dX11_readPolicy_27 (t := 73) rfl zc2_ge (fun hc => absurd hc (by decide)) (fun _ => ?_)
              refine zw_push hm_128 dX11_readPolicy_30 (v := .inl (1 : Int32)) rfl ?_
              refine zw_push hm_128 dX11_readPolicy_31 (v := .inl (4 : Int32)) rfl ?_
              refine zw_if2 hm_128 dX11_readPolicy_32 (t := 73) rfl zc2_ge (fun hc => absurd hc (by decide)) (fun _ => ?_)
              refine zw_push hm_128 dX11_readPolicy_35 (v := .inr (.inr (some 64))) rfl ?_
              refine zw_cv hm_128 dX11_readPolicy_36 v_11_278_11 hm_129 [] [] rfl (zT_rt (zT_pi hS7) s_64 rfl) ⟨by omega, by omega⟩ rfl (zw_mono h (zi_go ?_ ?_))
              · intro v10 S9 hv
                obtain ⟨hS9, h⟩ := hv
                refine zw_stk hm_128 dX11_readPolicy_39 (st' := []) rfl rfl ?_
                refine zw_push hm_128 dX11_readPolicy_40 (v := .inr (.inr (some 64))) rfl ?_
                refine zw_gf hm_128 dX11_readPolicy_41 (v := .inr (.inr (some 66))) (zT_is hS9 s_64) (zT_t hS9 s_64) rfl f_11_13_11 (zT_f hS9 r_64_4) ?_
                refine zw_push hm_128 dX11_readPolicy_44 (v := .inl (1 : Int32)) rfl ?_
                refine zw_push hm_128 dX11_readPolicy_45 (v := .inr (.inr (some 64))) rfl ?_
                refine zw_push hm_128 dX11_readPolicy_46 (v := .inr (.inr (some 7))) rfl ?_
                refine zw_push hm_128 dX11_readPolicy_47 (v := .inl (1 : Int32)) rfl ?_
                refine zw_cv hm_128 dX11_readPolicy_48 v_11_293_17 hm_279 [.inl (1 : Int32)] [.inr (.inr (some 64)), .inl (1 : Int32), .inr (.inr (some 66))] rfl rfl ⟨by omega, by omega⟩ rfl (tx_char (v := (102 : Int32)) (by decide) (by omega) (by omega) (by decide) (by decide) (by decide) (by decide) ?_)
                show ma_wp X d w 128 51 [(3, .inl (1 : Int32)), (2, .inr (.inr (some 7))), (1, .inl v4), (0, .inr (.inr (some 64)))] [.inl (102 : Int32), .inr (.inr (some 64)), .inl (1 : Int32), .inr (.inr (some 66))] S9 _
                refine zw_cv hm_128 dX11_readPolicy_51 v_11_297_11 hm_133 [.inl (102 : Int32)] [.inl (1 : Int32), .inr (.inr (some 66))] rfl (zT_rt hS9 s_64 rfl) ⟨by omega, by omega⟩ rfl ?_
                show ma_wp X (d - 1) (w - 21) 133 0 [(0, .inr (.inr (some 64))), (1, .inl (102 : Int32))] [] S9 _
                refine zw_push hm_133 dX11_partToken_0 (v := .inl (102 : Int32)) rfl ?_
                refine zw_jmp hm_133 dX11_partToken_1 (t := 131) (st' := []) rfl rfl rfl (by decide +kernel) ?_
                refine zw_push hm_133 dX11_partToken_131 (v := .inr (.inr (some 64))) rfl ?_
                refine zw_cv hm_133 dX11_partToken_132 v_11_340_11 hm_135 [] [] rfl (zT_rt hS9 s_64 rfl) ⟨by omega, by omega⟩ rfl (zw_mono h (zi_go ?_ ?_))
                · intro v12 S11 hv
                  obtain ⟨hS11, h⟩ := hv
                  refine zw_iret hm_133 dX11_partToken_135 ?_
                  show ma_wp X d w 128 54 [(3, .inl (1 : Int32)), (2, .inr (.inr (some 7))), (1, .inl v4), (0, .inr (.inr (some 64)))] [.inl v12, .inl (1 : Int32), .inr (.inr (some 66))] S11 _
                  refine zw_ias hm_128 dX11_readPolicy_54 (zT_is hS11 s_66) (zT_h hS11 s_66) rfl ⟨by decide, by decide⟩ ?_
                  refine zw_push hm_128 dX11_readPolicy_55 (v := .inr (.inr (some 64))) rfl ?_
                  refine zw_gf hm_128 dX11_readPolicy_56 (v := .inr (.inr (some 66))) (zT_is (zT_pi hS11) s_64) (zT_t (zT_pi hS11) s_64) rfl f_11_13_11 (zT_f (zT_pi hS11) r_64_4) ?_
                  refine zw_push hm_128 dX11_readPolicy_59 (v := .inl (1 : Int32)) rfl ?_
                  refine zw_ia hm_128 dX11_readPolicy_60 (zT_is (zT_pi hS11) s_66) (zT_h (zT_pi hS11) s_66) rfl ⟨by decide, by decide⟩ ?_
                  show ma_wp X d w 128 61 [(3, .inl (1 : Int32)), (2, .inr (.inr (some 7))), (1, .inl v4), (0, .inr (.inr (some 64)))] [.inl v12] (ma_put S11 66 1 (.inl v12)) _
                  refine zw_push hm_128 dX11_readPolicy_61 (v := .inl (-1 : Int32)) rfl ?_
                  refine zw_if2 hm_128 dX11_readPolicy_62 (t := 67) rfl zc2_ne ?_ ?_
                  · intro hc
                    rw [if_neg hc] at h
                    refine zw_sto hm_128 dX11_readPolicy_67 [(3, .inl (2 : Int32)), (2, .inr (.inr (some 7))), (1, .inl v4), (0, .inr (.inr (some 64)))] rfl rfl rfl ?_
                    refine zw_goto hm_128 dX11_readPolicy_70 (t := 22) rfl ?_
                    refine zw_push hm_128 dX11_readPolicy_22 (v := .inl (2 : Int32)) rfl ?_
                    refine zw_push hm_128 dX11_readPolicy_23 (v := .inr (.inr (some 7))) rfl ?_
                    refine zw_cv hm_128 dX11_readPolicy_24 v_11_288_17 hm_277 [] [.inl (2 : Int32)] rfl rfl ⟨by omega, by omega⟩ rfl (tx_len (v := (2 : Int32)) (by decide) (by omega) (by omega) rfl rfl ?_)
                    show ma_wp X d w 128 27 [(3, .inl (2 : Int32)), (2, .inr (.inr (some 7))), (1, .inl v4), (0, .inr (.inr (some 64)))] [.inl (2 : Int32), .inl (2 : Int32)] (ma_put S11 66 1 (.inl v12)) _
                    refine zw_if2 hm_128 dX11_readPolicy_27 (t := 73) rfl zc2_ge (fun _ => ?_) (fun hc => absurd (by decide) hc)
                    refine zw_push hm_128 dX11_readPolicy_73 (v := .inl v4) rfl ?_
                    refine zw_push hm_128 dX11_readPolicy_74 (v := .inl (-1 : Int32)) rfl ?_
                    refine zw_if2 hm_128 dX11_readPolicy_75 (t := 85) rfl zc2_eq ?_ ?_
                    · intro hc
                      rw [if_pos hc] at h
                      refine zw_push hm_128 dX11_readPolicy_85 (v := .inl (-1 : Int32)) rfl ?_
                      exact zw_iret hm_128 dX11_readPolicy_86 h
                    · intro hc
                      rw [if_neg hc] at h
                      refine zw_push hm_128 dX11_readPolicy_78 (v := .inr (.inr (some 64))) rfl ?_
                      refine zw_cv hm_128 dX11_readPolicy_79 v_11_278_11 hm_129 [] [] rfl (zT_rt (zT_pi hS11) s_64 rfl) ⟨by omega, by omega⟩ rfl (zw_mono h (zi_go ?_ ?_))
                      · intro v14 S13 hv
                        obtain ⟨hS13, h⟩ := hv
                        refine zw_if0 hm_128 dX11_readPolicy_82 (t := 87) rfl zc0_eq ?_ ?_
                        · intro hc
                          rw [if_pos hc] at h
                          refine zw_push hm_128 dX11_readPolicy_87 (v := .inl v4) rfl ?_
                          exact zw_iret hm_128 dX11_readPolicy_88 h
                        · intro hc
                          rw [if_neg hc] at h
                          refine zw_push hm_128 dX11_readPolicy_85 (v := .inl (-1 : Int32)) rfl ?_
                          exact zw_iret hm_128 dX11_readPolicy_86 h
                      · intro x S9 hx
                        exact ⟨by decide, hx⟩
                  · intro hc
                    rw [if_pos (Classical.not_not.mp hc)] at h
                    refine zw_push hm_128 dX11_readPolicy_65 (v := .inl (-1 : Int32)) rfl ?_
                    exact zw_iret hm_128 dX11_readPolicy_66 h
                · intro x S9 hx
                  exact hx.elim
              · intro x S9 hx
                exact ⟨by decide, hx⟩
            · intro hc
              rw [if_pos (Classical.not_not.mp hc)] at h
              refine zw_push hm_128 dX11_readPolicy_65 (v := .inl (-1 : Int32)) rfl ?_
              exact zw_iret hm_128 dX11_readPolicy_66 h
          · intro x S9 hx
            exact hx.elim
        · intro x S9 hx
          exact ⟨by decide, hx⟩
      rw [if_neg hc0] at h
      by_cases hc1 : v4 = (1 : Int32)
      · rw [if_pos hc1] at h
        refine zw_jmp hm_132 dX11_partsOf_1 (t := 48) (st' := []) rfl rfl rfl (ma_jmp_tab (by rw [hc1]; decide +kernel)) ?_
        refine zw_txc hm_132 dX11_partsOf_48 txi_11_321 ?_
        refine zw_aret hm_132 dX11_partsOf_51 ?_
        show ma_wp X d w 128 19 [(1, .inl v4), (0, .inr (.inr (some 64)))] [.inr (.inr (some 8))] S3 _
        refine zw_sto hm_128 dX11_readPolicy_19 [(2, .inr (.inr (some 8))), (1, .inl v4), (0, .inr (.inr (some 64)))] rfl rfl rfl ?_
        refine zw_push hm_128 dX11_readPolicy_20 (v := .inl (0 : Int32)) rfl ?_
        refine zw_sto hm_128 dX11_readPolicy_21 [(3, .inl (0 : Int32)), (2, .inr (.inr (some 8))), (1, .inl v4), (0, .inr (.inr (some 64)))] rfl rfl rfl ?_
        refine zw_push hm_128 dX11_readPolicy_22 (v := .inl (0 : Int32)) rfl ?_
        refine zw_push hm_128 dX11_readPolicy_23 (v := .inr (.inr (some 8))) rfl ?_
        refine zw_cv hm_128 dX11_readPolicy_24 v_11_288_17 hm_277 [] [.inl (0 : Int32)] rfl rfl ⟨by omega, by omega⟩ rfl (tx_len (v := (1 : Int32)) (by decide) (by omega) (by omega) rfl rfl ?_)
        show ma_wp X d w 128 27 [(3, .inl (0 : Int32)), (2, .inr (.inr (some 8))), (1, .inl v4), (0, .inr (.inr (some 64)))] [.inl (1 : Int32), .inl (0 : Int32)] S3 _
        refine zw_if2 hm_128 dX11_readPolicy_27 (t := 73) rfl zc2_ge (fun hc => absurd hc (by decide)) (fun _ => ?_)
        refine zw_push hm_128 dX11_readPolicy_30 (v := .inl (0 : Int32)) rfl ?_
        refine zw_push hm_128 dX11_readPolicy_31 (v := .inl (4 : Int32)) rfl ?_
        refine zw_if2 hm_128 dX11_readPolicy_32 (t := 73) rfl zc2_ge (fun hc => absurd hc (by decide)) (fun _ => ?_)
        refine zw_push hm_128 dX11_readPolicy_35 (v := .inr (.inr (some 64))) rfl ?_
        refine zw_cv hm_128 dX11_readPolicy_36 v_11_278_11 hm_129 [] [] rfl (zT_rt hS3 s_64 rfl) ⟨by omega, by omega⟩ rfl (zw_mono h (zi_go ?_ ?_))
        · intro v16 S15 hv
          obtain ⟨hS15, h⟩ := hv
          refine zw_stk hm_128 dX11_readPolicy_39 (st' := []) rfl rfl ?_
          refine zw_push hm_128 dX11_readPolicy_40 (v := .inr (.inr (some 64))) rfl ?_
          refine zw_gf hm_128 dX11_readPolicy_41 (v := .inr (.inr (some 66))) (zT_is hS15 s_64) (zT_t hS15 s_64) rfl f_11_13_11 (zT_f hS15 r_64_4) ?_
          refine zw_push hm_128 dX11_readPolicy_44 (v := .inl (0 : Int32)) rfl ?_
          refine zw_push hm_128 dX11_readPolicy_45 (v := .inr (.inr (some 64))) rfl ?_
          refine zw_push hm_128 dX11_readPolicy_46 (v := .inr (.inr (some 8))) rfl ?_
          refine zw_push hm_128 dX11_readPolicy_47 (v := .inl (0 : Int32)) rfl ?_
          refine zw_cv hm_128 dX11_readPolicy_48 v_11_293_17 hm_279 [.inl (0 : Int32)] [.inr (.inr (some 64)), .inl (0 : Int32), .inr (.inr (some 66))] rfl rfl ⟨by omega, by omega⟩ rfl (tx_char (v := (114 : Int32)) (by decide) (by omega) (by omega) (by decide) (by decide) (by decide) (by decide) ?_)
          show ma_wp X d w 128 51 [(3, .inl (0 : Int32)), (2, .inr (.inr (some 8))), (1, .inl v4), (0, .inr (.inr (some 64)))] [.inl (114 : Int32), .inr (.inr (some 64)), .inl (0 : Int32), .inr (.inr (some 66))] S15 _
          refine zw_cv hm_128 dX11_readPolicy_51 v_11_297_11 hm_133 [.inl (114 : Int32)] [.inl (0 : Int32), .inr (.inr (some 66))] rfl (zT_rt hS15 s_64 rfl) ⟨by omega, by omega⟩ rfl ?_
          show ma_wp X (d - 1) (w - 21) 133 0 [(0, .inr (.inr (some 64))), (1, .inl (114 : Int32))] [] S15 _
          refine zw_push hm_133 dX11_partToken_0 (v := .inl (114 : Int32)) rfl ?_
          refine zw_jmp hm_133 dX11_partToken_1 (t := 68) (st' := []) rfl rfl rfl (by decide +kernel) ?_
          refine zw_push hm_133 dX11_partToken_68 (v := .inr (.inr (some 64))) rfl ?_
          refine zw_push hm_133 dX11_partToken_69 (v := .inl (16 : Int32)) rfl ?_
          refine zw_push hm_133 dX11_partToken_71 (v := .inl (1500 : Int32)) rfl ?_
          refine zw_cv hm_133 dX11_partToken_74 v_11_331_11 hm_134 [.inl (1500 : Int32), .inl (16 : Int32)] [] rfl (zT_rt hS15 s_64 rfl) ⟨by omega, by omega⟩ rfl (zw_mono h (zi_go ?_ ?_))
          · intro v18 S17 hv
            obtain ⟨hS17, h⟩ := hv
            refine zw_iret hm_133 dX11_partToken_77 ?_
            show ma_wp X d w 128 54 [(3, .inl (0 : Int32)), (2, .inr (.inr (some 8))), (1, .inl v4), (0, .inr (.inr (some 64)))] [.inl v18, .inl (0 : Int32), .inr (.inr (some 66))] S17 _
            refine zw_ias hm_128 dX11_readPolicy_54 (zT_is hS17 s_66) (zT_h hS17 s_66) rfl ⟨by decide, by decide⟩ ?_
            refine zw_push hm_128 dX11_readPolicy_55 (v := .inr (.inr (some 64))) rfl ?_
            refine zw_gf hm_128 dX11_readPolicy_56 (v := .inr (.inr (some 66))) (zT_is (zT_pi hS17) s_64) (zT_t (zT_pi hS17) s_64) rfl f_11_13_11 (zT_f (zT_pi hS17) r_64_4) ?_
            refine zw_push hm_128 dX11_readPolicy_59 (v := .inl (0 : Int32)) rfl ?_
            refine zw_ia hm_128 dX11_readPolicy_60 (zT_is (zT_pi hS17) s_66) (zT_h (zT_pi hS17) s_66) rfl ⟨by decide, by decide⟩ ?_
            show ma_wp X d w 128 61 [(3, .inl (0 : Int32)), (2, .inr (.inr (some 8))), (1, .inl v4), (0, .inr (.inr (some 64)))] [.inl v18] (ma_put S17 66 0 (.inl v18)) _
            refine zw_push hm_128 dX11_readPolicy_61 (v := .inl (-1 : Int32)) rfl ?_
            refine zw_if2 hm_128 dX11_readPolicy_62 (t := 67) rfl zc2_ne ?_ ?_
            · intro hc
              rw [if_neg hc] at h
              refine zw_sto hm_128 dX11_readPolicy_67 [(3, .inl (1 : Int32)), (2, .inr (.inr (some 8))), (1, .inl v4), (0, .inr (.inr (some 64)))] rfl rfl rfl ?_
              refine zw_goto hm_128 dX11_readPolicy_70 (t := 22) rfl ?_
              refine zw_push hm_128 dX11_readPolicy_22 (v := .inl (1 : Int32)) rfl ?_
              refine zw_push hm_128 dX11_readPolicy_23 (v := .inr (.inr (some 8))) rfl ?_
              refine zw_cv hm_128 dX11_readPolicy_24 v_11_288_17 hm_277 [] [.inl (1 : Int32)] rfl rfl ⟨by omega, by omega⟩ rfl (tx_len (v := (1 : Int32)) (by decide) (by omega) (by omega) rfl rfl ?_)
              show ma_wp X d w 128 27 [(3, .inl (1 : Int32)), (2, .inr (.inr (some 8))), (1, .inl v4), (0, .inr (.inr (some 64)))] [.inl (1 : Int32), .inl (1 : Int32)] (ma_put S17 66 0 (.inl v18)) _
              refine zw_if2 hm_128 dX11_readPolicy_27 (t := 73) rfl zc2_ge (fun _ => ?_) (fun hc => absurd (by decide) hc)
              refine zw_push hm_128 dX11_readPolicy_73 (v := .inl v4) rfl ?_
              refine zw_push hm_128 dX11_readPolicy_74 (v := .inl (-1 : Int32)) rfl ?_
              refine zw_if2 hm_128 dX11_readPolicy_75 (t := 85) rfl zc2_eq ?_ ?_
              · intro hc
                rw [if_pos hc] at h
                refine zw_push hm_128 dX11_readPolicy_85 (v := .inl (-1 : Int32)) rfl ?_
                exact zw_iret hm_128 dX11_readPolicy_86 h
              · intro hc
                rw [if_neg hc] at h
                refine zw_push hm_128 dX11_readPolicy_78 (v := .inr (.inr (some 64))) rfl ?_
                refine zw_cv hm_128 dX11_readPolicy_79 v_11_278_11 hm_129 [] [] rfl (zT_rt (zT_pi hS17) s_64 rfl) ⟨by omega, by omega⟩ rfl (zw_mono h (zi_go ?_ ?_))
                · intro v20 S19 hv
                  obtain ⟨hS19, h⟩ := hv
                  refine zw_if0 hm_128 dX11_readPolicy_82 (t := 87) rfl zc0_eq ?_ ?_
                  · intro hc
                    rw [if_pos hc] at h
                    refine zw_push hm_128 dX11_readPolicy_87 (v := .inl v4) rfl ?_
                    exact zw_iret hm_128 dX11_readPolicy_88 h
                  · intro hc
                    rw [if_neg hc] at h
                    refine zw_push hm_128 dX11_readPolicy_85 (v := .inl (-1 : Int32)) rfl ?_
                    exact zw_iret hm_128 dX11_readPolicy_86 h
                · intro x S9 hx
                  exact ⟨by decide, hx⟩
            · intro hc
              rw [if_pos (Classical.not_not.mp hc)] at h
              refine zw_push hm_128 dX11_readPolicy_65 (v := .inl (-1 : Int32)) rfl ?_
              exact zw_iret hm_128 dX11_readPolicy_66 h
          · intro x S9 hx
            exact hx.elim
        · intro x S9 hx
          exact ⟨by decide, hx⟩
      rw [if_neg hc1] at h
      by_cases hc2 : v4 = (2 : Int32)
      · rw [if_pos hc2] at h
        refine zw_jmp hm_132 dX11_partsOf_1 (t := 52) (st' := []) rfl rfl rfl (ma_jmp_tab (by rw [hc2]; decide +kernel)) ?_
        refine zw_txc hm_132 dX11_partsOf_52 txi_11_321 ?_
        refine zw_aret hm_132 dX11_partsOf_55 ?_
        show ma_wp X d w 128 19 [(1, .inl v4), (0, .inr (.inr (some 64)))] [.inr (.inr (some 8))] S3 _
        refine zw_sto hm_128 dX11_readPolicy_19 [(2, .inr (.inr (some 8))), (1, .inl v4), (0, .inr (.inr (some 64)))] rfl rfl rfl ?_
        refine zw_push hm_128 dX11_readPolicy_20 (v := .inl (0 : Int32)) rfl ?_
        refine zw_sto hm_128 dX11_readPolicy_21 [(3, .inl (0 : Int32)), (2, .inr (.inr (some 8))), (1, .inl v4), (0, .inr (.inr (some 64)))] rfl rfl rfl ?_
        refine zw_push hm_128 dX11_readPolicy_22 (v := .inl (0 : Int32)) rfl ?_
        refine zw_push hm_128 dX11_readPolicy_23 (v := .inr (.inr (some 8))) rfl ?_
        refine zw_cv hm_128 dX11_readPolicy_24 v_11_288_17 hm_277 [] [.inl (0 : Int32)] rfl rfl ⟨by omega, by omega⟩ rfl (tx_len (v := (1 : Int32)) (by decide) (by omega) (by omega) rfl rfl ?_)
        show ma_wp X d w 128 27 [(3, .inl (0 : Int32)), (2, .inr (.inr (some 8))), (1, .inl v4), (0, .inr (.inr (some 64)))] [.inl (1 : Int32), .inl (0 : Int32)] S3 _
        refine zw_if2 hm_128 dX11_readPolicy_27 (t := 73) rfl zc2_ge (fun hc => absurd hc (by decide)) (fun _ => ?_)
        refine zw_push hm_128 dX11_readPolicy_30 (v := .inl (0 : Int32)) rfl ?_
        refine zw_push hm_128 dX11_readPolicy_31 (v := .inl (4 : Int32)) rfl ?_
        refine zw_if2 hm_128 dX11_readPolicy_32 (t := 73) rfl zc2_ge (fun hc => absurd hc (by decide)) (fun _ => ?_)
        refine zw_push hm_128 dX11_readPolicy_35 (v := .inr (.inr (some 64))) rfl ?_
        refine zw_cv hm_128 dX11_readPolicy_36 v_11_278_11 hm_129 [] [] rfl (zT_rt hS3 s_64 rfl) ⟨by omega, by omega⟩ rfl (zw_mono h (zi_go ?_ ?_))
        · intro v22 S21 hv
          obtain ⟨hS21, h⟩ := hv
          refine zw_stk hm_128 dX11_readPolicy_39 (st' := []) rfl rfl ?_
          refine zw_push hm_128 dX11_readPolicy_40 (v := .inr (.inr (some 64))) rfl ?_
          refine zw_gf hm_128 dX11_readPolicy_41 (v := .inr (.inr (some 66))) (zT_is hS21 s_64) (zT_t hS21 s_64) rfl f_11_13_11 (zT_f hS21 r_64_4) ?_
          refine zw_push hm_128 dX11_readPolicy_44 (v := .inl (0 : Int32)) rfl ?_
          refine zw_push hm_128 dX11_readPolicy_45 (v := .inr (.inr (some 64))) rfl ?_
          refine zw_push hm_128 dX11_readPolicy_46 (v := .inr (.inr (some 8))) rfl ?_
          refine zw_push hm_128 dX11_readPolicy_47 (v := .inl (0 : Int32)) rfl ?_
          refine zw_cv hm_128 dX11_readPolicy_48 v_11_293_17 hm_279 [.inl (0 : Int32)] [.inr (.inr (some 64)), .inl (0 : Int32), .inr (.inr (some 66))] rfl rfl ⟨by omega, by omega⟩ rfl (tx_char (v := (114 : Int32)) (by decide) (by omega) (by omega) (by decide) (by decide) (by decide) (by decide) ?_)
          show ma_wp X d w 128 51 [(3, .inl (0 : Int32)), (2, .inr (.inr (some 8))), (1, .inl v4), (0, .inr (.inr (some 64)))] [.inl (114 : Int32), .inr (.inr (some 64)), .inl (0 : Int32), .inr (.inr (some 66))] S21 _
          refine zw_cv hm_128 dX11_readPolicy_51 v_11_297_11 hm_133 [.inl (114 : Int32)] [.inl (0 : Int32), .inr (.inr (some 66))] rfl (zT_rt hS21 s_64 rfl) ⟨by omega, by omega⟩ rfl ?_
          show ma_wp X (d - 1) (w - 21) 133 0 [(0, .inr (.inr (some 64))), (1, .inl (114 : Int32))] [] S21 _
          refine zw_push hm_133 dX11_partToken_0 (v := .inl (114 : Int32)) rfl ?_
          refine zw_jmp hm_133 dX11_partToken_1 (t := 68) (st' := []) rfl rfl rfl (by decide +kernel) ?_
          refine zw_push hm_133 dX11_partToken_68 (v := .inr (.inr (some 64))) rfl ?_
          refine zw_push hm_133 dX11_partToken_69 (v := .inl (16 : Int32)) rfl ?_
          refine zw_push hm_133 dX11_partToken_71 (v := .inl (1500 : Int32)) rfl ?_
          refine zw_cv hm_133 dX11_partToken_74 v_11_331_11 hm_134 [.inl (1500 : Int32), .inl (16 : Int32)] [] rfl (zT_rt hS21 s_64 rfl) ⟨by omega, by omega⟩ rfl (zw_mono h (zi_go ?_ ?_))
          · intro v24 S23 hv
            obtain ⟨hS23, h⟩ := hv
            refine zw_iret hm_133 dX11_partToken_77 ?_
            show ma_wp X d w 128 54 [(3, .inl (0 : Int32)), (2, .inr (.inr (some 8))), (1, .inl v4), (0, .inr (.inr (some 64)))] [.inl v24, .inl (0 : Int32), .inr (.inr (some 66))] S23 _
            refine zw_ias hm_128 dX11_readPolicy_54 (zT_is hS23 s_66) (zT_h hS23 s_66) rfl ⟨by decide, by decide⟩ ?_
            refine zw_push hm_128 dX11_readPolicy_55 (v := .inr (.inr (some 64))) rfl ?_
            refine zw_gf hm_128 dX11_readPolicy_56 (v := .inr (.inr (some 66))) (zT_is (zT_pi hS23) s_64) (zT_t (zT_pi hS23) s_64) rfl f_11_13_11 (zT_f (zT_pi hS23) r_64_4) ?_
            refine zw_push hm_128 dX11_readPolicy_59 (v := .inl (0 : Int32)) rfl ?_
            refine zw_ia hm_128 dX11_readPolicy_60 (zT_is (zT_pi hS23) s_66) (zT_h (zT_pi hS23) s_66) rfl ⟨by decide, by decide⟩ ?_
            show ma_wp X d w 128 61 [(3, .inl (0 : Int32)), (2, .inr (.inr (some 8))), (1, .inl v4), (0, .inr (.inr (some 64)))] [.inl v24] (ma_put S23 66 0 (.inl v24)) _
            refine zw_push hm_128 dX11_readPolicy_61 (v := .inl (-1 : Int32)) rfl ?_
            refine zw_if2 hm_128 dX11_readPolicy_62 (t := 67) rfl zc2_ne ?_ ?_
            · intro hc
              rw [if_neg hc] at h
              refine zw_sto hm_128 dX11_readPolicy_67 [(3, .inl (1 : Int32)), (2, .inr (.inr (some 8))), (1, .inl v4), (0, .inr (.inr (some 64)))] rfl rfl rfl ?_
              refine zw_goto hm_128 dX11_readPolicy_70 (t := 22) rfl ?_
              refine zw_push hm_128 dX11_readPolicy_22 (v := .inl (1 : Int32)) rfl ?_
              refine zw_push hm_128 dX11_readPolicy_23 (v := .inr (.inr (some 8))) rfl ?_
              refine zw_cv hm_128 dX11_readPolicy_24 v_11_288_17 hm_277 [] [.inl (1 : Int32)] rfl rfl ⟨by omega, by omega⟩ rfl (tx_len (v := (1 : Int32)) (by decide) (by omega) (by omega) rfl rfl ?_)
              show ma_wp X d w 128 27 [(3, .inl (1 : Int32)), (2, .inr (.inr (some 8))), (1, .inl v4), (0, .inr (.inr (some 64)))] [.inl (1 : Int32), .inl (1 : Int32)] (ma_put S23 66 0 (.inl v24)) _
              refine zw_if2 hm_128 dX11_readPolicy_27 (t := 73) rfl zc2_ge (fun _ => ?_) (fun hc => absurd (by decide) hc)
              refine zw_push hm_128 dX11_readPolicy_73 (v := .inl v4) rfl ?_
              refine zw_push hm_128 dX11_readPolicy_74 (v := .inl (-1 : Int32)) rfl ?_
              refine zw_if2 hm_128 dX11_readPolicy_75 (t := 85) rfl zc2_eq ?_ ?_
              · intro hc
                rw [if_pos hc] at h
                refine zw_push hm_128 dX11_readPolicy_85 (v := .inl (-1 : Int32)) rfl ?_
                exact zw_iret hm_128 dX11_readPolicy_86 h
              · intro hc
                rw [if_neg hc] at h
                refine zw_push hm_128 dX11_readPolicy_78 (v := .inr (.inr (some 64))) rfl ?_
                refine zw_cv hm_128 dX11_readPolicy_79 v_11_278_11 hm_129 [] [] rfl (zT_rt (zT_pi hS23) s_64 rfl) ⟨by omega, by omega⟩ rfl (zw_mono h (zi_go ?_ ?_))
                · intro v26 S25 hv
                  obtain ⟨hS25, h⟩ := hv
                  refine zw_if0 hm_128 dX11_readPolicy_82 (t := 87) rfl zc0_eq ?_ ?_
                  · intro hc
                    rw [if_pos hc] at h
                    refine zw_push hm_128 dX11_readPolicy_87 (v := .inl v4) rfl ?_
                    exact zw_iret hm_128 dX11_readPolicy_88 h
                  · intro hc
                    rw [if_neg hc] at h
                    refine zw_push hm_128 dX11_readPolicy_85 (v := .inl (-1 : Int32)) rfl ?_
                    exact zw_iret hm_128 dX11_readPolicy_86 h
                · intro x S9 hx
                  exact ⟨by decide, hx⟩
            · intro hc
              rw [if_pos (Classical.not_not.mp hc)] at h
              refine zw_push hm_128 dX11_readPolicy_65 (v := .inl (-1 : Int32)) rfl ?_
              exact zw_iret hm_128 dX11_readPolicy_66 h
          · intro x S9 hx
            exact hx.elim
        · intro x S9 hx
          exact ⟨by decide, hx⟩
      rw [if_neg hc2] at h
      by_cases hc3 : v4 = (3 : Int32)
      · rw [if_pos hc3] at h
        refine zw_jmp hm_132 dX11_partsOf_1 (t := 56) (st' := []) rfl rfl rfl (ma_jmp_tab (by rw [hc3]; decide +kernel)) ?_
        refine zw_txc hm_132 dX11_partsOf_56 txi_11_323 ?_
        refine zw_aret hm_132 dX11_partsOf_59 ?_
        show ma_wp X d w 128 19 [(1, .inl v4), (0, .inr (.inr (some 64)))] [.inr (.inr (some 9))] S3 _
        refine zw_sto hm_128 dX11_readPolicy_19 [(2, .inr (.inr (some 9))), (1, .inl v4), (0, .inr (.inr (some 64)))] rfl rfl rfl ?_
        refine zw_push hm_128 dX11_readPolicy_20 (v := .inl (0 : Int32)) rfl ?_
        refine zw_sto hm_128 dX11_readPolicy_21 [(3, .inl (0 : Int32)), (2, .inr (.inr (some 9))), (1, .inl v4), (0, .inr (.inr (some 64)))] rfl rfl rfl ?_
        refine zw_push hm_128 dX11_readPolicy_22 (v := .inl (0 : Int32)) rfl ?_
        refine zw_push hm_128 dX11_readPolicy_23 (v := .inr (.inr (some 9))) rfl ?_
        refine zw_cv hm_128 dX11_readPolicy_24 v_11_288_17 hm_277 [] [.inl (0 : Int32)] rfl rfl ⟨by omega, by omega⟩ rfl (tx_len (v := (4 : Int32)) (by decide) (by omega) (by omega) rfl rfl ?_)
        show ma_wp X d w 128 27 [(3, .inl (0 : Int32)), (2, .inr (.inr (some 9))), (1, .inl v4), (0, .inr (.inr (some 64)))] [.inl (4 : Int32), .inl (0 : Int32)] S3 _
        refine zw_if2 hm_128 dX11_readPolicy_27 (t := 73) rfl zc2_ge (fun hc => absurd hc (by decide)) (fun _ => ?_)
        refine zw_push hm_128 dX11_readPolicy_30 (v := .inl (0 : Int32)) rfl ?_
        refine zw_push hm_128 dX11_readPolicy_31 (v := .inl (4 : Int32)) rfl ?_
        refine zw_if2 hm_128 dX11_readPolicy_32 (t := 73) rfl zc2_ge (fun hc => absurd hc (by decide)) (fun _ => ?_)
        refine zw_push hm_128 dX11_readPolicy_35 (v := .inr (.inr (some 64))) rfl ?_
        refine zw_cv hm_128 dX11_readPolicy_36 v_11_278_11 hm_129 [] [] rfl (zT_rt hS3 s_64 rfl) ⟨by omega, by omega⟩ rfl (zw_mono h (zi_go ?_ ?_))
        · intro v28 S27 hv
          obtain ⟨hS27, h⟩ := hv
          refine zw_stk hm_128 dX11_readPolicy_39 (st' := []) rfl rfl ?_
          refine zw_push hm_128 dX11_readPolicy_40 (v := .inr (.inr (some 64))) rfl ?_
          refine zw_gf hm_128 dX11_readPolicy_41 (v := .inr (.inr (some 66))) (zT_is hS27 s_64) (zT_t hS27 s_64) rfl f_11_13_11 (zT_f hS27 r_64_4) ?_
          refine zw_push hm_128 dX11_readPolicy_44 (v := .inl (0 : Int32)) rfl ?_
          refine zw_push hm_128 dX11_readPolicy_45 (v := .inr (.inr (some 64))) rfl ?_
          refine zw_push hm_128 dX11_readPolicy_46 (v := .inr (.inr (some 9))) rfl ?_
          refine zw_push hm_128 dX11_readPolicy_47 (v := .inl (0 : Int32)) rfl ?_
          refine zw_cv hm_128 dX11_readPolicy_48 v_11_293_17 hm_279 [.inl (0 : Int32)] [.inr (.inr (some 64)), .inl (0 : Int32), .inr (.inr (some 66))] rfl rfl ⟨by omega, by omega⟩ rfl (tx_char (v := (114 : Int32)) (by decide) (by omega) (by omega) (by decide) (by decide) (by decide) (by decide) ?_)
          show ma_wp X d w 128 51 [(3, .inl (0 : Int32)), (2, .inr (.inr (some 9))), (1, .inl v4), (0, .inr (.inr (some 64)))] [.inl (114 : Int32), .inr (.inr (some 64)), .inl (0 : Int32), .inr (.inr (some 66))] S27 _
          refine zw_cv hm_128 dX11_readPolicy_51 v_11_297_11 hm_133 [.inl (114 : Int32)] [.inl (0 : Int32), .inr (.inr (some 66))] rfl (zT_rt hS27 s_64 rfl) ⟨by omega, by omega⟩ rfl ?_
          show ma_wp X (d - 1) (w - 21) 133 0 [(0, .inr (.inr (some 64))), (1, .inl (114 : Int32))] [] S27 _
          refine zw_push hm_133 dX11_partToken_0 (v := .inl (114 : Int32)) rfl ?_
          refine zw_jmp hm_133 dX11_partToken_1 (t := 68) (st' := []) rfl rfl rfl (by decide +kernel) ?_
          refine zw_push hm_133 dX11_partToken_68 (v := .inr (.inr (some 64))) rfl ?_
          refine zw_push hm_133 dX11_partToken_69 (v := .inl (16 : Int32)) rfl ?_
          refine zw_push hm_133 dX11_partToken_71 (v := .inl (1500 : Int32)) rfl ?_
          refine zw_cv hm_133 dX11_partToken_74 v_11_331_11 hm_134 [.inl (1500 : Int32), .inl (16 : Int32)] [] rfl (zT_rt hS27 s_64 rfl) ⟨by omega, by omega⟩ rfl (zw_mono h (zi_go ?_ ?_))
          · intro v30 S29 hv
            obtain ⟨hS29, h⟩ := hv
            refine zw_iret hm_133 dX11_partToken_77 ?_
            show ma_wp X d w 128 54 [(3, .inl (0 : Int32)), (2, .inr (.inr (some 9))), (1, .inl v4), (0, .inr (.inr (some 64)))] [.inl v30, .inl (0 : Int32), .inr (.inr (some 66))] S29 _
            refine zw_ias hm_128 dX11_readPolicy_54 (zT_is hS29 s_66) (zT_h hS29 s_66) rfl ⟨by decide, by decide⟩ ?_
            refine zw_push hm_128 dX11_readPolicy_55 (v := .inr (.inr (some 64))) rfl ?_
            refine zw_gf hm_128 dX11_readPolicy_56 (v := .inr (.inr (some 66))) (zT_is (zT_pi hS29) s_64) (zT_t (zT_pi hS29) s_64) rfl f_11_13_11 (zT_f (zT_pi hS29) r_64_4) ?_
            refine zw_push hm_128 dX11_readPolicy_59 (v := .inl (0 : Int32)) rfl ?_
            refine zw_ia hm_128 dX11_readPolicy_60 (zT_is (zT_pi hS29) s_66) (zT_h (zT_pi hS29) s_66) rfl ⟨by decide, by decide⟩ ?_
            show ma_wp X d w 128 61 [(3, .inl (0 : Int32)), (2, .inr (.inr (some 9))), (1, .inl v4), (0, .inr (.inr (some 64)))] [.inl v30] (ma_put S29 66 0 (.inl v30)) _
            refine zw_push hm_128 dX11_readPolicy_61 (v := .inl (-1 : Int32)) rfl ?_
            refine zw_if2 hm_128 dX11_readPolicy_62 (t := 67) rfl zc2_ne ?_ ?_
            · intro hc
              rw [if_neg hc] at h
              refine zw_sto hm_128 dX11_readPolicy_67 [(3, .inl (1 : Int32)), (2, .inr (.inr (some 9))), (1, .inl v4), (0, .inr (.inr (some 64)))] rfl rfl rfl ?_
              refine zw_goto hm_128 dX11_readPolicy_70 (t := 22) rfl ?_
              refine zw_push hm_128 dX11_readPolicy_22 (v := .inl (1 : Int32)) rfl ?_
              refine zw_push hm_128 dX11_readPolicy_23 (v := .inr (.inr (some 9))) rfl ?_
              refine zw_cv hm_128 dX11_readPolicy_24 v_11_288_17 hm_277 [] [.inl (1 : Int32)] rfl rfl ⟨by omega, by omega⟩ rfl (tx_len (v := (4 : Int32)) (by decide) (by omega) (by omega) rfl rfl ?_)
              show ma_wp X d w 128 27 [(3, .inl (1 : Int32)), (2, .inr (.inr (some 9))), (1, .inl v4), (0, .inr (.inr (some 64)))] [.inl (4 : Int32), .inl (1 : Int32)] (ma_put S29 66 0 (.inl v30)) _
              refine zw_if2 hm_128 dX11_readPolicy_27 (t := 73) rfl zc2_ge (fun hc => absurd hc (by decide)) (fun _ => ?_)
              refine zw_push hm_128 dX11_readPolicy_30 (v := .inl (1 : Int32)) rfl ?_
              refine zw_push hm_128 dX11_readPolicy_31 (v := .inl (4 : Int32)) rfl ?_
              refine zw_if2 hm_128 dX11_readPolicy_32 (t := 73) rfl zc2_ge (fun hc => absurd hc (by decide)) (fun _ => ?_)
              refine zw_push hm_128 dX11_readPolicy_35 (v := .inr (.inr (some 64))) rfl ?_
              refine zw_cv hm_128 dX11_readPolicy_36 v_11_278_11 hm_129 [] [] rfl (zT_rt (zT_pi hS29) s_64 rfl) ⟨by omega, by omega⟩ rfl (zw_mono h (zi_go ?_ ?_))
              · intro v32 S31 hv
                obtain ⟨hS31, h⟩ := hv
                refine zw_stk hm_128 dX11_readPolicy_39 (st' := []) rfl rfl ?_
                refine zw_push hm_128 dX11_readPolicy_40 (v := .inr (.inr (some 64))) rfl ?_
                refine zw_gf hm_128 dX11_readPolicy_41 (v := .inr (.inr (some 66))) (zT_is hS31 s_64) (zT_t hS31 s_64) rfl f_11_13_11 (zT_f hS31 r_64_4) ?_
                refine zw_push hm_128 dX11_readPolicy_44 (v := .inl (1 : Int32)) rfl ?_
                refine zw_push hm_128 dX11_readPolicy_45 (v := .inr (.inr (some 64))) rfl ?_
                refine zw_push hm_128 dX11_readPolicy_46 (v := .inr (.inr (some 9))) rfl ?_
                refine zw_push hm_128 dX11_readPolicy_47 (v := .inl (1 : Int32)) rfl ?_
                refine zw_cv hm_128 dX11_readPolicy_48 v_11_293_17 hm_279 [.inl (1 : Int32)] [.inr (.inr (some 64)), .inl (1 : Int32), .inr (.inr (some 66))] rfl rfl ⟨by omega, by omega⟩ rfl (tx_char (v := (114 : Int32)) (by decide) (by omega) (by omega) (by decide) (by decide) (by decide) (by decide) ?_)
                show ma_wp X d w 128 51 [(3, .inl (1 : Int32)), (2, .inr (.inr (some 9))), (1, .inl v4), (0, .inr (.inr (some 64)))] [.inl (114 : Int32), .inr (.inr (some 64)), .inl (1 : Int32), .inr (.inr (some 66))] S31 _
                refine zw_cv hm_128 dX11_readPolicy_51 v_11_297_11 hm_133 [.inl (114 : Int32)] [.inl (1 : Int32), .inr (.inr (some 66))] rfl (zT_rt hS31 s_64 rfl) ⟨by omega, by omega⟩ rfl ?_
                show ma_wp X (d - 1) (w - 21) 133 0 [(0, .inr (.inr (some 64))), (1, .inl (114 : Int32))] [] S31 _
                refine zw_push hm_133 dX11_partToken_0 (v := .inl (114 : Int32)) rfl ?_
                refine zw_jmp hm_133 dX11_partToken_1 (t := 68) (st' := []) rfl rfl rfl (by decide +kernel) ?_
                refine zw_push hm_133 dX11_partToken_68 (v := .inr (.inr (some 64))) rfl ?_
                refine zw_push hm_133 dX11_partToken_69 (v := .inl (16 : Int32)) rfl ?_
                refine zw_push hm_133 dX11_partToken_71 (v := .inl (1500 : Int32)) rfl ?_
                refine zw_cv hm_133 dX11_partToken_74 v_11_331_11 hm_134 [.inl (1500 : Int32), .inl (16 : Int32)] [] rfl (zT_rt hS31 s_64 rfl) ⟨by omega, by omega⟩ rfl (zw_mono h (zi_go ?_ ?_))
                · intro v34 S33 hv
                  obtain ⟨hS33, h⟩ := hv
                  refine zw_iret hm_133 dX11_partToken_77 ?_
                  show ma_wp X d w 128 54 [(3, .inl (1 : Int32)), (2, .inr (.inr (some 9))), (1, .inl v4), (0, .inr (.inr (some 64)))] [.inl v34, .inl (1 : Int32), .inr (.inr (some 66))] S33 _
                  refine zw_ias hm_128 dX11_readPolicy_54 (zT_is hS33 s_66) (zT_h hS33 s_66) rfl ⟨by decide, by decide⟩ ?_
                  refine zw_push hm_128 dX11_readPolicy_55 (v := .inr (.inr (some 64))) rfl ?_
                  refine zw_gf hm_128 dX11_readPolicy_56 (v := .inr (.inr (some 66))) (zT_is (zT_pi hS33) s_64) (zT_t (zT_pi hS33) s_64) rfl f_11_13_11 (zT_f (zT_pi hS33) r_64_4) ?_
                  refine zw_push hm_128 dX11_readPolicy_59 (v := .inl (1 : Int32)) rfl ?_
                  refine zw_ia hm_128 dX11_readPolicy_60 (zT_is (zT_pi hS33) s_66) (zT_h (zT_pi hS33) s_66) rfl ⟨by decide, by decide⟩ ?_
                  show ma_wp X d w 128 61 [(3, .inl (1 : Int32)), (2, .inr (.inr (some 9))), (1, .inl v4), (0, .inr (.inr (some 64)))] [.inl v34] (ma_put S33 66 1 (.inl v34)) _
                  refine zw_push hm_128 dX11_readPolicy_61 (v := .inl (-1 : Int32)) rfl ?_
                  refine zw_if2 hm_128 dX11_readPolicy_62 (t := 67) rfl zc2_ne ?_ ?_
                  · intro hc
                    rw [if_neg hc] at h
                    refine zw_sto hm_128 dX11_readPolicy_67 [(3, .inl (2 : Int32)), (2, .inr (.inr (some 9))), (1, .inl v4), (0, .inr (.inr (some 64)))] rfl rfl rfl ?_
                    refine zw_goto hm_128 dX11_readPolicy_70 (t := 22) rfl ?_
                    refine zw_push hm_128 dX11_readPolicy_22 (v := .inl (2 : Int32)) rfl ?_
                    refine zw_push hm_128 dX11_readPolicy_23 (v := .inr (.inr (some 9))) rfl ?_
                    refine zw_cv hm_128 dX11_readPolicy_24 v_11_288_17 hm_277 [] [.inl (2 : Int32)] rfl rfl ⟨by omega, by omega⟩ rfl (tx_len (v := (4 : Int32)) (by decide) (by omega) (by omega) rfl rfl ?_)
                    show ma_wp X d w 128 27 [(3, .inl (2 : Int32)), (2, .inr (.inr (some 9))), (1, .inl v4), (0, .inr (.inr (some 64)))] [.inl (4 : Int32), .inl (2 : Int32)] (ma_put S33 66 1 (.inl v34)) _
                    refine zw_if2 hm_128 dX11_readPolicy_27 (t := 73) rfl zc2_ge (fun hc => absurd hc (by decide)) (fun _ => ?_)
                    refine zw_push hm_128 dX11_readPolicy_30 (v := .inl (2 : Int32)) rfl ?_
                    refine zw_push hm_128 dX11_readPolicy_31 (v := .inl (4 : Int32)) rfl ?_
                    refine zw_if2 hm_128 dX11_readPolicy_32 (t := 73) rfl zc2_ge (fun hc => absurd hc (by decide)) (fun _ => ?_)
                    refine zw_push hm_128 dX11_readPolicy_35 (v := .inr (.inr (some 64))) rfl ?_
                    refine zw_cv hm_128 dX11_readPolicy_36 v_11_278_11 hm_129 [] [] rfl (zT_rt (zT_pi hS33) s_64 rfl) ⟨by omega, by omega⟩ rfl (zw_mono h (zi_go ?_ ?_))
                    · intro v36 S35 hv
                      obtain ⟨hS35, h⟩ := hv
                      refine zw_stk hm_128 dX11_readPolicy_39 (st' := []) rfl rfl ?_
                      refine zw_push hm_128 dX11_readPolicy_40 (v := .inr (.inr (some 64))) rfl ?_
                      refine zw_gf hm_128 dX11_readPolicy_41 (v := .inr (.inr (some 66))) (zT_is hS35 s_64) (zT_t hS35 s_64) rfl f_11_13_11 (zT_f hS35 r_64_4) ?_
                      refine zw_push hm_128 dX11_readPolicy_44 (v := .inl (2 : Int32)) rfl ?_
                      refine zw_push hm_128 dX11_readPolicy_45 (v := .inr (.inr (some 64))) rfl ?_
                      refine zw_push hm_128 dX11_readPolicy_46 (v := .inr (.inr (some 9))) rfl ?_
                      refine zw_push hm_128 dX11_readPolicy_47 (v := .inl (2 : Int32)) rfl ?_
                      refine zw_cv hm_128 dX11_readPolicy_48 v_11_293_17 hm_279 [.inl (2 : Int32)] [.inr (.inr (some 64)), .inl (2 : Int32), .inr (.inr (some 66))] rfl rfl ⟨by omega, by omega⟩ rfl (tx_char (v := (97 : Int32)) (by decide) (by omega) (by omega) (by decide) (by decide) (by decide) (by decide) ?_)
                      show ma_wp X d w 128 51 [(3, .inl (2 : Int32)), (2, .inr (.inr (some 9))), (1, .inl v4), (0, .inr (.inr (some 64)))] [.inl (97 : Int32), .inr (.inr (some 64)), .inl (2 : Int32), .inr (.inr (some 66))] S35 _
                      refine zw_cv hm_128 dX11_readPolicy_51 v_11_297_11 hm_133 [.inl (97 : Int32)] [.inl (2 : Int32), .inr (.inr (some 66))] rfl (zT_rt hS35 s_64 rfl) ⟨by omega, by omega⟩ rfl ?_
                      show ma_wp X (d - 1) (w - 21) 133 0 [(0, .inr (.inr (some 64))), (1, .inl (97 : Int32))] [] S35 _
                      refine zw_push hm_133 dX11_partToken_0 (v := .inl (97 : Int32)) rfl ?_
                      refine zw_jmp hm_133 dX11_partToken_1 (t := 78) (st' := []) rfl rfl rfl (by decide +kernel) ?_
                      refine zw_push hm_133 dX11_partToken_78 (v := .inr (.inr (some 64))) rfl ?_
                      refine zw_push hm_133 dX11_partToken_79 (v := .inl (1 : Int32)) rfl ?_
                      refine zw_push hm_133 dX11_partToken_80 (v := .inl (7 : Int32)) rfl ?_
                      refine zw_cv hm_133 dX11_partToken_82 v_11_331_11 hm_134 [.inl (7 : Int32), .inl (1 : Int32)] [] rfl (zT_rt hS35 s_64 rfl) ⟨by omega, by omega⟩ rfl (zw_mono h (zi_go ?_ ?_))
                      · intro v38 S37 hv
                        obtain ⟨hS37, h⟩ := hv
                        refine zw_iret hm_133 dX11_partToken_85 ?_
                        show ma_wp X d w 128 54 [(3, .inl (2 : Int32)), (2, .inr (.inr (some 9))), (1, .inl v4), (0, .inr (.inr (some 64)))] [.inl v38, .inl (2 : Int32), .inr (.inr (some 66))] S37 _
                        refine zw_ias hm_128 dX11_readPolicy_54 (zT_is hS37 s_66) (zT_h hS37 s_66) rfl ⟨by decide, by decide⟩ ?_
                        refine zw_push hm_128 dX11_readPolicy_55 (v := .inr (.inr (some 64))) rfl ?_
                        refine zw_gf hm_128 dX11_readPolicy_56 (v := .inr (.inr (some 66))) (zT_is (zT_pi hS37) s_64) (zT_t (zT_pi hS37) s_64) rfl f_11_13_11 (zT_f (zT_pi hS37) r_64_4) ?_
                        refine zw_push hm_128 dX11_readPolicy_59 (v := .inl (2 : Int32)) rfl ?_
                        refine zw_ia hm_128 dX11_readPolicy_60 (zT_is (zT_pi hS37) s_66) (zT_h (zT_pi hS37) s_66) rfl ⟨by decide, by decide⟩ ?_
                        show ma_wp X d w 128 61 [(3, .inl (2 : Int32)), (2, .inr (.inr (some 9))), (1, .inl v4), (0, .inr (.inr (some 64)))] [.inl v38] (ma_put S37 66 2 (.inl v38)) _
                        refine zw_push hm_128 dX11_readPolicy_61 (v := .inl (-1 : Int32)) rfl ?_
                        refine zw_if2 hm_128 dX11_readPolicy_62 (t := 67) rfl zc2_ne ?_ ?_
                        · intro hc
                          rw [if_neg hc] at h
                          refine zw_sto hm_128 dX11_readPolicy_67 [(3, .inl (3 : Int32)), (2, .inr (.inr (some 9))), (1, .inl v4), (0, .inr (.inr (some 64)))] rfl rfl rfl ?_
                          refine zw_goto hm_128 dX11_readPolicy_70 (t := 22) rfl ?_
                          refine zw_push hm_128 dX11_readPolicy_22 (v := .inl (3 : Int32)) rfl ?_
                          refine zw_push hm_128 dX11_readPolicy_23 (v := .inr (.inr (some 9))) rfl ?_
                          refine zw_cv hm_128 dX11_readPolicy_24 v_11_288_17 hm_277 [] [.inl (3 : Int32)] rfl rfl ⟨by omega, by omega⟩ rfl (tx_len (v := (4 : Int32)) (by decide) (by omega) (by omega) rfl rfl ?_)
                          show ma_wp X d w 128 27 [(3, .inl (3 : Int32)), (2, .inr (.inr (some 9))), (1, .inl v4), (0, .inr (.inr (some 64)))] [.inl (4 : Int32), .inl (3 : Int32)] (ma_put S37 66 2 (.inl v38)) _
                          refine zw_if2 hm_128 dX11_readPolicy_27 (t := 73) rfl zc2_ge (fun hc => absurd hc (by decide)) (fun _ => ?_)
                          refine zw_push hm_128 dX11_readPolicy_30 (v := .inl (3 : Int32)) rfl ?_
                          refine zw_push hm_128 dX11_readPolicy_31 (v := .inl (4 : Int32)) rfl ?_
                          refine zw_if2 hm_128 dX11_readPolicy_32 (t := 73) rfl zc2_ge (fun hc => absurd hc (by decide)) (fun _ => ?_)
                          refine zw_push hm_128 dX11_readPolicy_35 (v := .inr (.inr (some 64))) rfl ?_
                          refine zw_cv hm_128 dX11_readPolicy_36 v_11_278_11 hm_129 [] [] rfl (zT_rt (zT_pi hS37) s_64 rfl) ⟨by omega, by omega⟩ rfl (zw_mono h (zi_go ?_ ?_))
                          · intro v40 S39 hv
                            obtain ⟨hS39, h⟩ := hv
                            refine zw_stk hm_128 dX11_readPolicy_39 (st' := []) rfl rfl ?_
                            refine zw_push hm_128 dX11_readPolicy_40 (v := .inr (.inr (some 64))) rfl ?_
                            refine zw_gf hm_128 dX11_readPolicy_41 (v := .inr (.inr (some 66))) (zT_is hS39 s_64) (zT_t hS39 s_64) rfl f_11_13_11 (zT_f hS39 r_64_4) ?_
                            refine zw_push hm_128 dX11_readPolicy_44 (v := .inl (3 : Int32)) rfl ?_
                            refine zw_push hm_128 dX11_readPolicy_45 (v := .inr (.inr (some 64))) rfl ?_
                            refine zw_push hm_128 dX11_readPolicy_46 (v := .inr (.inr (some 9))) rfl ?_
                            refine zw_push hm_128 dX11_readPolicy_47 (v := .inl (3 : Int32)) rfl ?_
                            refine zw_cv hm_128 dX11_readPolicy_48 v_11_293_17 hm_279 [.inl (3 : Int32)] [.inr (.inr (some 64)), .inl (3 : Int32), .inr (.inr (some 66))] rfl rfl ⟨by omega, by omega⟩ rfl (tx_char (v := (99 : Int32)) (by decide) (by omega) (by omega) (by decide) (by decide) (by decide) (by decide) ?_)
                            show ma_wp X d w 128 51 [(3, .inl (3 : Int32)), (2, .inr (.inr (some 9))), (1, .inl v4), (0, .inr (.inr (some 64)))] [.inl (99 : Int32), .inr (.inr (some 64)), .inl (3 : Int32), .inr (.inr (some 66))] S39 _
                            refine zw_cv hm_128 dX11_readPolicy_51 v_11_297_11 hm_133 [.inl (99 : Int32)] [.inl (3 : Int32), .inr (.inr (some 66))] rfl (zT_rt hS39 s_64 rfl) ⟨by omega, by omega⟩ rfl ?_
                            show ma_wp X (d - 1) (w - 21) 133 0 [(0, .inr (.inr (some 64))), (1, .inl (99 : Int32))] [] S39 _
                            refine zw_push hm_133 dX11_partToken_0 (v := .inl (99 : Int32)) rfl ?_
                            refine zw_jmp hm_133 dX11_partToken_1 (t := 86) (st' := []) rfl rfl rfl (by decide +kernel) ?_
                            refine zw_push hm_133 dX11_partToken_86 (v := .inr (.inr (some 64))) rfl ?_
                            refine zw_push hm_133 dX11_partToken_87 (v := .inl (4 : Int32)) rfl ?_
                            refine zw_push hm_133 dX11_partToken_88 (v := .inl (64 : Int32)) rfl ?_
                            refine zw_cv hm_133 dX11_partToken_90 v_11_331_11 hm_134 [.inl (64 : Int32), .inl (4 : Int32)] [] rfl (zT_rt hS39 s_64 rfl) ⟨by omega, by omega⟩ rfl (zw_mono h (zi_go ?_ ?_))
                            · intro v42 S41 hv
                              obtain ⟨hS41, h⟩ := hv
                              refine zw_iret hm_133 dX11_partToken_93 ?_
                              show ma_wp X d w 128 54 [(3, .inl (3 : Int32)), (2, .inr (.inr (some 9))), (1, .inl v4), (0, .inr (.inr (some 64)))] [.inl v42, .inl (3 : Int32), .inr (.inr (some 66))] S41 _
                              refine zw_ias hm_128 dX11_readPolicy_54 (zT_is hS41 s_66) (zT_h hS41 s_66) rfl ⟨by decide, by decide⟩ ?_
                              refine zw_push hm_128 dX11_readPolicy_55 (v := .inr (.inr (some 64))) rfl ?_
                              refine zw_gf hm_128 dX11_readPolicy_56 (v := .inr (.inr (some 66))) (zT_is (zT_pi hS41) s_64) (zT_t (zT_pi hS41) s_64) rfl f_11_13_11 (zT_f (zT_pi hS41) r_64_4) ?_
                              refine zw_push hm_128 dX11_readPolicy_59 (v := .inl (3 : Int32)) rfl ?_
                              refine zw_ia hm_128 dX11_readPolicy_60 (zT_is (zT_pi hS41) s_66) (zT_h (zT_pi hS41) s_66) rfl ⟨by decide, by decide⟩ ?_
                              show ma_wp X d w 128 61 [(3, .inl (3 : Int32)), (2, .inr (.inr (some 9))), (1, .inl v4), (0, .inr (.inr (some 64)))] [.inl v42] (ma_put S41 66 3 (.inl v42)) _
                              refine zw_push hm_128 dX11_readPolicy_61 (v := .inl (-1 : Int32)) rfl ?_
                              refine zw_if2 hm_128 dX11_readPolicy_62 (t := 67) rfl zc2_ne ?_ ?_
                              · intro hc
                                rw [if_neg hc] at h
                                refine zw_sto hm_128 dX11_readPolicy_67 [(3, .inl (4 : Int32)), (2, .inr (.inr (some 9))), (1, .inl v4), (0, .inr (.inr (some 64)))] rfl rfl rfl ?_
                                refine zw_goto hm_128 dX11_readPolicy_70 (t := 22) rfl ?_
                                refine zw_push hm_128 dX11_readPolicy_22 (v := .inl (4 : Int32)) rfl ?_
                                refine zw_push hm_128 dX11_readPolicy_23 (v := .inr (.inr (some 9))) rfl ?_
                                refine zw_cv hm_128 dX11_readPolicy_24 v_11_288_17 hm_277 [] [.inl (4 : Int32)] rfl rfl ⟨by omega, by omega⟩ rfl (tx_len (v := (4 : Int32)) (by decide) (by omega) (by omega) rfl rfl ?_)
                                show ma_wp X d w 128 27 [(3, .inl (4 : Int32)), (2, .inr (.inr (some 9))), (1, .inl v4), (0, .inr (.inr (some 64)))] [.inl (4 : Int32), .inl (4 : Int32)] (ma_put S41 66 3 (.inl v42)) _
                                refine zw_if2 hm_128 dX11_readPolicy_27 (t := 73) rfl zc2_ge (fun _ => ?_) (fun hc => absurd (by decide) hc)
                                refine zw_push hm_128 dX11_readPolicy_73 (v := .inl v4) rfl ?_
                                refine zw_push hm_128 dX11_readPolicy_74 (v := .inl (-1 : Int32)) rfl ?_
                                refine zw_if2 hm_128 dX11_readPolicy_75 (t := 85) rfl zc2_eq ?_ ?_
                                · intro hc
                                  rw [if_pos hc] at h
                                  refine zw_push hm_128 dX11_readPolicy_85 (v := .inl (-1 : Int32)) rfl ?_
                                  exact zw_iret hm_128 dX11_readPolicy_86 h
                                · intro hc
                                  rw [if_neg hc] at h
                                  refine zw_push hm_128 dX11_readPolicy_78 (v := .inr (.inr (some 64))) rfl ?_
                                  refine zw_cv hm_128 dX11_readPolicy_79 v_11_278_11 hm_129 [] [] rfl (zT_rt (zT_pi hS41) s_64 rfl) ⟨by omega, by omega⟩ rfl (zw_mono h (zi_go ?_ ?_))
                                  · intro v44 S43 hv
                                    obtain ⟨hS43, h⟩ := hv
                                    refine zw_if0 hm_128 dX11_readPolicy_82 (t := 87) rfl zc0_eq ?_ ?_
                                    · intro hc
                                      rw [if_pos hc] at h
                                      refine zw_push hm_128 dX11_readPolicy_87 (v := .inl v4) rfl ?_
                                      exact zw_iret hm_128 dX11_readPolicy_88 h
                                    · intro hc
                                      rw [if_neg hc] at h
                                      refine zw_push hm_128 dX11_readPolicy_85 (v := .inl (-1 : Int32)) rfl ?_
                                      exact zw_iret hm_128 dX11_readPolicy_86 h
                                  · intro x S9 hx
                                    exact ⟨by decide, hx⟩
                              · intro hc
                                rw [if_pos (Classical.not_not.mp hc)] at h
                                refine zw_push hm_128 dX11_readPolicy_65 (v := .inl (-1 : Int32)) rfl ?_
                                exact zw_iret hm_128 dX11_readPolicy_66 h
                            · intro x S9 hx
                              exact hx.elim
                          · intro x S9 hx
                            exact ⟨by decide, hx⟩
                        · intro hc
                          rw [if_pos (Classical.not_not.mp hc)] at h
                          refine zw_push hm_128 dX11_readPolicy_65 (v := .inl (-1 : Int32)) rfl ?_
                          exact zw_iret hm_128 dX11_readPolicy_66 h
                      · intro x S9 hx
                        exact hx.elim
                    · intro x S9 hx
                      exact ⟨by decide, hx⟩
                  · intro hc
                    rw [if_pos (Classical.not_not.mp hc)] at h
                    refine zw_push hm_128 dX11_readPolicy_65 (v := .inl (-1 : Int32)) rfl ?_
                    exact zw_iret hm_128 dX11_readPolicy_66 h
                · intro x S9 hx
                  exact hx.elim
              · intro x S9 hx
                exact ⟨by decide, hx⟩
            · intro hc
              rw [if_pos (Classical.not_not.mp hc)] at h
              refine zw_push hm_128 dX11_readPolicy_65 (v := .inl (-1 : Int32)) rfl ?_
              exact zw_iret hm_128 dX11_readPolicy_66 h
          · intro x S9 hx
            exact hx.elim
        · intro x S9 hx
          exact ⟨by decide, hx⟩
      rw [if_neg hc3] at h
      by_cases hc4 : v4 = (4 : Int32)
      · rw [if_pos hc4] at h
        refine zw_jmp hm_132 dX11_partsOf_1 (t := 60) (st' := []) rfl rfl rfl (ma_jmp_tab (by rw [hc4]; decide +kernel)) ?_
        refine zw_txc hm_132 dX11_partsOf_60 txi_11_319 ?_
        refine zw_aret hm_132 dX11_partsOf_63 ?_
        show ma_wp X d w 128 19 [(1, .inl v4), (0, .inr (.inr (some 64)))] [.inr (.inr (some 7))] S3 _
        refine zw_sto hm_128 dX11_readPolicy_19 [(2, .inr (.inr (some 7))), (1, .inl v4), (0, .inr (.inr (some 64)))] rfl rfl rfl ?_
        refine zw_push hm_128 dX11_readPolicy_20 (v := .inl (0 : Int32)) rfl ?_
        refine zw_sto hm_128 dX11_readPolicy_21 [(3, .inl (0 : Int32)), (2, .inr (.inr (some 7))), (1, .inl v4), (0, .inr (.inr (some 64)))] rfl rfl rfl ?_
        refine zw_push hm_128 dX11_readPolicy_22 (v := .inl (0 : Int32)) rfl ?_
        refine zw_push hm_128 dX11_readPolicy_23 (v := .inr (.inr (some 7))) rfl ?_
        refine zw_cv hm_128 dX11_readPolicy_24 v_11_288_17 hm_277 [] [.inl (0 : Int32)] rfl rfl ⟨by omega, by omega⟩ rfl (tx_len (v := (2 : Int32)) (by decide) (by omega) (by omega) rfl rfl ?_)
        show ma_wp X d w 128 27 [(3, .inl (0 : Int32)), (2, .inr (.inr (some 7))), (1, .inl v4), (0, .inr (.inr (some 64)))] [.inl (2 : Int32), .inl (0 : Int32)] S3 _
        refine zw_if2 hm_128 dX11_readPolicy_27 (t := 73) rfl zc2_ge (fun hc => absurd hc (by decide)) (fun _ => ?_)
        refine zw_push hm_128 dX11_readPolicy_30 (v := .inl (0 : Int32)) rfl ?_
        refine zw_push hm_128 dX11_readPolicy_31 (v := .inl (4 : Int32)) rfl ?_
        refine zw_if2 hm_128 dX11_readPolicy_32 (t := 73) rfl zc2_ge (fun hc => absurd hc (by decide)) (fun _ => ?_)
        refine zw_push hm_128 dX11_readPolicy_35 (v := .inr (.inr (some 64))) rfl ?_
        refine zw_cv hm_128 dX11_readPolicy_36 v_11_278_11 hm_129 [] [] rfl (zT_rt hS3 s_64 rfl) ⟨by omega, by omega⟩ rfl (zw_mono h (zi_go ?_ ?_))
        · intro v46 S45 hv
          obtain ⟨hS45, h⟩ := hv
          refine zw_stk hm_128 dX11_readPolicy_39 (st' := []) rfl rfl ?_
          refine zw_push hm_128 dX11_readPolicy_40 (v := .inr (.inr (some 64))) rfl ?_
          refine zw_gf hm_128 dX11_readPolicy_41 (v := .inr (.inr (some 66))) (zT_is hS45 s_64) (zT_t hS45 s_64) rfl f_11_13_11 (zT_f hS45 r_64_4) ?_
          refine zw_push hm_128 dX11_readPolicy_44 (v := .inl (0 : Int32)) rfl ?_
          refine zw_push hm_128 dX11_readPolicy_45 (v := .inr (.inr (some 64))) rfl ?_
          refine zw_push hm_128 dX11_readPolicy_46 (v := .inr (.inr (some 7))) rfl ?_
          refine zw_push hm_128 dX11_readPolicy_47 (v := .inl (0 : Int32)) rfl ?_
          refine zw_cv hm_128 dX11_readPolicy_48 v_11_293_17 hm_279 [.inl (0 : Int32)] [.inr (.inr (some 64)), .inl (0 : Int32), .inr (.inr (some 66))] rfl rfl ⟨by omega, by omega⟩ rfl (tx_char (v := (114 : Int32)) (by decide) (by omega) (by omega) (by decide) (by decide) (by decide) (by decide) ?_)
          show ma_wp X d w 128 51 [(3, .inl (0 : Int32)), (2, .inr (.inr (some 7))), (1, .inl v4), (0, .inr (.inr (some 64)))] [.inl (114 : Int32), .inr (.inr (some 64)), .inl (0 : Int32), .inr (.inr (some 66))] S45 _
          refine zw_cv hm_128 dX11_readPolicy_51 v_11_297_11 hm_133 [.inl (114 : Int32)] [.inl (0 : Int32), .inr (.inr (some 66))] rfl (zT_rt hS45 s_64 rfl) ⟨by omega, by omega⟩ rfl ?_
          show ma_wp X (d - 1) (w - 21) 133 0 [(0, .inr (.inr (some 64))), (1, .inl (114 : Int32))] [] S45 _
          refine zw_push hm_133 dX11_partToken_0 (v := .inl (114 : Int32)) rfl ?_
          refine zw_jmp hm_133 dX11_partToken_1 (t := 68) (st' := []) rfl rfl rfl (by decide +kernel) ?_
          refine zw_push hm_133 dX11_partToken_68 (v := .inr (.inr (some 64))) rfl ?_
          refine zw_push hm_133 dX11_partToken_69 (v := .inl (16 : Int32)) rfl ?_
          refine zw_push hm_133 dX11_partToken_71 (v := .inl (1500 : Int32)) rfl ?_
          refine zw_cv hm_133 dX11_partToken_74 v_11_331_11 hm_134 [.inl (1500 : Int32), .inl (16 : Int32)] [] rfl (zT_rt hS45 s_64 rfl) ⟨by omega, by omega⟩ rfl (zw_mono h (zi_go ?_ ?_))
          · intro v48 S47 hv
            obtain ⟨hS47, h⟩ := hv
            refine zw_iret hm_133 dX11_partToken_77 ?_
            show ma_wp X d w 128 54 [(3, .inl (0 : Int32)), (2, .inr (.inr (some 7))), (1, .inl v4), (0, .inr (.inr (some 64)))] [.inl v48, .inl (0 : Int32), .inr (.inr (some 66))] S47 _
            refine zw_ias hm_128 dX11_readPolicy_54 (zT_is hS47 s_66) (zT_h hS47 s_66) rfl ⟨by decide, by decide⟩ ?_
            refine zw_push hm_128 dX11_readPolicy_55 (v := .inr (.inr (some 64))) rfl ?_
            refine zw_gf hm_128 dX11_readPolicy_56 (v := .inr (.inr (some 66))) (zT_is (zT_pi hS47) s_64) (zT_t (zT_pi hS47) s_64) rfl f_11_13_11 (zT_f (zT_pi hS47) r_64_4) ?_
            refine zw_push hm_128 dX11_readPolicy_59 (v := .inl (0 : Int32)) rfl ?_
            refine zw_ia hm_128 dX11_readPolicy_60 (zT_is (zT_pi hS47) s_66) (zT_h (zT_pi hS47) s_66) rfl ⟨by decide, by decide⟩ ?_
            show ma_wp X d w 128 61 [(3, .inl (0 : Int32)), (2, .inr (.inr (some 7))), (1, .inl v4), (0, .inr (.inr (some 64)))] [.inl v48] (ma_put S47 66 0 (.inl v48)) _
            refine zw_push hm_128 dX11_readPolicy_61 (v := .inl (-1 : Int32)) rfl ?_
            refine zw_if2 hm_128 dX11_readPolicy_62 (t := 67) rfl zc2_ne ?_ ?_
            · intro hc
              rw [if_neg hc] at h
              refine zw_sto hm_128 dX11_readPolicy_67 [(3, .inl (1 : Int32)), (2, .inr (.inr (some 7))), (1, .inl v4), (0, .inr (.inr (some 64)))] rfl rfl rfl ?_
              refine zw_goto hm_128 dX11_readPolicy_70 (t := 22) rfl ?_
              refine zw_push hm_128 dX11_readPolicy_22 (v := .inl (1 : Int32)) rfl ?_
              refine zw_push hm_128 dX11_readPolicy_23 (v := .inr (.inr (some 7))) rfl ?_
              refine zw_cv hm_128 dX11_readPolicy_24 v_11_288_17 hm_277 [] [.inl (1 : Int32)] rfl rfl ⟨by omega, by omega⟩ rfl (tx_len (v := (2 : Int32)) (by decide) (by omega) (by omega) rfl rfl ?_)
              show ma_wp X d w 128 27 [(3, .inl (1 : Int32)), (2, .inr (.inr (some 7))), (1, .inl v4), (0, .inr (.inr (some 64)))] [.inl (2 : Int32), .inl (1 : Int32)] (ma_put S47 66 0 (.inl v48)) _
              refine zw_if2 hm_128 dX11_readPolicy_27 (t := 73) rfl zc2_ge (fun hc => absurd hc (by decide)) (fun _ => ?_)
              refine zw_push hm_128 dX11_readPolicy_30 (v := .inl (1 : Int32)) rfl ?_
              refine zw_push hm_128 dX11_readPolicy_31 (v := .inl (4 : Int32)) rfl ?_
              refine zw_if2 hm_128 dX11_readPolicy_32 (t := 73) rfl zc2_ge (fun hc => absurd hc (by decide)) (fun _ => ?_)
              refine zw_push hm_128 dX11_readPolicy_35 (v := .inr (.inr (some 64))) rfl ?_
              refine zw_cv hm_128 dX11_readPolicy_36 v_11_278_11 hm_129 [] [] rfl (zT_rt (zT_pi hS47) s_64 rfl) ⟨by omega, by omega⟩ rfl (zw_mono h (zi_go ?_ ?_))
              · intro v50 S49 hv
                obtain ⟨hS49, h⟩ := hv
                refine zw_stk hm_128 dX11_readPolicy_39 (st' := []) rfl rfl ?_
                refine zw_push hm_128 dX11_readPolicy_40 (v := .inr (.inr (some 64))) rfl ?_
                refine zw_gf hm_128 dX11_readPolicy_41 (v := .inr (.inr (some 66))) (zT_is hS49 s_64) (zT_t hS49 s_64) rfl f_11_13_11 (zT_f hS49 r_64_4) ?_
                refine zw_push hm_128 dX11_readPolicy_44 (v := .inl (1 : Int32)) rfl ?_
                refine zw_push hm_128 dX11_readPolicy_45 (v := .inr (.inr (some 64))) rfl ?_
                refine zw_push hm_128 dX11_readPolicy_46 (v := .inr (.inr (some 7))) rfl ?_
                refine zw_push hm_128 dX11_readPolicy_47 (v := .inl (1 : Int32)) rfl ?_
                refine zw_cv hm_128 dX11_readPolicy_48 v_11_293_17 hm_279 [.inl (1 : Int32)] [.inr (.inr (some 64)), .inl (1 : Int32), .inr (.inr (some 66))] rfl rfl ⟨by omega, by omega⟩ rfl (tx_char (v := (102 : Int32)) (by decide) (by omega) (by omega) (by decide) (by decide) (by decide) (by decide) ?_)
                show ma_wp X d w 128 51 [(3, .inl (1 : Int32)), (2, .inr (.inr (some 7))), (1, .inl v4), (0, .inr (.inr (some 64)))] [.inl (102 : Int32), .inr (.inr (some 64)), .inl (1 : Int32), .inr (.inr (some 66))] S49 _
                refine zw_cv hm_128 dX11_readPolicy_51 v_11_297_11 hm_133 [.inl (102 : Int32)] [.inl (1 : Int32), .inr (.inr (some 66))] rfl (zT_rt hS49 s_64 rfl) ⟨by omega, by omega⟩ rfl ?_
                show ma_wp X (d - 1) (w - 21) 133 0 [(0, .inr (.inr (some 64))), (1, .inl (102 : Int32))] [] S49 _
                refine zw_push hm_133 dX11_partToken_0 (v := .inl (102 : Int32)) rfl ?_
                refine zw_jmp hm_133 dX11_partToken_1 (t := 131) (st' := []) rfl rfl rfl (by decide +kernel) ?_
                refine zw_push hm_133 dX11_partToken_131 (v := .inr (.inr (some 64))) rfl ?_
                refine zw_cv hm_133 dX11_partToken_132 v_11_340_11 hm_135 [] [] rfl (zT_rt hS49 s_64 rfl) ⟨by omega, by omega⟩ rfl (zw_mono h (zi_go ?_ ?_))
                · intro v52 S51 hv
                  obtain ⟨hS51, h⟩ := hv
                  refine zw_iret hm_133 dX11_partToken_135 ?_
                  show ma_wp X d w 128 54 [(3, .inl (1 : Int32)), (2, .inr (.inr (some 7))), (1, .inl v4), (0, .inr (.inr (some 64)))] [.inl v52, .inl (1 : Int32), .inr (.inr (some 66))] S51 _
                  refine zw_ias hm_128 dX11_readPolicy_54 (zT_is hS51 s_66) (zT_h hS51 s_66) rfl ⟨by decide, by decide⟩ ?_
                  refine zw_push hm_128 dX11_readPolicy_55 (v := .inr (.inr (some 64))) rfl ?_
                  refine zw_gf hm_128 dX11_readPolicy_56 (v := .inr (.inr (some 66))) (zT_is (zT_pi hS51) s_64) (zT_t (zT_pi hS51) s_64) rfl f_11_13_11 (zT_f (zT_pi hS51) r_64_4) ?_
                  refine zw_push hm_128 dX11_readPolicy_59 (v := .inl (1 : Int32)) rfl ?_
                  refine zw_ia hm_128 dX11_readPolicy_60 (zT_is (zT_pi hS51) s_66) (zT_h (zT_pi hS51) s_66) rfl ⟨by decide, by decide⟩ ?_
                  show ma_wp X d w 128 61 [(3, .inl (1 : Int32)), (2, .inr (.inr (some 7))), (1, .inl v4), (0, .inr (.inr (some 64)))] [.inl v52] (ma_put S51 66 1 (.inl v52)) _
                  refine zw_push hm_128 dX11_readPolicy_61 (v := .inl (-1 : Int32)) rfl ?_
                  refine zw_if2 hm_128 dX11_readPolicy_62 (t := 67) rfl zc2_ne ?_ ?_
                  · intro hc
                    rw [if_neg hc] at h
                    refine zw_sto hm_128 dX11_readPolicy_67 [(3, .inl (2 : Int32)), (2, .inr (.inr (some 7))), (1, .inl v4), (0, .inr (.inr (some 64)))] rfl rfl rfl ?_
                    refine zw_goto hm_128 dX11_readPolicy_70 (t := 22) rfl ?_
                    refine zw_push hm_128 dX11_readPolicy_22 (v := .inl (2 : Int32)) rfl ?_
                    refine zw_push hm_128 dX11_readPolicy_23 (v := .inr (.inr (some 7))) rfl ?_
                    refine zw_cv hm_128 dX11_readPolicy_24 v_11_288_17 hm_277 [] [.inl (2 : Int32)] rfl rfl ⟨by omega, by omega⟩ rfl (tx_len (v := (2 : Int32)) (by decide) (by omega) (by omega) rfl rfl ?_)
                    show ma_wp X d w 128 27 [(3, .inl (2 : Int32)), (2, .inr (.inr (some 7))), (1, .inl v4), (0, .inr (.inr (some 64)))] [.inl (2 : Int32), .inl (2 : Int32)] (ma_put S51 66 1 (.inl v52)) _
                    refine zw_if2 hm_128 dX11_readPolicy_27 (t := 73) rfl zc2_ge (fun _ => ?_) (fun hc => absurd (by decide) hc)
                    refine zw_push hm_128 dX11_readPolicy_73 (v := .inl v4) rfl ?_
                    refine zw_push hm_128 dX11_readPolicy_74 (v := .inl (-1 : Int32)) rfl ?_
                    refine zw_if2 hm_128 dX11_readPolicy_75 (t := 85) rfl zc2_eq ?_ ?_
                    · intro hc
                      rw [if_pos hc] at h
                      refine zw_push hm_128 dX11_readPolicy_85 (v := .inl (-1 : Int32)) rfl ?_
                      exact zw_iret hm_128 dX11_readPolicy_86 h
                    · intro hc
                      rw [if_neg hc] at h
                      refine zw_push hm_128 dX11_readPolicy_78 (v := .inr (.inr (some 64))) rfl ?_
                      refine zw_cv hm_128 dX11_readPolicy_79 v_11_278_11 hm_129 [] [] rfl (zT_rt (zT_pi hS51) s_64 rfl) ⟨by omega, by omega⟩ rfl (zw_mono h (zi_go ?_ ?_))
                      · intro v54 S53 hv
                        obtain ⟨hS53, h⟩ := hv
                        refine zw_if0 hm_128 dX11_readPolicy_82 (t := 87) rfl zc0_eq ?_ ?_
                        · intro hc
                          rw [if_pos hc] at h
                          refine zw_push hm_128 dX11_readPolicy_87 (v := .inl v4) rfl ?_
                          exact zw_iret hm_128 dX11_readPolicy_88 h
                        · intro hc
                          rw [if_neg hc] at h
                          refine zw_push hm_128 dX11_readPolicy_85 (v := .inl (-1 : Int32)) rfl ?_
                          exact zw_iret hm_128 dX11_readPolicy_86 h
                      · intro x S9 hx
                        exact ⟨by decide, hx⟩
                  · intro hc
                    rw [if_pos (Classical.not_not.mp hc)] at h
                    refine zw_push hm_128 dX11_readPolicy_65 (v := .inl (-1 : Int32)) rfl ?_
                    exact zw_iret hm_128 dX11_readPolicy_66 h
                · intro x S9 hx
                  exact hx.elim
              · intro x S9 hx
                exact ⟨by decide, hx⟩
            · intro hc
              rw [if_pos (Classical.not_not.mp hc)] at h
              refine zw_push hm_128 dX11_readPolicy_65 (v := .inl (-1 : Int32)) rfl ?_
              exact zw_iret hm_128 dX11_readPolicy_66 h
          · intro x S9 hx
            exact hx.elim
        · intro x S9 hx
          exact ⟨by decide, hx⟩
      rw [if_neg hc4] at h
      by_cases hc5 : v4 = (5 : Int32)
      · rw [if_pos hc5] at h
        refine zw_jmp hm_132 dX11_partsOf_1 (t := 64) (st' := []) rfl rfl rfl (ma_jmp_tab (by rw [hc5]; decide +kernel)) ?_
        refine zw_txc hm_132 dX11_partsOf_64 txi_11_325 ?_
        refine zw_aret hm_132 dX11_partsOf_67 ?_
        show ma_wp X d w 128 19 [(1, .inl v4), (0, .inr (.inr (some 64)))] [.inr (.inr (some 10))] S3 _
        refine zw_sto hm_128 dX11_readPolicy_19 [(2, .inr (.inr (some 10))), (1, .inl v4), (0, .inr (.inr (some 64)))] rfl rfl rfl ?_
        refine zw_push hm_128 dX11_readPolicy_20 (v := .inl (0 : Int32)) rfl ?_
        refine zw_sto hm_128 dX11_readPolicy_21 [(3, .inl (0 : Int32)), (2, .inr (.inr (some 10))), (1, .inl v4), (0, .inr (.inr (some 64)))] rfl rfl rfl ?_
        refine zw_push hm_128 dX11_readPolicy_22 (v := .inl (0 : Int32)) rfl ?_
        refine zw_push hm_128 dX11_readPolicy_23 (v := .inr (.inr (some 10))) rfl ?_
        refine zw_cv hm_128 dX11_readPolicy_24 v_11_288_17 hm_277 [] [.inl (0 : Int32)] rfl rfl ⟨by omega, by omega⟩ rfl (tx_len (v := (4 : Int32)) (by decide) (by omega) (by omega) rfl rfl ?_)
        show ma_wp X d w 128 27 [(3, .inl (0 : Int32)), (2, .inr (.inr (some 10))), (1, .inl v4), (0, .inr (.inr (some 64)))] [.inl (4 : Int32), .inl (0 : Int32)] S3 _
        refine zw_if2 hm_128 dX11_readPolicy_27 (t := 73) rfl zc2_ge (fun hc => absurd hc (by decide)) (fun _ => ?_)
        refine zw_push hm_128 dX11_readPolicy_30 (v := .inl (0 : Int32)) rfl ?_
        refine zw_push hm_128 dX11_readPolicy_31 (v := .inl (4 : Int32)) rfl ?_
        refine zw_if2 hm_128 dX11_readPolicy_32 (t := 73) rfl zc2_ge (fun hc => absurd hc (by decide)) (fun _ => ?_)
        refine zw_push hm_128 dX11_readPolicy_35 (v := .inr (.inr (some 64))) rfl ?_
        refine zw_cv hm_128 dX11_readPolicy_36 v_11_278_11 hm_129 [] [] rfl (zT_rt hS3 s_64 rfl) ⟨by omega, by omega⟩ rfl (zw_mono h (zi_go ?_ ?_))
        · intro v56 S55 hv
          obtain ⟨hS55, h⟩ := hv
          refine zw_stk hm_128 dX11_readPolicy_39 (st' := []) rfl rfl ?_
          refine zw_push hm_128 dX11_readPolicy_40 (v := .inr (.inr (some 64))) rfl ?_
          refine zw_gf hm_128 dX11_readPolicy_41 (v := .inr (.inr (some 66))) (zT_is hS55 s_64) (zT_t hS55 s_64) rfl f_11_13_11 (zT_f hS55 r_64_4) ?_
          refine zw_push hm_128 dX11_readPolicy_44 (v := .inl (0 : Int32)) rfl ?_
          refine zw_push hm_128 dX11_readPolicy_45 (v := .inr (.inr (some 64))) rfl ?_
          refine zw_push hm_128 dX11_readPolicy_46 (v := .inr (.inr (some 10))) rfl ?_
          refine zw_push hm_128 dX11_readPolicy_47 (v := .inl (0 : Int32)) rfl ?_
          refine zw_cv hm_128 dX11_readPolicy_48 v_11_293_17 hm_279 [.inl (0 : Int32)] [.inr (.inr (some 64)), .inl (0 : Int32), .inr (.inr (some 66))] rfl rfl ⟨by omega, by omega⟩ rfl (tx_char (v := (114 : Int32)) (by decide) (by omega) (by omega) (by decide) (by decide) (by decide) (by decide) ?_)
          show ma_wp X d w 128 51 [(3, .inl (0 : Int32)), (2, .inr (.inr (some 10))), (1, .inl v4), (0, .inr (.inr (some 64)))] [.inl (114 : Int32), .inr (.inr (some 64)), .inl (0 : Int32), .inr (.inr (some 66))] S55 _
          refine zw_cv hm_128 dX11_readPolicy_51 v_11_297_11 hm_133 [.inl (114 : Int32)] [.inl (0 : Int32), .inr (.inr (some 66))] rfl (zT_rt hS55 s_64 rfl) ⟨by omega, by omega⟩ rfl ?_
          show ma_wp X (d - 1) (w - 21) 133 0 [(0, .inr (.inr (some 64))), (1, .inl (114 : Int32))] [] S55 _
          refine zw_push hm_133 dX11_partToken_0 (v := .inl (114 : Int32)) rfl ?_
          refine zw_jmp hm_133 dX11_partToken_1 (t := 68) (st' := []) rfl rfl rfl (by decide +kernel) ?_
          refine zw_push hm_133 dX11_partToken_68 (v := .inr (.inr (some 64))) rfl ?_
          refine zw_push hm_133 dX11_partToken_69 (v := .inl (16 : Int32)) rfl ?_
          refine zw_push hm_133 dX11_partToken_71 (v := .inl (1500 : Int32)) rfl ?_
          refine zw_cv hm_133 dX11_partToken_74 v_11_331_11 hm_134 [.inl (1500 : Int32), .inl (16 : Int32)] [] rfl (zT_rt hS55 s_64 rfl) ⟨by omega, by omega⟩ rfl (zw_mono h (zi_go ?_ ?_))
          · intro v58 S57 hv
            obtain ⟨hS57, h⟩ := hv
            refine zw_iret hm_133 dX11_partToken_77 ?_
            show ma_wp X d w 128 54 [(3, .inl (0 : Int32)), (2, .inr (.inr (some 10))), (1, .inl v4), (0, .inr (.inr (some 64)))] [.inl v58, .inl (0 : Int32), .inr (.inr (some 66))] S57 _
            refine zw_ias hm_128 dX11_readPolicy_54 (zT_is hS57 s_66) (zT_h hS57 s_66) rfl ⟨by decide, by decide⟩ ?_
            refine zw_push hm_128 dX11_readPolicy_55 (v := .inr (.inr (some 64))) rfl ?_
            refine zw_gf hm_128 dX11_readPolicy_56 (v := .inr (.inr (some 66))) (zT_is (zT_pi hS57) s_64) (zT_t (zT_pi hS57) s_64) rfl f_11_13_11 (zT_f (zT_pi hS57) r_64_4) ?_
            refine zw_push hm_128 dX11_readPolicy_59 (v := .inl (0 : Int32)) rfl ?_
            refine zw_ia hm_128 dX11_readPolicy_60 (zT_is (zT_pi hS57) s_66) (zT_h (zT_pi hS57) s_66) rfl ⟨by decide, by decide⟩ ?_
            show ma_wp X d w 128 61 [(3, .inl (0 : Int32)), (2, .inr (.inr (some 10))), (1, .inl v4), (0, .inr (.inr (some 64)))] [.inl v58] (ma_put S57 66 0 (.inl v58)) _
            refine zw_push hm_128 dX11_readPolicy_61 (v := .inl (-1 : Int32)) rfl ?_
            refine zw_if2 hm_128 dX11_readPolicy_62 (t := 67) rfl zc2_ne ?_ ?_
            · intro hc
              rw [if_neg hc] at h
              refine zw_sto hm_128 dX11_readPolicy_67 [(3, .inl (1 : Int32)), (2, .inr (.inr (some 10))), (1, .inl v4), (0, .inr (.inr (some 64)))] rfl rfl rfl ?_
              refine zw_goto hm_128 dX11_readPolicy_70 (t := 22) rfl ?_
              refine zw_push hm_128 dX11_readPolicy_22 (v := .inl (1 : Int32)) rfl ?_
              refine zw_push hm_128 dX11_readPolicy_23 (v := .inr (.inr (some 10))) rfl ?_
              refine zw_cv hm_128 dX11_readPolicy_24 v_11_288_17 hm_277 [] [.inl (1 : Int32)] rfl rfl ⟨by omega, by omega⟩ rfl (tx_len (v := (4 : Int32)) (by decide) (by omega) (by omega) rfl rfl ?_)
              show ma_wp X d w 128 27 [(3, .inl (1 : Int32)), (2, .inr (.inr (some 10))), (1, .inl v4), (0, .inr (.inr (some 64)))] [.inl (4 : Int32), .inl (1 : Int32)] (ma_put S57 66 0 (.inl v58)) _
              refine zw_if2 hm_128 dX11_readPolicy_27 (t := 73) rfl zc2_ge (fun hc => absurd hc (by decide)) (fun _ => ?_)
              refine zw_push hm_128 dX11_readPolicy_30 (v := .inl (1 : Int32)) rfl ?_
              refine zw_push hm_128 dX11_readPolicy_31 (v := .inl (4 : Int32)) rfl ?_
              refine zw_if2 hm_128 dX11_readPolicy_32 (t := 73) rfl zc2_ge (fun hc => absurd hc (by decide)) (fun _ => ?_)
              refine zw_push hm_128 dX11_readPolicy_35 (v := .inr (.inr (some 64))) rfl ?_
              refine zw_cv hm_128 dX11_readPolicy_36 v_11_278_11 hm_129 [] [] rfl (zT_rt (zT_pi hS57) s_64 rfl) ⟨by omega, by omega⟩ rfl (zw_mono h (zi_go ?_ ?_))
              · intro v60 S59 hv
                obtain ⟨hS59, h⟩ := hv
                refine zw_stk hm_128 dX11_readPolicy_39 (st' := []) rfl rfl ?_
                refine zw_push hm_128 dX11_readPolicy_40 (v := .inr (.inr (some 64))) rfl ?_
                refine zw_gf hm_128 dX11_readPolicy_41 (v := .inr (.inr (some 66))) (zT_is hS59 s_64) (zT_t hS59 s_64) rfl f_11_13_11 (zT_f hS59 r_64_4) ?_
                refine zw_push hm_128 dX11_readPolicy_44 (v := .inl (1 : Int32)) rfl ?_
                refine zw_push hm_128 dX11_readPolicy_45 (v := .inr (.inr (some 64))) rfl ?_
                refine zw_push hm_128 dX11_readPolicy_46 (v := .inr (.inr (some 10))) rfl ?_
                refine zw_push hm_128 dX11_readPolicy_47 (v := .inl (1 : Int32)) rfl ?_
                refine zw_cv hm_128 dX11_readPolicy_48 v_11_293_17 hm_279 [.inl (1 : Int32)] [.inr (.inr (some 64)), .inl (1 : Int32), .inr (.inr (some 66))] rfl rfl ⟨by omega, by omega⟩ rfl (tx_char (v := (102 : Int32)) (by decide) (by omega) (by omega) (by decide) (by decide) (by decide) (by decide) ?_)
                show ma_wp X d w 128 51 [(3, .inl (1 : Int32)), (2, .inr (.inr (some 10))), (1, .inl v4), (0, .inr (.inr (some 64)))] [.inl (102 : Int32), .inr (.inr (some 64)), .inl (1 : Int32), .inr (.inr (some 66))] S59 _
                refine zw_cv hm_128 dX11_readPolicy_51 v_11_297_11 hm_133 [.inl (102 : Int32)] [.inl (1 : Int32), .inr (.inr (some 66))] rfl (zT_rt hS59 s_64 rfl) ⟨by omega, by omega⟩ rfl ?_
                show ma_wp X (d - 1) (w - 21) 133 0 [(0, .inr (.inr (some 64))), (1, .inl (102 : Int32))] [] S59 _
                refine zw_push hm_133 dX11_partToken_0 (v := .inl (102 : Int32)) rfl ?_
                refine zw_jmp hm_133 dX11_partToken_1 (t := 131) (st' := []) rfl rfl rfl (by decide +kernel) ?_
                refine zw_push hm_133 dX11_partToken_131 (v := .inr (.inr (some 64))) rfl ?_
                refine zw_cv hm_133 dX11_partToken_132 v_11_340_11 hm_135 [] [] rfl (zT_rt hS59 s_64 rfl) ⟨by omega, by omega⟩ rfl (zw_mono h (zi_go ?_ ?_))
                · intro v62 S61 hv
                  obtain ⟨hS61, h⟩ := hv
                  refine zw_iret hm_133 dX11_partToken_135 ?_
                  show ma_wp X d w 128 54 [(3, .inl (1 : Int32)), (2, .inr (.inr (some 10))), (1, .inl v4), (0, .inr (.inr (some 64)))] [.inl v62, .inl (1 : Int32), .inr (.inr (some 66))] S61 _
                  refine zw_ias hm_128 dX11_readPolicy_54 (zT_is hS61 s_66) (zT_h hS61 s_66) rfl ⟨by decide, by decide⟩ ?_
                  refine zw_push hm_128 dX11_readPolicy_55 (v := .inr (.inr (some 64))) rfl ?_
                  refine zw_gf hm_128 dX11_readPolicy_56 (v := .inr (.inr (some 66))) (zT_is (zT_pi hS61) s_64) (zT_t (zT_pi hS61) s_64) rfl f_11_13_11 (zT_f (zT_pi hS61) r_64_4) ?_
                  refine zw_push hm_128 dX11_readPolicy_59 (v := .inl (1 : Int32)) rfl ?_
                  refine zw_ia hm_128 dX11_readPolicy_60 (zT_is (zT_pi hS61) s_66) (zT_h (zT_pi hS61) s_66) rfl ⟨by decide, by decide⟩ ?_
                  show ma_wp X d w 128 61 [(3, .inl (1 : Int32)), (2, .inr (.inr (some 10))), (1, .inl v4), (0, .inr (.inr (some 64)))] [.inl v62] (ma_put S61 66 1 (.inl v62)) _
                  refine zw_push hm_128 dX11_readPolicy_61 (v := .inl (-1 : Int32)) rfl ?_
                  refine zw_if2 hm_128 dX11_readPolicy_62 (t := 67) rfl zc2_ne ?_ ?_
                  · intro hc
                    rw [if_neg hc] at h
                    refine zw_sto hm_128 dX11_readPolicy_67 [(3, .inl (2 : Int32)), (2, .inr (.inr (some 10))), (1, .inl v4), (0, .inr (.inr (some 64)))] rfl rfl rfl ?_
                    refine zw_goto hm_128 dX11_readPolicy_70 (t := 22) rfl ?_
                    refine zw_push hm_128 dX11_readPolicy_22 (v := .inl (2 : Int32)) rfl ?_
                    refine zw_push hm_128 dX11_readPolicy_23 (v := .inr (.inr (some 10))) rfl ?_
                    refine zw_cv hm_128 dX11_readPolicy_24 v_11_288_17 hm_277 [] [.inl (2 : Int32)] rfl rfl ⟨by omega, by omega⟩ rfl (tx_len (v := (4 : Int32)) (by decide) (by omega) (by omega) rfl rfl ?_)
                    show ma_wp X d w 128 27 [(3, .inl (2 : Int32)), (2, .inr (.inr (some 10))), (1, .inl v4), (0, .inr (.inr (some 64)))] [.inl (4 : Int32), .inl (2 : Int32)] (ma_put S61 66 1 (.inl v62)) _
                    refine zw_if2 hm_128 dX11_readPolicy_27 (t := 73) rfl zc2_ge (fun hc => absurd hc (by decide)) (fun _ => ?_)
                    refine zw_push hm_128 dX11_readPolicy_30 (v := .inl (2 : Int32)) rfl ?_
                    refine zw_push hm_128 dX11_readPolicy_31 (v := .inl (4 : Int32)) rfl ?_
                    refine zw_if2 hm_128 dX11_readPolicy_32 (t := 73) rfl zc2_ge (fun hc => absurd hc (by decide)) (fun _ => ?_)
                    refine zw_push hm_128 dX11_readPolicy_35 (v := .inr (.inr (some 64))) rfl ?_
                    refine zw_cv hm_128 dX11_readPolicy_36 v_11_278_11 hm_129 [] [] rfl (zT_rt (zT_pi hS61) s_64 rfl) ⟨by omega, by omega⟩ rfl (zw_mono h (zi_go ?_ ?_))
                    · intro v64 S63 hv
                      obtain ⟨hS63, h⟩ := hv
                      refine zw_stk hm_128 dX11_readPolicy_39 (st' := []) rfl rfl ?_
                      refine zw_push hm_128 dX11_readPolicy_40 (v := .inr (.inr (some 64))) rfl ?_
                      refine zw_gf hm_128 dX11_readPolicy_41 (v := .inr (.inr (some 66))) (zT_is hS63 s_64) (zT_t hS63 s_64) rfl f_11_13_11 (zT_f hS63 r_64_4) ?_
                      refine zw_push hm_128 dX11_readPolicy_44 (v := .inl (2 : Int32)) rfl ?_
                      refine zw_push hm_128 dX11_readPolicy_45 (v := .inr (.inr (some 64))) rfl ?_
                      refine zw_push hm_128 dX11_readPolicy_46 (v := .inr (.inr (some 10))) rfl ?_
                      refine zw_push hm_128 dX11_readPolicy_47 (v := .inl (2 : Int32)) rfl ?_
                      refine zw_cv hm_128 dX11_readPolicy_48 v_11_293_17 hm_279 [.inl (2 : Int32)] [.inr (.inr (some 64)), .inl (2 : Int32), .inr (.inr (some 66))] rfl rfl ⟨by omega, by omega⟩ rfl (tx_char (v := (116 : Int32)) (by decide) (by omega) (by omega) (by decide) (by decide) (by decide) (by decide) ?_)
                      show ma_wp X d w 128 51 [(3, .inl (2 : Int32)), (2, .inr (.inr (some 10))), (1, .inl v4), (0, .inr (.inr (some 64)))] [.inl (116 : Int32), .inr (.inr (some 64)), .inl (2 : Int32), .inr (.inr (some 66))] S63 _
                      refine zw_cv hm_128 dX11_readPolicy_51 v_11_297_11 hm_133 [.inl (116 : Int32)] [.inl (2 : Int32), .inr (.inr (some 66))] rfl (zT_rt hS63 s_64 rfl) ⟨by omega, by omega⟩ rfl ?_
                      show ma_wp X (d - 1) (w - 21) 133 0 [(0, .inr (.inr (some 64))), (1, .inl (116 : Int32))] [] S63 _
                      refine zw_push hm_133 dX11_partToken_0 (v := .inl (116 : Int32)) rfl ?_
                      refine zw_jmp hm_133 dX11_partToken_1 (t := 94) (st' := []) rfl rfl rfl (by decide +kernel) ?_
                      refine zw_push hm_133 dX11_partToken_94 (v := .inr (.inr (some 64))) rfl ?_
                      refine zw_push hm_133 dX11_partToken_95 (v := .inl (1 : Int32)) rfl ?_
                      refine zw_push hm_133 dX11_partToken_96 (v := .inl (50 : Int32)) rfl ?_
                      refine zw_cv hm_133 dX11_partToken_98 v_11_331_11 hm_134 [.inl (50 : Int32), .inl (1 : Int32)] [] rfl (zT_rt hS63 s_64 rfl) ⟨by omega, by omega⟩ rfl (zw_mono h (zi_go ?_ ?_))
                      · intro v66 S65 hv
                        obtain ⟨hS65, h⟩ := hv
                        refine zw_iret hm_133 dX11_partToken_101 ?_
                        show ma_wp X d w 128 54 [(3, .inl (2 : Int32)), (2, .inr (.inr (some 10))), (1, .inl v4), (0, .inr (.inr (some 64)))] [.inl v66, .inl (2 : Int32), .inr (.inr (some 66))] S65 _
                        refine zw_ias hm_128 dX11_readPolicy_54 (zT_is hS65 s_66) (zT_h hS65 s_66) rfl ⟨by decide, by decide⟩ ?_
                        refine zw_push hm_128 dX11_readPolicy_55 (v := .inr (.inr (some 64))) rfl ?_
                        refine zw_gf hm_128 dX11_readPolicy_56 (v := .inr (.inr (some 66))) (zT_is (zT_pi hS65) s_64) (zT_t (zT_pi hS65) s_64) rfl f_11_13_11 (zT_f (zT_pi hS65) r_64_4) ?_
                        refine zw_push hm_128 dX11_readPolicy_59 (v := .inl (2 : Int32)) rfl ?_
                        refine zw_ia hm_128 dX11_readPolicy_60 (zT_is (zT_pi hS65) s_66) (zT_h (zT_pi hS65) s_66) rfl ⟨by decide, by decide⟩ ?_
                        show ma_wp X d w 128 61 [(3, .inl (2 : Int32)), (2, .inr (.inr (some 10))), (1, .inl v4), (0, .inr (.inr (some 64)))] [.inl v66] (ma_put S65 66 2 (.inl v66)) _
                        refine zw_push hm_128 dX11_readPolicy_61 (v := .inl (-1 : Int32)) rfl ?_
                        refine zw_if2 hm_128 dX11_readPolicy_62 (t := 67) rfl zc2_ne ?_ ?_
                        · intro hc
                          rw [if_neg hc] at h
                          refine zw_sto hm_128 dX11_readPolicy_67 [(3, .inl (3 : Int32)), (2, .inr (.inr (some 10))), (1, .inl v4), (0, .inr (.inr (some 64)))] rfl rfl rfl ?_
                          refine zw_goto hm_128 dX11_readPolicy_70 (t := 22) rfl ?_
                          refine zw_push hm_128 dX11_readPolicy_22 (v := .inl (3 : Int32)) rfl ?_
                          refine zw_push hm_128 dX11_readPolicy_23 (v := .inr (.inr (some 10))) rfl ?_
                          refine zw_cv hm_128 dX11_readPolicy_24 v_11_288_17 hm_277 [] [.inl (3 : Int32)] rfl rfl ⟨by omega, by omega⟩ rfl (tx_len (v := (4 : Int32)) (by decide) (by omega) (by omega) rfl rfl ?_)
                          show ma_wp X d w 128 27 [(3, .inl (3 : Int32)), (2, .inr (.inr (some 10))), (1, .inl v4), (0, .inr (.inr (some 64)))] [.inl (4 : Int32), .inl (3 : Int32)] (ma_put S65 66 2 (.inl v66)) _
                          refine zw_if2 hm_128 dX11_readPolicy_27 (t := 73) rfl zc2_ge (fun hc => absurd hc (by decide)) (fun _ => ?_)
                          refine zw_push hm_128 dX11_readPolicy_30 (v := .inl (3 : Int32)) rfl ?_
                          refine zw_push hm_128 dX11_readPolicy_31 (v := .inl (4 : Int32)) rfl ?_
                          refine zw_if2 hm_128 dX11_readPolicy_32 (t := 73) rfl zc2_ge (fun hc => absurd hc (by decide)) (fun _ => ?_)
                          refine zw_push hm_128 dX11_readPolicy_35 (v := .inr (.inr (some 64))) rfl ?_
                          refine zw_cv hm_128 dX11_readPolicy_36 v_11_278_11 hm_129 [] [] rfl (zT_rt (zT_pi hS65) s_64 rfl) ⟨by omega, by omega⟩ rfl (zw_mono h (zi_go ?_ ?_))
                          · intro v68 S67 hv
                            obtain ⟨hS67, h⟩ := hv
                            refine zw_stk hm_128 dX11_readPolicy_39 (st' := []) rfl rfl ?_
                            refine zw_push hm_128 dX11_readPolicy_40 (v := .inr (.inr (some 64))) rfl ?_
                            refine zw_gf hm_128 dX11_readPolicy_41 (v := .inr (.inr (some 66))) (zT_is hS67 s_64) (zT_t hS67 s_64) rfl f_11_13_11 (zT_f hS67 r_64_4) ?_
                            refine zw_push hm_128 dX11_readPolicy_44 (v := .inl (3 : Int32)) rfl ?_
                            refine zw_push hm_128 dX11_readPolicy_45 (v := .inr (.inr (some 64))) rfl ?_
                            refine zw_push hm_128 dX11_readPolicy_46 (v := .inr (.inr (some 10))) rfl ?_
                            refine zw_push hm_128 dX11_readPolicy_47 (v := .inl (3 : Int32)) rfl ?_
                            refine zw_cv hm_128 dX11_readPolicy_48 v_11_293_17 hm_279 [.inl (3 : Int32)] [.inr (.inr (some 64)), .inl (3 : Int32), .inr (.inr (some 66))] rfl rfl ⟨by omega, by omega⟩ rfl (tx_char (v := (98 : Int32)) (by decide) (by omega) (by omega) (by decide) (by decide) (by decide) (by decide) ?_)
                            show ma_wp X d w 128 51 [(3, .inl (3 : Int32)), (2, .inr (.inr (some 10))), (1, .inl v4), (0, .inr (.inr (some 64)))] [.inl (98 : Int32), .inr (.inr (some 64)), .inl (3 : Int32), .inr (.inr (some 66))] S67 _
                            refine zw_cv hm_128 dX11_readPolicy_51 v_11_297_11 hm_133 [.inl (98 : Int32)] [.inl (3 : Int32), .inr (.inr (some 66))] rfl (zT_rt hS67 s_64 rfl) ⟨by omega, by omega⟩ rfl ?_
                            show ma_wp X (d - 1) (w - 21) 133 0 [(0, .inr (.inr (some 64))), (1, .inl (98 : Int32))] [] S67 _
                            refine zw_push hm_133 dX11_partToken_0 (v := .inl (98 : Int32)) rfl ?_
                            refine zw_jmp hm_133 dX11_partToken_1 (t := 136) (st' := []) rfl rfl rfl (by decide +kernel) ?_
                            refine zw_push hm_133 dX11_partToken_136 (v := .inr (.inr (some 64))) rfl ?_
                            refine zw_cv hm_133 dX11_partToken_137 v_11_343_11 hm_136 [] [] rfl (zT_rt hS67 s_64 rfl) ⟨by omega, by omega⟩ rfl (zw_mono h (zi_go ?_ ?_))
                            · intro v70 S69 hv
                              obtain ⟨hS69, h⟩ := hv
                              refine zw_iret hm_133 dX11_partToken_140 ?_
                              show ma_wp X d w 128 54 [(3, .inl (3 : Int32)), (2, .inr (.inr (some 10))), (1, .inl v4), (0, .inr (.inr (some 64)))] [.inl v70, .inl (3 : Int32), .inr (.inr (some 66))] S69 _
                              refine zw_ias hm_128 dX11_readPolicy_54 (zT_is hS69 s_66) (zT_h hS69 s_66) rfl ⟨by decide, by decide⟩ ?_
                              refine zw_push hm_128 dX11_readPolicy_55 (v := .inr (.inr (some 64))) rfl ?_
                              refine zw_gf hm_128 dX11_readPolicy_56 (v := .inr (.inr (some 66))) (zT_is (zT_pi hS69) s_64) (zT_t (zT_pi hS69) s_64) rfl f_11_13_11 (zT_f (zT_pi hS69) r_64_4) ?_
                              refine zw_push hm_128 dX11_readPolicy_59 (v := .inl (3 : Int32)) rfl ?_
                              refine zw_ia hm_128 dX11_readPolicy_60 (zT_is (zT_pi hS69) s_66) (zT_h (zT_pi hS69) s_66) rfl ⟨by decide, by decide⟩ ?_
                              show ma_wp X d w 128 61 [(3, .inl (3 : Int32)), (2, .inr (.inr (some 10))), (1, .inl v4), (0, .inr (.inr (some 64)))] [.inl v70] (ma_put S69 66 3 (.inl v70)) _
                              refine zw_push hm_128 dX11_readPolicy_61 (v := .inl (-1 : Int32)) rfl ?_
                              refine zw_if2 hm_128 dX11_readPolicy_62 (t := 67) rfl zc2_ne ?_ ?_
                              · intro hc
                                rw [if_neg hc] at h
                                refine zw_sto hm_128 dX11_readPolicy_67 [(3, .inl (4 : Int32)), (2, .inr (.inr (some 10))), (1, .inl v4), (0, .inr (.inr (some 64)))] rfl rfl rfl ?_
                                refine zw_goto hm_128 dX11_readPolicy_70 (t := 22) rfl ?_
                                refine zw_push hm_128 dX11_readPolicy_22 (v := .inl (4 : Int32)) rfl ?_
                                refine zw_push hm_128 dX11_readPolicy_23 (v := .inr (.inr (some 10))) rfl ?_
                                refine zw_cv hm_128 dX11_readPolicy_24 v_11_288_17 hm_277 [] [.inl (4 : Int32)] rfl rfl ⟨by omega, by omega⟩ rfl (tx_len (v := (4 : Int32)) (by decide) (by omega) (by omega) rfl rfl ?_)
                                show ma_wp X d w 128 27 [(3, .inl (4 : Int32)), (2, .inr (.inr (some 10))), (1, .inl v4), (0, .inr (.inr (some 64)))] [.inl (4 : Int32), .inl (4 : Int32)] (ma_put S69 66 3 (.inl v70)) _
                                refine zw_if2 hm_128 dX11_readPolicy_27 (t := 73) rfl zc2_ge (fun _ => ?_) (fun hc => absurd (by decide) hc)
                                refine zw_push hm_128 dX11_readPolicy_73 (v := .inl v4) rfl ?_
                                refine zw_push hm_128 dX11_readPolicy_74 (v := .inl (-1 : Int32)) rfl ?_
                                refine zw_if2 hm_128 dX11_readPolicy_75 (t := 85) rfl zc2_eq ?_ ?_
                                · intro hc
                                  rw [if_pos hc] at h
                                  refine zw_push hm_128 dX11_readPolicy_85 (v := .inl (-1 : Int32)) rfl ?_
                                  exact zw_iret hm_128 dX11_readPolicy_86 h
                                · intro hc
                                  rw [if_neg hc] at h
                                  refine zw_push hm_128 dX11_readPolicy_78 (v := .inr (.inr (some 64))) rfl ?_
                                  refine zw_cv hm_128 dX11_readPolicy_79 v_11_278_11 hm_129 [] [] rfl (zT_rt (zT_pi hS69) s_64 rfl) ⟨by omega, by omega⟩ rfl (zw_mono h (zi_go ?_ ?_))
                                  · intro v72 S71 hv
                                    obtain ⟨hS71, h⟩ := hv
                                    refine zw_if0 hm_128 dX11_readPolicy_82 (t := 87) rfl zc0_eq ?_ ?_
                                    · intro hc
                                      rw [if_pos hc] at h
                                      refine zw_push hm_128 dX11_readPolicy_87 (v := .inl v4) rfl ?_
                                      exact zw_iret hm_128 dX11_readPolicy_88 h
                                    · intro hc
                                      rw [if_neg hc] at h
                                      refine zw_push hm_128 dX11_readPolicy_85 (v := .inl (-1 : Int32)) rfl ?_
                                      exact zw_iret hm_128 dX11_readPolicy_86 h
                                  · intro x S9 hx
                                    exact ⟨by decide, hx⟩
                              · intro hc
                                rw [if_pos (Classical.not_not.mp hc)] at h
                                refine zw_push hm_128 dX11_readPolicy_65 (v := .inl (-1 : Int32)) rfl ?_
                                exact zw_iret hm_128 dX11_readPolicy_66 h
                            · intro x S9 hx
                              exact hx.elim
                          · intro x S9 hx
                            exact ⟨by decide, hx⟩
                        · intro hc
                          rw [if_pos (Classical.not_not.mp hc)] at h
                          refine zw_push hm_128 dX11_readPolicy_65 (v := .inl (-1 : Int32)) rfl ?_
                          exact zw_iret hm_128 dX11_readPolicy_66 h
                      · intro x S9 hx
                        exact hx.elim
                    · intro x S9 hx
                      exact ⟨by decide, hx⟩
                  · intro hc
                    rw [if_pos (Classical.not_not.mp hc)] at h
                    refine zw_push hm_128 dX11_readPolicy_65 (v := .inl (-1 : Int32)) rfl ?_
                    exact zw_iret hm_128 dX11_readPolicy_66 h
                · intro x S9 hx
                  exact hx.elim
              · intro x S9 hx
                exact ⟨by decide, hx⟩
            · intro hc
              rw [if_pos (Classical.not_not.mp hc)] at h
              refine zw_push hm_128 dX11_readPolicy_65 (v := .inl (-1 : Int32)) rfl ?_
              exact zw_iret hm_128 dX11_readPolicy_66 h
          · intro x S9 hx
            exact hx.elim
        · intro x S9 hx
          exact ⟨by decide, hx⟩
      rw [if_neg hc5] at h
      by_cases hc6 : v4 = (6 : Int32)
      · rw [if_pos hc6] at h
        refine zw_jmp hm_132 dX11_partsOf_1 (t := 68) (st' := []) rfl rfl rfl (ma_jmp_tab (by rw [hc6]; decide +kernel)) ?_
        refine zw_txc hm_132 dX11_partsOf_68 txi_11_327 ?_
        refine zw_aret hm_132 dX11_partsOf_71 ?_
        show ma_wp X d w 128 19 [(1, .inl v4), (0, .inr (.inr (some 64)))] [.inr (.inr (some 11))] S3 _
        refine zw_sto hm_128 dX11_readPolicy_19 [(2, .inr (.inr (some 11))), (1, .inl v4), (0, .inr (.inr (some 64)))] rfl rfl rfl ?_
        refine zw_push hm_128 dX11_readPolicy_20 (v := .inl (0 : Int32)) rfl ?_
        refine zw_sto hm_128 dX11_readPolicy_21 [(3, .inl (0 : Int32)), (2, .inr (.inr (some 11))), (1, .inl v4), (0, .inr (.inr (some 64)))] rfl rfl rfl ?_
        refine zw_push hm_128 dX11_readPolicy_22 (v := .inl (0 : Int32)) rfl ?_
        refine zw_push hm_128 dX11_readPolicy_23 (v := .inr (.inr (some 11))) rfl ?_
        refine zw_cv hm_128 dX11_readPolicy_24 v_11_288_17 hm_277 [] [.inl (0 : Int32)] rfl rfl ⟨by omega, by omega⟩ rfl (tx_len (v := (3 : Int32)) (by decide) (by omega) (by omega) rfl rfl ?_)
        show ma_wp X d w 128 27 [(3, .inl (0 : Int32)), (2, .inr (.inr (some 11))), (1, .inl v4), (0, .inr (.inr (some 64)))] [.inl (3 : Int32), .inl (0 : Int32)] S3 _
        refine zw_if2 hm_128 dX11_readPolicy_27 (t := 73) rfl zc2_ge (fun hc => absurd hc (by decide)) (fun _ => ?_)
        refine zw_push hm_128 dX11_readPolicy_30 (v := .inl (0 : Int32)) rfl ?_
        refine zw_push hm_128 dX11_readPolicy_31 (v := .inl (4 : Int32)) rfl ?_
        refine zw_if2 hm_128 dX11_readPolicy_32 (t := 73) rfl zc2_ge (fun hc => absurd hc (by decide)) (fun _ => ?_)
        refine zw_push hm_128 dX11_readPolicy_35 (v := .inr (.inr (some 64))) rfl ?_
        refine zw_cv hm_128 dX11_readPolicy_36 v_11_278_11 hm_129 [] [] rfl (zT_rt hS3 s_64 rfl) ⟨by omega, by omega⟩ rfl (zw_mono h (zi_go ?_ ?_))
        · intro v74 S73 hv
          obtain ⟨hS73, h⟩ := hv
          refine zw_stk hm_128 dX11_readPolicy_39 (st' := []) rfl rfl ?_
          refine zw_push hm_128 dX11_readPolicy_40 (v := .inr (.inr (some 64))) rfl ?_
          refine zw_gf hm_128 dX11_readPolicy_41 (v := .inr (.inr (some 66))) (zT_is hS73 s_64) (zT_t hS73 s_64) rfl f_11_13_11 (zT_f hS73 r_64_4) ?_
          refine zw_push hm_128 dX11_readPolicy_44 (v := .inl (0 : Int32)) rfl ?_
          refine zw_push hm_128 dX11_readPolicy_45 (v := .inr (.inr (some 64))) rfl ?_
          refine zw_push hm_128 dX11_readPolicy_46 (v := .inr (.inr (some 11))) rfl ?_
          refine zw_push hm_128 dX11_readPolicy_47 (v := .inl (0 : Int32)) rfl ?_
          refine zw_cv hm_128 dX11_readPolicy_48 v_11_293_17 hm_279 [.inl (0 : Int32)] [.inr (.inr (some 64)), .inl (0 : Int32), .inr (.inr (some 66))] rfl rfl ⟨by omega, by omega⟩ rfl (tx_char (v := (114 : Int32)) (by decide) (by omega) (by omega) (by decide) (by decide) (by decide) (by decide) ?_)
          show ma_wp X d w 128 51 [(3, .inl (0 : Int32)), (2, .inr (.inr (some 11))), (1, .inl v4), (0, .inr (.inr (some 64)))] [.inl (114 : Int32), .inr (.inr (some 64)), .inl (0 : Int32), .inr (.inr (some 66))] S73 _
          refine zw_cv hm_128 dX11_readPolicy_51 v_11_297_11 hm_133 [.inl (114 : Int32)] [.inl (0 : Int32), .inr (.inr (some 66))] rfl (zT_rt hS73 s_64 rfl) ⟨by omega, by omega⟩ rfl ?_
          show ma_wp X (d - 1) (w - 21) 133 0 [(0, .inr (.inr (some 64))), (1, .inl (114 : Int32))] [] S73 _
          refine zw_push hm_133 dX11_partToken_0 (v := .inl (114 : Int32)) rfl ?_
          refine zw_jmp hm_133 dX11_partToken_1 (t := 68) (st' := []) rfl rfl rfl (by decide +kernel) ?_
          refine zw_push hm_133 dX11_partToken_68 (v := .inr (.inr (some 64))) rfl ?_
          refine zw_push hm_133 dX11_partToken_69 (v := .inl (16 : Int32)) rfl ?_
          refine zw_push hm_133 dX11_partToken_71 (v := .inl (1500 : Int32)) rfl ?_
          refine zw_cv hm_133 dX11_partToken_74 v_11_331_11 hm_134 [.inl (1500 : Int32), .inl (16 : Int32)] [] rfl (zT_rt hS73 s_64 rfl) ⟨by omega, by omega⟩ rfl (zw_mono h (zi_go ?_ ?_))
          · intro v76 S75 hv
            obtain ⟨hS75, h⟩ := hv
            refine zw_iret hm_133 dX11_partToken_77 ?_
            show ma_wp X d w 128 54 [(3, .inl (0 : Int32)), (2, .inr (.inr (some 11))), (1, .inl v4), (0, .inr (.inr (some 64)))] [.inl v76, .inl (0 : Int32), .inr (.inr (some 66))] S75 _
            refine zw_ias hm_128 dX11_readPolicy_54 (zT_is hS75 s_66) (zT_h hS75 s_66) rfl ⟨by decide, by decide⟩ ?_
            refine zw_push hm_128 dX11_readPolicy_55 (v := .inr (.inr (some 64))) rfl ?_
            refine zw_gf hm_128 dX11_readPolicy_56 (v := .inr (.inr (some 66))) (zT_is (zT_pi hS75) s_64) (zT_t (zT_pi hS75) s_64) rfl f_11_13_11 (zT_f (zT_pi hS75) r_64_4) ?_
            refine zw_push hm_128 dX11_readPolicy_59 (v := .inl (0 : Int32)) rfl ?_
            refine zw_ia hm_128 dX11_readPolicy_60 (zT_is (zT_pi hS75) s_66) (zT_h (zT_pi hS75) s_66) rfl ⟨by decide, by decide⟩ ?_
            show ma_wp X d w 128 61 [(3, .inl (0 : Int32)), (2, .inr (.inr (some 11))), (1, .inl v4), (0, .inr (.inr (some 64)))] [.inl v76] (ma_put S75 66 0 (.inl v76)) _
            refine zw_push hm_128 dX11_readPolicy_61 (v := .inl (-1 : Int32)) rfl ?_
            refine zw_if2 hm_128 dX11_readPolicy_62 (t := 67) rfl zc2_ne ?_ ?_
            · intro hc
              rw [if_neg hc] at h
              refine zw_sto hm_128 dX11_readPolicy_67 [(3, .inl (1 : Int32)), (2, .inr (.inr (some 11))), (1, .inl v4), (0, .inr (.inr (some 64)))] rfl rfl rfl ?_
              refine zw_goto hm_128 dX11_readPolicy_70 (t := 22) rfl ?_
              refine zw_push hm_128 dX11_readPolicy_22 (v := .inl (1 : Int32)) rfl ?_
              refine zw_push hm_128 dX11_readPolicy_23 (v := .inr (.inr (some 11))) rfl ?_
              refine zw_cv hm_128 dX11_readPolicy_24 v_11_288_17 hm_277 [] [.inl (1 : Int32)] rfl rfl ⟨by omega, by omega⟩ rfl (tx_len (v := (3 : Int32)) (by decide) (by omega) (by omega) rfl rfl ?_)
              show ma_wp X d w 128 27 [(3, .inl (1 : Int32)), (2, .inr (.inr (some 11))), (1, .inl v4), (0, .inr (.inr (some 64)))] [.inl (3 : Int32), .inl (1 : Int32)] (ma_put S75 66 0 (.inl v76)) _
              refine zw_if2 hm_128 dX11_readPolicy_27 (t := 73) rfl zc2_ge (fun hc => absurd hc (by decide)) (fun _ => ?_)
              refine zw_push hm_128 dX11_readPolicy_30 (v := .inl (1 : Int32)) rfl ?_
              refine zw_push hm_128 dX11_readPolicy_31 (v := .inl (4 : Int32)) rfl ?_
              refine zw_if2 hm_128 dX11_readPolicy_32 (t := 73) rfl zc2_ge (fun hc => absurd hc (by decide)) (fun _ => ?_)
              refine zw_push hm_128 dX11_readPolicy_35 (v := .inr (.inr (some 64))) rfl ?_
              refine zw_cv hm_128 dX11_readPolicy_36 v_11_278_11 hm_129 [] [] rfl (zT_rt (zT_pi hS75) s_64 rfl) ⟨by omega, by omega⟩ rfl (zw_mono h (zi_go ?_ ?_))
              · intro v78 S77 hv
                obtain ⟨hS77, h⟩ := hv
                refine zw_stk hm_128 dX11_readPolicy_39 (st' := []) rfl rfl ?_
                refine zw_push hm_128 dX11_readPolicy_40 (v := .inr (.inr (some 64))) rfl ?_
                refine zw_gf hm_128 dX11_readPolicy_41 (v := .inr (.inr (some 66))) (zT_is hS77 s_64) (zT_t hS77 s_64) rfl f_11_13_11 (zT_f hS77 r_64_4) ?_
                refine zw_push hm_128 dX11_readPolicy_44 (v := .inl (1 : Int32)) rfl ?_
                refine zw_push hm_128 dX11_readPolicy_45 (v := .inr (.inr (some 64))) rfl ?_
                refine zw_push hm_128 dX11_readPolicy_46 (v := .inr (.inr (some 11))) rfl ?_
                refine zw_push hm_128 dX11_readPolicy_47 (v := .inl (1 : Int32)) rfl ?_
                refine zw_cv hm_128 dX11_readPolicy_48 v_11_293_17 hm_279 [.inl (1 : Int32)] [.inr (.inr (some 64)), .inl (1 : Int32), .inr (.inr (some 66))] rfl rfl ⟨by omega, by omega⟩ rfl (tx_char (v := (122 : Int32)) (by decide) (by omega) (by omega) (by decide) (by decide) (by decide) (by decide) ?_)
                show ma_wp X d w 128 51 [(3, .inl (1 : Int32)), (2, .inr (.inr (some 11))), (1, .inl v4), (0, .inr (.inr (some 64)))] [.inl (122 : Int32), .inr (.inr (some 64)), .inl (1 : Int32), .inr (.inr (some 66))] S77 _
                refine zw_cv hm_128 dX11_readPolicy_51 v_11_297_11 hm_133 [.inl (122 : Int32)] [.inl (1 : Int32), .inr (.inr (some 66))] rfl (zT_rt hS77 s_64 rfl) ⟨by omega, by omega⟩ rfl ?_
                show ma_wp X (d - 1) (w - 21) 133 0 [(0, .inr (.inr (some 64))), (1, .inl (122 : Int32))] [] S77 _
                refine zw_push hm_133 dX11_partToken_0 (v := .inl (122 : Int32)) rfl ?_
                refine zw_jmp hm_133 dX11_partToken_1 (t := 102) (st' := []) rfl rfl rfl (by decide +kernel) ?_
                refine zw_push hm_133 dX11_partToken_102 (v := .inr (.inr (some 64))) rfl ?_
                refine zw_push hm_133 dX11_partToken_103 (v := .inl (16 : Int32)) rfl ?_
                refine zw_push hm_133 dX11_partToken_105 (v := .inl (256 : Int32)) rfl ?_
                refine zw_push hm_133 dX11_partToken_108 (v := .inr (.inr (some 64))) rfl ?_
                refine zw_gf hm_133 dX11_partToken_109 (v := .inr (.inr (some 66))) (zT_is hS77 s_64) (zT_t hS77 s_64) rfl f_11_13_11 (zT_f hS77 r_64_4) ?_
                refine zw_push hm_133 dX11_partToken_112 (v := .inl (0 : Int32)) rfl ?_
                refine zw_ia hm_133 dX11_partToken_113 (zT_is hS77 s_66) (zT_h hS77 s_66) rfl ⟨by decide, by decide⟩ ?_
                show ma_wp X (d - 1) (w - 21) 133 114 [(0, .inr (.inr (some 64))), (1, .inl (122 : Int32))] [.inl (mI S77 66 0), .inl (256 : Int32), .inl (16 : Int32), .inr (.inr (some 64))] S77 _
                refine zw_push hm_133 dX11_partToken_114 (v := .inl (4 : Int32)) rfl ?_
                refine zw_stk hm_133 dX11_partToken_115 (st' := [.inl ((mI S77 66 0) / (4 : Int32)), .inl (256 : Int32), .inl (16 : Int32), .inr (.inr (some 64))]) rfl rfl ?_
                refine zw_min hm_133 dX11_partToken_116 pr_11_335 (by omega) (by show 2 + 13 ≤ (w - 21); omega) (fun _ _ _ _ z => by cases z) ?_
                refine zw_cv hm_133 dX11_partToken_119 v_11_331_11 hm_134 [.inl (if ((mI S77 66 0) / (4 : Int32)) < (256 : Int32) then ((mI S77 66 0) / (4 : Int32)) else (256 : Int32)), .inl (16 : Int32)] [] rfl (zT_rt hS77 s_64 rfl) ⟨by omega, by omega⟩ rfl (zw_mono h (zi_go ?_ ?_))
                · intro v80 S79 hv
                  obtain ⟨hS79, h⟩ := hv
                  refine zw_iret hm_133 dX11_partToken_122 ?_
                  show ma_wp X d w 128 54 [(3, .inl (1 : Int32)), (2, .inr (.inr (some 11))), (1, .inl v4), (0, .inr (.inr (some 64)))] [.inl v80, .inl (1 : Int32), .inr (.inr (some 66))] S79 _
                  refine zw_ias hm_128 dX11_readPolicy_54 (zT_is hS79 s_66) (zT_h hS79 s_66) rfl ⟨by decide, by decide⟩ ?_
                  refine zw_push hm_128 dX11_readPolicy_55 (v := .inr (.inr (some 64))) rfl ?_
                  refine zw_gf hm_128 dX11_readPolicy_56 (v := .inr (.inr (some 66))) (zT_is (zT_pi hS79) s_64) (zT_t (zT_pi hS79) s_64) rfl f_11_13_11 (zT_f (zT_pi hS79) r_64_4) ?_
                  refine zw_push hm_128 dX11_readPolicy_59 (v := .inl (1 : Int32)) rfl ?_
                  refine zw_ia hm_128 dX11_readPolicy_60 (zT_is (zT_pi hS79) s_66) (zT_h (zT_pi hS79) s_66) rfl ⟨by decide, by decide⟩ ?_
                  show ma_wp X d w 128 61 [(3, .inl (1 : Int32)), (2, .inr (.inr (some 11))), (1, .inl v4), (0, .inr (.inr (some 64)))] [.inl v80] (ma_put S79 66 1 (.inl v80)) _
                  refine zw_push hm_128 dX11_readPolicy_61 (v := .inl (-1 : Int32)) rfl ?_
                  refine zw_if2 hm_128 dX11_readPolicy_62 (t := 67) rfl zc2_ne ?_ ?_
                  · intro hc
                    rw [if_neg hc] at h
                    refine zw_sto hm_128 dX11_readPolicy_67 [(3, .inl (2 : Int32)), (2, .inr (.inr (some 11))), (1, .inl v4), (0, .inr (.inr (some 64)))] rfl rfl rfl ?_
                    refine zw_goto hm_128 dX11_readPolicy_70 (t := 22) rfl ?_
                    refine zw_push hm_128 dX11_readPolicy_22 (v := .inl (2 : Int32)) rfl ?_
                    refine zw_push hm_128 dX11_readPolicy_23 (v := .inr (.inr (some 11))) rfl ?_
                    refine zw_cv hm_128 dX11_readPolicy_24 v_11_288_17 hm_277 [] [.inl (2 : Int32)] rfl rfl ⟨by omega, by omega⟩ rfl (tx_len (v := (3 : Int32)) (by decide) (by omega) (by omega) rfl rfl ?_)
                    show ma_wp X d w 128 27 [(3, .inl (2 : Int32)), (2, .inr (.inr (some 11))), (1, .inl v4), (0, .inr (.inr (some 64)))] [.inl (3 : Int32), .inl (2 : Int32)] (ma_put S79 66 1 (.inl v80)) _
                    refine zw_if2 hm_128 dX11_readPolicy_27 (t := 73) rfl zc2_ge (fun hc => absurd hc (by decide)) (fun _ => ?_)
                    refine zw_push hm_128 dX11_readPolicy_30 (v := .inl (2 : Int32)) rfl ?_
                    refine zw_push hm_128 dX11_readPolicy_31 (v := .inl (4 : Int32)) rfl ?_
                    refine zw_if2 hm_128 dX11_readPolicy_32 (t := 73) rfl zc2_ge (fun hc => absurd hc (by decide)) (fun _ => ?_)
                    refine zw_push hm_128 dX11_readPolicy_35 (v := .inr (.inr (some 64))) rfl ?_
                    refine zw_cv hm_128 dX11_readPolicy_36 v_11_278_11 hm_129 [] [] rfl (zT_rt (zT_pi hS79) s_64 rfl) ⟨by omega, by omega⟩ rfl (zw_mono h (zi_go ?_ ?_))
                    · intro v82 S81 hv
                      obtain ⟨hS81, h⟩ := hv
                      refine zw_stk hm_128 dX11_readPolicy_39 (st' := []) rfl rfl ?_
                      refine zw_push hm_128 dX11_readPolicy_40 (v := .inr (.inr (some 64))) rfl ?_
                      refine zw_gf hm_128 dX11_readPolicy_41 (v := .inr (.inr (some 66))) (zT_is hS81 s_64) (zT_t hS81 s_64) rfl f_11_13_11 (zT_f hS81 r_64_4) ?_
                      refine zw_push hm_128 dX11_readPolicy_44 (v := .inl (2 : Int32)) rfl ?_
                      refine zw_push hm_128 dX11_readPolicy_45 (v := .inr (.inr (some 64))) rfl ?_
                      refine zw_push hm_128 dX11_readPolicy_46 (v := .inr (.inr (some 11))) rfl ?_
                      refine zw_push hm_128 dX11_readPolicy_47 (v := .inl (2 : Int32)) rfl ?_
                      refine zw_cv hm_128 dX11_readPolicy_48 v_11_293_17 hm_279 [.inl (2 : Int32)] [.inr (.inr (some 64)), .inl (2 : Int32), .inr (.inr (some 66))] rfl rfl ⟨by omega, by omega⟩ rfl (tx_char (v := (115 : Int32)) (by decide) (by omega) (by omega) (by decide) (by decide) (by decide) (by decide) ?_)
                      show ma_wp X d w 128 51 [(3, .inl (2 : Int32)), (2, .inr (.inr (some 11))), (1, .inl v4), (0, .inr (.inr (some 64)))] [.inl (115 : Int32), .inr (.inr (some 64)), .inl (2 : Int32), .inr (.inr (some 66))] S81 _
                      refine zw_cv hm_128 dX11_readPolicy_51 v_11_297_11 hm_133 [.inl (115 : Int32)] [.inl (2 : Int32), .inr (.inr (some 66))] rfl (zT_rt hS81 s_64 rfl) ⟨by omega, by omega⟩ rfl ?_
                      show ma_wp X (d - 1) (w - 21) 133 0 [(0, .inr (.inr (some 64))), (1, .inl (115 : Int32))] [] S81 _
                      refine zw_push hm_133 dX11_partToken_0 (v := .inl (115 : Int32)) rfl ?_
                      refine zw_jmp hm_133 dX11_partToken_1 (t := 123) (st' := []) rfl rfl rfl (by decide +kernel) ?_
                      refine zw_push hm_133 dX11_partToken_123 (v := .inr (.inr (some 64))) rfl ?_
                      refine zw_push hm_133 dX11_partToken_124 (v := .inl (0 : Int32)) rfl ?_
                      refine zw_push hm_133 dX11_partToken_125 (v := .inl (100 : Int32)) rfl ?_
                      refine zw_cv hm_133 dX11_partToken_127 v_11_331_11 hm_134 [.inl (100 : Int32), .inl (0 : Int32)] [] rfl (zT_rt hS81 s_64 rfl) ⟨by omega, by omega⟩ rfl (zw_mono h (zi_go ?_ ?_))
                      · intro v84 S83 hv
                        obtain ⟨hS83, h⟩ := hv
                        refine zw_iret hm_133 dX11_partToken_130 ?_
                        show ma_wp X d w 128 54 [(3, .inl (2 : Int32)), (2, .inr (.inr (some 11))), (1, .inl v4), (0, .inr (.inr (some 64)))] [.inl v84, .inl (2 : Int32), .inr (.inr (some 66))] S83 _
                        refine zw_ias hm_128 dX11_readPolicy_54 (zT_is hS83 s_66) (zT_h hS83 s_66) rfl ⟨by decide, by decide⟩ ?_
                        refine zw_push hm_128 dX11_readPolicy_55 (v := .inr (.inr (some 64))) rfl ?_
                        refine zw_gf hm_128 dX11_readPolicy_56 (v := .inr (.inr (some 66))) (zT_is (zT_pi hS83) s_64) (zT_t (zT_pi hS83) s_64) rfl f_11_13_11 (zT_f (zT_pi hS83) r_64_4) ?_
                        refine zw_push hm_128 dX11_readPolicy_59 (v := .inl (2 : Int32)) rfl ?_
                        refine zw_ia hm_128 dX11_readPolicy_60 (zT_is (zT_pi hS83) s_66) (zT_h (zT_pi hS83) s_66) rfl ⟨by decide, by decide⟩ ?_
                        show ma_wp X d w 128 61 [(3, .inl (2 : Int32)), (2, .inr (.inr (some 11))), (1, .inl v4), (0, .inr (.inr (some 64)))] [.inl v84] (ma_put S83 66 2 (.inl v84)) _
                        refine zw_push hm_128 dX11_readPolicy_61 (v := .inl (-1 : Int32)) rfl ?_
                        refine zw_if2 hm_128 dX11_readPolicy_62 (t := 67) rfl zc2_ne ?_ ?_
                        · intro hc
                          rw [if_neg hc] at h
                          refine zw_sto hm_128 dX11_readPolicy_67 [(3, .inl (3 : Int32)), (2, .inr (.inr (some 11))), (1, .inl v4), (0, .inr (.inr (some 64)))] rfl rfl rfl ?_
                          refine zw_goto hm_128 dX11_readPolicy_70 (t := 22) rfl ?_
                          refine zw_push hm_128 dX11_readPolicy_22 (v := .inl (3 : Int32)) rfl ?_
                          refine zw_push hm_128 dX11_readPolicy_23 (v := .inr (.inr (some 11))) rfl ?_
                          refine zw_cv hm_128 dX11_readPolicy_24 v_11_288_17 hm_277 [] [.inl (3 : Int32)] rfl rfl ⟨by omega, by omega⟩ rfl (tx_len (v := (3 : Int32)) (by decide) (by omega) (by omega) rfl rfl ?_)
                          show ma_wp X d w 128 27 [(3, .inl (3 : Int32)), (2, .inr (.inr (some 11))), (1, .inl v4), (0, .inr (.inr (some 64)))] [.inl (3 : Int32), .inl (3 : Int32)] (ma_put S83 66 2 (.inl v84)) _
                          refine zw_if2 hm_128 dX11_readPolicy_27 (t := 73) rfl zc2_ge (fun _ => ?_) (fun hc => absurd (by decide) hc)
                          refine zw_push hm_128 dX11_readPolicy_73 (v := .inl v4) rfl ?_
                          refine zw_push hm_128 dX11_readPolicy_74 (v := .inl (-1 : Int32)) rfl ?_
                          refine zw_if2 hm_128 dX11_readPolicy_75 (t := 85) rfl zc2_eq ?_ ?_
                          · intro hc
                            rw [if_pos hc] at h
                            refine zw_push hm_128 dX11_readPolicy_85 (v := .inl (-1 : Int32)) rfl ?_
                            exact zw_iret hm_128 dX11_readPolicy_86 h
                          · intro hc
                            rw [if_neg hc] at h
                            refine zw_push hm_128 dX11_readPolicy_78 (v := .inr (.inr (some 64))) rfl ?_
                            refine zw_cv hm_128 dX11_readPolicy_79 v_11_278_11 hm_129 [] [] rfl (zT_rt (zT_pi hS83) s_64 rfl) ⟨by omega, by omega⟩ rfl (zw_mono h (zi_go ?_ ?_))
                            · intro v86 S85 hv
                              obtain ⟨hS85, h⟩ := hv
                              refine zw_if0 hm_128 dX11_readPolicy_82 (t := 87) rfl zc0_eq ?_ ?_
                              · intro hc
                                rw [if_pos hc] at h
                                refine zw_push hm_128 dX11_readPolicy_87 (v := .inl v4) rfl ?_
                                exact zw_iret hm_128 dX11_readPolicy_88 h
                              · intro hc
                                rw [if_neg hc] at h
                                refine zw_push hm_128 dX11_readPolicy_85 (v := .inl (-1 : Int32)) rfl ?_
                                exact zw_iret hm_128 dX11_readPolicy_86 h
                            · intro x S9 hx
                              exact ⟨by decide, hx⟩
                        · intro hc
                          rw [if_pos (Classical.not_not.mp hc)] at h
                          refine zw_push hm_128 dX11_readPolicy_65 (v := .inl (-1 : Int32)) rfl ?_
                          exact zw_iret hm_128 dX11_readPolicy_66 h
                      · intro x S9 hx
                        exact hx.elim
                    · intro x S9 hx
                      exact ⟨by decide, hx⟩
                  · intro hc
                    rw [if_pos (Classical.not_not.mp hc)] at h
                    refine zw_push hm_128 dX11_readPolicy_65 (v := .inl (-1 : Int32)) rfl ?_
                    exact zw_iret hm_128 dX11_readPolicy_66 h
                · intro x S9 hx
                  exact hx.elim
              · intro x S9 hx
                exact ⟨by decide, hx⟩
            · intro hc
              rw [if_pos (Classical.not_not.mp hc)] at h
              refine zw_push hm_128 dX11_readPolicy_65 (v := .inl (-1 : Int32)) rfl ?_
              exact zw_iret hm_128 dX11_readPolicy_66 h
          · intro x S9 hx
            exact hx.elim
        · intro x S9 hx
          exact ⟨by decide, hx⟩
      rw [if_neg hc6] at h
      refine zw_jmp hm_132 dX11_partsOf_1 (t := 72) (st' := []) rfl rfl rfl (ma_jmp_def (m := 7) (by decide) (fun j hj => by
          have hj2 : j = 0 ∨ j = 1 ∨ j = 2 ∨ j = 3 ∨ j = 4 ∨ j = 5 ∨ j = 6 := by omega
          rcases hj2 with rfl | rfl | rfl | rfl | rfl | rfl | rfl
          · exact hc0
          · exact hc1
          · exact hc2
          · exact hc3
          · exact hc4
          · exact hc5
          · exact hc6
          ) rfl) ?_
      refine zw_txc hm_132 dX11_partsOf_72 txi_11_329 ?_
      refine zw_aret hm_132 dX11_partsOf_75 ?_
      show ma_wp X d w 128 19 [(1, .inl v4), (0, .inr (.inr (some 64)))] [.inr (.inr (some 12))] S3 _
      refine zw_sto hm_128 dX11_readPolicy_19 [(2, .inr (.inr (some 12))), (1, .inl v4), (0, .inr (.inr (some 64)))] rfl rfl rfl ?_
      refine zw_push hm_128 dX11_readPolicy_20 (v := .inl (0 : Int32)) rfl ?_
      refine zw_sto hm_128 dX11_readPolicy_21 [(3, .inl (0 : Int32)), (2, .inr (.inr (some 12))), (1, .inl v4), (0, .inr (.inr (some 64)))] rfl rfl rfl ?_
      refine zw_push hm_128 dX11_readPolicy_22 (v := .inl (0 : Int32)) rfl ?_
      refine zw_push hm_128 dX11_readPolicy_23 (v := .inr (.inr (some 12))) rfl ?_
      refine zw_cv hm_128 dX11_readPolicy_24 v_11_288_17 hm_277 [] [.inl (0 : Int32)] rfl rfl ⟨by omega, by omega⟩ rfl (tx_len (v := (0 : Int32)) (by decide) (by omega) (by omega) rfl rfl ?_)
      show ma_wp X d w 128 27 [(3, .inl (0 : Int32)), (2, .inr (.inr (some 12))), (1, .inl v4), (0, .inr (.inr (some 64)))] [.inl (0 : Int32), .inl (0 : Int32)] S3 _
      refine zw_if2 hm_128 dX11_readPolicy_27 (t := 73) rfl zc2_ge (fun _ => ?_) (fun hc => absurd (by decide) hc)
      refine zw_push hm_128 dX11_readPolicy_73 (v := .inl v4) rfl ?_
      refine zw_push hm_128 dX11_readPolicy_74 (v := .inl (-1 : Int32)) rfl ?_
      refine zw_if2 hm_128 dX11_readPolicy_75 (t := 85) rfl zc2_eq ?_ ?_
      · intro hc
        rw [if_pos hc] at h
        refine zw_push hm_128 dX11_readPolicy_85 (v := .inl (-1 : Int32)) rfl ?_
        exact zw_iret hm_128 dX11_readPolicy_86 h
      · intro hc
        rw [if_neg hc] at h
        refine zw_push hm_128 dX11_readPolicy_78 (v := .inr (.inr (some 64))) rfl ?_
        refine zw_cv hm_128 dX11_readPolicy_79 v_11_278_11 hm_129 [] [] rfl (zT_rt hS3 s_64 rfl) ⟨by omega, by omega⟩ rfl (zw_mono h (zi_go ?_ ?_))
        · intro v88 S87 hv
          obtain ⟨hS87, h⟩ := hv
          refine zw_if0 hm_128 dX11_readPolicy_82 (t := 87) rfl zc0_eq ?_ ?_
          · intro hc
            rw [if_pos hc] at h
            refine zw_push hm_128 dX11_readPolicy_87 (v := .inl v4) rfl ?_
            exact zw_iret hm_128 dX11_readPolicy_88 h
          · intro hc
            rw [if_neg hc] at h
            refine zw_push hm_128 dX11_readPolicy_85 (v := .inl (-1 : Int32)) rfl ?_
            exact zw_iret hm_128 dX11_readPolicy_86 h
        · intro x S9 hx
          exact ⟨by decide, hx⟩
    · intro x S9 hx
      exact ⟨by decide, hx⟩
  · intro x S9 hx
    exact ⟨by decide, hx⟩
theorem sp_128_64_n {X : Nat × (Nat → Int32)} {d w : Nat} {f : Nat → Nat → Int32} {r : Nat → Nat → Option Nat} {C Z N : Nat} {Q : Option ma_V ⊕ Nat → ma_S → Prop} {S : ma_S}  (hd : 8 ≤ d) (hw : 163 ≤ w) (hI : zR f r C Z N S)  (K : ∀ v S', zR f r C Z N S' → (v.toInt = -1 ∨ (0 ≤ v.toInt ∧ v.toInt ≤ 6 ∧ 0 ≤ (mI S' 66 0).toInt ∧ (v.toInt = 3 → 0 ≤ (mI S' 66 1).toInt) ∧ (v.toInt = 6 → 16 ≤ (mI S' 66 1).toInt))) → ((v.toInt = -1 ∧ -1 - (mI S' 64 2).toInt = zAns (f 65) (f 64 1).toInt) ∨ (v.toInt ≠ -1 ∧ zFin v.toInt (mI S' 66 0).toInt (mI S' 66 1).toInt = zAns (f 65) (f 64 1).toInt)) → Q (.inl (some (.inl v))) S') : ma_wp X d w 128 0 [(0, .inr (.inr (some 64)))] [] S Q := by
  refine g_128_64_n_0  (by omega) (by omega) (zG_T hI) ?_
  have li2 : (0 : Int32).toInt = 0 := rfl
  have hI1 : zR f r C Z N (ma_put S 64 3 (.inl (0 : Int32))) := zG_sp hI (0) (100) rfl (by decide) (by decide) (by decide) trivial (by omega) (by omega)
  refine sp_129_64_n (p0 := ((0 : Int32).toInt)) (by omega) (by omega) (zR_dn_zY hI1) (show (0 : Int32).toInt = ((0 : Int32).toInt) from by omega) (fun v2 S1 hL_S1 hp_v2 rp0_S1 rp1_S1 rp2_S1 rp3_S1 => zi_n ⟨zG_T hL_S1, ?_⟩)
  have hI_S1 := zR_up_zY hI1 hL_S1
  have f3 := zG_s hI_S1 (0) (100) (c := 64) (k := 2) (by decide)
  have rp0_S1 : (mI S1 64 2).toInt = tk true (f 65) (f 64 1).toInt ((0 : Int32).toInt) := by
    have z := rp0_S1
    (try rw [show mI (ma_put S 64 3 (.inl (0 : Int32))) 65 = f 65 from funext (fun k => zG_z hI1 rfl)] at z)
    (try rw [show mI (ma_put S 64 3 (.inl (0 : Int32))) 64 1 = f 64 1 from zG_z hI1 rfl] at z)
    exact z
  have f4 := zG_s hI_S1 (0) (100) (c := 64) (k := 3) (by decide)
  have rp1_S1 : (mI S1 64 3).toInt = tk false (f 65) (f 64 1).toInt (mI S1 64 2).toInt := by
    have z := rp1_S1
    (try rw [show mI (ma_put S 64 3 (.inl (0 : Int32))) 65 = f 65 from funext (fun k => zG_z hI1 rfl)] at z)
    (try rw [show mI (ma_put S 64 3 (.inl (0 : Int32))) 64 1 = f 64 1 from zG_z hI1 rfl] at z)
    exact z
  have rp2_S1 : (v2.toInt = 1 ∧ (mI S1 64 2).toInt < (mI S1 64 3).toInt) ∨ (v2.toInt = 0 ∧ (mI S1 64 3).toInt ≤ (mI S1 64 2).toInt) := by
    have z := rp2_S1
    (try rw [show mI (ma_put S 64 3 (.inl (0 : Int32))) 65 = f 65 from funext (fun k => zG_z hI1 rfl)] at z)
    (try rw [show mI (ma_put S 64 3 (.inl (0 : Int32))) 64 1 = f 64 1 from zG_z hI1 rfl] at z)
    exact z
  have rp3_S1 : (mI S1 64 2).toInt ≤ (mI S1 64 3).toInt := by
    have z := rp3_S1
    (try rw [show mI (ma_put S 64 3 (.inl (0 : Int32))) 65 = f 65 from funext (fun k => zG_z hI1 rfl)] at z)
    (try rw [show mI (ma_put S 64 3 (.inl (0 : Int32))) 64 1 = f 64 1 from zG_z hI1 rfl] at z)
    exact z
  refine sp_130_64_n  (by omega) (by omega) (zR_dn_zY0 hI_S1)  (fun v4 S3 hL_S3 hp_v4 rp0_S3 => zi_n ⟨zG_T hL_S3, ?_⟩)
  have hI_S3 := zR_up_zY0 hI_S1 hL_S3
  have rp0_S3 : v4.toInt = zPol (f 65) (mI S1 64 2) ((mI S1 64 3).toInt - (mI S1 64 2).toInt) := by
    have z := rp0_S3
    (try rw [show mI S1 65 = f 65 from funext (fun k => zG_z hI_S1 rfl)] at z)
    (try rw [show mI S1 64 1 = f 64 1 from zG_z hI_S1 rfl] at z)
    exact z
  have b5 := i_bd v4
  refine zd (fun h6 => ?_) (fun h6 => ?_)
  · skip
    have g7 := i_eq h6
    have q8 : (mI S3 64 3).toInt = (mI S1 64 3).toInt := zG_zi (f := mI S1) hL_S3 rfl
    have f9 := zG_s hI_S3 (0) (100) (c := 64) (k := 3) (by decide)
    refine sp_129_64_n (p0 := ((mI S3 64 3).toInt)) (by omega) (by omega) (zR_dn_zY hI_S3) (show (mI S3 64 3).toInt = ((mI S3 64 3).toInt) from by omega) (fun v6 S5 hL_S5 hp_v6 rp0_S5 rp1_S5 rp2_S5 rp3_S5 => zi_n ⟨zG_T hL_S5, ?_⟩)
    have hI_S5 := zR_up_zY hI_S3 hL_S5
    have f10 := zG_s hI_S5 (0) (100) (c := 64) (k := 2) (by decide)
    have rp0_S5 : (mI S5 64 2).toInt = tk true (f 65) (f 64 1).toInt ((mI S3 64 3).toInt) := by
      have z := rp0_S5
      (try rw [show mI S3 65 = f 65 from funext (fun k => zG_z hI_S3 rfl)] at z)
      (try rw [show mI S3 64 1 = f 64 1 from zG_z hI_S3 rfl] at z)
      exact z
    have f11 := zG_s hI_S5 (0) (100) (c := 64) (k := 3) (by decide)
    have rp1_S5 : (mI S5 64 3).toInt = tk false (f 65) (f 64 1).toInt (mI S5 64 2).toInt := by
      have z := rp1_S5
      (try rw [show mI S3 65 = f 65 from funext (fun k => zG_z hI_S3 rfl)] at z)
      (try rw [show mI S3 64 1 = f 64 1 from zG_z hI_S3 rfl] at z)
      exact z
    have rp2_S5 : (v6.toInt = 1 ∧ (mI S5 64 2).toInt < (mI S5 64 3).toInt) ∨ (v6.toInt = 0 ∧ (mI S5 64 3).toInt ≤ (mI S5 64 2).toInt) := by
      have z := rp2_S5
      (try rw [show mI S3 65 = f 65 from funext (fun k => zG_z hI_S3 rfl)] at z)
      (try rw [show mI S3 64 1 = f 64 1 from zG_z hI_S3 rfl] at z)
      exact z
    have rp3_S5 : (mI S5 64 2).toInt ≤ (mI S5 64 3).toInt := by
      have z := rp3_S5
      (try rw [show mI S3 65 = f 65 from funext (fun k => zG_z hI_S3 rfl)] at z)
      (try rw [show mI S3 64 1 = f 64 1 from zG_z hI_S3 rfl] at z)
      exact z
    have li12 : (16 : Int32).toInt = 16 := rfl
    have li13 : (1500 : Int32).toInt = 1500 := rfl
    refine sp_134_64_n ((16 : Int32)) ((1500 : Int32)) (by omega) (by omega) (zR_dn_zY0 hI_S5) (show (mI S5 64 2).toInt ≤ (mI S5 64 3).toInt from by omega) (fun v8 S7 hL_S7 hp_v8 rp0_S7 => zi_n ⟨zG_T hL_S7, ?_⟩)
    have hI_S7 := zR_up_zY0 hI_S5 hL_S7
    have rp0_S7 : v8.toInt = zNum (f 65) (mI S5 64 2).toInt (mI S5 64 3).toInt (16 : Int32).toInt (1500 : Int32).toInt := by
      have z := rp0_S7
      (try rw [show mI S5 65 = f 65 from funext (fun k => zG_z hI_S5 rfl)] at z)
      (try rw [show mI S5 64 1 = f 64 1 from zG_z hI_S5 rfl] at z)
      exact z
    have b14 := i_bd v8
    have li15 : (-1 : Int32).toInt = -1 := rfl
    refine zd (fun h16 => ?_) (fun h16 => ?_)
    · skip
      have g17 := i_eq h16
      have hI18 : zR f r C Z N (ma_put S7 66 0 (.inl v8)) := zG_sa hI_S7 (-1) (1500) rfl (by decide) (by decide) (by decide) trivial (by omega) (by omega)
      have f19 := zG_a hI 4 (-1) (1500) (c := 66) (k := 1) (by decide) (by decide)
      have q20 : (mI S1 66 1).toInt = (mI S 66 1).toInt := zG_zi (f := mI (ma_put S 64 3 (.inl (0 : Int32)))) hL_S1 rfl
      have f21 := zG_a hI_S1 4 (-1) (1500) (c := 66) (k := 1) (by decide) (by decide)
      have q22 : (mI S3 66 1).toInt = (mI S1 66 1).toInt := zG_zi (f := mI S1) hL_S3 rfl
      have f23 := zG_a hI_S3 4 (-1) (1500) (c := 66) (k := 1) (by decide) (by decide)
      have q24 : (mI S5 66 1).toInt = (mI S3 66 1).toInt := zG_zi (f := mI S3) hL_S5 rfl
      have f25 := zG_a hI_S5 4 (-1) (1500) (c := 66) (k := 1) (by decide) (by decide)
      have q26 : (mI S7 66 1).toInt = (mI S5 66 1).toInt := zG_zi (f := mI S5) hL_S7 rfl
      have f27 := zG_a hI_S7 4 (-1) (1500) (c := 66) (k := 1) (by decide) (by decide)
      have q28 : (mI S7 64 2).toInt = (mI S5 64 2).toInt := zG_zi (f := mI S5) hL_S7 rfl
      have f29 := zG_s hI_S7 (0) (100) (c := 64) (k := 2) (by decide)
      exact K ((-1 : Int32)) _ hI18 (show (-1 : Int32).toInt = -1 ∨ (0 ≤ (-1 : Int32).toInt ∧ (-1 : Int32).toInt ≤ 6 ∧ 0 ≤ v8.toInt ∧ ((-1 : Int32).toInt = 3 → 0 ≤ (mI S7 66 1).toInt) ∧ ((-1 : Int32).toInt = 6 → 16 ≤ (mI S7 66 1).toInt)) from by omega) (show ((-1 : Int32).toInt = -1 ∧ -1 - (mI S7 64 2).toInt = zAns (f 65) (f 64 1).toInt) ∨ ((-1 : Int32).toInt ≠ -1 ∧ zFin (-1 : Int32).toInt v8.toInt (mI S7 66 1).toInt = zAns (f 65) (f 64 1).toInt) from by first | (have qk : v4.toInt = 0 := (by omega); have q := zAns_go (s := (mI S1 64 2)) (e := (mI S1 64 3).toInt) (k := v4.toInt) rp0_S1 rp1_S1 rp0_S3 (by omega); rw [show zPts v4.toInt = [0, 6] from by rw [qk]; rfl] at q; have q2 := q.trans (zRun_badp (s := (mI S5 64 2)) (e := (mI S5 64 3).toInt) (x := v8.toInt) (p := (mI S1 64 3).toInt) rp0_S5 (by omega) rp1_S5 (show v8.toInt = zNum (f 65) (mI S5 64 2).toInt (mI S5 64 3).toInt 16 1500 from rp0_S7) (by omega)); exact Or.inl ⟨rfl, by omega⟩) | (omega) | (exfalso; omega))
    · skip
      have g30 := i_ne h16
      have hI31 : zR f r C Z N (ma_put S7 66 0 (.inl v8)) := zG_sa hI_S7 (-1) (1500) rfl (by decide) (by decide) (by decide) trivial (by omega) (by omega)
      have q32 : (mI S7 64 3).toInt = (mI S5 64 3).toInt := zG_zi (f := mI S5) hL_S7 rfl
      have f33 := zG_s hI_S7 (0) (100) (c := 64) (k := 3) (by decide)
      refine sp_129_64_n (p0 := ((mI S7 64 3).toInt)) (by omega) (by omega) (zR_dn_zY hI31) (show (mI S7 64 3).toInt = ((mI S7 64 3).toInt) from by omega) (fun v10 S9 hL_S9 hp_v10 rp0_S9 rp1_S9 rp2_S9 rp3_S9 => zi_n ⟨zG_T hL_S9, ?_⟩)
      have hI_S9 := zR_up_zY hI31 hL_S9
      have f34 := zG_s hI_S9 (0) (100) (c := 64) (k := 2) (by decide)
      have rp0_S9 : (mI S9 64 2).toInt = tk true (f 65) (f 64 1).toInt ((mI S7 64 3).toInt) := by
        have z := rp0_S9
        (try rw [show mI (ma_put S7 66 0 (.inl v8)) 65 = f 65 from funext (fun k => zG_z hI31 rfl)] at z)
        (try rw [show mI (ma_put S7 66 0 (.inl v8)) 64 1 = f 64 1 from zG_z hI31 rfl] at z)
        exact z
      have f35 := zG_s hI_S9 (0) (100) (c := 64) (k := 3) (by decide)
      have rp1_S9 : (mI S9 64 3).toInt = tk false (f 65) (f 64 1).toInt (mI S9 64 2).toInt := by
        have z := rp1_S9
        (try rw [show mI (ma_put S7 66 0 (.inl v8)) 65 = f 65 from funext (fun k => zG_z hI31 rfl)] at z)
        (try rw [show mI (ma_put S7 66 0 (.inl v8)) 64 1 = f 64 1 from zG_z hI31 rfl] at z)
        exact z
      have rp2_S9 : (v10.toInt = 1 ∧ (mI S9 64 2).toInt < (mI S9 64 3).toInt) ∨ (v10.toInt = 0 ∧ (mI S9 64 3).toInt ≤ (mI S9 64 2).toInt) := by
        have z := rp2_S9
        (try rw [show mI (ma_put S7 66 0 (.inl v8)) 65 = f 65 from funext (fun k => zG_z hI31 rfl)] at z)
        (try rw [show mI (ma_put S7 66 0 (.inl v8)) 64 1 = f 64 1 from zG_z hI31 rfl] at z)
        exact z
      have rp3_S9 : (mI S9 64 2).toInt ≤ (mI S9 64 3).toInt := by
        have z := rp3_S9
        (try rw [show mI (ma_put S7 66 0 (.inl v8)) 65 = f 65 from funext (fun k => zG_z hI31 rfl)] at z)
        (try rw [show mI (ma_put S7 66 0 (.inl v8)) 64 1 = f 64 1 from zG_z hI31 rfl] at z)
        exact z
      refine sp_135_64_n  (by omega) (by omega) (zR_dn_zY0 hI_S9)  (fun v12 S11 hL_S11 hp_v12 rp0_S11 => zi_n ⟨zG_T hL_S11, ?_⟩)
      have hI_S11 := zR_up_zY0 hI_S9 hL_S11
      have rp0_S11 : v12.toInt = zForm (f 65) (mI S9 64 2) ((mI S9 64 3).toInt - (mI S9 64 2).toInt) := by
        have z := rp0_S11
        (try rw [show mI S9 65 = f 65 from funext (fun k => zG_z hI_S9 rfl)] at z)
        (try rw [show mI S9 64 1 = f 64 1 from zG_z hI_S9 rfl] at z)
        exact z
      have b36 := i_bd v12
      refine zd (fun h37 => ?_) (fun h37 => ?_)
      · skip
        have g38 := i_eq h37
        have hI39 : zR f r C Z N (ma_put S11 66 1 (.inl v12)) := zG_sa hI_S11 (-1) (1500) rfl (by decide) (by decide) (by decide) trivial (by omega) (by omega)
        have q40 : (mI S9 66 0).toInt = v8.toInt := zG_zi (f := mI (ma_put S7 66 0 (.inl v8))) hL_S9 rfl
        have f41 := zG_a hI_S9 4 (-1) (1500) (c := 66) (k := 0) (by decide) (by decide)
        have q42 : (mI S11 66 0).toInt = (mI S9 66 0).toInt := zG_zi (f := mI S9) hL_S11 rfl
        have f43 := zG_a hI_S11 4 (-1) (1500) (c := 66) (k := 0) (by decide) (by decide)
        have q44 : (mI S11 64 2).toInt = (mI S9 64 2).toInt := zG_zi (f := mI S9) hL_S11 rfl
        have f45 := zG_s hI_S11 (0) (100) (c := 64) (k := 2) (by decide)
        exact K ((-1 : Int32)) _ hI39 (show (-1 : Int32).toInt = -1 ∨ (0 ≤ (-1 : Int32).toInt ∧ (-1 : Int32).toInt ≤ 6 ∧ 0 ≤ (mI S11 66 0).toInt ∧ ((-1 : Int32).toInt = 3 → 0 ≤ v12.toInt) ∧ ((-1 : Int32).toInt = 6 → 16 ≤ v12.toInt)) from by omega) (show ((-1 : Int32).toInt = -1 ∧ -1 - (mI S11 64 2).toInt = zAns (f 65) (f 64 1).toInt) ∨ ((-1 : Int32).toInt ≠ -1 ∧ zFin (-1 : Int32).toInt (mI S11 66 0).toInt v12.toInt = zAns (f 65) (f 64 1).toInt) from by first | (have qk : v4.toInt = 0 := (by omega); have q := zAns_go (s := (mI S1 64 2)) (e := (mI S1 64 3).toInt) (k := v4.toInt) rp0_S1 rp1_S1 rp0_S3 (by omega); rw [show zPts v4.toInt = [0, 6] from by rw [qk]; rfl] at q; replace q := q.trans (zRun_ok0 (s := (mI S5 64 2)) (e := (mI S5 64 3).toInt) (x := v8.toInt) (p := (mI S1 64 3).toInt) rp0_S5 (by omega) rp1_S5 (show v8.toInt = zNum (f 65) (mI S5 64 2).toInt (mI S5 64 3).toInt 16 1500 from rp0_S7) (by omega)); have q2 := q.trans (zRun_badp (s := (mI S9 64 2)) (e := (mI S9 64 3).toInt) (x := v12.toInt) (p := (mI S5 64 3).toInt) rp0_S9 (by omega) rp1_S9 (zPart_f rp0_S11) (by omega)); exact Or.inl ⟨rfl, by omega⟩) | (omega) | (exfalso; omega))
      · skip
        have g46 := i_ne h37
        refine zd (fun h47 => ?_) (fun h47 => ?_)
        · skip
          have g48 := i_eq h47
          have hI49 : zR f r C Z N (ma_put S11 66 1 (.inl v12)) := zG_sa hI_S11 (-1) (1500) rfl (by decide) (by decide) (by decide) trivial (by omega) (by omega)
          have q50 : (mI S9 66 0).toInt = v8.toInt := zG_zi (f := mI (ma_put S7 66 0 (.inl v8))) hL_S9 rfl
          have f51 := zG_a hI_S9 4 (-1) (1500) (c := 66) (k := 0) (by decide) (by decide)
          have q52 : (mI S11 66 0).toInt = (mI S9 66 0).toInt := zG_zi (f := mI S9) hL_S11 rfl
          have f53 := zG_a hI_S11 4 (-1) (1500) (c := 66) (k := 0) (by decide) (by decide)
          have q54 : (mI S11 64 2).toInt = (mI S9 64 2).toInt := zG_zi (f := mI S9) hL_S11 rfl
          have f55 := zG_s hI_S11 (0) (100) (c := 64) (k := 2) (by decide)
          exact K ((-1 : Int32)) _ hI49 (show (-1 : Int32).toInt = -1 ∨ (0 ≤ (-1 : Int32).toInt ∧ (-1 : Int32).toInt ≤ 6 ∧ 0 ≤ (mI S11 66 0).toInt ∧ ((-1 : Int32).toInt = 3 → 0 ≤ v12.toInt) ∧ ((-1 : Int32).toInt = 6 → 16 ≤ v12.toInt)) from by omega) (show ((-1 : Int32).toInt = -1 ∧ -1 - (mI S11 64 2).toInt = zAns (f 65) (f 64 1).toInt) ∨ ((-1 : Int32).toInt ≠ -1 ∧ zFin (-1 : Int32).toInt (mI S11 66 0).toInt v12.toInt = zAns (f 65) (f 64 1).toInt) from by first | (have qk : v4.toInt = 0 := (by omega); have q := zAns_go (s := (mI S1 64 2)) (e := (mI S1 64 3).toInt) (k := v4.toInt) rp0_S1 rp1_S1 rp0_S3 (by omega); rw [show zPts v4.toInt = [0, 6] from by rw [qk]; rfl] at q; replace q := q.trans (zRun_ok0 (s := (mI S5 64 2)) (e := (mI S5 64 3).toInt) (x := v8.toInt) (p := (mI S1 64 3).toInt) rp0_S5 (by omega) rp1_S5 (show v8.toInt = zNum (f 65) (mI S5 64 2).toInt (mI S5 64 3).toInt 16 1500 from rp0_S7) (by omega)); have q2 := q.trans (zRun_badp (s := (mI S9 64 2)) (e := (mI S9 64 3).toInt) (x := v12.toInt) (p := (mI S5 64 3).toInt) rp0_S9 (by omega) rp1_S9 (zPart_f rp0_S11) (by omega)); exact Or.inl ⟨rfl, by omega⟩) | (omega) | (exfalso; omega))
        · skip
          have g56 := i_ne h47
          have hI57 : zR f r C Z N (ma_put S11 66 1 (.inl v12)) := zG_sa hI_S11 (-1) (1500) rfl (by decide) (by decide) (by decide) trivial (by omega) (by omega)
          have q58 : (mI S11 64 3).toInt = (mI S9 64 3).toInt := zG_zi (f := mI S9) hL_S11 rfl
          have f59 := zG_s hI_S11 (0) (100) (c := 64) (k := 3) (by decide)
          refine sp_129_64_n (p0 := ((mI S11 64 3).toInt)) (by omega) (by omega) (zR_dn_zY hI57) (show (mI S11 64 3).toInt = ((mI S11 64 3).toInt) from by omega) (fun v14 S13 hL_S13 hp_v14 rp0_S13 rp1_S13 rp2_S13 rp3_S13 => zi_n ⟨zG_T hL_S13, ?_⟩)
          have hI_S13 := zR_up_zY hI57 hL_S13
          have f60 := zG_s hI_S13 (0) (100) (c := 64) (k := 2) (by decide)
          have rp0_S13 : (mI S13 64 2).toInt = tk true (f 65) (f 64 1).toInt ((mI S11 64 3).toInt) := by
            have z := rp0_S13
            (try rw [show mI (ma_put S11 66 1 (.inl v12)) 65 = f 65 from funext (fun k => zG_z hI57 rfl)] at z)
            (try rw [show mI (ma_put S11 66 1 (.inl v12)) 64 1 = f 64 1 from zG_z hI57 rfl] at z)
            exact z
          have f61 := zG_s hI_S13 (0) (100) (c := 64) (k := 3) (by decide)
          have rp1_S13 : (mI S13 64 3).toInt = tk false (f 65) (f 64 1).toInt (mI S13 64 2).toInt := by
            have z := rp1_S13
            (try rw [show mI (ma_put S11 66 1 (.inl v12)) 65 = f 65 from funext (fun k => zG_z hI57 rfl)] at z)
            (try rw [show mI (ma_put S11 66 1 (.inl v12)) 64 1 = f 64 1 from zG_z hI57 rfl] at z)
            exact z
          have rp2_S13 : (v14.toInt = 1 ∧ (mI S13 64 2).toInt < (mI S13 64 3).toInt) ∨ (v14.toInt = 0 ∧ (mI S13 64 3).toInt ≤ (mI S13 64 2).toInt) := by
            have z := rp2_S13
            (try rw [show mI (ma_put S11 66 1 (.inl v12)) 65 = f 65 from funext (fun k => zG_z hI57 rfl)] at z)
            (try rw [show mI (ma_put S11 66 1 (.inl v12)) 64 1 = f 64 1 from zG_z hI57 rfl] at z)
            exact z
          have rp3_S13 : (mI S13 64 2).toInt ≤ (mI S13 64 3).toInt := by
            have z := rp3_S13
            (try rw [show mI (ma_put S11 66 1 (.inl v12)) 65 = f 65 from funext (fun k => zG_z hI57 rfl)] at z)
            (try rw [show mI (ma_put S11 66 1 (.inl v12)) 64 1 = f 64 1 from zG_z hI57 rfl] at z)
            exact z
          have b62 := i_bd v14
          refine zd (fun h63 => ?_) (fun h63 => ?_)
          · skip
            have g64 := i_eq h63
            have q65 : (mI S9 66 0).toInt = v8.toInt := zG_zi (f := mI (ma_put S7 66 0 (.inl v8))) hL_S9 rfl
            have f66 := zG_a hI_S9 4 (-1) (1500) (c := 66) (k := 0) (by decide) (by decide)
            have q67 : (mI S11 66 0).toInt = (mI S9 66 0).toInt := zG_zi (f := mI S9) hL_S11 rfl
            have f68 := zG_a hI_S11 4 (-1) (1500) (c := 66) (k := 0) (by decide) (by decide)
            have q69 : (mI S13 66 0).toInt = (mI S11 66 0).toInt := zG_zi (f := mI (ma_put S11 66 1 (.inl v12))) hL_S13 rfl
            have f70 := zG_a hI_S13 4 (-1) (1500) (c := 66) (k := 0) (by decide) (by decide)
            have q71 : (mI S13 66 1).toInt = v12.toInt := zG_zi (f := mI (ma_put S11 66 1 (.inl v12))) hL_S13 rfl
            have f72 := zG_a hI_S13 4 (-1) (1500) (c := 66) (k := 1) (by decide) (by decide)
            exact K (v4) _ hI_S13 (show v4.toInt = -1 ∨ (0 ≤ v4.toInt ∧ v4.toInt ≤ 6 ∧ 0 ≤ (mI S13 66 0).toInt ∧ (v4.toInt = 3 → 0 ≤ (mI S13 66 1).toInt) ∧ (v4.toInt = 6 → 16 ≤ (mI S13 66 1).toInt)) from by omega) (show (v4.toInt = -1 ∧ -1 - (mI S13 64 2).toInt = zAns (f 65) (f 64 1).toInt) ∨ (v4.toInt ≠ -1 ∧ zFin v4.toInt (mI S13 66 0).toInt (mI S13 66 1).toInt = zAns (f 65) (f 64 1).toInt) from by first | (have qk : v4.toInt = 0 := (by omega); have q := zAns_go (s := (mI S1 64 2)) (e := (mI S1 64 3).toInt) (k := v4.toInt) rp0_S1 rp1_S1 rp0_S3 (by omega); rw [show zPts v4.toInt = [0, 6] from by rw [qk]; rfl] at q; replace q := q.trans (zRun_ok0 (s := (mI S5 64 2)) (e := (mI S5 64 3).toInt) (x := v8.toInt) (p := (mI S1 64 3).toInt) rp0_S5 (by omega) rp1_S5 (show v8.toInt = zNum (f 65) (mI S5 64 2).toInt (mI S5 64 3).toInt 16 1500 from rp0_S7) (by omega)); replace q := q.trans (zRun_okn (s := (mI S9 64 2)) (e := (mI S9 64 3).toInt) (x := v12.toInt) (p := (mI S5 64 3).toInt) rp0_S9 (by omega) rp1_S9 (zPart_f rp0_S11) (by omega) (by omega)); have q2 := q.trans (zEnd_okp (s := (mI S13 64 2)) (e := (mI S13 64 3).toInt) (p := (mI S9 64 3).toInt) rp0_S13 (by omega) rp1_S13 (by omega)); exact Or.inr ⟨by omega, (zFin_eq (by omega) (by omega)).trans q2.symm⟩) | (omega) | (exfalso; omega))
          · skip
            have g73 := i_ne h63
            have q74 : (mI S9 66 0).toInt = v8.toInt := zG_zi (f := mI (ma_put S7 66 0 (.inl v8))) hL_S9 rfl
            have f75 := zG_a hI_S9 4 (-1) (1500) (c := 66) (k := 0) (by decide) (by decide)
            have q76 : (mI S11 66 0).toInt = (mI S9 66 0).toInt := zG_zi (f := mI S9) hL_S11 rfl
            have f77 := zG_a hI_S11 4 (-1) (1500) (c := 66) (k := 0) (by decide) (by decide)
            have q78 : (mI S13 66 0).toInt = (mI S11 66 0).toInt := zG_zi (f := mI (ma_put S11 66 1 (.inl v12))) hL_S13 rfl
            have f79 := zG_a hI_S13 4 (-1) (1500) (c := 66) (k := 0) (by decide) (by decide)
            have q80 : (mI S13 66 1).toInt = v12.toInt := zG_zi (f := mI (ma_put S11 66 1 (.inl v12))) hL_S13 rfl
            have f81 := zG_a hI_S13 4 (-1) (1500) (c := 66) (k := 1) (by decide) (by decide)
            exact K ((-1 : Int32)) _ hI_S13 (show (-1 : Int32).toInt = -1 ∨ (0 ≤ (-1 : Int32).toInt ∧ (-1 : Int32).toInt ≤ 6 ∧ 0 ≤ (mI S13 66 0).toInt ∧ ((-1 : Int32).toInt = 3 → 0 ≤ (mI S13 66 1).toInt) ∧ ((-1 : Int32).toInt = 6 → 16 ≤ (mI S13 66 1).toInt)) from by omega) (show ((-1 : Int32).toInt = -1 ∧ -1 - (mI S13 64 2).toInt = zAns (f 65) (f 64 1).toInt) ∨ ((-1 : Int32).toInt ≠ -1 ∧ zFin (-1 : Int32).toInt (mI S13 66 0).toInt (mI S13 66 1).toInt = zAns (f 65) (f 64 1).toInt) from by first | (have qk : v4.toInt = 0 := (by omega); have q := zAns_go (s := (mI S1 64 2)) (e := (mI S1 64 3).toInt) (k := v4.toInt) rp0_S1 rp1_S1 rp0_S3 (by omega); rw [show zPts v4.toInt = [0, 6] from by rw [qk]; rfl] at q; replace q := q.trans (zRun_ok0 (s := (mI S5 64 2)) (e := (mI S5 64 3).toInt) (x := v8.toInt) (p := (mI S1 64 3).toInt) rp0_S5 (by omega) rp1_S5 (show v8.toInt = zNum (f 65) (mI S5 64 2).toInt (mI S5 64 3).toInt 16 1500 from rp0_S7) (by omega)); replace q := q.trans (zRun_okn (s := (mI S9 64 2)) (e := (mI S9 64 3).toInt) (x := v12.toInt) (p := (mI S5 64 3).toInt) rp0_S9 (by omega) rp1_S9 (zPart_f rp0_S11) (by omega) (by omega)); have q2 := q.trans (zEnd_badp (s := (mI S13 64 2)) (e := (mI S13 64 3).toInt) (p := (mI S9 64 3).toInt) rp0_S13 (by omega) rp1_S13 (by omega)); exact Or.inl ⟨rfl, by omega⟩) | (omega) | (exfalso; omega))
  · skip
    have g82 := i_ne h6
    have li83 : (1 : Int32).toInt = 1 := rfl
    refine zd (fun h84 => ?_) (fun h84 => ?_)
    · skip
      have g85 := i_eq h84
      have q86 : (mI S3 64 3).toInt = (mI S1 64 3).toInt := zG_zi (f := mI S1) hL_S3 rfl
      have f87 := zG_s hI_S3 (0) (100) (c := 64) (k := 3) (by decide)
      refine sp_129_64_n (p0 := ((mI S3 64 3).toInt)) (by omega) (by omega) (zR_dn_zY hI_S3) (show (mI S3 64 3).toInt = ((mI S3 64 3).toInt) from by omega) (fun v16 S15 hL_S15 hp_v16 rp0_S15 rp1_S15 rp2_S15 rp3_S15 => zi_n ⟨zG_T hL_S15, ?_⟩)
      have hI_S15 := zR_up_zY hI_S3 hL_S15
      have f88 := zG_s hI_S15 (0) (100) (c := 64) (k := 2) (by decide)
      have rp0_S15 : (mI S15 64 2).toInt = tk true (f 65) (f 64 1).toInt ((mI S3 64 3).toInt) := by
        have z := rp0_S15
        (try rw [show mI S3 65 = f 65 from funext (fun k => zG_z hI_S3 rfl)] at z)
        (try rw [show mI S3 64 1 = f 64 1 from zG_z hI_S3 rfl] at z)
        exact z
      have f89 := zG_s hI_S15 (0) (100) (c := 64) (k := 3) (by decide)
      have rp1_S15 : (mI S15 64 3).toInt = tk false (f 65) (f 64 1).toInt (mI S15 64 2).toInt := by
        have z := rp1_S15
        (try rw [show mI S3 65 = f 65 from funext (fun k => zG_z hI_S3 rfl)] at z)
        (try rw [show mI S3 64 1 = f 64 1 from zG_z hI_S3 rfl] at z)
        exact z
      have rp2_S15 : (v16.toInt = 1 ∧ (mI S15 64 2).toInt < (mI S15 64 3).toInt) ∨ (v16.toInt = 0 ∧ (mI S15 64 3).toInt ≤ (mI S15 64 2).toInt) := by
        have z := rp2_S15
        (try rw [show mI S3 65 = f 65 from funext (fun k => zG_z hI_S3 rfl)] at z)
        (try rw [show mI S3 64 1 = f 64 1 from zG_z hI_S3 rfl] at z)
        exact z
      have rp3_S15 : (mI S15 64 2).toInt ≤ (mI S15 64 3).toInt := by
        have z := rp3_S15
        (try rw [show mI S3 65 = f 65 from funext (fun k => zG_z hI_S3 rfl)] at z)
        (try rw [show mI S3 64 1 = f 64 1 from zG_z hI_S3 rfl] at z)
        exact z
      have li90 : (16 : Int32).toInt = 16 := rfl
      have li91 : (1500 : Int32).toInt = 1500 := rfl
      refine sp_134_64_n ((16 : Int32)) ((1500 : Int32)) (by omega) (by omega) (zR_dn_zY0 hI_S15) (show (mI S15 64 2).toInt ≤ (mI S15 64 3).toInt from by omega) (fun v18 S17 hL_S17 hp_v18 rp0_S17 => zi_n ⟨zG_T hL_S17, ?_⟩)
      have hI_S17 := zR_up_zY0 hI_S15 hL_S17
      have rp0_S17 : v18.toInt = zNum (f 65) (mI S15 64 2).toInt (mI S15 64 3).toInt (16 : Int32).toInt (1500 : Int32).toInt := by
        have z := rp0_S17
        (try rw [show mI S15 65 = f 65 from funext (fun k => zG_z hI_S15 rfl)] at z)
        (try rw [show mI S15 64 1 = f 64 1 from zG_z hI_S15 rfl] at z)
        exact z
      have b92 := i_bd v18
      have li93 : (-1 : Int32).toInt = -1 := rfl
      refine zd (fun h94 => ?_) (fun h94 => ?_)
      · skip
        have g95 := i_eq h94
        have hI96 : zR f r C Z N (ma_put S17 66 0 (.inl v18)) := zG_sa hI_S17 (-1) (1500) rfl (by decide) (by decide) (by decide) trivial (by omega) (by omega)
        have f97 := zG_a hI 4 (-1) (1500) (c := 66) (k := 1) (by decide) (by decide)
        have q98 : (mI S1 66 1).toInt = (mI S 66 1).toInt := zG_zi (f := mI (ma_put S 64 3 (.inl (0 : Int32)))) hL_S1 rfl
        have f99 := zG_a hI_S1 4 (-1) (1500) (c := 66) (k := 1) (by decide) (by decide)
        have q100 : (mI S3 66 1).toInt = (mI S1 66 1).toInt := zG_zi (f := mI S1) hL_S3 rfl
        have f101 := zG_a hI_S3 4 (-1) (1500) (c := 66) (k := 1) (by decide) (by decide)
        have q102 : (mI S15 66 1).toInt = (mI S3 66 1).toInt := zG_zi (f := mI S3) hL_S15 rfl
        have f103 := zG_a hI_S15 4 (-1) (1500) (c := 66) (k := 1) (by decide) (by decide)
        have q104 : (mI S17 66 1).toInt = (mI S15 66 1).toInt := zG_zi (f := mI S15) hL_S17 rfl
        have f105 := zG_a hI_S17 4 (-1) (1500) (c := 66) (k := 1) (by decide) (by decide)
        have q106 : (mI S17 64 2).toInt = (mI S15 64 2).toInt := zG_zi (f := mI S15) hL_S17 rfl
        have f107 := zG_s hI_S17 (0) (100) (c := 64) (k := 2) (by decide)
        exact K ((-1 : Int32)) _ hI96 (show (-1 : Int32).toInt = -1 ∨ (0 ≤ (-1 : Int32).toInt ∧ (-1 : Int32).toInt ≤ 6 ∧ 0 ≤ v18.toInt ∧ ((-1 : Int32).toInt = 3 → 0 ≤ (mI S17 66 1).toInt) ∧ ((-1 : Int32).toInt = 6 → 16 ≤ (mI S17 66 1).toInt)) from by omega) (show ((-1 : Int32).toInt = -1 ∧ -1 - (mI S17 64 2).toInt = zAns (f 65) (f 64 1).toInt) ∨ ((-1 : Int32).toInt ≠ -1 ∧ zFin (-1 : Int32).toInt v18.toInt (mI S17 66 1).toInt = zAns (f 65) (f 64 1).toInt) from by first | (have qk : v4.toInt = 1 := (by omega); have q := zAns_go (s := (mI S1 64 2)) (e := (mI S1 64 3).toInt) (k := v4.toInt) rp0_S1 rp1_S1 rp0_S3 (by omega); rw [show zPts v4.toInt = [0] from by rw [qk]; rfl] at q; have q2 := q.trans (zRun_badp (s := (mI S15 64 2)) (e := (mI S15 64 3).toInt) (x := v18.toInt) (p := (mI S1 64 3).toInt) rp0_S15 (by omega) rp1_S15 (show v18.toInt = zNum (f 65) (mI S15 64 2).toInt (mI S15 64 3).toInt 16 1500 from rp0_S17) (by omega)); exact Or.inl ⟨rfl, by omega⟩) | (omega) | (exfalso; omega))
      · skip
        have g108 := i_ne h94
        refine zd (fun h109 => ?_) (fun h109 => ?_)
        · skip
          have g110 := i_eq h109
          have hI111 : zR f r C Z N (ma_put S17 66 0 (.inl v18)) := zG_sa hI_S17 (-1) (1500) rfl (by decide) (by decide) (by decide) trivial (by omega) (by omega)
          have f112 := zG_a hI 4 (-1) (1500) (c := 66) (k := 1) (by decide) (by decide)
          have q113 : (mI S1 66 1).toInt = (mI S 66 1).toInt := zG_zi (f := mI (ma_put S 64 3 (.inl (0 : Int32)))) hL_S1 rfl
          have f114 := zG_a hI_S1 4 (-1) (1500) (c := 66) (k := 1) (by decide) (by decide)
          have q115 : (mI S3 66 1).toInt = (mI S1 66 1).toInt := zG_zi (f := mI S1) hL_S3 rfl
          have f116 := zG_a hI_S3 4 (-1) (1500) (c := 66) (k := 1) (by decide) (by decide)
          have q117 : (mI S15 66 1).toInt = (mI S3 66 1).toInt := zG_zi (f := mI S3) hL_S15 rfl
          have f118 := zG_a hI_S15 4 (-1) (1500) (c := 66) (k := 1) (by decide) (by decide)
          have q119 : (mI S17 66 1).toInt = (mI S15 66 1).toInt := zG_zi (f := mI S15) hL_S17 rfl
          have f120 := zG_a hI_S17 4 (-1) (1500) (c := 66) (k := 1) (by decide) (by decide)
          have q121 : (mI S17 64 2).toInt = (mI S15 64 2).toInt := zG_zi (f := mI S15) hL_S17 rfl
          have f122 := zG_s hI_S17 (0) (100) (c := 64) (k := 2) (by decide)
          exact K ((-1 : Int32)) _ hI111 (show (-1 : Int32).toInt = -1 ∨ (0 ≤ (-1 : Int32).toInt ∧ (-1 : Int32).toInt ≤ 6 ∧ 0 ≤ v18.toInt ∧ ((-1 : Int32).toInt = 3 → 0 ≤ (mI S17 66 1).toInt) ∧ ((-1 : Int32).toInt = 6 → 16 ≤ (mI S17 66 1).toInt)) from by omega) (show ((-1 : Int32).toInt = -1 ∧ -1 - (mI S17 64 2).toInt = zAns (f 65) (f 64 1).toInt) ∨ ((-1 : Int32).toInt ≠ -1 ∧ zFin (-1 : Int32).toInt v18.toInt (mI S17 66 1).toInt = zAns (f 65) (f 64 1).toInt) from by first | (have qk : v4.toInt = 1 := (by omega); have q := zAns_go (s := (mI S1 64 2)) (e := (mI S1 64 3).toInt) (k := v4.toInt) rp0_S1 rp1_S1 rp0_S3 (by omega); rw [show zPts v4.toInt = [0] from by rw [qk]; rfl] at q; have q2 := q.trans (zRun_badp (s := (mI S15 64 2)) (e := (mI S15 64 3).toInt) (x := v18.toInt) (p := (mI S1 64 3).toInt) rp0_S15 (by omega) rp1_S15 (show v18.toInt = zNum (f 65) (mI S15 64 2).toInt (mI S15 64 3).toInt 16 1500 from rp0_S17) (by omega)); exact Or.inl ⟨rfl, by omega⟩) | (omega) | (exfalso; omega))
        · skip
          have g123 := i_ne h109
          have hI124 : zR f r C Z N (ma_put S17 66 0 (.inl v18)) := zG_sa hI_S17 (-1) (1500) rfl (by decide) (by decide) (by decide) trivial (by omega) (by omega)
          have q125 : (mI S17 64 3).toInt = (mI S15 64 3).toInt := zG_zi (f := mI S15) hL_S17 rfl
          have f126 := zG_s hI_S17 (0) (100) (c := 64) (k := 3) (by decide)
          refine sp_129_64_n (p0 := ((mI S17 64 3).toInt)) (by omega) (by omega) (zR_dn_zY hI124) (show (mI S17 64 3).toInt = ((mI S17 64 3).toInt) from by omega) (fun v20 S19 hL_S19 hp_v20 rp0_S19 rp1_S19 rp2_S19 rp3_S19 => zi_n ⟨zG_T hL_S19, ?_⟩)
          have hI_S19 := zR_up_zY hI124 hL_S19
          have f127 := zG_s hI_S19 (0) (100) (c := 64) (k := 2) (by decide)
          have rp0_S19 : (mI S19 64 2).toInt = tk true (f 65) (f 64 1).toInt ((mI S17 64 3).toInt) := by
            have z := rp0_S19
            (try rw [show mI (ma_put S17 66 0 (.inl v18)) 65 = f 65 from funext (fun k => zG_z hI124 rfl)] at z)
            (try rw [show mI (ma_put S17 66 0 (.inl v18)) 64 1 = f 64 1 from zG_z hI124 rfl] at z)
            exact z
          have f128 := zG_s hI_S19 (0) (100) (c := 64) (k := 3) (by decide)
          have rp1_S19 : (mI S19 64 3).toInt = tk false (f 65) (f 64 1).toInt (mI S19 64 2).toInt := by
            have z := rp1_S19
            (try rw [show mI (ma_put S17 66 0 (.inl v18)) 65 = f 65 from funext (fun k => zG_z hI124 rfl)] at z)
            (try rw [show mI (ma_put S17 66 0 (.inl v18)) 64 1 = f 64 1 from zG_z hI124 rfl] at z)
            exact z
          have rp2_S19 : (v20.toInt = 1 ∧ (mI S19 64 2).toInt < (mI S19 64 3).toInt) ∨ (v20.toInt = 0 ∧ (mI S19 64 3).toInt ≤ (mI S19 64 2).toInt) := by
            have z := rp2_S19
            (try rw [show mI (ma_put S17 66 0 (.inl v18)) 65 = f 65 from funext (fun k => zG_z hI124 rfl)] at z)
            (try rw [show mI (ma_put S17 66 0 (.inl v18)) 64 1 = f 64 1 from zG_z hI124 rfl] at z)
            exact z
          have rp3_S19 : (mI S19 64 2).toInt ≤ (mI S19 64 3).toInt := by
            have z := rp3_S19
            (try rw [show mI (ma_put S17 66 0 (.inl v18)) 65 = f 65 from funext (fun k => zG_z hI124 rfl)] at z)
            (try rw [show mI (ma_put S17 66 0 (.inl v18)) 64 1 = f 64 1 from zG_z hI124 rfl] at z)
            exact z
          have b129 := i_bd v20
          refine zd (fun h130 => ?_) (fun h130 => ?_)
          · skip
            have g131 := i_eq h130
            have q132 : (mI S19 66 0).toInt = v18.toInt := zG_zi (f := mI (ma_put S17 66 0 (.inl v18))) hL_S19 rfl
            have f133 := zG_a hI_S19 4 (-1) (1500) (c := 66) (k := 0) (by decide) (by decide)
            have f134 := zG_a hI 4 (-1) (1500) (c := 66) (k := 1) (by decide) (by decide)
            have q135 : (mI S1 66 1).toInt = (mI S 66 1).toInt := zG_zi (f := mI (ma_put S 64 3 (.inl (0 : Int32)))) hL_S1 rfl
            have f136 := zG_a hI_S1 4 (-1) (1500) (c := 66) (k := 1) (by decide) (by decide)
            have q137 : (mI S3 66 1).toInt = (mI S1 66 1).toInt := zG_zi (f := mI S1) hL_S3 rfl
            have f138 := zG_a hI_S3 4 (-1) (1500) (c := 66) (k := 1) (by decide) (by decide)
            have q139 : (mI S15 66 1).toInt = (mI S3 66 1).toInt := zG_zi (f := mI S3) hL_S15 rfl
            have f140 := zG_a hI_S15 4 (-1) (1500) (c := 66) (k := 1) (by decide) (by decide)
            have q141 : (mI S17 66 1).toInt = (mI S15 66 1).toInt := zG_zi (f := mI S15) hL_S17 rfl
            have f142 := zG_a hI_S17 4 (-1) (1500) (c := 66) (k := 1) (by decide) (by decide)
            have q143 : (mI S19 66 1).toInt = (mI S17 66 1).toInt := zG_zi (f := mI (ma_put S17 66 0 (.inl v18))) hL_S19 rfl
            have f144 := zG_a hI_S19 4 (-1) (1500) (c := 66) (k := 1) (by decide) (by decide)
            exact K (v4) _ hI_S19 (show v4.toInt = -1 ∨ (0 ≤ v4.toInt ∧ v4.toInt ≤ 6 ∧ 0 ≤ (mI S19 66 0).toInt ∧ (v4.toInt = 3 → 0 ≤ (mI S19 66 1).toInt) ∧ (v4.toInt = 6 → 16 ≤ (mI S19 66 1).toInt)) from by omega) (show (v4.toInt = -1 ∧ -1 - (mI S19 64 2).toInt = zAns (f 65) (f 64 1).toInt) ∨ (v4.toInt ≠ -1 ∧ zFin v4.toInt (mI S19 66 0).toInt (mI S19 66 1).toInt = zAns (f 65) (f 64 1).toInt) from by first | (have qk : v4.toInt = 1 := (by omega); have q := zAns_go (s := (mI S1 64 2)) (e := (mI S1 64 3).toInt) (k := v4.toInt) rp0_S1 rp1_S1 rp0_S3 (by omega); rw [show zPts v4.toInt = [0] from by rw [qk]; rfl] at q; replace q := q.trans (zRun_ok0 (s := (mI S15 64 2)) (e := (mI S15 64 3).toInt) (x := v18.toInt) (p := (mI S1 64 3).toInt) rp0_S15 (by omega) rp1_S15 (show v18.toInt = zNum (f 65) (mI S15 64 2).toInt (mI S15 64 3).toInt 16 1500 from rp0_S17) (by omega)); have q2 := q.trans (zEnd_okp (s := (mI S19 64 2)) (e := (mI S19 64 3).toInt) (p := (mI S15 64 3).toInt) rp0_S19 (by omega) rp1_S19 (by omega)); exact Or.inr ⟨by omega, (zFin_eq (by omega) (by omega)).trans q2.symm⟩) | (omega) | (exfalso; omega))
          · skip
            have g145 := i_ne h130
            have q146 : (mI S19 66 0).toInt = v18.toInt := zG_zi (f := mI (ma_put S17 66 0 (.inl v18))) hL_S19 rfl
            have f147 := zG_a hI_S19 4 (-1) (1500) (c := 66) (k := 0) (by decide) (by decide)
            have f148 := zG_a hI 4 (-1) (1500) (c := 66) (k := 1) (by decide) (by decide)
            have q149 : (mI S1 66 1).toInt = (mI S 66 1).toInt := zG_zi (f := mI (ma_put S 64 3 (.inl (0 : Int32)))) hL_S1 rfl
            have f150 := zG_a hI_S1 4 (-1) (1500) (c := 66) (k := 1) (by decide) (by decide)
            have q151 : (mI S3 66 1).toInt = (mI S1 66 1).toInt := zG_zi (f := mI S1) hL_S3 rfl
            have f152 := zG_a hI_S3 4 (-1) (1500) (c := 66) (k := 1) (by decide) (by decide)
            have q153 : (mI S15 66 1).toInt = (mI S3 66 1).toInt := zG_zi (f := mI S3) hL_S15 rfl
            have f154 := zG_a hI_S15 4 (-1) (1500) (c := 66) (k := 1) (by decide) (by decide)
            have q155 : (mI S17 66 1).toInt = (mI S15 66 1).toInt := zG_zi (f := mI S15) hL_S17 rfl
            have f156 := zG_a hI_S17 4 (-1) (1500) (c := 66) (k := 1) (by decide) (by decide)
            have q157 : (mI S19 66 1).toInt = (mI S17 66 1).toInt := zG_zi (f := mI (ma_put S17 66 0 (.inl v18))) hL_S19 rfl
            have f158 := zG_a hI_S19 4 (-1) (1500) (c := 66) (k := 1) (by decide) (by decide)
            exact K ((-1 : Int32)) _ hI_S19 (show (-1 : Int32).toInt = -1 ∨ (0 ≤ (-1 : Int32).toInt ∧ (-1 : Int32).toInt ≤ 6 ∧ 0 ≤ (mI S19 66 0).toInt ∧ ((-1 : Int32).toInt = 3 → 0 ≤ (mI S19 66 1).toInt) ∧ ((-1 : Int32).toInt = 6 → 16 ≤ (mI S19 66 1).toInt)) from by omega) (show ((-1 : Int32).toInt = -1 ∧ -1 - (mI S19 64 2).toInt = zAns (f 65) (f 64 1).toInt) ∨ ((-1 : Int32).toInt ≠ -1 ∧ zFin (-1 : Int32).toInt (mI S19 66 0).toInt (mI S19 66 1).toInt = zAns (f 65) (f 64 1).toInt) from by first | (have qk : v4.toInt = 1 := (by omega); have q := zAns_go (s := (mI S1 64 2)) (e := (mI S1 64 3).toInt) (k := v4.toInt) rp0_S1 rp1_S1 rp0_S3 (by omega); rw [show zPts v4.toInt = [0] from by rw [qk]; rfl] at q; replace q := q.trans (zRun_ok0 (s := (mI S15 64 2)) (e := (mI S15 64 3).toInt) (x := v18.toInt) (p := (mI S1 64 3).toInt) rp0_S15 (by omega) rp1_S15 (show v18.toInt = zNum (f 65) (mI S15 64 2).toInt (mI S15 64 3).toInt 16 1500 from rp0_S17) (by omega)); have q2 := q.trans (zEnd_badp (s := (mI S19 64 2)) (e := (mI S19 64 3).toInt) (p := (mI S15 64 3).toInt) rp0_S19 (by omega) rp1_S19 (by omega)); exact Or.inl ⟨rfl, by omega⟩) | (omega) | (exfalso; omega))
    · skip
      have g159 := i_ne h84
      have li160 : (2 : Int32).toInt = 2 := rfl
      refine zd (fun h161 => ?_) (fun h161 => ?_)
      · skip
        have g162 := i_eq h161
        have q163 : (mI S3 64 3).toInt = (mI S1 64 3).toInt := zG_zi (f := mI S1) hL_S3 rfl
        have f164 := zG_s hI_S3 (0) (100) (c := 64) (k := 3) (by decide)
        refine sp_129_64_n (p0 := ((mI S3 64 3).toInt)) (by omega) (by omega) (zR_dn_zY hI_S3) (show (mI S3 64 3).toInt = ((mI S3 64 3).toInt) from by omega) (fun v22 S21 hL_S21 hp_v22 rp0_S21 rp1_S21 rp2_S21 rp3_S21 => zi_n ⟨zG_T hL_S21, ?_⟩)
        have hI_S21 := zR_up_zY hI_S3 hL_S21
        have f165 := zG_s hI_S21 (0) (100) (c := 64) (k := 2) (by decide)
        have rp0_S21 : (mI S21 64 2).toInt = tk true (f 65) (f 64 1).toInt ((mI S3 64 3).toInt) := by
          have z := rp0_S21
          (try rw [show mI S3 65 = f 65 from funext (fun k => zG_z hI_S3 rfl)] at z)
          (try rw [show mI S3 64 1 = f 64 1 from zG_z hI_S3 rfl] at z)
          exact z
        have f166 := zG_s hI_S21 (0) (100) (c := 64) (k := 3) (by decide)
        have rp1_S21 : (mI S21 64 3).toInt = tk false (f 65) (f 64 1).toInt (mI S21 64 2).toInt := by
          have z := rp1_S21
          (try rw [show mI S3 65 = f 65 from funext (fun k => zG_z hI_S3 rfl)] at z)
          (try rw [show mI S3 64 1 = f 64 1 from zG_z hI_S3 rfl] at z)
          exact z
        have rp2_S21 : (v22.toInt = 1 ∧ (mI S21 64 2).toInt < (mI S21 64 3).toInt) ∨ (v22.toInt = 0 ∧ (mI S21 64 3).toInt ≤ (mI S21 64 2).toInt) := by
          have z := rp2_S21
          (try rw [show mI S3 65 = f 65 from funext (fun k => zG_z hI_S3 rfl)] at z)
          (try rw [show mI S3 64 1 = f 64 1 from zG_z hI_S3 rfl] at z)
          exact z
        have rp3_S21 : (mI S21 64 2).toInt ≤ (mI S21 64 3).toInt := by
          have z := rp3_S21
          (try rw [show mI S3 65 = f 65 from funext (fun k => zG_z hI_S3 rfl)] at z)
          (try rw [show mI S3 64 1 = f 64 1 from zG_z hI_S3 rfl] at z)
          exact z
        have li167 : (16 : Int32).toInt = 16 := rfl
        have li168 : (1500 : Int32).toInt = 1500 := rfl
        refine sp_134_64_n ((16 : Int32)) ((1500 : Int32)) (by omega) (by omega) (zR_dn_zY0 hI_S21) (show (mI S21 64 2).toInt ≤ (mI S21 64 3).toInt from by omega) (fun v24 S23 hL_S23 hp_v24 rp0_S23 => zi_n ⟨zG_T hL_S23, ?_⟩)
        have hI_S23 := zR_up_zY0 hI_S21 hL_S23
        have rp0_S23 : v24.toInt = zNum (f 65) (mI S21 64 2).toInt (mI S21 64 3).toInt (16 : Int32).toInt (1500 : Int32).toInt := by
          have z := rp0_S23
          (try rw [show mI S21 65 = f 65 from funext (fun k => zG_z hI_S21 rfl)] at z)
          (try rw [show mI S21 64 1 = f 64 1 from zG_z hI_S21 rfl] at z)
          exact z
        have b169 := i_bd v24
        have li170 : (-1 : Int32).toInt = -1 := rfl
        refine zd (fun h171 => ?_) (fun h171 => ?_)
        · skip
          have g172 := i_eq h171
          have hI173 : zR f r C Z N (ma_put S23 66 0 (.inl v24)) := zG_sa hI_S23 (-1) (1500) rfl (by decide) (by decide) (by decide) trivial (by omega) (by omega)
          have f174 := zG_a hI 4 (-1) (1500) (c := 66) (k := 1) (by decide) (by decide)
          have q175 : (mI S1 66 1).toInt = (mI S 66 1).toInt := zG_zi (f := mI (ma_put S 64 3 (.inl (0 : Int32)))) hL_S1 rfl
          have f176 := zG_a hI_S1 4 (-1) (1500) (c := 66) (k := 1) (by decide) (by decide)
          have q177 : (mI S3 66 1).toInt = (mI S1 66 1).toInt := zG_zi (f := mI S1) hL_S3 rfl
          have f178 := zG_a hI_S3 4 (-1) (1500) (c := 66) (k := 1) (by decide) (by decide)
          have q179 : (mI S21 66 1).toInt = (mI S3 66 1).toInt := zG_zi (f := mI S3) hL_S21 rfl
          have f180 := zG_a hI_S21 4 (-1) (1500) (c := 66) (k := 1) (by decide) (by decide)
          have q181 : (mI S23 66 1).toInt = (mI S21 66 1).toInt := zG_zi (f := mI S21) hL_S23 rfl
          have f182 := zG_a hI_S23 4 (-1) (1500) (c := 66) (k := 1) (by decide) (by decide)
          have q183 : (mI S23 64 2).toInt = (mI S21 64 2).toInt := zG_zi (f := mI S21) hL_S23 rfl
          have f184 := zG_s hI_S23 (0) (100) (c := 64) (k := 2) (by decide)
          exact K ((-1 : Int32)) _ hI173 (show (-1 : Int32).toInt = -1 ∨ (0 ≤ (-1 : Int32).toInt ∧ (-1 : Int32).toInt ≤ 6 ∧ 0 ≤ v24.toInt ∧ ((-1 : Int32).toInt = 3 → 0 ≤ (mI S23 66 1).toInt) ∧ ((-1 : Int32).toInt = 6 → 16 ≤ (mI S23 66 1).toInt)) from by omega) (show ((-1 : Int32).toInt = -1 ∧ -1 - (mI S23 64 2).toInt = zAns (f 65) (f 64 1).toInt) ∨ ((-1 : Int32).toInt ≠ -1 ∧ zFin (-1 : Int32).toInt v24.toInt (mI S23 66 1).toInt = zAns (f 65) (f 64 1).toInt) from by first | (have qk : v4.toInt = 2 := (by omega); have q := zAns_go (s := (mI S1 64 2)) (e := (mI S1 64 3).toInt) (k := v4.toInt) rp0_S1 rp1_S1 rp0_S3 (by omega); rw [show zPts v4.toInt = [0] from by rw [qk]; rfl] at q; have q2 := q.trans (zRun_badp (s := (mI S21 64 2)) (e := (mI S21 64 3).toInt) (x := v24.toInt) (p := (mI S1 64 3).toInt) rp0_S21 (by omega) rp1_S21 (show v24.toInt = zNum (f 65) (mI S21 64 2).toInt (mI S21 64 3).toInt 16 1500 from rp0_S23) (by omega)); exact Or.inl ⟨rfl, by omega⟩) | (omega) | (exfalso; omega))
        · skip
          have g185 := i_ne h171
          refine zd (fun h186 => ?_) (fun h186 => ?_)
          · skip
            have g187 := i_eq h186
            have hI188 : zR f r C Z N (ma_put S23 66 0 (.inl v24)) := zG_sa hI_S23 (-1) (1500) rfl (by decide) (by decide) (by decide) trivial (by omega) (by omega)
            have f189 := zG_a hI 4 (-1) (1500) (c := 66) (k := 1) (by decide) (by decide)
            have q190 : (mI S1 66 1).toInt = (mI S 66 1).toInt := zG_zi (f := mI (ma_put S 64 3 (.inl (0 : Int32)))) hL_S1 rfl
            have f191 := zG_a hI_S1 4 (-1) (1500) (c := 66) (k := 1) (by decide) (by decide)
            have q192 : (mI S3 66 1).toInt = (mI S1 66 1).toInt := zG_zi (f := mI S1) hL_S3 rfl
            have f193 := zG_a hI_S3 4 (-1) (1500) (c := 66) (k := 1) (by decide) (by decide)
            have q194 : (mI S21 66 1).toInt = (mI S3 66 1).toInt := zG_zi (f := mI S3) hL_S21 rfl
            have f195 := zG_a hI_S21 4 (-1) (1500) (c := 66) (k := 1) (by decide) (by decide)
            have q196 : (mI S23 66 1).toInt = (mI S21 66 1).toInt := zG_zi (f := mI S21) hL_S23 rfl
            have f197 := zG_a hI_S23 4 (-1) (1500) (c := 66) (k := 1) (by decide) (by decide)
            have q198 : (mI S23 64 2).toInt = (mI S21 64 2).toInt := zG_zi (f := mI S21) hL_S23 rfl
            have f199 := zG_s hI_S23 (0) (100) (c := 64) (k := 2) (by decide)
            exact K ((-1 : Int32)) _ hI188 (show (-1 : Int32).toInt = -1 ∨ (0 ≤ (-1 : Int32).toInt ∧ (-1 : Int32).toInt ≤ 6 ∧ 0 ≤ v24.toInt ∧ ((-1 : Int32).toInt = 3 → 0 ≤ (mI S23 66 1).toInt) ∧ ((-1 : Int32).toInt = 6 → 16 ≤ (mI S23 66 1).toInt)) from by omega) (show ((-1 : Int32).toInt = -1 ∧ -1 - (mI S23 64 2).toInt = zAns (f 65) (f 64 1).toInt) ∨ ((-1 : Int32).toInt ≠ -1 ∧ zFin (-1 : Int32).toInt v24.toInt (mI S23 66 1).toInt = zAns (f 65) (f 64 1).toInt) from by first | (have qk : v4.toInt = 2 := (by omega); have q := zAns_go (s := (mI S1 64 2)) (e := (mI S1 64 3).toInt) (k := v4.toInt) rp0_S1 rp1_S1 rp0_S3 (by omega); rw [show zPts v4.toInt = [0] from by rw [qk]; rfl] at q; have q2 := q.trans (zRun_badp (s := (mI S21 64 2)) (e := (mI S21 64 3).toInt) (x := v24.toInt) (p := (mI S1 64 3).toInt) rp0_S21 (by omega) rp1_S21 (show v24.toInt = zNum (f 65) (mI S21 64 2).toInt (mI S21 64 3).toInt 16 1500 from rp0_S23) (by omega)); exact Or.inl ⟨rfl, by omega⟩) | (omega) | (exfalso; omega))
          · skip
            have g200 := i_ne h186
            have hI201 : zR f r C Z N (ma_put S23 66 0 (.inl v24)) := zG_sa hI_S23 (-1) (1500) rfl (by decide) (by decide) (by decide) trivial (by omega) (by omega)
            have q202 : (mI S23 64 3).toInt = (mI S21 64 3).toInt := zG_zi (f := mI S21) hL_S23 rfl
            have f203 := zG_s hI_S23 (0) (100) (c := 64) (k := 3) (by decide)
            refine sp_129_64_n (p0 := ((mI S23 64 3).toInt)) (by omega) (by omega) (zR_dn_zY hI201) (show (mI S23 64 3).toInt = ((mI S23 64 3).toInt) from by omega) (fun v26 S25 hL_S25 hp_v26 rp0_S25 rp1_S25 rp2_S25 rp3_S25 => zi_n ⟨zG_T hL_S25, ?_⟩)
            have hI_S25 := zR_up_zY hI201 hL_S25
            have f204 := zG_s hI_S25 (0) (100) (c := 64) (k := 2) (by decide)
            have rp0_S25 : (mI S25 64 2).toInt = tk true (f 65) (f 64 1).toInt ((mI S23 64 3).toInt) := by
              have z := rp0_S25
              (try rw [show mI (ma_put S23 66 0 (.inl v24)) 65 = f 65 from funext (fun k => zG_z hI201 rfl)] at z)
              (try rw [show mI (ma_put S23 66 0 (.inl v24)) 64 1 = f 64 1 from zG_z hI201 rfl] at z)
              exact z
            have f205 := zG_s hI_S25 (0) (100) (c := 64) (k := 3) (by decide)
            have rp1_S25 : (mI S25 64 3).toInt = tk false (f 65) (f 64 1).toInt (mI S25 64 2).toInt := by
              have z := rp1_S25
              (try rw [show mI (ma_put S23 66 0 (.inl v24)) 65 = f 65 from funext (fun k => zG_z hI201 rfl)] at z)
              (try rw [show mI (ma_put S23 66 0 (.inl v24)) 64 1 = f 64 1 from zG_z hI201 rfl] at z)
              exact z
            have rp2_S25 : (v26.toInt = 1 ∧ (mI S25 64 2).toInt < (mI S25 64 3).toInt) ∨ (v26.toInt = 0 ∧ (mI S25 64 3).toInt ≤ (mI S25 64 2).toInt) := by
              have z := rp2_S25
              (try rw [show mI (ma_put S23 66 0 (.inl v24)) 65 = f 65 from funext (fun k => zG_z hI201 rfl)] at z)
              (try rw [show mI (ma_put S23 66 0 (.inl v24)) 64 1 = f 64 1 from zG_z hI201 rfl] at z)
              exact z
            have rp3_S25 : (mI S25 64 2).toInt ≤ (mI S25 64 3).toInt := by
              have z := rp3_S25
              (try rw [show mI (ma_put S23 66 0 (.inl v24)) 65 = f 65 from funext (fun k => zG_z hI201 rfl)] at z)
              (try rw [show mI (ma_put S23 66 0 (.inl v24)) 64 1 = f 64 1 from zG_z hI201 rfl] at z)
              exact z
            have b206 := i_bd v26
            refine zd (fun h207 => ?_) (fun h207 => ?_)
            · skip
              have g208 := i_eq h207
              have q209 : (mI S25 66 0).toInt = v24.toInt := zG_zi (f := mI (ma_put S23 66 0 (.inl v24))) hL_S25 rfl
              have f210 := zG_a hI_S25 4 (-1) (1500) (c := 66) (k := 0) (by decide) (by decide)
              have f211 := zG_a hI 4 (-1) (1500) (c := 66) (k := 1) (by decide) (by decide)
              have q212 : (mI S1 66 1).toInt = (mI S 66 1).toInt := zG_zi (f := mI (ma_put S 64 3 (.inl (0 : Int32)))) hL_S1 rfl
              have f213 := zG_a hI_S1 4 (-1) (1500) (c := 66) (k := 1) (by decide) (by decide)
              have q214 : (mI S3 66 1).toInt = (mI S1 66 1).toInt := zG_zi (f := mI S1) hL_S3 rfl
              have f215 := zG_a hI_S3 4 (-1) (1500) (c := 66) (k := 1) (by decide) (by decide)
              have q216 : (mI S21 66 1).toInt = (mI S3 66 1).toInt := zG_zi (f := mI S3) hL_S21 rfl
              have f217 := zG_a hI_S21 4 (-1) (1500) (c := 66) (k := 1) (by decide) (by decide)
              have q218 : (mI S23 66 1).toInt = (mI S21 66 1).toInt := zG_zi (f := mI S21) hL_S23 rfl
              have f219 := zG_a hI_S23 4 (-1) (1500) (c := 66) (k := 1) (by decide) (by decide)
              have q220 : (mI S25 66 1).toInt = (mI S23 66 1).toInt := zG_zi (f := mI (ma_put S23 66 0 (.inl v24))) hL_S25 rfl
              have f221 := zG_a hI_S25 4 (-1) (1500) (c := 66) (k := 1) (by decide) (by decide)
              exact K (v4) _ hI_S25 (show v4.toInt = -1 ∨ (0 ≤ v4.toInt ∧ v4.toInt ≤ 6 ∧ 0 ≤ (mI S25 66 0).toInt ∧ (v4.toInt = 3 → 0 ≤ (mI S25 66 1).toInt) ∧ (v4.toInt = 6 → 16 ≤ (mI S25 66 1).toInt)) from by omega) (show (v4.toInt = -1 ∧ -1 - (mI S25 64 2).toInt = zAns (f 65) (f 64 1).toInt) ∨ (v4.toInt ≠ -1 ∧ zFin v4.toInt (mI S25 66 0).toInt (mI S25 66 1).toInt = zAns (f 65) (f 64 1).toInt) from by first | (have qk : v4.toInt = 2 := (by omega); have q := zAns_go (s := (mI S1 64 2)) (e := (mI S1 64 3).toInt) (k := v4.toInt) rp0_S1 rp1_S1 rp0_S3 (by omega); rw [show zPts v4.toInt = [0] from by rw [qk]; rfl] at q; replace q := q.trans (zRun_ok0 (s := (mI S21 64 2)) (e := (mI S21 64 3).toInt) (x := v24.toInt) (p := (mI S1 64 3).toInt) rp0_S21 (by omega) rp1_S21 (show v24.toInt = zNum (f 65) (mI S21 64 2).toInt (mI S21 64 3).toInt 16 1500 from rp0_S23) (by omega)); have q2 := q.trans (zEnd_okp (s := (mI S25 64 2)) (e := (mI S25 64 3).toInt) (p := (mI S21 64 3).toInt) rp0_S25 (by omega) rp1_S25 (by omega)); exact Or.inr ⟨by omega, (zFin_eq (by omega) (by omega)).trans q2.symm⟩) | (omega) | (exfalso; omega))
            · skip
              have g222 := i_ne h207
              have q223 : (mI S25 66 0).toInt = v24.toInt := zG_zi (f := mI (ma_put S23 66 0 (.inl v24))) hL_S25 rfl
              have f224 := zG_a hI_S25 4 (-1) (1500) (c := 66) (k := 0) (by decide) (by decide)
              have f225 := zG_a hI 4 (-1) (1500) (c := 66) (k := 1) (by decide) (by decide)
              have q226 : (mI S1 66 1).toInt = (mI S 66 1).toInt := zG_zi (f := mI (ma_put S 64 3 (.inl (0 : Int32)))) hL_S1 rfl
              have f227 := zG_a hI_S1 4 (-1) (1500) (c := 66) (k := 1) (by decide) (by decide)
              have q228 : (mI S3 66 1).toInt = (mI S1 66 1).toInt := zG_zi (f := mI S1) hL_S3 rfl
              have f229 := zG_a hI_S3 4 (-1) (1500) (c := 66) (k := 1) (by decide) (by decide)
              have q230 : (mI S21 66 1).toInt = (mI S3 66 1).toInt := zG_zi (f := mI S3) hL_S21 rfl
              have f231 := zG_a hI_S21 4 (-1) (1500) (c := 66) (k := 1) (by decide) (by decide)
              have q232 : (mI S23 66 1).toInt = (mI S21 66 1).toInt := zG_zi (f := mI S21) hL_S23 rfl
              have f233 := zG_a hI_S23 4 (-1) (1500) (c := 66) (k := 1) (by decide) (by decide)
              have q234 : (mI S25 66 1).toInt = (mI S23 66 1).toInt := zG_zi (f := mI (ma_put S23 66 0 (.inl v24))) hL_S25 rfl
              have f235 := zG_a hI_S25 4 (-1) (1500) (c := 66) (k := 1) (by decide) (by decide)
              exact K ((-1 : Int32)) _ hI_S25 (show (-1 : Int32).toInt = -1 ∨ (0 ≤ (-1 : Int32).toInt ∧ (-1 : Int32).toInt ≤ 6 ∧ 0 ≤ (mI S25 66 0).toInt ∧ ((-1 : Int32).toInt = 3 → 0 ≤ (mI S25 66 1).toInt) ∧ ((-1 : Int32).toInt = 6 → 16 ≤ (mI S25 66 1).toInt)) from by omega) (show ((-1 : Int32).toInt = -1 ∧ -1 - (mI S25 64 2).toInt = zAns (f 65) (f 64 1).toInt) ∨ ((-1 : Int32).toInt ≠ -1 ∧ zFin (-1 : Int32).toInt (mI S25 66 0).toInt (mI S25 66 1).toInt = zAns (f 65) (f 64 1).toInt) from by first | (have qk : v4.toInt = 2 := (by omega); have q := zAns_go (s := (mI S1 64 2)) (e := (mI S1 64 3).toInt) (k := v4.toInt) rp0_S1 rp1_S1 rp0_S3 (by omega); rw [show zPts v4.toInt = [0] from by rw [qk]; rfl] at q; replace q := q.trans (zRun_ok0 (s := (mI S21 64 2)) (e := (mI S21 64 3).toInt) (x := v24.toInt) (p := (mI S1 64 3).toInt) rp0_S21 (by omega) rp1_S21 (show v24.toInt = zNum (f 65) (mI S21 64 2).toInt (mI S21 64 3).toInt 16 1500 from rp0_S23) (by omega)); have q2 := q.trans (zEnd_badp (s := (mI S25 64 2)) (e := (mI S25 64 3).toInt) (p := (mI S21 64 3).toInt) rp0_S25 (by omega) rp1_S25 (by omega)); exact Or.inl ⟨rfl, by omega⟩) | (omega) | (exfalso; omega))
      · skip
        have g236 := i_ne h161
        have li237 : (3 : Int32).toInt = 3 := rfl
        refine zd (fun h238 => ?_) (fun h238 => ?_)
        · skip
          have g239 := i_eq h238
          have q240 : (mI S3 64 3).toInt = (mI S1 64 3).toInt := zG_zi (f := mI S1) hL_S3 rfl
          have f241 := zG_s hI_S3 (0) (100) (c := 64) (k := 3) (by decide)
          refine sp_129_64_n (p0 := ((mI S3 64 3).toInt)) (by omega) (by omega) (zR_dn_zY hI_S3) (show (mI S3 64 3).toInt = ((mI S3 64 3).toInt) from by omega) (fun v28 S27 hL_S27 hp_v28 rp0_S27 rp1_S27 rp2_S27 rp3_S27 => zi_n ⟨zG_T hL_S27, ?_⟩)
          have hI_S27 := zR_up_zY hI_S3 hL_S27
          have f242 := zG_s hI_S27 (0) (100) (c := 64) (k := 2) (by decide)
          have rp0_S27 : (mI S27 64 2).toInt = tk true (f 65) (f 64 1).toInt ((mI S3 64 3).toInt) := by
            have z := rp0_S27
            (try rw [show mI S3 65 = f 65 from funext (fun k => zG_z hI_S3 rfl)] at z)
            (try rw [show mI S3 64 1 = f 64 1 from zG_z hI_S3 rfl] at z)
            exact z
          have f243 := zG_s hI_S27 (0) (100) (c := 64) (k := 3) (by decide)
          have rp1_S27 : (mI S27 64 3).toInt = tk false (f 65) (f 64 1).toInt (mI S27 64 2).toInt := by
            have z := rp1_S27
            (try rw [show mI S3 65 = f 65 from funext (fun k => zG_z hI_S3 rfl)] at z)
            (try rw [show mI S3 64 1 = f 64 1 from zG_z hI_S3 rfl] at z)
            exact z
          have rp2_S27 : (v28.toInt = 1 ∧ (mI S27 64 2).toInt < (mI S27 64 3).toInt) ∨ (v28.toInt = 0 ∧ (mI S27 64 3).toInt ≤ (mI S27 64 2).toInt) := by
            have z := rp2_S27
            (try rw [show mI S3 65 = f 65 from funext (fun k => zG_z hI_S3 rfl)] at z)
            (try rw [show mI S3 64 1 = f 64 1 from zG_z hI_S3 rfl] at z)
            exact z
          have rp3_S27 : (mI S27 64 2).toInt ≤ (mI S27 64 3).toInt := by
            have z := rp3_S27
            (try rw [show mI S3 65 = f 65 from funext (fun k => zG_z hI_S3 rfl)] at z)
            (try rw [show mI S3 64 1 = f 64 1 from zG_z hI_S3 rfl] at z)
            exact z
          have li244 : (16 : Int32).toInt = 16 := rfl
          have li245 : (1500 : Int32).toInt = 1500 := rfl
          refine sp_134_64_n ((16 : Int32)) ((1500 : Int32)) (by omega) (by omega) (zR_dn_zY0 hI_S27) (show (mI S27 64 2).toInt ≤ (mI S27 64 3).toInt from by omega) (fun v30 S29 hL_S29 hp_v30 rp0_S29 => zi_n ⟨zG_T hL_S29, ?_⟩)
          have hI_S29 := zR_up_zY0 hI_S27 hL_S29
          have rp0_S29 : v30.toInt = zNum (f 65) (mI S27 64 2).toInt (mI S27 64 3).toInt (16 : Int32).toInt (1500 : Int32).toInt := by
            have z := rp0_S29
            (try rw [show mI S27 65 = f 65 from funext (fun k => zG_z hI_S27 rfl)] at z)
            (try rw [show mI S27 64 1 = f 64 1 from zG_z hI_S27 rfl] at z)
            exact z
          have b246 := i_bd v30
          have li247 : (-1 : Int32).toInt = -1 := rfl
          refine zd (fun h248 => ?_) (fun h248 => ?_)
          · skip
            have g249 := i_eq h248
            have hI250 : zR f r C Z N (ma_put S29 66 0 (.inl v30)) := zG_sa hI_S29 (-1) (1500) rfl (by decide) (by decide) (by decide) trivial (by omega) (by omega)
            have f251 := zG_a hI 4 (-1) (1500) (c := 66) (k := 1) (by decide) (by decide)
            have q252 : (mI S1 66 1).toInt = (mI S 66 1).toInt := zG_zi (f := mI (ma_put S 64 3 (.inl (0 : Int32)))) hL_S1 rfl
            have f253 := zG_a hI_S1 4 (-1) (1500) (c := 66) (k := 1) (by decide) (by decide)
            have q254 : (mI S3 66 1).toInt = (mI S1 66 1).toInt := zG_zi (f := mI S1) hL_S3 rfl
            have f255 := zG_a hI_S3 4 (-1) (1500) (c := 66) (k := 1) (by decide) (by decide)
            have q256 : (mI S27 66 1).toInt = (mI S3 66 1).toInt := zG_zi (f := mI S3) hL_S27 rfl
            have f257 := zG_a hI_S27 4 (-1) (1500) (c := 66) (k := 1) (by decide) (by decide)
            have q258 : (mI S29 66 1).toInt = (mI S27 66 1).toInt := zG_zi (f := mI S27) hL_S29 rfl
            have f259 := zG_a hI_S29 4 (-1) (1500) (c := 66) (k := 1) (by decide) (by decide)
            have q260 : (mI S29 64 2).toInt = (mI S27 64 2).toInt := zG_zi (f := mI S27) hL_S29 rfl
            have f261 := zG_s hI_S29 (0) (100) (c := 64) (k := 2) (by decide)
            exact K ((-1 : Int32)) _ hI250 (show (-1 : Int32).toInt = -1 ∨ (0 ≤ (-1 : Int32).toInt ∧ (-1 : Int32).toInt ≤ 6 ∧ 0 ≤ v30.toInt ∧ ((-1 : Int32).toInt = 3 → 0 ≤ (mI S29 66 1).toInt) ∧ ((-1 : Int32).toInt = 6 → 16 ≤ (mI S29 66 1).toInt)) from by omega) (show ((-1 : Int32).toInt = -1 ∧ -1 - (mI S29 64 2).toInt = zAns (f 65) (f 64 1).toInt) ∨ ((-1 : Int32).toInt ≠ -1 ∧ zFin (-1 : Int32).toInt v30.toInt (mI S29 66 1).toInt = zAns (f 65) (f 64 1).toInt) from by first | (have qk : v4.toInt = 3 := (by omega); have q := zAns_go (s := (mI S1 64 2)) (e := (mI S1 64 3).toInt) (k := v4.toInt) rp0_S1 rp1_S1 rp0_S3 (by omega); rw [show zPts v4.toInt = [0, 0, 1, 2] from by rw [qk]; rfl] at q; have q2 := q.trans (zRun_badp (s := (mI S27 64 2)) (e := (mI S27 64 3).toInt) (x := v30.toInt) (p := (mI S1 64 3).toInt) rp0_S27 (by omega) rp1_S27 (show v30.toInt = zNum (f 65) (mI S27 64 2).toInt (mI S27 64 3).toInt 16 1500 from rp0_S29) (by omega)); exact Or.inl ⟨rfl, by omega⟩) | (omega) | (exfalso; omega))
          · skip
            have g262 := i_ne h248
            have hI263 : zR f r C Z N (ma_put S29 66 0 (.inl v30)) := zG_sa hI_S29 (-1) (1500) rfl (by decide) (by decide) (by decide) trivial (by omega) (by omega)
            have q264 : (mI S29 64 3).toInt = (mI S27 64 3).toInt := zG_zi (f := mI S27) hL_S29 rfl
            have f265 := zG_s hI_S29 (0) (100) (c := 64) (k := 3) (by decide)
            refine sp_129_64_n (p0 := ((mI S29 64 3).toInt)) (by omega) (by omega) (zR_dn_zY hI263) (show (mI S29 64 3).toInt = ((mI S29 64 3).toInt) from by omega) (fun v32 S31 hL_S31 hp_v32 rp0_S31 rp1_S31 rp2_S31 rp3_S31 => zi_n ⟨zG_T hL_S31, ?_⟩)
            have hI_S31 := zR_up_zY hI263 hL_S31
            have f266 := zG_s hI_S31 (0) (100) (c := 64) (k := 2) (by decide)
            have rp0_S31 : (mI S31 64 2).toInt = tk true (f 65) (f 64 1).toInt ((mI S29 64 3).toInt) := by
              have z := rp0_S31
              (try rw [show mI (ma_put S29 66 0 (.inl v30)) 65 = f 65 from funext (fun k => zG_z hI263 rfl)] at z)
              (try rw [show mI (ma_put S29 66 0 (.inl v30)) 64 1 = f 64 1 from zG_z hI263 rfl] at z)
              exact z
            have f267 := zG_s hI_S31 (0) (100) (c := 64) (k := 3) (by decide)
            have rp1_S31 : (mI S31 64 3).toInt = tk false (f 65) (f 64 1).toInt (mI S31 64 2).toInt := by
              have z := rp1_S31
              (try rw [show mI (ma_put S29 66 0 (.inl v30)) 65 = f 65 from funext (fun k => zG_z hI263 rfl)] at z)
              (try rw [show mI (ma_put S29 66 0 (.inl v30)) 64 1 = f 64 1 from zG_z hI263 rfl] at z)
              exact z
            have rp2_S31 : (v32.toInt = 1 ∧ (mI S31 64 2).toInt < (mI S31 64 3).toInt) ∨ (v32.toInt = 0 ∧ (mI S31 64 3).toInt ≤ (mI S31 64 2).toInt) := by
              have z := rp2_S31
              (try rw [show mI (ma_put S29 66 0 (.inl v30)) 65 = f 65 from funext (fun k => zG_z hI263 rfl)] at z)
              (try rw [show mI (ma_put S29 66 0 (.inl v30)) 64 1 = f 64 1 from zG_z hI263 rfl] at z)
              exact z
            have rp3_S31 : (mI S31 64 2).toInt ≤ (mI S31 64 3).toInt := by
              have z := rp3_S31
              (try rw [show mI (ma_put S29 66 0 (.inl v30)) 65 = f 65 from funext (fun k => zG_z hI263 rfl)] at z)
              (try rw [show mI (ma_put S29 66 0 (.inl v30)) 64 1 = f 64 1 from zG_z hI263 rfl] at z)
              exact z
            refine sp_134_64_n ((16 : Int32)) ((1500 : Int32)) (by omega) (by omega) (zR_dn_zY0 hI_S31) (show (mI S31 64 2).toInt ≤ (mI S31 64 3).toInt from by omega) (fun v34 S33 hL_S33 hp_v34 rp0_S33 => zi_n ⟨zG_T hL_S33, ?_⟩)
            have hI_S33 := zR_up_zY0 hI_S31 hL_S33
            have rp0_S33 : v34.toInt = zNum (f 65) (mI S31 64 2).toInt (mI S31 64 3).toInt (16 : Int32).toInt (1500 : Int32).toInt := by
              have z := rp0_S33
              (try rw [show mI S31 65 = f 65 from funext (fun k => zG_z hI_S31 rfl)] at z)
              (try rw [show mI S31 64 1 = f 64 1 from zG_z hI_S31 rfl] at z)
              exact z
            have b268 := i_bd v34
            refine zd (fun h269 => ?_) (fun h269 => ?_)
            · skip
              have g270 := i_eq h269
              have hI271 : zR f r C Z N (ma_put S33 66 1 (.inl v34)) := zG_sa hI_S33 (-1) (1500) rfl (by decide) (by decide) (by decide) trivial (by omega) (by omega)
              have q272 : (mI S31 66 0).toInt = v30.toInt := zG_zi (f := mI (ma_put S29 66 0 (.inl v30))) hL_S31 rfl
              have f273 := zG_a hI_S31 4 (-1) (1500) (c := 66) (k := 0) (by decide) (by decide)
              have q274 : (mI S33 66 0).toInt = (mI S31 66 0).toInt := zG_zi (f := mI S31) hL_S33 rfl
              have f275 := zG_a hI_S33 4 (-1) (1500) (c := 66) (k := 0) (by decide) (by decide)
              have q276 : (mI S33 64 2).toInt = (mI S31 64 2).toInt := zG_zi (f := mI S31) hL_S33 rfl
              have f277 := zG_s hI_S33 (0) (100) (c := 64) (k := 2) (by decide)
              exact K ((-1 : Int32)) _ hI271 (show (-1 : Int32).toInt = -1 ∨ (0 ≤ (-1 : Int32).toInt ∧ (-1 : Int32).toInt ≤ 6 ∧ 0 ≤ (mI S33 66 0).toInt ∧ ((-1 : Int32).toInt = 3 → 0 ≤ v34.toInt) ∧ ((-1 : Int32).toInt = 6 → 16 ≤ v34.toInt)) from by omega) (show ((-1 : Int32).toInt = -1 ∧ -1 - (mI S33 64 2).toInt = zAns (f 65) (f 64 1).toInt) ∨ ((-1 : Int32).toInt ≠ -1 ∧ zFin (-1 : Int32).toInt (mI S33 66 0).toInt v34.toInt = zAns (f 65) (f 64 1).toInt) from by first | (have qk : v4.toInt = 3 := (by omega); have q := zAns_go (s := (mI S1 64 2)) (e := (mI S1 64 3).toInt) (k := v4.toInt) rp0_S1 rp1_S1 rp0_S3 (by omega); rw [show zPts v4.toInt = [0, 0, 1, 2] from by rw [qk]; rfl] at q; replace q := q.trans (zRun_ok0 (s := (mI S27 64 2)) (e := (mI S27 64 3).toInt) (x := v30.toInt) (p := (mI S1 64 3).toInt) rp0_S27 (by omega) rp1_S27 (show v30.toInt = zNum (f 65) (mI S27 64 2).toInt (mI S27 64 3).toInt 16 1500 from rp0_S29) (by omega)); have q2 := q.trans (zRun_badp (s := (mI S31 64 2)) (e := (mI S31 64 3).toInt) (x := v34.toInt) (p := (mI S27 64 3).toInt) rp0_S31 (by omega) rp1_S31 (show v34.toInt = zNum (f 65) (mI S31 64 2).toInt (mI S31 64 3).toInt 16 1500 from rp0_S33) (by omega)); exact Or.inl ⟨rfl, by omega⟩) | (omega) | (exfalso; omega))
            · skip
              have g278 := i_ne h269
              have hI279 : zR f r C Z N (ma_put S33 66 1 (.inl v34)) := zG_sa hI_S33 (-1) (1500) rfl (by decide) (by decide) (by decide) trivial (by omega) (by omega)
              have q280 : (mI S33 64 3).toInt = (mI S31 64 3).toInt := zG_zi (f := mI S31) hL_S33 rfl
              have f281 := zG_s hI_S33 (0) (100) (c := 64) (k := 3) (by decide)
              refine sp_129_64_n (p0 := ((mI S33 64 3).toInt)) (by omega) (by omega) (zR_dn_zY hI279) (show (mI S33 64 3).toInt = ((mI S33 64 3).toInt) from by omega) (fun v36 S35 hL_S35 hp_v36 rp0_S35 rp1_S35 rp2_S35 rp3_S35 => zi_n ⟨zG_T hL_S35, ?_⟩)
              have hI_S35 := zR_up_zY hI279 hL_S35
              have f282 := zG_s hI_S35 (0) (100) (c := 64) (k := 2) (by decide)
              have rp0_S35 : (mI S35 64 2).toInt = tk true (f 65) (f 64 1).toInt ((mI S33 64 3).toInt) := by
                have z := rp0_S35
                (try rw [show mI (ma_put S33 66 1 (.inl v34)) 65 = f 65 from funext (fun k => zG_z hI279 rfl)] at z)
                (try rw [show mI (ma_put S33 66 1 (.inl v34)) 64 1 = f 64 1 from zG_z hI279 rfl] at z)
                exact z
              have f283 := zG_s hI_S35 (0) (100) (c := 64) (k := 3) (by decide)
              have rp1_S35 : (mI S35 64 3).toInt = tk false (f 65) (f 64 1).toInt (mI S35 64 2).toInt := by
                have z := rp1_S35
                (try rw [show mI (ma_put S33 66 1 (.inl v34)) 65 = f 65 from funext (fun k => zG_z hI279 rfl)] at z)
                (try rw [show mI (ma_put S33 66 1 (.inl v34)) 64 1 = f 64 1 from zG_z hI279 rfl] at z)
                exact z
              have rp2_S35 : (v36.toInt = 1 ∧ (mI S35 64 2).toInt < (mI S35 64 3).toInt) ∨ (v36.toInt = 0 ∧ (mI S35 64 3).toInt ≤ (mI S35 64 2).toInt) := by
                have z := rp2_S35
                (try rw [show mI (ma_put S33 66 1 (.inl v34)) 65 = f 65 from funext (fun k => zG_z hI279 rfl)] at z)
                (try rw [show mI (ma_put S33 66 1 (.inl v34)) 64 1 = f 64 1 from zG_z hI279 rfl] at z)
                exact z
              have rp3_S35 : (mI S35 64 2).toInt ≤ (mI S35 64 3).toInt := by
                have z := rp3_S35
                (try rw [show mI (ma_put S33 66 1 (.inl v34)) 65 = f 65 from funext (fun k => zG_z hI279 rfl)] at z)
                (try rw [show mI (ma_put S33 66 1 (.inl v34)) 64 1 = f 64 1 from zG_z hI279 rfl] at z)
                exact z
              have li284 : (7 : Int32).toInt = 7 := rfl
              refine sp_134_64_n ((1 : Int32)) ((7 : Int32)) (by omega) (by omega) (zR_dn_zY0 hI_S35) (show (mI S35 64 2).toInt ≤ (mI S35 64 3).toInt from by omega) (fun v38 S37 hL_S37 hp_v38 rp0_S37 => zi_n ⟨zG_T hL_S37, ?_⟩)
              have hI_S37 := zR_up_zY0 hI_S35 hL_S37
              have rp0_S37 : v38.toInt = zNum (f 65) (mI S35 64 2).toInt (mI S35 64 3).toInt (1 : Int32).toInt (7 : Int32).toInt := by
                have z := rp0_S37
                (try rw [show mI S35 65 = f 65 from funext (fun k => zG_z hI_S35 rfl)] at z)
                (try rw [show mI S35 64 1 = f 64 1 from zG_z hI_S35 rfl] at z)
                exact z
              have b285 := i_bd v38
              refine zd (fun h286 => ?_) (fun h286 => ?_)
              · skip
                have g287 := i_eq h286
                have hI288 : zR f r C Z N (ma_put S37 66 2 (.inl v38)) := zG_sa hI_S37 (-1) (1500) rfl (by decide) (by decide) (by decide) trivial (by omega) (by omega)
                have q289 : (mI S31 66 0).toInt = v30.toInt := zG_zi (f := mI (ma_put S29 66 0 (.inl v30))) hL_S31 rfl
                have f290 := zG_a hI_S31 4 (-1) (1500) (c := 66) (k := 0) (by decide) (by decide)
                have q291 : (mI S33 66 0).toInt = (mI S31 66 0).toInt := zG_zi (f := mI S31) hL_S33 rfl
                have f292 := zG_a hI_S33 4 (-1) (1500) (c := 66) (k := 0) (by decide) (by decide)
                have q293 : (mI S35 66 0).toInt = (mI S33 66 0).toInt := zG_zi (f := mI (ma_put S33 66 1 (.inl v34))) hL_S35 rfl
                have f294 := zG_a hI_S35 4 (-1) (1500) (c := 66) (k := 0) (by decide) (by decide)
                have q295 : (mI S37 66 0).toInt = (mI S35 66 0).toInt := zG_zi (f := mI S35) hL_S37 rfl
                have f296 := zG_a hI_S37 4 (-1) (1500) (c := 66) (k := 0) (by decide) (by decide)
                have q297 : (mI S35 66 1).toInt = v34.toInt := zG_zi (f := mI (ma_put S33 66 1 (.inl v34))) hL_S35 rfl
                have f298 := zG_a hI_S35 4 (-1) (1500) (c := 66) (k := 1) (by decide) (by decide)
                have q299 : (mI S37 66 1).toInt = (mI S35 66 1).toInt := zG_zi (f := mI S35) hL_S37 rfl
                have f300 := zG_a hI_S37 4 (-1) (1500) (c := 66) (k := 1) (by decide) (by decide)
                have q301 : (mI S37 64 2).toInt = (mI S35 64 2).toInt := zG_zi (f := mI S35) hL_S37 rfl
                have f302 := zG_s hI_S37 (0) (100) (c := 64) (k := 2) (by decide)
                exact K ((-1 : Int32)) _ hI288 (show (-1 : Int32).toInt = -1 ∨ (0 ≤ (-1 : Int32).toInt ∧ (-1 : Int32).toInt ≤ 6 ∧ 0 ≤ (mI S37 66 0).toInt ∧ ((-1 : Int32).toInt = 3 → 0 ≤ (mI S37 66 1).toInt) ∧ ((-1 : Int32).toInt = 6 → 16 ≤ (mI S37 66 1).toInt)) from by omega) (show ((-1 : Int32).toInt = -1 ∧ -1 - (mI S37 64 2).toInt = zAns (f 65) (f 64 1).toInt) ∨ ((-1 : Int32).toInt ≠ -1 ∧ zFin (-1 : Int32).toInt (mI S37 66 0).toInt (mI S37 66 1).toInt = zAns (f 65) (f 64 1).toInt) from by first | (have qk : v4.toInt = 3 := (by omega); have q := zAns_go (s := (mI S1 64 2)) (e := (mI S1 64 3).toInt) (k := v4.toInt) rp0_S1 rp1_S1 rp0_S3 (by omega); rw [show zPts v4.toInt = [0, 0, 1, 2] from by rw [qk]; rfl] at q; replace q := q.trans (zRun_ok0 (s := (mI S27 64 2)) (e := (mI S27 64 3).toInt) (x := v30.toInt) (p := (mI S1 64 3).toInt) rp0_S27 (by omega) rp1_S27 (show v30.toInt = zNum (f 65) (mI S27 64 2).toInt (mI S27 64 3).toInt 16 1500 from rp0_S29) (by omega)); replace q := q.trans (zRun_ok1 (s := (mI S31 64 2)) (e := (mI S31 64 3).toInt) (x := v34.toInt) (p := (mI S27 64 3).toInt) rp0_S31 (by omega) rp1_S31 (show v34.toInt = zNum (f 65) (mI S31 64 2).toInt (mI S31 64 3).toInt 16 1500 from rp0_S33) (by omega) (by omega)); have q2 := q.trans (zRun_badp (s := (mI S35 64 2)) (e := (mI S35 64 3).toInt) (x := v38.toInt) (p := (mI S31 64 3).toInt) rp0_S35 (by omega) rp1_S35 (show v38.toInt = zNum (f 65) (mI S35 64 2).toInt (mI S35 64 3).toInt 1 7 from rp0_S37) (by omega)); exact Or.inl ⟨rfl, by omega⟩) | (omega) | (exfalso; omega))
              · skip
                have g303 := i_ne h286
                have hI304 : zR f r C Z N (ma_put S37 66 2 (.inl v38)) := zG_sa hI_S37 (-1) (1500) rfl (by decide) (by decide) (by decide) trivial (by omega) (by omega)
                have q305 : (mI S37 64 3).toInt = (mI S35 64 3).toInt := zG_zi (f := mI S35) hL_S37 rfl
                have f306 := zG_s hI_S37 (0) (100) (c := 64) (k := 3) (by decide)
                refine sp_129_64_n (p0 := ((mI S37 64 3).toInt)) (by omega) (by omega) (zR_dn_zY hI304) (show (mI S37 64 3).toInt = ((mI S37 64 3).toInt) from by omega) (fun v40 S39 hL_S39 hp_v40 rp0_S39 rp1_S39 rp2_S39 rp3_S39 => zi_n ⟨zG_T hL_S39, ?_⟩)
                have hI_S39 := zR_up_zY hI304 hL_S39
                have f307 := zG_s hI_S39 (0) (100) (c := 64) (k := 2) (by decide)
                have rp0_S39 : (mI S39 64 2).toInt = tk true (f 65) (f 64 1).toInt ((mI S37 64 3).toInt) := by
                  have z := rp0_S39
                  (try rw [show mI (ma_put S37 66 2 (.inl v38)) 65 = f 65 from funext (fun k => zG_z hI304 rfl)] at z)
                  (try rw [show mI (ma_put S37 66 2 (.inl v38)) 64 1 = f 64 1 from zG_z hI304 rfl] at z)
                  exact z
                have f308 := zG_s hI_S39 (0) (100) (c := 64) (k := 3) (by decide)
                have rp1_S39 : (mI S39 64 3).toInt = tk false (f 65) (f 64 1).toInt (mI S39 64 2).toInt := by
                  have z := rp1_S39
                  (try rw [show mI (ma_put S37 66 2 (.inl v38)) 65 = f 65 from funext (fun k => zG_z hI304 rfl)] at z)
                  (try rw [show mI (ma_put S37 66 2 (.inl v38)) 64 1 = f 64 1 from zG_z hI304 rfl] at z)
                  exact z
                have rp2_S39 : (v40.toInt = 1 ∧ (mI S39 64 2).toInt < (mI S39 64 3).toInt) ∨ (v40.toInt = 0 ∧ (mI S39 64 3).toInt ≤ (mI S39 64 2).toInt) := by
                  have z := rp2_S39
                  (try rw [show mI (ma_put S37 66 2 (.inl v38)) 65 = f 65 from funext (fun k => zG_z hI304 rfl)] at z)
                  (try rw [show mI (ma_put S37 66 2 (.inl v38)) 64 1 = f 64 1 from zG_z hI304 rfl] at z)
                  exact z
                have rp3_S39 : (mI S39 64 2).toInt ≤ (mI S39 64 3).toInt := by
                  have z := rp3_S39
                  (try rw [show mI (ma_put S37 66 2 (.inl v38)) 65 = f 65 from funext (fun k => zG_z hI304 rfl)] at z)
                  (try rw [show mI (ma_put S37 66 2 (.inl v38)) 64 1 = f 64 1 from zG_z hI304 rfl] at z)
                  exact z
                have li309 : (4 : Int32).toInt = 4 := rfl
                have li310 : (64 : Int32).toInt = 64 := rfl
                refine sp_134_64_n ((4 : Int32)) ((64 : Int32)) (by omega) (by omega) (zR_dn_zY0 hI_S39) (show (mI S39 64 2).toInt ≤ (mI S39 64 3).toInt from by omega) (fun v42 S41 hL_S41 hp_v42 rp0_S41 => zi_n ⟨zG_T hL_S41, ?_⟩)
                have hI_S41 := zR_up_zY0 hI_S39 hL_S41
                have rp0_S41 : v42.toInt = zNum (f 65) (mI S39 64 2).toInt (mI S39 64 3).toInt (4 : Int32).toInt (64 : Int32).toInt := by
                  have z := rp0_S41
                  (try rw [show mI S39 65 = f 65 from funext (fun k => zG_z hI_S39 rfl)] at z)
                  (try rw [show mI S39 64 1 = f 64 1 from zG_z hI_S39 rfl] at z)
                  exact z
                have b311 := i_bd v42
                refine zd (fun h312 => ?_) (fun h312 => ?_)
                · skip
                  have g313 := i_eq h312
                  have hI314 : zR f r C Z N (ma_put S41 66 3 (.inl v42)) := zG_sa hI_S41 (-1) (1500) rfl (by decide) (by decide) (by decide) trivial (by omega) (by omega)
                  have q315 : (mI S31 66 0).toInt = v30.toInt := zG_zi (f := mI (ma_put S29 66 0 (.inl v30))) hL_S31 rfl
                  have f316 := zG_a hI_S31 4 (-1) (1500) (c := 66) (k := 0) (by decide) (by decide)
                  have q317 : (mI S33 66 0).toInt = (mI S31 66 0).toInt := zG_zi (f := mI S31) hL_S33 rfl
                  have f318 := zG_a hI_S33 4 (-1) (1500) (c := 66) (k := 0) (by decide) (by decide)
                  have q319 : (mI S35 66 0).toInt = (mI S33 66 0).toInt := zG_zi (f := mI (ma_put S33 66 1 (.inl v34))) hL_S35 rfl
                  have f320 := zG_a hI_S35 4 (-1) (1500) (c := 66) (k := 0) (by decide) (by decide)
                  have q321 : (mI S37 66 0).toInt = (mI S35 66 0).toInt := zG_zi (f := mI S35) hL_S37 rfl
                  have f322 := zG_a hI_S37 4 (-1) (1500) (c := 66) (k := 0) (by decide) (by decide)
                  have q323 : (mI S39 66 0).toInt = (mI S37 66 0).toInt := zG_zi (f := mI (ma_put S37 66 2 (.inl v38))) hL_S39 rfl
                  have f324 := zG_a hI_S39 4 (-1) (1500) (c := 66) (k := 0) (by decide) (by decide)
                  have q325 : (mI S41 66 0).toInt = (mI S39 66 0).toInt := zG_zi (f := mI S39) hL_S41 rfl
                  have f326 := zG_a hI_S41 4 (-1) (1500) (c := 66) (k := 0) (by decide) (by decide)
                  have q327 : (mI S35 66 1).toInt = v34.toInt := zG_zi (f := mI (ma_put S33 66 1 (.inl v34))) hL_S35 rfl
                  have f328 := zG_a hI_S35 4 (-1) (1500) (c := 66) (k := 1) (by decide) (by decide)
                  have q329 : (mI S37 66 1).toInt = (mI S35 66 1).toInt := zG_zi (f := mI S35) hL_S37 rfl
                  have f330 := zG_a hI_S37 4 (-1) (1500) (c := 66) (k := 1) (by decide) (by decide)
                  have q331 : (mI S39 66 1).toInt = (mI S37 66 1).toInt := zG_zi (f := mI (ma_put S37 66 2 (.inl v38))) hL_S39 rfl
                  have f332 := zG_a hI_S39 4 (-1) (1500) (c := 66) (k := 1) (by decide) (by decide)
                  have q333 : (mI S41 66 1).toInt = (mI S39 66 1).toInt := zG_zi (f := mI S39) hL_S41 rfl
                  have f334 := zG_a hI_S41 4 (-1) (1500) (c := 66) (k := 1) (by decide) (by decide)
                  have q335 : (mI S41 64 2).toInt = (mI S39 64 2).toInt := zG_zi (f := mI S39) hL_S41 rfl
                  have f336 := zG_s hI_S41 (0) (100) (c := 64) (k := 2) (by decide)
                  exact K ((-1 : Int32)) _ hI314 (show (-1 : Int32).toInt = -1 ∨ (0 ≤ (-1 : Int32).toInt ∧ (-1 : Int32).toInt ≤ 6 ∧ 0 ≤ (mI S41 66 0).toInt ∧ ((-1 : Int32).toInt = 3 → 0 ≤ (mI S41 66 1).toInt) ∧ ((-1 : Int32).toInt = 6 → 16 ≤ (mI S41 66 1).toInt)) from by omega) (show ((-1 : Int32).toInt = -1 ∧ -1 - (mI S41 64 2).toInt = zAns (f 65) (f 64 1).toInt) ∨ ((-1 : Int32).toInt ≠ -1 ∧ zFin (-1 : Int32).toInt (mI S41 66 0).toInt (mI S41 66 1).toInt = zAns (f 65) (f 64 1).toInt) from by first | (have qk : v4.toInt = 3 := (by omega); have q := zAns_go (s := (mI S1 64 2)) (e := (mI S1 64 3).toInt) (k := v4.toInt) rp0_S1 rp1_S1 rp0_S3 (by omega); rw [show zPts v4.toInt = [0, 0, 1, 2] from by rw [qk]; rfl] at q; replace q := q.trans (zRun_ok0 (s := (mI S27 64 2)) (e := (mI S27 64 3).toInt) (x := v30.toInt) (p := (mI S1 64 3).toInt) rp0_S27 (by omega) rp1_S27 (show v30.toInt = zNum (f 65) (mI S27 64 2).toInt (mI S27 64 3).toInt 16 1500 from rp0_S29) (by omega)); replace q := q.trans (zRun_ok1 (s := (mI S31 64 2)) (e := (mI S31 64 3).toInt) (x := v34.toInt) (p := (mI S27 64 3).toInt) rp0_S31 (by omega) rp1_S31 (show v34.toInt = zNum (f 65) (mI S31 64 2).toInt (mI S31 64 3).toInt 16 1500 from rp0_S33) (by omega) (by omega)); replace q := q.trans (zRun_okn (s := (mI S35 64 2)) (e := (mI S35 64 3).toInt) (x := v38.toInt) (p := (mI S31 64 3).toInt) rp0_S35 (by omega) rp1_S35 (show v38.toInt = zNum (f 65) (mI S35 64 2).toInt (mI S35 64 3).toInt 1 7 from rp0_S37) (by omega) (by omega)); have q2 := q.trans (zRun_badp (s := (mI S39 64 2)) (e := (mI S39 64 3).toInt) (x := v42.toInt) (p := (mI S35 64 3).toInt) rp0_S39 (by omega) rp1_S39 (show v42.toInt = zNum (f 65) (mI S39 64 2).toInt (mI S39 64 3).toInt 4 64 from rp0_S41) (by omega)); exact Or.inl ⟨rfl, by omega⟩) | (omega) | (exfalso; omega))
                · skip
                  have g337 := i_ne h312
                  refine zd (fun h338 => ?_) (fun h338 => ?_)
                  · skip
                    have g339 := i_eq h338
                    have hI340 : zR f r C Z N (ma_put S41 66 3 (.inl v42)) := zG_sa hI_S41 (-1) (1500) rfl (by decide) (by decide) (by decide) trivial (by omega) (by omega)
                    have q341 : (mI S31 66 0).toInt = v30.toInt := zG_zi (f := mI (ma_put S29 66 0 (.inl v30))) hL_S31 rfl
                    have f342 := zG_a hI_S31 4 (-1) (1500) (c := 66) (k := 0) (by decide) (by decide)
                    have q343 : (mI S33 66 0).toInt = (mI S31 66 0).toInt := zG_zi (f := mI S31) hL_S33 rfl
                    have f344 := zG_a hI_S33 4 (-1) (1500) (c := 66) (k := 0) (by decide) (by decide)
                    have q345 : (mI S35 66 0).toInt = (mI S33 66 0).toInt := zG_zi (f := mI (ma_put S33 66 1 (.inl v34))) hL_S35 rfl
                    have f346 := zG_a hI_S35 4 (-1) (1500) (c := 66) (k := 0) (by decide) (by decide)
                    have q347 : (mI S37 66 0).toInt = (mI S35 66 0).toInt := zG_zi (f := mI S35) hL_S37 rfl
                    have f348 := zG_a hI_S37 4 (-1) (1500) (c := 66) (k := 0) (by decide) (by decide)
                    have q349 : (mI S39 66 0).toInt = (mI S37 66 0).toInt := zG_zi (f := mI (ma_put S37 66 2 (.inl v38))) hL_S39 rfl
                    have f350 := zG_a hI_S39 4 (-1) (1500) (c := 66) (k := 0) (by decide) (by decide)
                    have q351 : (mI S41 66 0).toInt = (mI S39 66 0).toInt := zG_zi (f := mI S39) hL_S41 rfl
                    have f352 := zG_a hI_S41 4 (-1) (1500) (c := 66) (k := 0) (by decide) (by decide)
                    have q353 : (mI S35 66 1).toInt = v34.toInt := zG_zi (f := mI (ma_put S33 66 1 (.inl v34))) hL_S35 rfl
                    have f354 := zG_a hI_S35 4 (-1) (1500) (c := 66) (k := 1) (by decide) (by decide)
                    have q355 : (mI S37 66 1).toInt = (mI S35 66 1).toInt := zG_zi (f := mI S35) hL_S37 rfl
                    have f356 := zG_a hI_S37 4 (-1) (1500) (c := 66) (k := 1) (by decide) (by decide)
                    have q357 : (mI S39 66 1).toInt = (mI S37 66 1).toInt := zG_zi (f := mI (ma_put S37 66 2 (.inl v38))) hL_S39 rfl
                    have f358 := zG_a hI_S39 4 (-1) (1500) (c := 66) (k := 1) (by decide) (by decide)
                    have q359 : (mI S41 66 1).toInt = (mI S39 66 1).toInt := zG_zi (f := mI S39) hL_S41 rfl
                    have f360 := zG_a hI_S41 4 (-1) (1500) (c := 66) (k := 1) (by decide) (by decide)
                    have q361 : (mI S41 64 2).toInt = (mI S39 64 2).toInt := zG_zi (f := mI S39) hL_S41 rfl
                    have f362 := zG_s hI_S41 (0) (100) (c := 64) (k := 2) (by decide)
                    exact K ((-1 : Int32)) _ hI340 (show (-1 : Int32).toInt = -1 ∨ (0 ≤ (-1 : Int32).toInt ∧ (-1 : Int32).toInt ≤ 6 ∧ 0 ≤ (mI S41 66 0).toInt ∧ ((-1 : Int32).toInt = 3 → 0 ≤ (mI S41 66 1).toInt) ∧ ((-1 : Int32).toInt = 6 → 16 ≤ (mI S41 66 1).toInt)) from by omega) (show ((-1 : Int32).toInt = -1 ∧ -1 - (mI S41 64 2).toInt = zAns (f 65) (f 64 1).toInt) ∨ ((-1 : Int32).toInt ≠ -1 ∧ zFin (-1 : Int32).toInt (mI S41 66 0).toInt (mI S41 66 1).toInt = zAns (f 65) (f 64 1).toInt) from by first | (have qk : v4.toInt = 3 := (by omega); have q := zAns_go (s := (mI S1 64 2)) (e := (mI S1 64 3).toInt) (k := v4.toInt) rp0_S1 rp1_S1 rp0_S3 (by omega); rw [show zPts v4.toInt = [0, 0, 1, 2] from by rw [qk]; rfl] at q; replace q := q.trans (zRun_ok0 (s := (mI S27 64 2)) (e := (mI S27 64 3).toInt) (x := v30.toInt) (p := (mI S1 64 3).toInt) rp0_S27 (by omega) rp1_S27 (show v30.toInt = zNum (f 65) (mI S27 64 2).toInt (mI S27 64 3).toInt 16 1500 from rp0_S29) (by omega)); replace q := q.trans (zRun_ok1 (s := (mI S31 64 2)) (e := (mI S31 64 3).toInt) (x := v34.toInt) (p := (mI S27 64 3).toInt) rp0_S31 (by omega) rp1_S31 (show v34.toInt = zNum (f 65) (mI S31 64 2).toInt (mI S31 64 3).toInt 16 1500 from rp0_S33) (by omega) (by omega)); replace q := q.trans (zRun_okn (s := (mI S35 64 2)) (e := (mI S35 64 3).toInt) (x := v38.toInt) (p := (mI S31 64 3).toInt) rp0_S35 (by omega) rp1_S35 (show v38.toInt = zNum (f 65) (mI S35 64 2).toInt (mI S35 64 3).toInt 1 7 from rp0_S37) (by omega) (by omega)); have q2 := q.trans (zRun_badp (s := (mI S39 64 2)) (e := (mI S39 64 3).toInt) (x := v42.toInt) (p := (mI S35 64 3).toInt) rp0_S39 (by omega) rp1_S39 (show v42.toInt = zNum (f 65) (mI S39 64 2).toInt (mI S39 64 3).toInt 4 64 from rp0_S41) (by omega)); exact Or.inl ⟨rfl, by omega⟩) | (omega) | (exfalso; omega))
                  · skip
                    have g363 := i_ne h338
                    have hI364 : zR f r C Z N (ma_put S41 66 3 (.inl v42)) := zG_sa hI_S41 (-1) (1500) rfl (by decide) (by decide) (by decide) trivial (by omega) (by omega)
                    have q365 : (mI S41 64 3).toInt = (mI S39 64 3).toInt := zG_zi (f := mI S39) hL_S41 rfl
                    have f366 := zG_s hI_S41 (0) (100) (c := 64) (k := 3) (by decide)
                    refine sp_129_64_n (p0 := ((mI S41 64 3).toInt)) (by omega) (by omega) (zR_dn_zY hI364) (show (mI S41 64 3).toInt = ((mI S41 64 3).toInt) from by omega) (fun v44 S43 hL_S43 hp_v44 rp0_S43 rp1_S43 rp2_S43 rp3_S43 => zi_n ⟨zG_T hL_S43, ?_⟩)
                    have hI_S43 := zR_up_zY hI364 hL_S43
                    have f367 := zG_s hI_S43 (0) (100) (c := 64) (k := 2) (by decide)
                    have rp0_S43 : (mI S43 64 2).toInt = tk true (f 65) (f 64 1).toInt ((mI S41 64 3).toInt) := by
                      have z := rp0_S43
                      (try rw [show mI (ma_put S41 66 3 (.inl v42)) 65 = f 65 from funext (fun k => zG_z hI364 rfl)] at z)
                      (try rw [show mI (ma_put S41 66 3 (.inl v42)) 64 1 = f 64 1 from zG_z hI364 rfl] at z)
                      exact z
                    have f368 := zG_s hI_S43 (0) (100) (c := 64) (k := 3) (by decide)
                    have rp1_S43 : (mI S43 64 3).toInt = tk false (f 65) (f 64 1).toInt (mI S43 64 2).toInt := by
                      have z := rp1_S43
                      (try rw [show mI (ma_put S41 66 3 (.inl v42)) 65 = f 65 from funext (fun k => zG_z hI364 rfl)] at z)
                      (try rw [show mI (ma_put S41 66 3 (.inl v42)) 64 1 = f 64 1 from zG_z hI364 rfl] at z)
                      exact z
                    have rp2_S43 : (v44.toInt = 1 ∧ (mI S43 64 2).toInt < (mI S43 64 3).toInt) ∨ (v44.toInt = 0 ∧ (mI S43 64 3).toInt ≤ (mI S43 64 2).toInt) := by
                      have z := rp2_S43
                      (try rw [show mI (ma_put S41 66 3 (.inl v42)) 65 = f 65 from funext (fun k => zG_z hI364 rfl)] at z)
                      (try rw [show mI (ma_put S41 66 3 (.inl v42)) 64 1 = f 64 1 from zG_z hI364 rfl] at z)
                      exact z
                    have rp3_S43 : (mI S43 64 2).toInt ≤ (mI S43 64 3).toInt := by
                      have z := rp3_S43
                      (try rw [show mI (ma_put S41 66 3 (.inl v42)) 65 = f 65 from funext (fun k => zG_z hI364 rfl)] at z)
                      (try rw [show mI (ma_put S41 66 3 (.inl v42)) 64 1 = f 64 1 from zG_z hI364 rfl] at z)
                      exact z
                    have b369 := i_bd v44
                    refine zd (fun h370 => ?_) (fun h370 => ?_)
                    · skip
                      have g371 := i_eq h370
                      have q372 : (mI S31 66 0).toInt = v30.toInt := zG_zi (f := mI (ma_put S29 66 0 (.inl v30))) hL_S31 rfl
                      have f373 := zG_a hI_S31 4 (-1) (1500) (c := 66) (k := 0) (by decide) (by decide)
                      have q374 : (mI S33 66 0).toInt = (mI S31 66 0).toInt := zG_zi (f := mI S31) hL_S33 rfl
                      have f375 := zG_a hI_S33 4 (-1) (1500) (c := 66) (k := 0) (by decide) (by decide)
                      have q376 : (mI S35 66 0).toInt = (mI S33 66 0).toInt := zG_zi (f := mI (ma_put S33 66 1 (.inl v34))) hL_S35 rfl
                      have f377 := zG_a hI_S35 4 (-1) (1500) (c := 66) (k := 0) (by decide) (by decide)
                      have q378 : (mI S37 66 0).toInt = (mI S35 66 0).toInt := zG_zi (f := mI S35) hL_S37 rfl
                      have f379 := zG_a hI_S37 4 (-1) (1500) (c := 66) (k := 0) (by decide) (by decide)
                      have q380 : (mI S39 66 0).toInt = (mI S37 66 0).toInt := zG_zi (f := mI (ma_put S37 66 2 (.inl v38))) hL_S39 rfl
                      have f381 := zG_a hI_S39 4 (-1) (1500) (c := 66) (k := 0) (by decide) (by decide)
                      have q382 : (mI S41 66 0).toInt = (mI S39 66 0).toInt := zG_zi (f := mI S39) hL_S41 rfl
                      have f383 := zG_a hI_S41 4 (-1) (1500) (c := 66) (k := 0) (by decide) (by decide)
                      have q384 : (mI S43 66 0).toInt = (mI S41 66 0).toInt := zG_zi (f := mI (ma_put S41 66 3 (.inl v42))) hL_S43 rfl
                      have f385 := zG_a hI_S43 4 (-1) (1500) (c := 66) (k := 0) (by decide) (by decide)
                      have q386 : (mI S35 66 1).toInt = v34.toInt := zG_zi (f := mI (ma_put S33 66 1 (.inl v34))) hL_S35 rfl
                      have f387 := zG_a hI_S35 4 (-1) (1500) (c := 66) (k := 1) (by decide) (by decide)
                      have q388 : (mI S37 66 1).toInt = (mI S35 66 1).toInt := zG_zi (f := mI S35) hL_S37 rfl
                      have f389 := zG_a hI_S37 4 (-1) (1500) (c := 66) (k := 1) (by decide) (by decide)
                      have q390 : (mI S39 66 1).toInt = (mI S37 66 1).toInt := zG_zi (f := mI (ma_put S37 66 2 (.inl v38))) hL_S39 rfl
                      have f391 := zG_a hI_S39 4 (-1) (1500) (c := 66) (k := 1) (by decide) (by decide)
                      have q392 : (mI S41 66 1).toInt = (mI S39 66 1).toInt := zG_zi (f := mI S39) hL_S41 rfl
                      have f393 := zG_a hI_S41 4 (-1) (1500) (c := 66) (k := 1) (by decide) (by decide)
                      have q394 : (mI S43 66 1).toInt = (mI S41 66 1).toInt := zG_zi (f := mI (ma_put S41 66 3 (.inl v42))) hL_S43 rfl
                      have f395 := zG_a hI_S43 4 (-1) (1500) (c := 66) (k := 1) (by decide) (by decide)
                      exact K (v4) _ hI_S43 (show v4.toInt = -1 ∨ (0 ≤ v4.toInt ∧ v4.toInt ≤ 6 ∧ 0 ≤ (mI S43 66 0).toInt ∧ (v4.toInt = 3 → 0 ≤ (mI S43 66 1).toInt) ∧ (v4.toInt = 6 → 16 ≤ (mI S43 66 1).toInt)) from by omega) (show (v4.toInt = -1 ∧ -1 - (mI S43 64 2).toInt = zAns (f 65) (f 64 1).toInt) ∨ (v4.toInt ≠ -1 ∧ zFin v4.toInt (mI S43 66 0).toInt (mI S43 66 1).toInt = zAns (f 65) (f 64 1).toInt) from by first | (have qk : v4.toInt = 3 := (by omega); have q := zAns_go (s := (mI S1 64 2)) (e := (mI S1 64 3).toInt) (k := v4.toInt) rp0_S1 rp1_S1 rp0_S3 (by omega); rw [show zPts v4.toInt = [0, 0, 1, 2] from by rw [qk]; rfl] at q; replace q := q.trans (zRun_ok0 (s := (mI S27 64 2)) (e := (mI S27 64 3).toInt) (x := v30.toInt) (p := (mI S1 64 3).toInt) rp0_S27 (by omega) rp1_S27 (show v30.toInt = zNum (f 65) (mI S27 64 2).toInt (mI S27 64 3).toInt 16 1500 from rp0_S29) (by omega)); replace q := q.trans (zRun_ok1 (s := (mI S31 64 2)) (e := (mI S31 64 3).toInt) (x := v34.toInt) (p := (mI S27 64 3).toInt) rp0_S31 (by omega) rp1_S31 (show v34.toInt = zNum (f 65) (mI S31 64 2).toInt (mI S31 64 3).toInt 16 1500 from rp0_S33) (by omega) (by omega)); replace q := q.trans (zRun_okn (s := (mI S35 64 2)) (e := (mI S35 64 3).toInt) (x := v38.toInt) (p := (mI S31 64 3).toInt) rp0_S35 (by omega) rp1_S35 (show v38.toInt = zNum (f 65) (mI S35 64 2).toInt (mI S35 64 3).toInt 1 7 from rp0_S37) (by omega) (by omega)); replace q := q.trans (zRun_okn (s := (mI S39 64 2)) (e := (mI S39 64 3).toInt) (x := v42.toInt) (p := (mI S35 64 3).toInt) rp0_S39 (by omega) rp1_S39 (show v42.toInt = zNum (f 65) (mI S39 64 2).toInt (mI S39 64 3).toInt 4 64 from rp0_S41) (by omega) (by omega)); have q2 := q.trans (zEnd_okp (s := (mI S43 64 2)) (e := (mI S43 64 3).toInt) (p := (mI S39 64 3).toInt) rp0_S43 (by omega) rp1_S43 (by omega)); exact Or.inr ⟨by omega, (zFin_eq (by omega) (by omega)).trans q2.symm⟩) | (omega) | (exfalso; omega))
                    · skip
                      have g396 := i_ne h370
                      have q397 : (mI S31 66 0).toInt = v30.toInt := zG_zi (f := mI (ma_put S29 66 0 (.inl v30))) hL_S31 rfl
                      have f398 := zG_a hI_S31 4 (-1) (1500) (c := 66) (k := 0) (by decide) (by decide)
                      have q399 : (mI S33 66 0).toInt = (mI S31 66 0).toInt := zG_zi (f := mI S31) hL_S33 rfl
                      have f400 := zG_a hI_S33 4 (-1) (1500) (c := 66) (k := 0) (by decide) (by decide)
                      have q401 : (mI S35 66 0).toInt = (mI S33 66 0).toInt := zG_zi (f := mI (ma_put S33 66 1 (.inl v34))) hL_S35 rfl
                      have f402 := zG_a hI_S35 4 (-1) (1500) (c := 66) (k := 0) (by decide) (by decide)
                      have q403 : (mI S37 66 0).toInt = (mI S35 66 0).toInt := zG_zi (f := mI S35) hL_S37 rfl
                      have f404 := zG_a hI_S37 4 (-1) (1500) (c := 66) (k := 0) (by decide) (by decide)
                      have q405 : (mI S39 66 0).toInt = (mI S37 66 0).toInt := zG_zi (f := mI (ma_put S37 66 2 (.inl v38))) hL_S39 rfl
                      have f406 := zG_a hI_S39 4 (-1) (1500) (c := 66) (k := 0) (by decide) (by decide)
                      have q407 : (mI S41 66 0).toInt = (mI S39 66 0).toInt := zG_zi (f := mI S39) hL_S41 rfl
                      have f408 := zG_a hI_S41 4 (-1) (1500) (c := 66) (k := 0) (by decide) (by decide)
                      have q409 : (mI S43 66 0).toInt = (mI S41 66 0).toInt := zG_zi (f := mI (ma_put S41 66 3 (.inl v42))) hL_S43 rfl
                      have f410 := zG_a hI_S43 4 (-1) (1500) (c := 66) (k := 0) (by decide) (by decide)
                      have q411 : (mI S35 66 1).toInt = v34.toInt := zG_zi (f := mI (ma_put S33 66 1 (.inl v34))) hL_S35 rfl
                      have f412 := zG_a hI_S35 4 (-1) (1500) (c := 66) (k := 1) (by decide) (by decide)
                      have q413 : (mI S37 66 1).toInt = (mI S35 66 1).toInt := zG_zi (f := mI S35) hL_S37 rfl
                      have f414 := zG_a hI_S37 4 (-1) (1500) (c := 66) (k := 1) (by decide) (by decide)
                      have q415 : (mI S39 66 1).toInt = (mI S37 66 1).toInt := zG_zi (f := mI (ma_put S37 66 2 (.inl v38))) hL_S39 rfl
                      have f416 := zG_a hI_S39 4 (-1) (1500) (c := 66) (k := 1) (by decide) (by decide)
                      have q417 : (mI S41 66 1).toInt = (mI S39 66 1).toInt := zG_zi (f := mI S39) hL_S41 rfl
                      have f418 := zG_a hI_S41 4 (-1) (1500) (c := 66) (k := 1) (by decide) (by decide)
                      have q419 : (mI S43 66 1).toInt = (mI S41 66 1).toInt := zG_zi (f := mI (ma_put S41 66 3 (.inl v42))) hL_S43 rfl
                      have f420 := zG_a hI_S43 4 (-1) (1500) (c := 66) (k := 1) (by decide) (by decide)
                      exact K ((-1 : Int32)) _ hI_S43 (show (-1 : Int32).toInt = -1 ∨ (0 ≤ (-1 : Int32).toInt ∧ (-1 : Int32).toInt ≤ 6 ∧ 0 ≤ (mI S43 66 0).toInt ∧ ((-1 : Int32).toInt = 3 → 0 ≤ (mI S43 66 1).toInt) ∧ ((-1 : Int32).toInt = 6 → 16 ≤ (mI S43 66 1).toInt)) from by omega) (show ((-1 : Int32).toInt = -1 ∧ -1 - (mI S43 64 2).toInt = zAns (f 65) (f 64 1).toInt) ∨ ((-1 : Int32).toInt ≠ -1 ∧ zFin (-1 : Int32).toInt (mI S43 66 0).toInt (mI S43 66 1).toInt = zAns (f 65) (f 64 1).toInt) from by first | (have qk : v4.toInt = 3 := (by omega); have q := zAns_go (s := (mI S1 64 2)) (e := (mI S1 64 3).toInt) (k := v4.toInt) rp0_S1 rp1_S1 rp0_S3 (by omega); rw [show zPts v4.toInt = [0, 0, 1, 2] from by rw [qk]; rfl] at q; replace q := q.trans (zRun_ok0 (s := (mI S27 64 2)) (e := (mI S27 64 3).toInt) (x := v30.toInt) (p := (mI S1 64 3).toInt) rp0_S27 (by omega) rp1_S27 (show v30.toInt = zNum (f 65) (mI S27 64 2).toInt (mI S27 64 3).toInt 16 1500 from rp0_S29) (by omega)); replace q := q.trans (zRun_ok1 (s := (mI S31 64 2)) (e := (mI S31 64 3).toInt) (x := v34.toInt) (p := (mI S27 64 3).toInt) rp0_S31 (by omega) rp1_S31 (show v34.toInt = zNum (f 65) (mI S31 64 2).toInt (mI S31 64 3).toInt 16 1500 from rp0_S33) (by omega) (by omega)); replace q := q.trans (zRun_okn (s := (mI S35 64 2)) (e := (mI S35 64 3).toInt) (x := v38.toInt) (p := (mI S31 64 3).toInt) rp0_S35 (by omega) rp1_S35 (show v38.toInt = zNum (f 65) (mI S35 64 2).toInt (mI S35 64 3).toInt 1 7 from rp0_S37) (by omega) (by omega)); replace q := q.trans (zRun_okn (s := (mI S39 64 2)) (e := (mI S39 64 3).toInt) (x := v42.toInt) (p := (mI S35 64 3).toInt) rp0_S39 (by omega) rp1_S39 (show v42.toInt = zNum (f 65) (mI S39 64 2).toInt (mI S39 64 3).toInt 4 64 from rp0_S41) (by omega) (by omega)); have q2 := q.trans (zEnd_badp (s := (mI S43 64 2)) (e := (mI S43 64 3).toInt) (p := (mI S39 64 3).toInt) rp0_S43 (by omega) rp1_S43 (by omega)); exact Or.inl ⟨rfl, by omega⟩) | (omega) | (exfalso; omega))
        · skip
          have g421 := i_ne h238
          have li422 : (4 : Int32).toInt = 4 := rfl
          refine zd (fun h423 => ?_) (fun h423 => ?_)
          · skip
            have g424 := i_eq h423
            have q425 : (mI S3 64 3).toInt = (mI S1 64 3).toInt := zG_zi (f := mI S1) hL_S3 rfl
            have f426 := zG_s hI_S3 (0) (100) (c := 64) (k := 3) (by decide)
            refine sp_129_64_n (p0 := ((mI S3 64 3).toInt)) (by omega) (by omega) (zR_dn_zY hI_S3) (show (mI S3 64 3).toInt = ((mI S3 64 3).toInt) from by omega) (fun v46 S45 hL_S45 hp_v46 rp0_S45 rp1_S45 rp2_S45 rp3_S45 => zi_n ⟨zG_T hL_S45, ?_⟩)
            have hI_S45 := zR_up_zY hI_S3 hL_S45
            have f427 := zG_s hI_S45 (0) (100) (c := 64) (k := 2) (by decide)
            have rp0_S45 : (mI S45 64 2).toInt = tk true (f 65) (f 64 1).toInt ((mI S3 64 3).toInt) := by
              have z := rp0_S45
              (try rw [show mI S3 65 = f 65 from funext (fun k => zG_z hI_S3 rfl)] at z)
              (try rw [show mI S3 64 1 = f 64 1 from zG_z hI_S3 rfl] at z)
              exact z
            have f428 := zG_s hI_S45 (0) (100) (c := 64) (k := 3) (by decide)
            have rp1_S45 : (mI S45 64 3).toInt = tk false (f 65) (f 64 1).toInt (mI S45 64 2).toInt := by
              have z := rp1_S45
              (try rw [show mI S3 65 = f 65 from funext (fun k => zG_z hI_S3 rfl)] at z)
              (try rw [show mI S3 64 1 = f 64 1 from zG_z hI_S3 rfl] at z)
              exact z
            have rp2_S45 : (v46.toInt = 1 ∧ (mI S45 64 2).toInt < (mI S45 64 3).toInt) ∨ (v46.toInt = 0 ∧ (mI S45 64 3).toInt ≤ (mI S45 64 2).toInt) := by
              have z := rp2_S45
              (try rw [show mI S3 65 = f 65 from funext (fun k => zG_z hI_S3 rfl)] at z)
              (try rw [show mI S3 64 1 = f 64 1 from zG_z hI_S3 rfl] at z)
              exact z
            have rp3_S45 : (mI S45 64 2).toInt ≤ (mI S45 64 3).toInt := by
              have z := rp3_S45
              (try rw [show mI S3 65 = f 65 from funext (fun k => zG_z hI_S3 rfl)] at z)
              (try rw [show mI S3 64 1 = f 64 1 from zG_z hI_S3 rfl] at z)
              exact z
            have li429 : (16 : Int32).toInt = 16 := rfl
            have li430 : (1500 : Int32).toInt = 1500 := rfl
            refine sp_134_64_n ((16 : Int32)) ((1500 : Int32)) (by omega) (by omega) (zR_dn_zY0 hI_S45) (show (mI S45 64 2).toInt ≤ (mI S45 64 3).toInt from by omega) (fun v48 S47 hL_S47 hp_v48 rp0_S47 => zi_n ⟨zG_T hL_S47, ?_⟩)
            have hI_S47 := zR_up_zY0 hI_S45 hL_S47
            have rp0_S47 : v48.toInt = zNum (f 65) (mI S45 64 2).toInt (mI S45 64 3).toInt (16 : Int32).toInt (1500 : Int32).toInt := by
              have z := rp0_S47
              (try rw [show mI S45 65 = f 65 from funext (fun k => zG_z hI_S45 rfl)] at z)
              (try rw [show mI S45 64 1 = f 64 1 from zG_z hI_S45 rfl] at z)
              exact z
            have b431 := i_bd v48
            have li432 : (-1 : Int32).toInt = -1 := rfl
            refine zd (fun h433 => ?_) (fun h433 => ?_)
            · skip
              have g434 := i_eq h433
              have hI435 : zR f r C Z N (ma_put S47 66 0 (.inl v48)) := zG_sa hI_S47 (-1) (1500) rfl (by decide) (by decide) (by decide) trivial (by omega) (by omega)
              have f436 := zG_a hI 4 (-1) (1500) (c := 66) (k := 1) (by decide) (by decide)
              have q437 : (mI S1 66 1).toInt = (mI S 66 1).toInt := zG_zi (f := mI (ma_put S 64 3 (.inl (0 : Int32)))) hL_S1 rfl
              have f438 := zG_a hI_S1 4 (-1) (1500) (c := 66) (k := 1) (by decide) (by decide)
              have q439 : (mI S3 66 1).toInt = (mI S1 66 1).toInt := zG_zi (f := mI S1) hL_S3 rfl
              have f440 := zG_a hI_S3 4 (-1) (1500) (c := 66) (k := 1) (by decide) (by decide)
              have q441 : (mI S45 66 1).toInt = (mI S3 66 1).toInt := zG_zi (f := mI S3) hL_S45 rfl
              have f442 := zG_a hI_S45 4 (-1) (1500) (c := 66) (k := 1) (by decide) (by decide)
              have q443 : (mI S47 66 1).toInt = (mI S45 66 1).toInt := zG_zi (f := mI S45) hL_S47 rfl
              have f444 := zG_a hI_S47 4 (-1) (1500) (c := 66) (k := 1) (by decide) (by decide)
              have q445 : (mI S47 64 2).toInt = (mI S45 64 2).toInt := zG_zi (f := mI S45) hL_S47 rfl
              have f446 := zG_s hI_S47 (0) (100) (c := 64) (k := 2) (by decide)
              exact K ((-1 : Int32)) _ hI435 (show (-1 : Int32).toInt = -1 ∨ (0 ≤ (-1 : Int32).toInt ∧ (-1 : Int32).toInt ≤ 6 ∧ 0 ≤ v48.toInt ∧ ((-1 : Int32).toInt = 3 → 0 ≤ (mI S47 66 1).toInt) ∧ ((-1 : Int32).toInt = 6 → 16 ≤ (mI S47 66 1).toInt)) from by omega) (show ((-1 : Int32).toInt = -1 ∧ -1 - (mI S47 64 2).toInt = zAns (f 65) (f 64 1).toInt) ∨ ((-1 : Int32).toInt ≠ -1 ∧ zFin (-1 : Int32).toInt v48.toInt (mI S47 66 1).toInt = zAns (f 65) (f 64 1).toInt) from by first | (have qk : v4.toInt = 4 := (by omega); have q := zAns_go (s := (mI S1 64 2)) (e := (mI S1 64 3).toInt) (k := v4.toInt) rp0_S1 rp1_S1 rp0_S3 (by omega); rw [show zPts v4.toInt = [0, 6] from by rw [qk]; rfl] at q; have q2 := q.trans (zRun_badp (s := (mI S45 64 2)) (e := (mI S45 64 3).toInt) (x := v48.toInt) (p := (mI S1 64 3).toInt) rp0_S45 (by omega) rp1_S45 (show v48.toInt = zNum (f 65) (mI S45 64 2).toInt (mI S45 64 3).toInt 16 1500 from rp0_S47) (by omega)); exact Or.inl ⟨rfl, by omega⟩) | (omega) | (exfalso; omega))
            · skip
              have g447 := i_ne h433
              have hI448 : zR f r C Z N (ma_put S47 66 0 (.inl v48)) := zG_sa hI_S47 (-1) (1500) rfl (by decide) (by decide) (by decide) trivial (by omega) (by omega)
              have q449 : (mI S47 64 3).toInt = (mI S45 64 3).toInt := zG_zi (f := mI S45) hL_S47 rfl
              have f450 := zG_s hI_S47 (0) (100) (c := 64) (k := 3) (by decide)
              refine sp_129_64_n (p0 := ((mI S47 64 3).toInt)) (by omega) (by omega) (zR_dn_zY hI448) (show (mI S47 64 3).toInt = ((mI S47 64 3).toInt) from by omega) (fun v50 S49 hL_S49 hp_v50 rp0_S49 rp1_S49 rp2_S49 rp3_S49 => zi_n ⟨zG_T hL_S49, ?_⟩)
              have hI_S49 := zR_up_zY hI448 hL_S49
              have f451 := zG_s hI_S49 (0) (100) (c := 64) (k := 2) (by decide)
              have rp0_S49 : (mI S49 64 2).toInt = tk true (f 65) (f 64 1).toInt ((mI S47 64 3).toInt) := by
                have z := rp0_S49
                (try rw [show mI (ma_put S47 66 0 (.inl v48)) 65 = f 65 from funext (fun k => zG_z hI448 rfl)] at z)
                (try rw [show mI (ma_put S47 66 0 (.inl v48)) 64 1 = f 64 1 from zG_z hI448 rfl] at z)
                exact z
              have f452 := zG_s hI_S49 (0) (100) (c := 64) (k := 3) (by decide)
              have rp1_S49 : (mI S49 64 3).toInt = tk false (f 65) (f 64 1).toInt (mI S49 64 2).toInt := by
                have z := rp1_S49
                (try rw [show mI (ma_put S47 66 0 (.inl v48)) 65 = f 65 from funext (fun k => zG_z hI448 rfl)] at z)
                (try rw [show mI (ma_put S47 66 0 (.inl v48)) 64 1 = f 64 1 from zG_z hI448 rfl] at z)
                exact z
              have rp2_S49 : (v50.toInt = 1 ∧ (mI S49 64 2).toInt < (mI S49 64 3).toInt) ∨ (v50.toInt = 0 ∧ (mI S49 64 3).toInt ≤ (mI S49 64 2).toInt) := by
                have z := rp2_S49
                (try rw [show mI (ma_put S47 66 0 (.inl v48)) 65 = f 65 from funext (fun k => zG_z hI448 rfl)] at z)
                (try rw [show mI (ma_put S47 66 0 (.inl v48)) 64 1 = f 64 1 from zG_z hI448 rfl] at z)
                exact z
              have rp3_S49 : (mI S49 64 2).toInt ≤ (mI S49 64 3).toInt := by
                have z := rp3_S49
                (try rw [show mI (ma_put S47 66 0 (.inl v48)) 65 = f 65 from funext (fun k => zG_z hI448 rfl)] at z)
                (try rw [show mI (ma_put S47 66 0 (.inl v48)) 64 1 = f 64 1 from zG_z hI448 rfl] at z)
                exact z
              refine sp_135_64_n  (by omega) (by omega) (zR_dn_zY0 hI_S49)  (fun v52 S51 hL_S51 hp_v52 rp0_S51 => zi_n ⟨zG_T hL_S51, ?_⟩)
              have hI_S51 := zR_up_zY0 hI_S49 hL_S51
              have rp0_S51 : v52.toInt = zForm (f 65) (mI S49 64 2) ((mI S49 64 3).toInt - (mI S49 64 2).toInt) := by
                have z := rp0_S51
                (try rw [show mI S49 65 = f 65 from funext (fun k => zG_z hI_S49 rfl)] at z)
                (try rw [show mI S49 64 1 = f 64 1 from zG_z hI_S49 rfl] at z)
                exact z
              have b453 := i_bd v52
              refine zd (fun h454 => ?_) (fun h454 => ?_)
              · skip
                have g455 := i_eq h454
                have hI456 : zR f r C Z N (ma_put S51 66 1 (.inl v52)) := zG_sa hI_S51 (-1) (1500) rfl (by decide) (by decide) (by decide) trivial (by omega) (by omega)
                have q457 : (mI S49 66 0).toInt = v48.toInt := zG_zi (f := mI (ma_put S47 66 0 (.inl v48))) hL_S49 rfl
                have f458 := zG_a hI_S49 4 (-1) (1500) (c := 66) (k := 0) (by decide) (by decide)
                have q459 : (mI S51 66 0).toInt = (mI S49 66 0).toInt := zG_zi (f := mI S49) hL_S51 rfl
                have f460 := zG_a hI_S51 4 (-1) (1500) (c := 66) (k := 0) (by decide) (by decide)
                have q461 : (mI S51 64 2).toInt = (mI S49 64 2).toInt := zG_zi (f := mI S49) hL_S51 rfl
                have f462 := zG_s hI_S51 (0) (100) (c := 64) (k := 2) (by decide)
                exact K ((-1 : Int32)) _ hI456 (show (-1 : Int32).toInt = -1 ∨ (0 ≤ (-1 : Int32).toInt ∧ (-1 : Int32).toInt ≤ 6 ∧ 0 ≤ (mI S51 66 0).toInt ∧ ((-1 : Int32).toInt = 3 → 0 ≤ v52.toInt) ∧ ((-1 : Int32).toInt = 6 → 16 ≤ v52.toInt)) from by omega) (show ((-1 : Int32).toInt = -1 ∧ -1 - (mI S51 64 2).toInt = zAns (f 65) (f 64 1).toInt) ∨ ((-1 : Int32).toInt ≠ -1 ∧ zFin (-1 : Int32).toInt (mI S51 66 0).toInt v52.toInt = zAns (f 65) (f 64 1).toInt) from by first | (have qk : v4.toInt = 4 := (by omega); have q := zAns_go (s := (mI S1 64 2)) (e := (mI S1 64 3).toInt) (k := v4.toInt) rp0_S1 rp1_S1 rp0_S3 (by omega); rw [show zPts v4.toInt = [0, 6] from by rw [qk]; rfl] at q; replace q := q.trans (zRun_ok0 (s := (mI S45 64 2)) (e := (mI S45 64 3).toInt) (x := v48.toInt) (p := (mI S1 64 3).toInt) rp0_S45 (by omega) rp1_S45 (show v48.toInt = zNum (f 65) (mI S45 64 2).toInt (mI S45 64 3).toInt 16 1500 from rp0_S47) (by omega)); have q2 := q.trans (zRun_badp (s := (mI S49 64 2)) (e := (mI S49 64 3).toInt) (x := v52.toInt) (p := (mI S45 64 3).toInt) rp0_S49 (by omega) rp1_S49 (zPart_f rp0_S51) (by omega)); exact Or.inl ⟨rfl, by omega⟩) | (omega) | (exfalso; omega))
              · skip
                have g463 := i_ne h454
                refine zd (fun h464 => ?_) (fun h464 => ?_)
                · skip
                  have g465 := i_eq h464
                  have hI466 : zR f r C Z N (ma_put S51 66 1 (.inl v52)) := zG_sa hI_S51 (-1) (1500) rfl (by decide) (by decide) (by decide) trivial (by omega) (by omega)
                  have q467 : (mI S49 66 0).toInt = v48.toInt := zG_zi (f := mI (ma_put S47 66 0 (.inl v48))) hL_S49 rfl
                  have f468 := zG_a hI_S49 4 (-1) (1500) (c := 66) (k := 0) (by decide) (by decide)
                  have q469 : (mI S51 66 0).toInt = (mI S49 66 0).toInt := zG_zi (f := mI S49) hL_S51 rfl
                  have f470 := zG_a hI_S51 4 (-1) (1500) (c := 66) (k := 0) (by decide) (by decide)
                  have q471 : (mI S51 64 2).toInt = (mI S49 64 2).toInt := zG_zi (f := mI S49) hL_S51 rfl
                  have f472 := zG_s hI_S51 (0) (100) (c := 64) (k := 2) (by decide)
                  exact K ((-1 : Int32)) _ hI466 (show (-1 : Int32).toInt = -1 ∨ (0 ≤ (-1 : Int32).toInt ∧ (-1 : Int32).toInt ≤ 6 ∧ 0 ≤ (mI S51 66 0).toInt ∧ ((-1 : Int32).toInt = 3 → 0 ≤ v52.toInt) ∧ ((-1 : Int32).toInt = 6 → 16 ≤ v52.toInt)) from by omega) (show ((-1 : Int32).toInt = -1 ∧ -1 - (mI S51 64 2).toInt = zAns (f 65) (f 64 1).toInt) ∨ ((-1 : Int32).toInt ≠ -1 ∧ zFin (-1 : Int32).toInt (mI S51 66 0).toInt v52.toInt = zAns (f 65) (f 64 1).toInt) from by first | (have qk : v4.toInt = 4 := (by omega); have q := zAns_go (s := (mI S1 64 2)) (e := (mI S1 64 3).toInt) (k := v4.toInt) rp0_S1 rp1_S1 rp0_S3 (by omega); rw [show zPts v4.toInt = [0, 6] from by rw [qk]; rfl] at q; replace q := q.trans (zRun_ok0 (s := (mI S45 64 2)) (e := (mI S45 64 3).toInt) (x := v48.toInt) (p := (mI S1 64 3).toInt) rp0_S45 (by omega) rp1_S45 (show v48.toInt = zNum (f 65) (mI S45 64 2).toInt (mI S45 64 3).toInt 16 1500 from rp0_S47) (by omega)); have q2 := q.trans (zRun_badp (s := (mI S49 64 2)) (e := (mI S49 64 3).toInt) (x := v52.toInt) (p := (mI S45 64 3).toInt) rp0_S49 (by omega) rp1_S49 (zPart_f rp0_S51) (by omega)); exact Or.inl ⟨rfl, by omega⟩) | (omega) | (exfalso; omega))
                · skip
                  have g473 := i_ne h464
                  have hI474 : zR f r C Z N (ma_put S51 66 1 (.inl v52)) := zG_sa hI_S51 (-1) (1500) rfl (by decide) (by decide) (by decide) trivial (by omega) (by omega)
                  have q475 : (mI S51 64 3).toInt = (mI S49 64 3).toInt := zG_zi (f := mI S49) hL_S51 rfl
                  have f476 := zG_s hI_S51 (0) (100) (c := 64) (k := 3) (by decide)
                  refine sp_129_64_n (p0 := ((mI S51 64 3).toInt)) (by omega) (by omega) (zR_dn_zY hI474) (show (mI S51 64 3).toInt = ((mI S51 64 3).toInt) from by omega) (fun v54 S53 hL_S53 hp_v54 rp0_S53 rp1_S53 rp2_S53 rp3_S53 => zi_n ⟨zG_T hL_S53, ?_⟩)
                  have hI_S53 := zR_up_zY hI474 hL_S53
                  have f477 := zG_s hI_S53 (0) (100) (c := 64) (k := 2) (by decide)
                  have rp0_S53 : (mI S53 64 2).toInt = tk true (f 65) (f 64 1).toInt ((mI S51 64 3).toInt) := by
                    have z := rp0_S53
                    (try rw [show mI (ma_put S51 66 1 (.inl v52)) 65 = f 65 from funext (fun k => zG_z hI474 rfl)] at z)
                    (try rw [show mI (ma_put S51 66 1 (.inl v52)) 64 1 = f 64 1 from zG_z hI474 rfl] at z)
                    exact z
                  have f478 := zG_s hI_S53 (0) (100) (c := 64) (k := 3) (by decide)
                  have rp1_S53 : (mI S53 64 3).toInt = tk false (f 65) (f 64 1).toInt (mI S53 64 2).toInt := by
                    have z := rp1_S53
                    (try rw [show mI (ma_put S51 66 1 (.inl v52)) 65 = f 65 from funext (fun k => zG_z hI474 rfl)] at z)
                    (try rw [show mI (ma_put S51 66 1 (.inl v52)) 64 1 = f 64 1 from zG_z hI474 rfl] at z)
                    exact z
                  have rp2_S53 : (v54.toInt = 1 ∧ (mI S53 64 2).toInt < (mI S53 64 3).toInt) ∨ (v54.toInt = 0 ∧ (mI S53 64 3).toInt ≤ (mI S53 64 2).toInt) := by
                    have z := rp2_S53
                    (try rw [show mI (ma_put S51 66 1 (.inl v52)) 65 = f 65 from funext (fun k => zG_z hI474 rfl)] at z)
                    (try rw [show mI (ma_put S51 66 1 (.inl v52)) 64 1 = f 64 1 from zG_z hI474 rfl] at z)
                    exact z
                  have rp3_S53 : (mI S53 64 2).toInt ≤ (mI S53 64 3).toInt := by
                    have z := rp3_S53
                    (try rw [show mI (ma_put S51 66 1 (.inl v52)) 65 = f 65 from funext (fun k => zG_z hI474 rfl)] at z)
                    (try rw [show mI (ma_put S51 66 1 (.inl v52)) 64 1 = f 64 1 from zG_z hI474 rfl] at z)
                    exact z
                  have b479 := i_bd v54
                  refine zd (fun h480 => ?_) (fun h480 => ?_)
                  · skip
                    have g481 := i_eq h480
                    have q482 : (mI S49 66 0).toInt = v48.toInt := zG_zi (f := mI (ma_put S47 66 0 (.inl v48))) hL_S49 rfl
                    have f483 := zG_a hI_S49 4 (-1) (1500) (c := 66) (k := 0) (by decide) (by decide)
                    have q484 : (mI S51 66 0).toInt = (mI S49 66 0).toInt := zG_zi (f := mI S49) hL_S51 rfl
                    have f485 := zG_a hI_S51 4 (-1) (1500) (c := 66) (k := 0) (by decide) (by decide)
                    have q486 : (mI S53 66 0).toInt = (mI S51 66 0).toInt := zG_zi (f := mI (ma_put S51 66 1 (.inl v52))) hL_S53 rfl
                    have f487 := zG_a hI_S53 4 (-1) (1500) (c := 66) (k := 0) (by decide) (by decide)
                    have q488 : (mI S53 66 1).toInt = v52.toInt := zG_zi (f := mI (ma_put S51 66 1 (.inl v52))) hL_S53 rfl
                    have f489 := zG_a hI_S53 4 (-1) (1500) (c := 66) (k := 1) (by decide) (by decide)
                    exact K (v4) _ hI_S53 (show v4.toInt = -1 ∨ (0 ≤ v4.toInt ∧ v4.toInt ≤ 6 ∧ 0 ≤ (mI S53 66 0).toInt ∧ (v4.toInt = 3 → 0 ≤ (mI S53 66 1).toInt) ∧ (v4.toInt = 6 → 16 ≤ (mI S53 66 1).toInt)) from by omega) (show (v4.toInt = -1 ∧ -1 - (mI S53 64 2).toInt = zAns (f 65) (f 64 1).toInt) ∨ (v4.toInt ≠ -1 ∧ zFin v4.toInt (mI S53 66 0).toInt (mI S53 66 1).toInt = zAns (f 65) (f 64 1).toInt) from by first | (have qk : v4.toInt = 4 := (by omega); have q := zAns_go (s := (mI S1 64 2)) (e := (mI S1 64 3).toInt) (k := v4.toInt) rp0_S1 rp1_S1 rp0_S3 (by omega); rw [show zPts v4.toInt = [0, 6] from by rw [qk]; rfl] at q; replace q := q.trans (zRun_ok0 (s := (mI S45 64 2)) (e := (mI S45 64 3).toInt) (x := v48.toInt) (p := (mI S1 64 3).toInt) rp0_S45 (by omega) rp1_S45 (show v48.toInt = zNum (f 65) (mI S45 64 2).toInt (mI S45 64 3).toInt 16 1500 from rp0_S47) (by omega)); replace q := q.trans (zRun_okn (s := (mI S49 64 2)) (e := (mI S49 64 3).toInt) (x := v52.toInt) (p := (mI S45 64 3).toInt) rp0_S49 (by omega) rp1_S49 (zPart_f rp0_S51) (by omega) (by omega)); have q2 := q.trans (zEnd_okp (s := (mI S53 64 2)) (e := (mI S53 64 3).toInt) (p := (mI S49 64 3).toInt) rp0_S53 (by omega) rp1_S53 (by omega)); exact Or.inr ⟨by omega, (zFin_eq (by omega) (by omega)).trans q2.symm⟩) | (omega) | (exfalso; omega))
                  · skip
                    have g490 := i_ne h480
                    have q491 : (mI S49 66 0).toInt = v48.toInt := zG_zi (f := mI (ma_put S47 66 0 (.inl v48))) hL_S49 rfl
                    have f492 := zG_a hI_S49 4 (-1) (1500) (c := 66) (k := 0) (by decide) (by decide)
                    have q493 : (mI S51 66 0).toInt = (mI S49 66 0).toInt := zG_zi (f := mI S49) hL_S51 rfl
                    have f494 := zG_a hI_S51 4 (-1) (1500) (c := 66) (k := 0) (by decide) (by decide)
                    have q495 : (mI S53 66 0).toInt = (mI S51 66 0).toInt := zG_zi (f := mI (ma_put S51 66 1 (.inl v52))) hL_S53 rfl
                    have f496 := zG_a hI_S53 4 (-1) (1500) (c := 66) (k := 0) (by decide) (by decide)
                    have q497 : (mI S53 66 1).toInt = v52.toInt := zG_zi (f := mI (ma_put S51 66 1 (.inl v52))) hL_S53 rfl
                    have f498 := zG_a hI_S53 4 (-1) (1500) (c := 66) (k := 1) (by decide) (by decide)
                    exact K ((-1 : Int32)) _ hI_S53 (show (-1 : Int32).toInt = -1 ∨ (0 ≤ (-1 : Int32).toInt ∧ (-1 : Int32).toInt ≤ 6 ∧ 0 ≤ (mI S53 66 0).toInt ∧ ((-1 : Int32).toInt = 3 → 0 ≤ (mI S53 66 1).toInt) ∧ ((-1 : Int32).toInt = 6 → 16 ≤ (mI S53 66 1).toInt)) from by omega) (show ((-1 : Int32).toInt = -1 ∧ -1 - (mI S53 64 2).toInt = zAns (f 65) (f 64 1).toInt) ∨ ((-1 : Int32).toInt ≠ -1 ∧ zFin (-1 : Int32).toInt (mI S53 66 0).toInt (mI S53 66 1).toInt = zAns (f 65) (f 64 1).toInt) from by first | (have qk : v4.toInt = 4 := (by omega); have q := zAns_go (s := (mI S1 64 2)) (e := (mI S1 64 3).toInt) (k := v4.toInt) rp0_S1 rp1_S1 rp0_S3 (by omega); rw [show zPts v4.toInt = [0, 6] from by rw [qk]; rfl] at q; replace q := q.trans (zRun_ok0 (s := (mI S45 64 2)) (e := (mI S45 64 3).toInt) (x := v48.toInt) (p := (mI S1 64 3).toInt) rp0_S45 (by omega) rp1_S45 (show v48.toInt = zNum (f 65) (mI S45 64 2).toInt (mI S45 64 3).toInt 16 1500 from rp0_S47) (by omega)); replace q := q.trans (zRun_okn (s := (mI S49 64 2)) (e := (mI S49 64 3).toInt) (x := v52.toInt) (p := (mI S45 64 3).toInt) rp0_S49 (by omega) rp1_S49 (zPart_f rp0_S51) (by omega) (by omega)); have q2 := q.trans (zEnd_badp (s := (mI S53 64 2)) (e := (mI S53 64 3).toInt) (p := (mI S49 64 3).toInt) rp0_S53 (by omega) rp1_S53 (by omega)); exact Or.inl ⟨rfl, by omega⟩) | (omega) | (exfalso; omega))
          · skip
            have g499 := i_ne h423
            have li500 : (5 : Int32).toInt = 5 := rfl
            refine zd (fun h501 => ?_) (fun h501 => ?_)
            · skip
              have g502 := i_eq h501
              have q503 : (mI S3 64 3).toInt = (mI S1 64 3).toInt := zG_zi (f := mI S1) hL_S3 rfl
              have f504 := zG_s hI_S3 (0) (100) (c := 64) (k := 3) (by decide)
              refine sp_129_64_n (p0 := ((mI S3 64 3).toInt)) (by omega) (by omega) (zR_dn_zY hI_S3) (show (mI S3 64 3).toInt = ((mI S3 64 3).toInt) from by omega) (fun v56 S55 hL_S55 hp_v56 rp0_S55 rp1_S55 rp2_S55 rp3_S55 => zi_n ⟨zG_T hL_S55, ?_⟩)
              have hI_S55 := zR_up_zY hI_S3 hL_S55
              have f505 := zG_s hI_S55 (0) (100) (c := 64) (k := 2) (by decide)
              have rp0_S55 : (mI S55 64 2).toInt = tk true (f 65) (f 64 1).toInt ((mI S3 64 3).toInt) := by
                have z := rp0_S55
                (try rw [show mI S3 65 = f 65 from funext (fun k => zG_z hI_S3 rfl)] at z)
                (try rw [show mI S3 64 1 = f 64 1 from zG_z hI_S3 rfl] at z)
                exact z
              have f506 := zG_s hI_S55 (0) (100) (c := 64) (k := 3) (by decide)
              have rp1_S55 : (mI S55 64 3).toInt = tk false (f 65) (f 64 1).toInt (mI S55 64 2).toInt := by
                have z := rp1_S55
                (try rw [show mI S3 65 = f 65 from funext (fun k => zG_z hI_S3 rfl)] at z)
                (try rw [show mI S3 64 1 = f 64 1 from zG_z hI_S3 rfl] at z)
                exact z
              have rp2_S55 : (v56.toInt = 1 ∧ (mI S55 64 2).toInt < (mI S55 64 3).toInt) ∨ (v56.toInt = 0 ∧ (mI S55 64 3).toInt ≤ (mI S55 64 2).toInt) := by
                have z := rp2_S55
                (try rw [show mI S3 65 = f 65 from funext (fun k => zG_z hI_S3 rfl)] at z)
                (try rw [show mI S3 64 1 = f 64 1 from zG_z hI_S3 rfl] at z)
                exact z
              have rp3_S55 : (mI S55 64 2).toInt ≤ (mI S55 64 3).toInt := by
                have z := rp3_S55
                (try rw [show mI S3 65 = f 65 from funext (fun k => zG_z hI_S3 rfl)] at z)
                (try rw [show mI S3 64 1 = f 64 1 from zG_z hI_S3 rfl] at z)
                exact z
              have li507 : (16 : Int32).toInt = 16 := rfl
              have li508 : (1500 : Int32).toInt = 1500 := rfl
              refine sp_134_64_n ((16 : Int32)) ((1500 : Int32)) (by omega) (by omega) (zR_dn_zY0 hI_S55) (show (mI S55 64 2).toInt ≤ (mI S55 64 3).toInt from by omega) (fun v58 S57 hL_S57 hp_v58 rp0_S57 => zi_n ⟨zG_T hL_S57, ?_⟩)
              have hI_S57 := zR_up_zY0 hI_S55 hL_S57
              have rp0_S57 : v58.toInt = zNum (f 65) (mI S55 64 2).toInt (mI S55 64 3).toInt (16 : Int32).toInt (1500 : Int32).toInt := by
                have z := rp0_S57
                (try rw [show mI S55 65 = f 65 from funext (fun k => zG_z hI_S55 rfl)] at z)
                (try rw [show mI S55 64 1 = f 64 1 from zG_z hI_S55 rfl] at z)
                exact z
              have b509 := i_bd v58
              have li510 : (-1 : Int32).toInt = -1 := rfl
              refine zd (fun h511 => ?_) (fun h511 => ?_)
              · skip
                have g512 := i_eq h511
                have hI513 : zR f r C Z N (ma_put S57 66 0 (.inl v58)) := zG_sa hI_S57 (-1) (1500) rfl (by decide) (by decide) (by decide) trivial (by omega) (by omega)
                have f514 := zG_a hI 4 (-1) (1500) (c := 66) (k := 1) (by decide) (by decide)
                have q515 : (mI S1 66 1).toInt = (mI S 66 1).toInt := zG_zi (f := mI (ma_put S 64 3 (.inl (0 : Int32)))) hL_S1 rfl
                have f516 := zG_a hI_S1 4 (-1) (1500) (c := 66) (k := 1) (by decide) (by decide)
                have q517 : (mI S3 66 1).toInt = (mI S1 66 1).toInt := zG_zi (f := mI S1) hL_S3 rfl
                have f518 := zG_a hI_S3 4 (-1) (1500) (c := 66) (k := 1) (by decide) (by decide)
                have q519 : (mI S55 66 1).toInt = (mI S3 66 1).toInt := zG_zi (f := mI S3) hL_S55 rfl
                have f520 := zG_a hI_S55 4 (-1) (1500) (c := 66) (k := 1) (by decide) (by decide)
                have q521 : (mI S57 66 1).toInt = (mI S55 66 1).toInt := zG_zi (f := mI S55) hL_S57 rfl
                have f522 := zG_a hI_S57 4 (-1) (1500) (c := 66) (k := 1) (by decide) (by decide)
                have q523 : (mI S57 64 2).toInt = (mI S55 64 2).toInt := zG_zi (f := mI S55) hL_S57 rfl
                have f524 := zG_s hI_S57 (0) (100) (c := 64) (k := 2) (by decide)
                exact K ((-1 : Int32)) _ hI513 (show (-1 : Int32).toInt = -1 ∨ (0 ≤ (-1 : Int32).toInt ∧ (-1 : Int32).toInt ≤ 6 ∧ 0 ≤ v58.toInt ∧ ((-1 : Int32).toInt = 3 → 0 ≤ (mI S57 66 1).toInt) ∧ ((-1 : Int32).toInt = 6 → 16 ≤ (mI S57 66 1).toInt)) from by omega) (show ((-1 : Int32).toInt = -1 ∧ -1 - (mI S57 64 2).toInt = zAns (f 65) (f 64 1).toInt) ∨ ((-1 : Int32).toInt ≠ -1 ∧ zFin (-1 : Int32).toInt v58.toInt (mI S57 66 1).toInt = zAns (f 65) (f 64 1).toInt) from by first | (have qk : v4.toInt = 5 := (by omega); have q := zAns_go (s := (mI S1 64 2)) (e := (mI S1 64 3).toInt) (k := v4.toInt) rp0_S1 rp1_S1 rp0_S3 (by omega); rw [show zPts v4.toInt = [0, 6, 3, 7] from by rw [qk]; rfl] at q; have q2 := q.trans (zRun_badp (s := (mI S55 64 2)) (e := (mI S55 64 3).toInt) (x := v58.toInt) (p := (mI S1 64 3).toInt) rp0_S55 (by omega) rp1_S55 (show v58.toInt = zNum (f 65) (mI S55 64 2).toInt (mI S55 64 3).toInt 16 1500 from rp0_S57) (by omega)); exact Or.inl ⟨rfl, by omega⟩) | (omega) | (exfalso; omega))
              · skip
                have g525 := i_ne h511
                have hI526 : zR f r C Z N (ma_put S57 66 0 (.inl v58)) := zG_sa hI_S57 (-1) (1500) rfl (by decide) (by decide) (by decide) trivial (by omega) (by omega)
                have q527 : (mI S57 64 3).toInt = (mI S55 64 3).toInt := zG_zi (f := mI S55) hL_S57 rfl
                have f528 := zG_s hI_S57 (0) (100) (c := 64) (k := 3) (by decide)
                refine sp_129_64_n (p0 := ((mI S57 64 3).toInt)) (by omega) (by omega) (zR_dn_zY hI526) (show (mI S57 64 3).toInt = ((mI S57 64 3).toInt) from by omega) (fun v60 S59 hL_S59 hp_v60 rp0_S59 rp1_S59 rp2_S59 rp3_S59 => zi_n ⟨zG_T hL_S59, ?_⟩)
                have hI_S59 := zR_up_zY hI526 hL_S59
                have f529 := zG_s hI_S59 (0) (100) (c := 64) (k := 2) (by decide)
                have rp0_S59 : (mI S59 64 2).toInt = tk true (f 65) (f 64 1).toInt ((mI S57 64 3).toInt) := by
                  have z := rp0_S59
                  (try rw [show mI (ma_put S57 66 0 (.inl v58)) 65 = f 65 from funext (fun k => zG_z hI526 rfl)] at z)
                  (try rw [show mI (ma_put S57 66 0 (.inl v58)) 64 1 = f 64 1 from zG_z hI526 rfl] at z)
                  exact z
                have f530 := zG_s hI_S59 (0) (100) (c := 64) (k := 3) (by decide)
                have rp1_S59 : (mI S59 64 3).toInt = tk false (f 65) (f 64 1).toInt (mI S59 64 2).toInt := by
                  have z := rp1_S59
                  (try rw [show mI (ma_put S57 66 0 (.inl v58)) 65 = f 65 from funext (fun k => zG_z hI526 rfl)] at z)
                  (try rw [show mI (ma_put S57 66 0 (.inl v58)) 64 1 = f 64 1 from zG_z hI526 rfl] at z)
                  exact z
                have rp2_S59 : (v60.toInt = 1 ∧ (mI S59 64 2).toInt < (mI S59 64 3).toInt) ∨ (v60.toInt = 0 ∧ (mI S59 64 3).toInt ≤ (mI S59 64 2).toInt) := by
                  have z := rp2_S59
                  (try rw [show mI (ma_put S57 66 0 (.inl v58)) 65 = f 65 from funext (fun k => zG_z hI526 rfl)] at z)
                  (try rw [show mI (ma_put S57 66 0 (.inl v58)) 64 1 = f 64 1 from zG_z hI526 rfl] at z)
                  exact z
                have rp3_S59 : (mI S59 64 2).toInt ≤ (mI S59 64 3).toInt := by
                  have z := rp3_S59
                  (try rw [show mI (ma_put S57 66 0 (.inl v58)) 65 = f 65 from funext (fun k => zG_z hI526 rfl)] at z)
                  (try rw [show mI (ma_put S57 66 0 (.inl v58)) 64 1 = f 64 1 from zG_z hI526 rfl] at z)
                  exact z
                refine sp_135_64_n  (by omega) (by omega) (zR_dn_zY0 hI_S59)  (fun v62 S61 hL_S61 hp_v62 rp0_S61 => zi_n ⟨zG_T hL_S61, ?_⟩)
                have hI_S61 := zR_up_zY0 hI_S59 hL_S61
                have rp0_S61 : v62.toInt = zForm (f 65) (mI S59 64 2) ((mI S59 64 3).toInt - (mI S59 64 2).toInt) := by
                  have z := rp0_S61
                  (try rw [show mI S59 65 = f 65 from funext (fun k => zG_z hI_S59 rfl)] at z)
                  (try rw [show mI S59 64 1 = f 64 1 from zG_z hI_S59 rfl] at z)
                  exact z
                have b531 := i_bd v62
                refine zd (fun h532 => ?_) (fun h532 => ?_)
                · skip
                  have g533 := i_eq h532
                  have hI534 : zR f r C Z N (ma_put S61 66 1 (.inl v62)) := zG_sa hI_S61 (-1) (1500) rfl (by decide) (by decide) (by decide) trivial (by omega) (by omega)
                  have q535 : (mI S59 66 0).toInt = v58.toInt := zG_zi (f := mI (ma_put S57 66 0 (.inl v58))) hL_S59 rfl
                  have f536 := zG_a hI_S59 4 (-1) (1500) (c := 66) (k := 0) (by decide) (by decide)
                  have q537 : (mI S61 66 0).toInt = (mI S59 66 0).toInt := zG_zi (f := mI S59) hL_S61 rfl
                  have f538 := zG_a hI_S61 4 (-1) (1500) (c := 66) (k := 0) (by decide) (by decide)
                  have q539 : (mI S61 64 2).toInt = (mI S59 64 2).toInt := zG_zi (f := mI S59) hL_S61 rfl
                  have f540 := zG_s hI_S61 (0) (100) (c := 64) (k := 2) (by decide)
                  exact K ((-1 : Int32)) _ hI534 (show (-1 : Int32).toInt = -1 ∨ (0 ≤ (-1 : Int32).toInt ∧ (-1 : Int32).toInt ≤ 6 ∧ 0 ≤ (mI S61 66 0).toInt ∧ ((-1 : Int32).toInt = 3 → 0 ≤ v62.toInt) ∧ ((-1 : Int32).toInt = 6 → 16 ≤ v62.toInt)) from by omega) (show ((-1 : Int32).toInt = -1 ∧ -1 - (mI S61 64 2).toInt = zAns (f 65) (f 64 1).toInt) ∨ ((-1 : Int32).toInt ≠ -1 ∧ zFin (-1 : Int32).toInt (mI S61 66 0).toInt v62.toInt = zAns (f 65) (f 64 1).toInt) from by first | (have qk : v4.toInt = 5 := (by omega); have q := zAns_go (s := (mI S1 64 2)) (e := (mI S1 64 3).toInt) (k := v4.toInt) rp0_S1 rp1_S1 rp0_S3 (by omega); rw [show zPts v4.toInt = [0, 6, 3, 7] from by rw [qk]; rfl] at q; replace q := q.trans (zRun_ok0 (s := (mI S55 64 2)) (e := (mI S55 64 3).toInt) (x := v58.toInt) (p := (mI S1 64 3).toInt) rp0_S55 (by omega) rp1_S55 (show v58.toInt = zNum (f 65) (mI S55 64 2).toInt (mI S55 64 3).toInt 16 1500 from rp0_S57) (by omega)); have q2 := q.trans (zRun_badp (s := (mI S59 64 2)) (e := (mI S59 64 3).toInt) (x := v62.toInt) (p := (mI S55 64 3).toInt) rp0_S59 (by omega) rp1_S59 (zPart_f rp0_S61) (by omega)); exact Or.inl ⟨rfl, by omega⟩) | (omega) | (exfalso; omega))
                · skip
                  have g541 := i_ne h532
                  have hI542 : zR f r C Z N (ma_put S61 66 1 (.inl v62)) := zG_sa hI_S61 (-1) (1500) rfl (by decide) (by decide) (by decide) trivial (by omega) (by omega)
                  have q543 : (mI S61 64 3).toInt = (mI S59 64 3).toInt := zG_zi (f := mI S59) hL_S61 rfl
                  have f544 := zG_s hI_S61 (0) (100) (c := 64) (k := 3) (by decide)
                  refine sp_129_64_n (p0 := ((mI S61 64 3).toInt)) (by omega) (by omega) (zR_dn_zY hI542) (show (mI S61 64 3).toInt = ((mI S61 64 3).toInt) from by omega) (fun v64 S63 hL_S63 hp_v64 rp0_S63 rp1_S63 rp2_S63 rp3_S63 => zi_n ⟨zG_T hL_S63, ?_⟩)
                  have hI_S63 := zR_up_zY hI542 hL_S63
                  have f545 := zG_s hI_S63 (0) (100) (c := 64) (k := 2) (by decide)
                  have rp0_S63 : (mI S63 64 2).toInt = tk true (f 65) (f 64 1).toInt ((mI S61 64 3).toInt) := by
                    have z := rp0_S63
                    (try rw [show mI (ma_put S61 66 1 (.inl v62)) 65 = f 65 from funext (fun k => zG_z hI542 rfl)] at z)
                    (try rw [show mI (ma_put S61 66 1 (.inl v62)) 64 1 = f 64 1 from zG_z hI542 rfl] at z)
                    exact z
                  have f546 := zG_s hI_S63 (0) (100) (c := 64) (k := 3) (by decide)
                  have rp1_S63 : (mI S63 64 3).toInt = tk false (f 65) (f 64 1).toInt (mI S63 64 2).toInt := by
                    have z := rp1_S63
                    (try rw [show mI (ma_put S61 66 1 (.inl v62)) 65 = f 65 from funext (fun k => zG_z hI542 rfl)] at z)
                    (try rw [show mI (ma_put S61 66 1 (.inl v62)) 64 1 = f 64 1 from zG_z hI542 rfl] at z)
                    exact z
                  have rp2_S63 : (v64.toInt = 1 ∧ (mI S63 64 2).toInt < (mI S63 64 3).toInt) ∨ (v64.toInt = 0 ∧ (mI S63 64 3).toInt ≤ (mI S63 64 2).toInt) := by
                    have z := rp2_S63
                    (try rw [show mI (ma_put S61 66 1 (.inl v62)) 65 = f 65 from funext (fun k => zG_z hI542 rfl)] at z)
                    (try rw [show mI (ma_put S61 66 1 (.inl v62)) 64 1 = f 64 1 from zG_z hI542 rfl] at z)
                    exact z
                  have rp3_S63 : (mI S63 64 2).toInt ≤ (mI S63 64 3).toInt := by
                    have z := rp3_S63
                    (try rw [show mI (ma_put S61 66 1 (.inl v62)) 65 = f 65 from funext (fun k => zG_z hI542 rfl)] at z)
                    (try rw [show mI (ma_put S61 66 1 (.inl v62)) 64 1 = f 64 1 from zG_z hI542 rfl] at z)
                    exact z
                  have li547 : (50 : Int32).toInt = 50 := rfl
                  refine sp_134_64_n ((1 : Int32)) ((50 : Int32)) (by omega) (by omega) (zR_dn_zY0 hI_S63) (show (mI S63 64 2).toInt ≤ (mI S63 64 3).toInt from by omega) (fun v66 S65 hL_S65 hp_v66 rp0_S65 => zi_n ⟨zG_T hL_S65, ?_⟩)
                  have hI_S65 := zR_up_zY0 hI_S63 hL_S65
                  have rp0_S65 : v66.toInt = zNum (f 65) (mI S63 64 2).toInt (mI S63 64 3).toInt (1 : Int32).toInt (50 : Int32).toInt := by
                    have z := rp0_S65
                    (try rw [show mI S63 65 = f 65 from funext (fun k => zG_z hI_S63 rfl)] at z)
                    (try rw [show mI S63 64 1 = f 64 1 from zG_z hI_S63 rfl] at z)
                    exact z
                  have b548 := i_bd v66
                  refine zd (fun h549 => ?_) (fun h549 => ?_)
                  · skip
                    have g550 := i_eq h549
                    have hI551 : zR f r C Z N (ma_put S65 66 2 (.inl v66)) := zG_sa hI_S65 (-1) (1500) rfl (by decide) (by decide) (by decide) trivial (by omega) (by omega)
                    have q552 : (mI S59 66 0).toInt = v58.toInt := zG_zi (f := mI (ma_put S57 66 0 (.inl v58))) hL_S59 rfl
                    have f553 := zG_a hI_S59 4 (-1) (1500) (c := 66) (k := 0) (by decide) (by decide)
                    have q554 : (mI S61 66 0).toInt = (mI S59 66 0).toInt := zG_zi (f := mI S59) hL_S61 rfl
                    have f555 := zG_a hI_S61 4 (-1) (1500) (c := 66) (k := 0) (by decide) (by decide)
                    have q556 : (mI S63 66 0).toInt = (mI S61 66 0).toInt := zG_zi (f := mI (ma_put S61 66 1 (.inl v62))) hL_S63 rfl
                    have f557 := zG_a hI_S63 4 (-1) (1500) (c := 66) (k := 0) (by decide) (by decide)
                    have q558 : (mI S65 66 0).toInt = (mI S63 66 0).toInt := zG_zi (f := mI S63) hL_S65 rfl
                    have f559 := zG_a hI_S65 4 (-1) (1500) (c := 66) (k := 0) (by decide) (by decide)
                    have q560 : (mI S63 66 1).toInt = v62.toInt := zG_zi (f := mI (ma_put S61 66 1 (.inl v62))) hL_S63 rfl
                    have f561 := zG_a hI_S63 4 (-1) (1500) (c := 66) (k := 1) (by decide) (by decide)
                    have q562 : (mI S65 66 1).toInt = (mI S63 66 1).toInt := zG_zi (f := mI S63) hL_S65 rfl
                    have f563 := zG_a hI_S65 4 (-1) (1500) (c := 66) (k := 1) (by decide) (by decide)
                    have q564 : (mI S65 64 2).toInt = (mI S63 64 2).toInt := zG_zi (f := mI S63) hL_S65 rfl
                    have f565 := zG_s hI_S65 (0) (100) (c := 64) (k := 2) (by decide)
                    exact K ((-1 : Int32)) _ hI551 (show (-1 : Int32).toInt = -1 ∨ (0 ≤ (-1 : Int32).toInt ∧ (-1 : Int32).toInt ≤ 6 ∧ 0 ≤ (mI S65 66 0).toInt ∧ ((-1 : Int32).toInt = 3 → 0 ≤ (mI S65 66 1).toInt) ∧ ((-1 : Int32).toInt = 6 → 16 ≤ (mI S65 66 1).toInt)) from by omega) (show ((-1 : Int32).toInt = -1 ∧ -1 - (mI S65 64 2).toInt = zAns (f 65) (f 64 1).toInt) ∨ ((-1 : Int32).toInt ≠ -1 ∧ zFin (-1 : Int32).toInt (mI S65 66 0).toInt (mI S65 66 1).toInt = zAns (f 65) (f 64 1).toInt) from by first | (have qk : v4.toInt = 5 := (by omega); have q := zAns_go (s := (mI S1 64 2)) (e := (mI S1 64 3).toInt) (k := v4.toInt) rp0_S1 rp1_S1 rp0_S3 (by omega); rw [show zPts v4.toInt = [0, 6, 3, 7] from by rw [qk]; rfl] at q; replace q := q.trans (zRun_ok0 (s := (mI S55 64 2)) (e := (mI S55 64 3).toInt) (x := v58.toInt) (p := (mI S1 64 3).toInt) rp0_S55 (by omega) rp1_S55 (show v58.toInt = zNum (f 65) (mI S55 64 2).toInt (mI S55 64 3).toInt 16 1500 from rp0_S57) (by omega)); replace q := q.trans (zRun_okn (s := (mI S59 64 2)) (e := (mI S59 64 3).toInt) (x := v62.toInt) (p := (mI S55 64 3).toInt) rp0_S59 (by omega) rp1_S59 (zPart_f rp0_S61) (by omega) (by omega)); have q2 := q.trans (zRun_badp (s := (mI S63 64 2)) (e := (mI S63 64 3).toInt) (x := v66.toInt) (p := (mI S59 64 3).toInt) rp0_S63 (by omega) rp1_S63 (show v66.toInt = zNum (f 65) (mI S63 64 2).toInt (mI S63 64 3).toInt 1 50 from rp0_S65) (by omega)); exact Or.inl ⟨rfl, by omega⟩) | (omega) | (exfalso; omega))
                  · skip
                    have g566 := i_ne h549
                    have hI567 : zR f r C Z N (ma_put S65 66 2 (.inl v66)) := zG_sa hI_S65 (-1) (1500) rfl (by decide) (by decide) (by decide) trivial (by omega) (by omega)
                    have q568 : (mI S65 64 3).toInt = (mI S63 64 3).toInt := zG_zi (f := mI S63) hL_S65 rfl
                    have f569 := zG_s hI_S65 (0) (100) (c := 64) (k := 3) (by decide)
                    refine sp_129_64_n (p0 := ((mI S65 64 3).toInt)) (by omega) (by omega) (zR_dn_zY hI567) (show (mI S65 64 3).toInt = ((mI S65 64 3).toInt) from by omega) (fun v68 S67 hL_S67 hp_v68 rp0_S67 rp1_S67 rp2_S67 rp3_S67 => zi_n ⟨zG_T hL_S67, ?_⟩)
                    have hI_S67 := zR_up_zY hI567 hL_S67
                    have f570 := zG_s hI_S67 (0) (100) (c := 64) (k := 2) (by decide)
                    have rp0_S67 : (mI S67 64 2).toInt = tk true (f 65) (f 64 1).toInt ((mI S65 64 3).toInt) := by
                      have z := rp0_S67
                      (try rw [show mI (ma_put S65 66 2 (.inl v66)) 65 = f 65 from funext (fun k => zG_z hI567 rfl)] at z)
                      (try rw [show mI (ma_put S65 66 2 (.inl v66)) 64 1 = f 64 1 from zG_z hI567 rfl] at z)
                      exact z
                    have f571 := zG_s hI_S67 (0) (100) (c := 64) (k := 3) (by decide)
                    have rp1_S67 : (mI S67 64 3).toInt = tk false (f 65) (f 64 1).toInt (mI S67 64 2).toInt := by
                      have z := rp1_S67
                      (try rw [show mI (ma_put S65 66 2 (.inl v66)) 65 = f 65 from funext (fun k => zG_z hI567 rfl)] at z)
                      (try rw [show mI (ma_put S65 66 2 (.inl v66)) 64 1 = f 64 1 from zG_z hI567 rfl] at z)
                      exact z
                    have rp2_S67 : (v68.toInt = 1 ∧ (mI S67 64 2).toInt < (mI S67 64 3).toInt) ∨ (v68.toInt = 0 ∧ (mI S67 64 3).toInt ≤ (mI S67 64 2).toInt) := by
                      have z := rp2_S67
                      (try rw [show mI (ma_put S65 66 2 (.inl v66)) 65 = f 65 from funext (fun k => zG_z hI567 rfl)] at z)
                      (try rw [show mI (ma_put S65 66 2 (.inl v66)) 64 1 = f 64 1 from zG_z hI567 rfl] at z)
                      exact z
                    have rp3_S67 : (mI S67 64 2).toInt ≤ (mI S67 64 3).toInt := by
                      have z := rp3_S67
                      (try rw [show mI (ma_put S65 66 2 (.inl v66)) 65 = f 65 from funext (fun k => zG_z hI567 rfl)] at z)
                      (try rw [show mI (ma_put S65 66 2 (.inl v66)) 64 1 = f 64 1 from zG_z hI567 rfl] at z)
                      exact z
                    refine sp_136_64_n  (by omega) (by omega) (zR_dn_zY0 hI_S67)  (fun v70 S69 hL_S69 hp_v70 rp0_S69 => zi_n ⟨zG_T hL_S69, ?_⟩)
                    have hI_S69 := zR_up_zY0 hI_S67 hL_S69
                    have rp0_S69 : v70.toInt = zBar (f 65) (mI S67 64 2) ((mI S67 64 3).toInt - (mI S67 64 2).toInt) := by
                      have z := rp0_S69
                      (try rw [show mI S67 65 = f 65 from funext (fun k => zG_z hI_S67 rfl)] at z)
                      (try rw [show mI S67 64 1 = f 64 1 from zG_z hI_S67 rfl] at z)
                      exact z
                    have b572 := i_bd v70
                    refine zd (fun h573 => ?_) (fun h573 => ?_)
                    · skip
                      have g574 := i_eq h573
                      have hI575 : zR f r C Z N (ma_put S69 66 3 (.inl v70)) := zG_sa hI_S69 (-1) (1500) rfl (by decide) (by decide) (by decide) trivial (by omega) (by omega)
                      have q576 : (mI S59 66 0).toInt = v58.toInt := zG_zi (f := mI (ma_put S57 66 0 (.inl v58))) hL_S59 rfl
                      have f577 := zG_a hI_S59 4 (-1) (1500) (c := 66) (k := 0) (by decide) (by decide)
                      have q578 : (mI S61 66 0).toInt = (mI S59 66 0).toInt := zG_zi (f := mI S59) hL_S61 rfl
                      have f579 := zG_a hI_S61 4 (-1) (1500) (c := 66) (k := 0) (by decide) (by decide)
                      have q580 : (mI S63 66 0).toInt = (mI S61 66 0).toInt := zG_zi (f := mI (ma_put S61 66 1 (.inl v62))) hL_S63 rfl
                      have f581 := zG_a hI_S63 4 (-1) (1500) (c := 66) (k := 0) (by decide) (by decide)
                      have q582 : (mI S65 66 0).toInt = (mI S63 66 0).toInt := zG_zi (f := mI S63) hL_S65 rfl
                      have f583 := zG_a hI_S65 4 (-1) (1500) (c := 66) (k := 0) (by decide) (by decide)
                      have q584 : (mI S67 66 0).toInt = (mI S65 66 0).toInt := zG_zi (f := mI (ma_put S65 66 2 (.inl v66))) hL_S67 rfl
                      have f585 := zG_a hI_S67 4 (-1) (1500) (c := 66) (k := 0) (by decide) (by decide)
                      have q586 : (mI S69 66 0).toInt = (mI S67 66 0).toInt := zG_zi (f := mI S67) hL_S69 rfl
                      have f587 := zG_a hI_S69 4 (-1) (1500) (c := 66) (k := 0) (by decide) (by decide)
                      have q588 : (mI S63 66 1).toInt = v62.toInt := zG_zi (f := mI (ma_put S61 66 1 (.inl v62))) hL_S63 rfl
                      have f589 := zG_a hI_S63 4 (-1) (1500) (c := 66) (k := 1) (by decide) (by decide)
                      have q590 : (mI S65 66 1).toInt = (mI S63 66 1).toInt := zG_zi (f := mI S63) hL_S65 rfl
                      have f591 := zG_a hI_S65 4 (-1) (1500) (c := 66) (k := 1) (by decide) (by decide)
                      have q592 : (mI S67 66 1).toInt = (mI S65 66 1).toInt := zG_zi (f := mI (ma_put S65 66 2 (.inl v66))) hL_S67 rfl
                      have f593 := zG_a hI_S67 4 (-1) (1500) (c := 66) (k := 1) (by decide) (by decide)
                      have q594 : (mI S69 66 1).toInt = (mI S67 66 1).toInt := zG_zi (f := mI S67) hL_S69 rfl
                      have f595 := zG_a hI_S69 4 (-1) (1500) (c := 66) (k := 1) (by decide) (by decide)
                      have q596 : (mI S69 64 2).toInt = (mI S67 64 2).toInt := zG_zi (f := mI S67) hL_S69 rfl
                      have f597 := zG_s hI_S69 (0) (100) (c := 64) (k := 2) (by decide)
                      exact K ((-1 : Int32)) _ hI575 (show (-1 : Int32).toInt = -1 ∨ (0 ≤ (-1 : Int32).toInt ∧ (-1 : Int32).toInt ≤ 6 ∧ 0 ≤ (mI S69 66 0).toInt ∧ ((-1 : Int32).toInt = 3 → 0 ≤ (mI S69 66 1).toInt) ∧ ((-1 : Int32).toInt = 6 → 16 ≤ (mI S69 66 1).toInt)) from by omega) (show ((-1 : Int32).toInt = -1 ∧ -1 - (mI S69 64 2).toInt = zAns (f 65) (f 64 1).toInt) ∨ ((-1 : Int32).toInt ≠ -1 ∧ zFin (-1 : Int32).toInt (mI S69 66 0).toInt (mI S69 66 1).toInt = zAns (f 65) (f 64 1).toInt) from by first | (have qk : v4.toInt = 5 := (by omega); have q := zAns_go (s := (mI S1 64 2)) (e := (mI S1 64 3).toInt) (k := v4.toInt) rp0_S1 rp1_S1 rp0_S3 (by omega); rw [show zPts v4.toInt = [0, 6, 3, 7] from by rw [qk]; rfl] at q; replace q := q.trans (zRun_ok0 (s := (mI S55 64 2)) (e := (mI S55 64 3).toInt) (x := v58.toInt) (p := (mI S1 64 3).toInt) rp0_S55 (by omega) rp1_S55 (show v58.toInt = zNum (f 65) (mI S55 64 2).toInt (mI S55 64 3).toInt 16 1500 from rp0_S57) (by omega)); replace q := q.trans (zRun_okn (s := (mI S59 64 2)) (e := (mI S59 64 3).toInt) (x := v62.toInt) (p := (mI S55 64 3).toInt) rp0_S59 (by omega) rp1_S59 (zPart_f rp0_S61) (by omega) (by omega)); replace q := q.trans (zRun_okn (s := (mI S63 64 2)) (e := (mI S63 64 3).toInt) (x := v66.toInt) (p := (mI S59 64 3).toInt) rp0_S63 (by omega) rp1_S63 (show v66.toInt = zNum (f 65) (mI S63 64 2).toInt (mI S63 64 3).toInt 1 50 from rp0_S65) (by omega) (by omega)); have q2 := q.trans (zRun_badp (s := (mI S67 64 2)) (e := (mI S67 64 3).toInt) (x := v70.toInt) (p := (mI S63 64 3).toInt) rp0_S67 (by omega) rp1_S67 (zPart_b rp0_S69) (by omega)); exact Or.inl ⟨rfl, by omega⟩) | (omega) | (exfalso; omega))
                    · skip
                      have g598 := i_ne h573
                      refine zd (fun h599 => ?_) (fun h599 => ?_)
                      · skip
                        have g600 := i_eq h599
                        have hI601 : zR f r C Z N (ma_put S69 66 3 (.inl v70)) := zG_sa hI_S69 (-1) (1500) rfl (by decide) (by decide) (by decide) trivial (by omega) (by omega)
                        have q602 : (mI S59 66 0).toInt = v58.toInt := zG_zi (f := mI (ma_put S57 66 0 (.inl v58))) hL_S59 rfl
                        have f603 := zG_a hI_S59 4 (-1) (1500) (c := 66) (k := 0) (by decide) (by decide)
                        have q604 : (mI S61 66 0).toInt = (mI S59 66 0).toInt := zG_zi (f := mI S59) hL_S61 rfl
                        have f605 := zG_a hI_S61 4 (-1) (1500) (c := 66) (k := 0) (by decide) (by decide)
                        have q606 : (mI S63 66 0).toInt = (mI S61 66 0).toInt := zG_zi (f := mI (ma_put S61 66 1 (.inl v62))) hL_S63 rfl
                        have f607 := zG_a hI_S63 4 (-1) (1500) (c := 66) (k := 0) (by decide) (by decide)
                        have q608 : (mI S65 66 0).toInt = (mI S63 66 0).toInt := zG_zi (f := mI S63) hL_S65 rfl
                        have f609 := zG_a hI_S65 4 (-1) (1500) (c := 66) (k := 0) (by decide) (by decide)
                        have q610 : (mI S67 66 0).toInt = (mI S65 66 0).toInt := zG_zi (f := mI (ma_put S65 66 2 (.inl v66))) hL_S67 rfl
                        have f611 := zG_a hI_S67 4 (-1) (1500) (c := 66) (k := 0) (by decide) (by decide)
                        have q612 : (mI S69 66 0).toInt = (mI S67 66 0).toInt := zG_zi (f := mI S67) hL_S69 rfl
                        have f613 := zG_a hI_S69 4 (-1) (1500) (c := 66) (k := 0) (by decide) (by decide)
                        have q614 : (mI S63 66 1).toInt = v62.toInt := zG_zi (f := mI (ma_put S61 66 1 (.inl v62))) hL_S63 rfl
                        have f615 := zG_a hI_S63 4 (-1) (1500) (c := 66) (k := 1) (by decide) (by decide)
                        have q616 : (mI S65 66 1).toInt = (mI S63 66 1).toInt := zG_zi (f := mI S63) hL_S65 rfl
                        have f617 := zG_a hI_S65 4 (-1) (1500) (c := 66) (k := 1) (by decide) (by decide)
                        have q618 : (mI S67 66 1).toInt = (mI S65 66 1).toInt := zG_zi (f := mI (ma_put S65 66 2 (.inl v66))) hL_S67 rfl
                        have f619 := zG_a hI_S67 4 (-1) (1500) (c := 66) (k := 1) (by decide) (by decide)
                        have q620 : (mI S69 66 1).toInt = (mI S67 66 1).toInt := zG_zi (f := mI S67) hL_S69 rfl
                        have f621 := zG_a hI_S69 4 (-1) (1500) (c := 66) (k := 1) (by decide) (by decide)
                        have q622 : (mI S69 64 2).toInt = (mI S67 64 2).toInt := zG_zi (f := mI S67) hL_S69 rfl
                        have f623 := zG_s hI_S69 (0) (100) (c := 64) (k := 2) (by decide)
                        exact K ((-1 : Int32)) _ hI601 (show (-1 : Int32).toInt = -1 ∨ (0 ≤ (-1 : Int32).toInt ∧ (-1 : Int32).toInt ≤ 6 ∧ 0 ≤ (mI S69 66 0).toInt ∧ ((-1 : Int32).toInt = 3 → 0 ≤ (mI S69 66 1).toInt) ∧ ((-1 : Int32).toInt = 6 → 16 ≤ (mI S69 66 1).toInt)) from by omega) (show ((-1 : Int32).toInt = -1 ∧ -1 - (mI S69 64 2).toInt = zAns (f 65) (f 64 1).toInt) ∨ ((-1 : Int32).toInt ≠ -1 ∧ zFin (-1 : Int32).toInt (mI S69 66 0).toInt (mI S69 66 1).toInt = zAns (f 65) (f 64 1).toInt) from by first | (have qk : v4.toInt = 5 := (by omega); have q := zAns_go (s := (mI S1 64 2)) (e := (mI S1 64 3).toInt) (k := v4.toInt) rp0_S1 rp1_S1 rp0_S3 (by omega); rw [show zPts v4.toInt = [0, 6, 3, 7] from by rw [qk]; rfl] at q; replace q := q.trans (zRun_ok0 (s := (mI S55 64 2)) (e := (mI S55 64 3).toInt) (x := v58.toInt) (p := (mI S1 64 3).toInt) rp0_S55 (by omega) rp1_S55 (show v58.toInt = zNum (f 65) (mI S55 64 2).toInt (mI S55 64 3).toInt 16 1500 from rp0_S57) (by omega)); replace q := q.trans (zRun_okn (s := (mI S59 64 2)) (e := (mI S59 64 3).toInt) (x := v62.toInt) (p := (mI S55 64 3).toInt) rp0_S59 (by omega) rp1_S59 (zPart_f rp0_S61) (by omega) (by omega)); replace q := q.trans (zRun_okn (s := (mI S63 64 2)) (e := (mI S63 64 3).toInt) (x := v66.toInt) (p := (mI S59 64 3).toInt) rp0_S63 (by omega) rp1_S63 (show v66.toInt = zNum (f 65) (mI S63 64 2).toInt (mI S63 64 3).toInt 1 50 from rp0_S65) (by omega) (by omega)); have q2 := q.trans (zRun_badp (s := (mI S67 64 2)) (e := (mI S67 64 3).toInt) (x := v70.toInt) (p := (mI S63 64 3).toInt) rp0_S67 (by omega) rp1_S67 (zPart_b rp0_S69) (by omega)); exact Or.inl ⟨rfl, by omega⟩) | (omega) | (exfalso; omega))
                      · skip
                        have g624 := i_ne h599
                        have hI625 : zR f r C Z N (ma_put S69 66 3 (.inl v70)) := zG_sa hI_S69 (-1) (1500) rfl (by decide) (by decide) (by decide) trivial (by omega) (by omega)
                        have q626 : (mI S69 64 3).toInt = (mI S67 64 3).toInt := zG_zi (f := mI S67) hL_S69 rfl
                        have f627 := zG_s hI_S69 (0) (100) (c := 64) (k := 3) (by decide)
                        refine sp_129_64_n (p0 := ((mI S69 64 3).toInt)) (by omega) (by omega) (zR_dn_zY hI625) (show (mI S69 64 3).toInt = ((mI S69 64 3).toInt) from by omega) (fun v72 S71 hL_S71 hp_v72 rp0_S71 rp1_S71 rp2_S71 rp3_S71 => zi_n ⟨zG_T hL_S71, ?_⟩)
                        have hI_S71 := zR_up_zY hI625 hL_S71
                        have f628 := zG_s hI_S71 (0) (100) (c := 64) (k := 2) (by decide)
                        have rp0_S71 : (mI S71 64 2).toInt = tk true (f 65) (f 64 1).toInt ((mI S69 64 3).toInt) := by
                          have z := rp0_S71
                          (try rw [show mI (ma_put S69 66 3 (.inl v70)) 65 = f 65 from funext (fun k => zG_z hI625 rfl)] at z)
                          (try rw [show mI (ma_put S69 66 3 (.inl v70)) 64 1 = f 64 1 from zG_z hI625 rfl] at z)
                          exact z
                        have f629 := zG_s hI_S71 (0) (100) (c := 64) (k := 3) (by decide)
                        have rp1_S71 : (mI S71 64 3).toInt = tk false (f 65) (f 64 1).toInt (mI S71 64 2).toInt := by
                          have z := rp1_S71
                          (try rw [show mI (ma_put S69 66 3 (.inl v70)) 65 = f 65 from funext (fun k => zG_z hI625 rfl)] at z)
                          (try rw [show mI (ma_put S69 66 3 (.inl v70)) 64 1 = f 64 1 from zG_z hI625 rfl] at z)
                          exact z
                        have rp2_S71 : (v72.toInt = 1 ∧ (mI S71 64 2).toInt < (mI S71 64 3).toInt) ∨ (v72.toInt = 0 ∧ (mI S71 64 3).toInt ≤ (mI S71 64 2).toInt) := by
                          have z := rp2_S71
                          (try rw [show mI (ma_put S69 66 3 (.inl v70)) 65 = f 65 from funext (fun k => zG_z hI625 rfl)] at z)
                          (try rw [show mI (ma_put S69 66 3 (.inl v70)) 64 1 = f 64 1 from zG_z hI625 rfl] at z)
                          exact z
                        have rp3_S71 : (mI S71 64 2).toInt ≤ (mI S71 64 3).toInt := by
                          have z := rp3_S71
                          (try rw [show mI (ma_put S69 66 3 (.inl v70)) 65 = f 65 from funext (fun k => zG_z hI625 rfl)] at z)
                          (try rw [show mI (ma_put S69 66 3 (.inl v70)) 64 1 = f 64 1 from zG_z hI625 rfl] at z)
                          exact z
                        have b630 := i_bd v72
                        refine zd (fun h631 => ?_) (fun h631 => ?_)
                        · skip
                          have g632 := i_eq h631
                          have q633 : (mI S59 66 0).toInt = v58.toInt := zG_zi (f := mI (ma_put S57 66 0 (.inl v58))) hL_S59 rfl
                          have f634 := zG_a hI_S59 4 (-1) (1500) (c := 66) (k := 0) (by decide) (by decide)
                          have q635 : (mI S61 66 0).toInt = (mI S59 66 0).toInt := zG_zi (f := mI S59) hL_S61 rfl
                          have f636 := zG_a hI_S61 4 (-1) (1500) (c := 66) (k := 0) (by decide) (by decide)
                          have q637 : (mI S63 66 0).toInt = (mI S61 66 0).toInt := zG_zi (f := mI (ma_put S61 66 1 (.inl v62))) hL_S63 rfl
                          have f638 := zG_a hI_S63 4 (-1) (1500) (c := 66) (k := 0) (by decide) (by decide)
                          have q639 : (mI S65 66 0).toInt = (mI S63 66 0).toInt := zG_zi (f := mI S63) hL_S65 rfl
                          have f640 := zG_a hI_S65 4 (-1) (1500) (c := 66) (k := 0) (by decide) (by decide)
                          have q641 : (mI S67 66 0).toInt = (mI S65 66 0).toInt := zG_zi (f := mI (ma_put S65 66 2 (.inl v66))) hL_S67 rfl
                          have f642 := zG_a hI_S67 4 (-1) (1500) (c := 66) (k := 0) (by decide) (by decide)
                          have q643 : (mI S69 66 0).toInt = (mI S67 66 0).toInt := zG_zi (f := mI S67) hL_S69 rfl
                          have f644 := zG_a hI_S69 4 (-1) (1500) (c := 66) (k := 0) (by decide) (by decide)
                          have q645 : (mI S71 66 0).toInt = (mI S69 66 0).toInt := zG_zi (f := mI (ma_put S69 66 3 (.inl v70))) hL_S71 rfl
                          have f646 := zG_a hI_S71 4 (-1) (1500) (c := 66) (k := 0) (by decide) (by decide)
                          have q647 : (mI S63 66 1).toInt = v62.toInt := zG_zi (f := mI (ma_put S61 66 1 (.inl v62))) hL_S63 rfl
                          have f648 := zG_a hI_S63 4 (-1) (1500) (c := 66) (k := 1) (by decide) (by decide)
                          have q649 : (mI S65 66 1).toInt = (mI S63 66 1).toInt := zG_zi (f := mI S63) hL_S65 rfl
                          have f650 := zG_a hI_S65 4 (-1) (1500) (c := 66) (k := 1) (by decide) (by decide)
                          have q651 : (mI S67 66 1).toInt = (mI S65 66 1).toInt := zG_zi (f := mI (ma_put S65 66 2 (.inl v66))) hL_S67 rfl
                          have f652 := zG_a hI_S67 4 (-1) (1500) (c := 66) (k := 1) (by decide) (by decide)
                          have q653 : (mI S69 66 1).toInt = (mI S67 66 1).toInt := zG_zi (f := mI S67) hL_S69 rfl
                          have f654 := zG_a hI_S69 4 (-1) (1500) (c := 66) (k := 1) (by decide) (by decide)
                          have q655 : (mI S71 66 1).toInt = (mI S69 66 1).toInt := zG_zi (f := mI (ma_put S69 66 3 (.inl v70))) hL_S71 rfl
                          have f656 := zG_a hI_S71 4 (-1) (1500) (c := 66) (k := 1) (by decide) (by decide)
                          exact K (v4) _ hI_S71 (show v4.toInt = -1 ∨ (0 ≤ v4.toInt ∧ v4.toInt ≤ 6 ∧ 0 ≤ (mI S71 66 0).toInt ∧ (v4.toInt = 3 → 0 ≤ (mI S71 66 1).toInt) ∧ (v4.toInt = 6 → 16 ≤ (mI S71 66 1).toInt)) from by omega) (show (v4.toInt = -1 ∧ -1 - (mI S71 64 2).toInt = zAns (f 65) (f 64 1).toInt) ∨ (v4.toInt ≠ -1 ∧ zFin v4.toInt (mI S71 66 0).toInt (mI S71 66 1).toInt = zAns (f 65) (f 64 1).toInt) from by first | (have qk : v4.toInt = 5 := (by omega); have q := zAns_go (s := (mI S1 64 2)) (e := (mI S1 64 3).toInt) (k := v4.toInt) rp0_S1 rp1_S1 rp0_S3 (by omega); rw [show zPts v4.toInt = [0, 6, 3, 7] from by rw [qk]; rfl] at q; replace q := q.trans (zRun_ok0 (s := (mI S55 64 2)) (e := (mI S55 64 3).toInt) (x := v58.toInt) (p := (mI S1 64 3).toInt) rp0_S55 (by omega) rp1_S55 (show v58.toInt = zNum (f 65) (mI S55 64 2).toInt (mI S55 64 3).toInt 16 1500 from rp0_S57) (by omega)); replace q := q.trans (zRun_okn (s := (mI S59 64 2)) (e := (mI S59 64 3).toInt) (x := v62.toInt) (p := (mI S55 64 3).toInt) rp0_S59 (by omega) rp1_S59 (zPart_f rp0_S61) (by omega) (by omega)); replace q := q.trans (zRun_okn (s := (mI S63 64 2)) (e := (mI S63 64 3).toInt) (x := v66.toInt) (p := (mI S59 64 3).toInt) rp0_S63 (by omega) rp1_S63 (show v66.toInt = zNum (f 65) (mI S63 64 2).toInt (mI S63 64 3).toInt 1 50 from rp0_S65) (by omega) (by omega)); replace q := q.trans (zRun_okn (s := (mI S67 64 2)) (e := (mI S67 64 3).toInt) (x := v70.toInt) (p := (mI S63 64 3).toInt) rp0_S67 (by omega) rp1_S67 (zPart_b rp0_S69) (by omega) (by omega)); have q2 := q.trans (zEnd_okp (s := (mI S71 64 2)) (e := (mI S71 64 3).toInt) (p := (mI S67 64 3).toInt) rp0_S71 (by omega) rp1_S71 (by omega)); exact Or.inr ⟨by omega, (zFin_eq (by omega) (by omega)).trans q2.symm⟩) | (omega) | (exfalso; omega))
                        · skip
                          have g657 := i_ne h631
                          have q658 : (mI S59 66 0).toInt = v58.toInt := zG_zi (f := mI (ma_put S57 66 0 (.inl v58))) hL_S59 rfl
                          have f659 := zG_a hI_S59 4 (-1) (1500) (c := 66) (k := 0) (by decide) (by decide)
                          have q660 : (mI S61 66 0).toInt = (mI S59 66 0).toInt := zG_zi (f := mI S59) hL_S61 rfl
                          have f661 := zG_a hI_S61 4 (-1) (1500) (c := 66) (k := 0) (by decide) (by decide)
                          have q662 : (mI S63 66 0).toInt = (mI S61 66 0).toInt := zG_zi (f := mI (ma_put S61 66 1 (.inl v62))) hL_S63 rfl
                          have f663 := zG_a hI_S63 4 (-1) (1500) (c := 66) (k := 0) (by decide) (by decide)
                          have q664 : (mI S65 66 0).toInt = (mI S63 66 0).toInt := zG_zi (f := mI S63) hL_S65 rfl
                          have f665 := zG_a hI_S65 4 (-1) (1500) (c := 66) (k := 0) (by decide) (by decide)
                          have q666 : (mI S67 66 0).toInt = (mI S65 66 0).toInt := zG_zi (f := mI (ma_put S65 66 2 (.inl v66))) hL_S67 rfl
                          have f667 := zG_a hI_S67 4 (-1) (1500) (c := 66) (k := 0) (by decide) (by decide)
                          have q668 : (mI S69 66 0).toInt = (mI S67 66 0).toInt := zG_zi (f := mI S67) hL_S69 rfl
                          have f669 := zG_a hI_S69 4 (-1) (1500) (c := 66) (k := 0) (by decide) (by decide)
                          have q670 : (mI S71 66 0).toInt = (mI S69 66 0).toInt := zG_zi (f := mI (ma_put S69 66 3 (.inl v70))) hL_S71 rfl
                          have f671 := zG_a hI_S71 4 (-1) (1500) (c := 66) (k := 0) (by decide) (by decide)
                          have q672 : (mI S63 66 1).toInt = v62.toInt := zG_zi (f := mI (ma_put S61 66 1 (.inl v62))) hL_S63 rfl
                          have f673 := zG_a hI_S63 4 (-1) (1500) (c := 66) (k := 1) (by decide) (by decide)
                          have q674 : (mI S65 66 1).toInt = (mI S63 66 1).toInt := zG_zi (f := mI S63) hL_S65 rfl
                          have f675 := zG_a hI_S65 4 (-1) (1500) (c := 66) (k := 1) (by decide) (by decide)
                          have q676 : (mI S67 66 1).toInt = (mI S65 66 1).toInt := zG_zi (f := mI (ma_put S65 66 2 (.inl v66))) hL_S67 rfl
                          have f677 := zG_a hI_S67 4 (-1) (1500) (c := 66) (k := 1) (by decide) (by decide)
                          have q678 : (mI S69 66 1).toInt = (mI S67 66 1).toInt := zG_zi (f := mI S67) hL_S69 rfl
                          have f679 := zG_a hI_S69 4 (-1) (1500) (c := 66) (k := 1) (by decide) (by decide)
                          have q680 : (mI S71 66 1).toInt = (mI S69 66 1).toInt := zG_zi (f := mI (ma_put S69 66 3 (.inl v70))) hL_S71 rfl
                          have f681 := zG_a hI_S71 4 (-1) (1500) (c := 66) (k := 1) (by decide) (by decide)
                          exact K ((-1 : Int32)) _ hI_S71 (show (-1 : Int32).toInt = -1 ∨ (0 ≤ (-1 : Int32).toInt ∧ (-1 : Int32).toInt ≤ 6 ∧ 0 ≤ (mI S71 66 0).toInt ∧ ((-1 : Int32).toInt = 3 → 0 ≤ (mI S71 66 1).toInt) ∧ ((-1 : Int32).toInt = 6 → 16 ≤ (mI S71 66 1).toInt)) from by omega) (show ((-1 : Int32).toInt = -1 ∧ -1 - (mI S71 64 2).toInt = zAns (f 65) (f 64 1).toInt) ∨ ((-1 : Int32).toInt ≠ -1 ∧ zFin (-1 : Int32).toInt (mI S71 66 0).toInt (mI S71 66 1).toInt = zAns (f 65) (f 64 1).toInt) from by first | (have qk : v4.toInt = 5 := (by omega); have q := zAns_go (s := (mI S1 64 2)) (e := (mI S1 64 3).toInt) (k := v4.toInt) rp0_S1 rp1_S1 rp0_S3 (by omega); rw [show zPts v4.toInt = [0, 6, 3, 7] from by rw [qk]; rfl] at q; replace q := q.trans (zRun_ok0 (s := (mI S55 64 2)) (e := (mI S55 64 3).toInt) (x := v58.toInt) (p := (mI S1 64 3).toInt) rp0_S55 (by omega) rp1_S55 (show v58.toInt = zNum (f 65) (mI S55 64 2).toInt (mI S55 64 3).toInt 16 1500 from rp0_S57) (by omega)); replace q := q.trans (zRun_okn (s := (mI S59 64 2)) (e := (mI S59 64 3).toInt) (x := v62.toInt) (p := (mI S55 64 3).toInt) rp0_S59 (by omega) rp1_S59 (zPart_f rp0_S61) (by omega) (by omega)); replace q := q.trans (zRun_okn (s := (mI S63 64 2)) (e := (mI S63 64 3).toInt) (x := v66.toInt) (p := (mI S59 64 3).toInt) rp0_S63 (by omega) rp1_S63 (show v66.toInt = zNum (f 65) (mI S63 64 2).toInt (mI S63 64 3).toInt 1 50 from rp0_S65) (by omega) (by omega)); replace q := q.trans (zRun_okn (s := (mI S67 64 2)) (e := (mI S67 64 3).toInt) (x := v70.toInt) (p := (mI S63 64 3).toInt) rp0_S67 (by omega) rp1_S67 (zPart_b rp0_S69) (by omega) (by omega)); have q2 := q.trans (zEnd_badp (s := (mI S71 64 2)) (e := (mI S71 64 3).toInt) (p := (mI S67 64 3).toInt) rp0_S71 (by omega) rp1_S71 (by omega)); exact Or.inl ⟨rfl, by omega⟩) | (omega) | (exfalso; omega))
            · skip
              have g682 := i_ne h501
              have li683 : (6 : Int32).toInt = 6 := rfl
              refine zd (fun h684 => ?_) (fun h684 => ?_)
              · skip
                have g685 := i_eq h684
                have q686 : (mI S3 64 3).toInt = (mI S1 64 3).toInt := zG_zi (f := mI S1) hL_S3 rfl
                have f687 := zG_s hI_S3 (0) (100) (c := 64) (k := 3) (by decide)
                refine sp_129_64_n (p0 := ((mI S3 64 3).toInt)) (by omega) (by omega) (zR_dn_zY hI_S3) (show (mI S3 64 3).toInt = ((mI S3 64 3).toInt) from by omega) (fun v74 S73 hL_S73 hp_v74 rp0_S73 rp1_S73 rp2_S73 rp3_S73 => zi_n ⟨zG_T hL_S73, ?_⟩)
                have hI_S73 := zR_up_zY hI_S3 hL_S73
                have f688 := zG_s hI_S73 (0) (100) (c := 64) (k := 2) (by decide)
                have rp0_S73 : (mI S73 64 2).toInt = tk true (f 65) (f 64 1).toInt ((mI S3 64 3).toInt) := by
                  have z := rp0_S73
                  (try rw [show mI S3 65 = f 65 from funext (fun k => zG_z hI_S3 rfl)] at z)
                  (try rw [show mI S3 64 1 = f 64 1 from zG_z hI_S3 rfl] at z)
                  exact z
                have f689 := zG_s hI_S73 (0) (100) (c := 64) (k := 3) (by decide)
                have rp1_S73 : (mI S73 64 3).toInt = tk false (f 65) (f 64 1).toInt (mI S73 64 2).toInt := by
                  have z := rp1_S73
                  (try rw [show mI S3 65 = f 65 from funext (fun k => zG_z hI_S3 rfl)] at z)
                  (try rw [show mI S3 64 1 = f 64 1 from zG_z hI_S3 rfl] at z)
                  exact z
                have rp2_S73 : (v74.toInt = 1 ∧ (mI S73 64 2).toInt < (mI S73 64 3).toInt) ∨ (v74.toInt = 0 ∧ (mI S73 64 3).toInt ≤ (mI S73 64 2).toInt) := by
                  have z := rp2_S73
                  (try rw [show mI S3 65 = f 65 from funext (fun k => zG_z hI_S3 rfl)] at z)
                  (try rw [show mI S3 64 1 = f 64 1 from zG_z hI_S3 rfl] at z)
                  exact z
                have rp3_S73 : (mI S73 64 2).toInt ≤ (mI S73 64 3).toInt := by
                  have z := rp3_S73
                  (try rw [show mI S3 65 = f 65 from funext (fun k => zG_z hI_S3 rfl)] at z)
                  (try rw [show mI S3 64 1 = f 64 1 from zG_z hI_S3 rfl] at z)
                  exact z
                have li690 : (16 : Int32).toInt = 16 := rfl
                have li691 : (1500 : Int32).toInt = 1500 := rfl
                refine sp_134_64_n ((16 : Int32)) ((1500 : Int32)) (by omega) (by omega) (zR_dn_zY0 hI_S73) (show (mI S73 64 2).toInt ≤ (mI S73 64 3).toInt from by omega) (fun v76 S75 hL_S75 hp_v76 rp0_S75 => zi_n ⟨zG_T hL_S75, ?_⟩)
                have hI_S75 := zR_up_zY0 hI_S73 hL_S75
                have rp0_S75 : v76.toInt = zNum (f 65) (mI S73 64 2).toInt (mI S73 64 3).toInt (16 : Int32).toInt (1500 : Int32).toInt := by
                  have z := rp0_S75
                  (try rw [show mI S73 65 = f 65 from funext (fun k => zG_z hI_S73 rfl)] at z)
                  (try rw [show mI S73 64 1 = f 64 1 from zG_z hI_S73 rfl] at z)
                  exact z
                have b692 := i_bd v76
                have li693 : (-1 : Int32).toInt = -1 := rfl
                refine zd (fun h694 => ?_) (fun h694 => ?_)
                · skip
                  have g695 := i_eq h694
                  have hI696 : zR f r C Z N (ma_put S75 66 0 (.inl v76)) := zG_sa hI_S75 (-1) (1500) rfl (by decide) (by decide) (by decide) trivial (by omega) (by omega)
                  have f697 := zG_a hI 4 (-1) (1500) (c := 66) (k := 1) (by decide) (by decide)
                  have q698 : (mI S1 66 1).toInt = (mI S 66 1).toInt := zG_zi (f := mI (ma_put S 64 3 (.inl (0 : Int32)))) hL_S1 rfl
                  have f699 := zG_a hI_S1 4 (-1) (1500) (c := 66) (k := 1) (by decide) (by decide)
                  have q700 : (mI S3 66 1).toInt = (mI S1 66 1).toInt := zG_zi (f := mI S1) hL_S3 rfl
                  have f701 := zG_a hI_S3 4 (-1) (1500) (c := 66) (k := 1) (by decide) (by decide)
                  have q702 : (mI S73 66 1).toInt = (mI S3 66 1).toInt := zG_zi (f := mI S3) hL_S73 rfl
                  have f703 := zG_a hI_S73 4 (-1) (1500) (c := 66) (k := 1) (by decide) (by decide)
                  have q704 : (mI S75 66 1).toInt = (mI S73 66 1).toInt := zG_zi (f := mI S73) hL_S75 rfl
                  have f705 := zG_a hI_S75 4 (-1) (1500) (c := 66) (k := 1) (by decide) (by decide)
                  have q706 : (mI S75 64 2).toInt = (mI S73 64 2).toInt := zG_zi (f := mI S73) hL_S75 rfl
                  have f707 := zG_s hI_S75 (0) (100) (c := 64) (k := 2) (by decide)
                  exact K ((-1 : Int32)) _ hI696 (show (-1 : Int32).toInt = -1 ∨ (0 ≤ (-1 : Int32).toInt ∧ (-1 : Int32).toInt ≤ 6 ∧ 0 ≤ v76.toInt ∧ ((-1 : Int32).toInt = 3 → 0 ≤ (mI S75 66 1).toInt) ∧ ((-1 : Int32).toInt = 6 → 16 ≤ (mI S75 66 1).toInt)) from by omega) (show ((-1 : Int32).toInt = -1 ∧ -1 - (mI S75 64 2).toInt = zAns (f 65) (f 64 1).toInt) ∨ ((-1 : Int32).toInt ≠ -1 ∧ zFin (-1 : Int32).toInt v76.toInt (mI S75 66 1).toInt = zAns (f 65) (f 64 1).toInt) from by first | (have qk : v4.toInt = 6 := (by omega); have q := zAns_go (s := (mI S1 64 2)) (e := (mI S1 64 3).toInt) (k := v4.toInt) rp0_S1 rp1_S1 rp0_S3 (by omega); rw [show zPts v4.toInt = [0, 4, 5] from by rw [qk]; rfl] at q; have q2 := q.trans (zRun_badp (s := (mI S73 64 2)) (e := (mI S73 64 3).toInt) (x := v76.toInt) (p := (mI S1 64 3).toInt) rp0_S73 (by omega) rp1_S73 (show v76.toInt = zNum (f 65) (mI S73 64 2).toInt (mI S73 64 3).toInt 16 1500 from rp0_S75) (by omega)); exact Or.inl ⟨rfl, by omega⟩) | (omega) | (exfalso; omega))
                · skip
                  have g708 := i_ne h694
                  have hI709 : zR f r C Z N (ma_put S75 66 0 (.inl v76)) := zG_sa hI_S75 (-1) (1500) rfl (by decide) (by decide) (by decide) trivial (by omega) (by omega)
                  have q710 : (mI S75 64 3).toInt = (mI S73 64 3).toInt := zG_zi (f := mI S73) hL_S75 rfl
                  have f711 := zG_s hI_S75 (0) (100) (c := 64) (k := 3) (by decide)
                  refine sp_129_64_n (p0 := ((mI S75 64 3).toInt)) (by omega) (by omega) (zR_dn_zY hI709) (show (mI S75 64 3).toInt = ((mI S75 64 3).toInt) from by omega) (fun v78 S77 hL_S77 hp_v78 rp0_S77 rp1_S77 rp2_S77 rp3_S77 => zi_n ⟨zG_T hL_S77, ?_⟩)
                  have hI_S77 := zR_up_zY hI709 hL_S77
                  have f712 := zG_s hI_S77 (0) (100) (c := 64) (k := 2) (by decide)
                  have rp0_S77 : (mI S77 64 2).toInt = tk true (f 65) (f 64 1).toInt ((mI S75 64 3).toInt) := by
                    have z := rp0_S77
                    (try rw [show mI (ma_put S75 66 0 (.inl v76)) 65 = f 65 from funext (fun k => zG_z hI709 rfl)] at z)
                    (try rw [show mI (ma_put S75 66 0 (.inl v76)) 64 1 = f 64 1 from zG_z hI709 rfl] at z)
                    exact z
                  have f713 := zG_s hI_S77 (0) (100) (c := 64) (k := 3) (by decide)
                  have rp1_S77 : (mI S77 64 3).toInt = tk false (f 65) (f 64 1).toInt (mI S77 64 2).toInt := by
                    have z := rp1_S77
                    (try rw [show mI (ma_put S75 66 0 (.inl v76)) 65 = f 65 from funext (fun k => zG_z hI709 rfl)] at z)
                    (try rw [show mI (ma_put S75 66 0 (.inl v76)) 64 1 = f 64 1 from zG_z hI709 rfl] at z)
                    exact z
                  have rp2_S77 : (v78.toInt = 1 ∧ (mI S77 64 2).toInt < (mI S77 64 3).toInt) ∨ (v78.toInt = 0 ∧ (mI S77 64 3).toInt ≤ (mI S77 64 2).toInt) := by
                    have z := rp2_S77
                    (try rw [show mI (ma_put S75 66 0 (.inl v76)) 65 = f 65 from funext (fun k => zG_z hI709 rfl)] at z)
                    (try rw [show mI (ma_put S75 66 0 (.inl v76)) 64 1 = f 64 1 from zG_z hI709 rfl] at z)
                    exact z
                  have rp3_S77 : (mI S77 64 2).toInt ≤ (mI S77 64 3).toInt := by
                    have z := rp3_S77
                    (try rw [show mI (ma_put S75 66 0 (.inl v76)) 65 = f 65 from funext (fun k => zG_z hI709 rfl)] at z)
                    (try rw [show mI (ma_put S75 66 0 (.inl v76)) 64 1 = f 64 1 from zG_z hI709 rfl] at z)
                    exact z
                  have li714 : (256 : Int32).toInt = 256 := rfl
                  have q715 : (mI S77 66 0).toInt = v76.toInt := zG_zi (f := mI (ma_put S75 66 0 (.inl v76))) hL_S77 rfl
                  have f716 := zG_a hI_S77 4 (-1) (1500) (c := 66) (k := 0) (by decide) (by decide)
                  first | have f717 := i_div (x := (mI S77 66 0)) (y := (4 : Int32)) (by omega) (by omega) | have b718 := i_bd ((mI S77 66 0) / (4 : Int32))
                  try have f719 : (((mI S77 66 0) / (4 : Int32))).toInt = (mI S77 66 0).toInt / 4 := (i_div (x := (mI S77 66 0)) (y := (4 : Int32)) (by omega) (by omega)).2.2.1
                  have f720 := i_min (256 : Int32) ((mI S77 66 0) / (4 : Int32))
                  refine sp_134_64_n ((16 : Int32)) ((if ((mI S77 66 0) / (4 : Int32)) < (256 : Int32) then ((mI S77 66 0) / (4 : Int32)) else (256 : Int32))) (by omega) (by omega) (zR_dn_zY0 hI_S77) (show (mI S77 64 2).toInt ≤ (mI S77 64 3).toInt from by omega) (fun v80 S79 hL_S79 hp_v80 rp0_S79 => zi_n ⟨zG_T hL_S79, ?_⟩)
                  have hI_S79 := zR_up_zY0 hI_S77 hL_S79
                  have rp0_S79 : v80.toInt = zNum (f 65) (mI S77 64 2).toInt (mI S77 64 3).toInt (16 : Int32).toInt (if ((mI S77 66 0) / (4 : Int32)) < (256 : Int32) then ((mI S77 66 0) / (4 : Int32)) else (256 : Int32)).toInt := by
                    have z := rp0_S79
                    (try rw [show mI S77 65 = f 65 from funext (fun k => zG_z hI_S77 rfl)] at z)
                    (try rw [show mI S77 64 1 = f 64 1 from zG_z hI_S77 rfl] at z)
                    exact z
                  have b721 := i_bd v80
                  refine zd (fun h722 => ?_) (fun h722 => ?_)
                  · skip
                    have g723 := i_eq h722
                    have hI724 : zR f r C Z N (ma_put S79 66 1 (.inl v80)) := zG_sa hI_S79 (-1) (1500) rfl (by decide) (by decide) (by decide) trivial (by omega) (by omega)
                    have q725 : (mI S79 66 0).toInt = (mI S77 66 0).toInt := zG_zi (f := mI S77) hL_S79 rfl
                    have f726 := zG_a hI_S79 4 (-1) (1500) (c := 66) (k := 0) (by decide) (by decide)
                    have q727 : (mI S79 64 2).toInt = (mI S77 64 2).toInt := zG_zi (f := mI S77) hL_S79 rfl
                    have f728 := zG_s hI_S79 (0) (100) (c := 64) (k := 2) (by decide)
                    exact K ((-1 : Int32)) _ hI724 (show (-1 : Int32).toInt = -1 ∨ (0 ≤ (-1 : Int32).toInt ∧ (-1 : Int32).toInt ≤ 6 ∧ 0 ≤ (mI S79 66 0).toInt ∧ ((-1 : Int32).toInt = 3 → 0 ≤ v80.toInt) ∧ ((-1 : Int32).toInt = 6 → 16 ≤ v80.toInt)) from by omega) (show ((-1 : Int32).toInt = -1 ∧ -1 - (mI S79 64 2).toInt = zAns (f 65) (f 64 1).toInt) ∨ ((-1 : Int32).toInt ≠ -1 ∧ zFin (-1 : Int32).toInt (mI S79 66 0).toInt v80.toInt = zAns (f 65) (f 64 1).toInt) from by first | (have qk : v4.toInt = 6 := (by omega); have q := zAns_go (s := (mI S1 64 2)) (e := (mI S1 64 3).toInt) (k := v4.toInt) rp0_S1 rp1_S1 rp0_S3 (by omega); rw [show zPts v4.toInt = [0, 4, 5] from by rw [qk]; rfl] at q; replace q := q.trans (zRun_ok0 (s := (mI S73 64 2)) (e := (mI S73 64 3).toInt) (x := v76.toInt) (p := (mI S1 64 3).toInt) rp0_S73 (by omega) rp1_S73 (show v76.toInt = zNum (f 65) (mI S73 64 2).toInt (mI S73 64 3).toInt 16 1500 from rp0_S75) (by omega)); have q2 := q.trans (zRun_badp (s := (mI S77 64 2)) (e := (mI S77 64 3).toInt) (x := v80.toInt) (p := (mI S73 64 3).toInt) rp0_S77 (by omega) rp1_S77 (show v80.toInt = zNum (f 65) (mI S77 64 2).toInt (mI S77 64 3).toInt 16 (zmn v76.toInt) from (show v80.toInt = zNum (f 65) (mI S77 64 2).toInt (mI S77 64 3).toInt 16 _ from rp0_S79).trans (congrArg (zNum (f 65) (mI S77 64 2).toInt (mI S77 64 3).toInt 16) (zmn_of (by omega) (by omega) (by omega)))) (by omega)); exact Or.inl ⟨rfl, by omega⟩) | (omega) | (exfalso; omega))
                  · skip
                    have g729 := i_ne h722
                    have hI730 : zR f r C Z N (ma_put S79 66 1 (.inl v80)) := zG_sa hI_S79 (-1) (1500) rfl (by decide) (by decide) (by decide) trivial (by omega) (by omega)
                    have q731 : (mI S79 64 3).toInt = (mI S77 64 3).toInt := zG_zi (f := mI S77) hL_S79 rfl
                    have f732 := zG_s hI_S79 (0) (100) (c := 64) (k := 3) (by decide)
                    refine sp_129_64_n (p0 := ((mI S79 64 3).toInt)) (by omega) (by omega) (zR_dn_zY hI730) (show (mI S79 64 3).toInt = ((mI S79 64 3).toInt) from by omega) (fun v82 S81 hL_S81 hp_v82 rp0_S81 rp1_S81 rp2_S81 rp3_S81 => zi_n ⟨zG_T hL_S81, ?_⟩)
                    have hI_S81 := zR_up_zY hI730 hL_S81
                    have f733 := zG_s hI_S81 (0) (100) (c := 64) (k := 2) (by decide)
                    have rp0_S81 : (mI S81 64 2).toInt = tk true (f 65) (f 64 1).toInt ((mI S79 64 3).toInt) := by
                      have z := rp0_S81
                      (try rw [show mI (ma_put S79 66 1 (.inl v80)) 65 = f 65 from funext (fun k => zG_z hI730 rfl)] at z)
                      (try rw [show mI (ma_put S79 66 1 (.inl v80)) 64 1 = f 64 1 from zG_z hI730 rfl] at z)
                      exact z
                    have f734 := zG_s hI_S81 (0) (100) (c := 64) (k := 3) (by decide)
                    have rp1_S81 : (mI S81 64 3).toInt = tk false (f 65) (f 64 1).toInt (mI S81 64 2).toInt := by
                      have z := rp1_S81
                      (try rw [show mI (ma_put S79 66 1 (.inl v80)) 65 = f 65 from funext (fun k => zG_z hI730 rfl)] at z)
                      (try rw [show mI (ma_put S79 66 1 (.inl v80)) 64 1 = f 64 1 from zG_z hI730 rfl] at z)
                      exact z
                    have rp2_S81 : (v82.toInt = 1 ∧ (mI S81 64 2).toInt < (mI S81 64 3).toInt) ∨ (v82.toInt = 0 ∧ (mI S81 64 3).toInt ≤ (mI S81 64 2).toInt) := by
                      have z := rp2_S81
                      (try rw [show mI (ma_put S79 66 1 (.inl v80)) 65 = f 65 from funext (fun k => zG_z hI730 rfl)] at z)
                      (try rw [show mI (ma_put S79 66 1 (.inl v80)) 64 1 = f 64 1 from zG_z hI730 rfl] at z)
                      exact z
                    have rp3_S81 : (mI S81 64 2).toInt ≤ (mI S81 64 3).toInt := by
                      have z := rp3_S81
                      (try rw [show mI (ma_put S79 66 1 (.inl v80)) 65 = f 65 from funext (fun k => zG_z hI730 rfl)] at z)
                      (try rw [show mI (ma_put S79 66 1 (.inl v80)) 64 1 = f 64 1 from zG_z hI730 rfl] at z)
                      exact z
                    have li735 : (100 : Int32).toInt = 100 := rfl
                    refine sp_134_64_n ((0 : Int32)) ((100 : Int32)) (by omega) (by omega) (zR_dn_zY0 hI_S81) (show (mI S81 64 2).toInt ≤ (mI S81 64 3).toInt from by omega) (fun v84 S83 hL_S83 hp_v84 rp0_S83 => zi_n ⟨zG_T hL_S83, ?_⟩)
                    have hI_S83 := zR_up_zY0 hI_S81 hL_S83
                    have rp0_S83 : v84.toInt = zNum (f 65) (mI S81 64 2).toInt (mI S81 64 3).toInt (0 : Int32).toInt (100 : Int32).toInt := by
                      have z := rp0_S83
                      (try rw [show mI S81 65 = f 65 from funext (fun k => zG_z hI_S81 rfl)] at z)
                      (try rw [show mI S81 64 1 = f 64 1 from zG_z hI_S81 rfl] at z)
                      exact z
                    have b736 := i_bd v84
                    refine zd (fun h737 => ?_) (fun h737 => ?_)
                    · skip
                      have g738 := i_eq h737
                      have hI739 : zR f r C Z N (ma_put S83 66 2 (.inl v84)) := zG_sa hI_S83 (-1) (1500) rfl (by decide) (by decide) (by decide) trivial (by omega) (by omega)
                      have q740 : (mI S79 66 0).toInt = (mI S77 66 0).toInt := zG_zi (f := mI S77) hL_S79 rfl
                      have f741 := zG_a hI_S79 4 (-1) (1500) (c := 66) (k := 0) (by decide) (by decide)
                      have q742 : (mI S81 66 0).toInt = (mI S79 66 0).toInt := zG_zi (f := mI (ma_put S79 66 1 (.inl v80))) hL_S81 rfl
                      have f743 := zG_a hI_S81 4 (-1) (1500) (c := 66) (k := 0) (by decide) (by decide)
                      have q744 : (mI S83 66 0).toInt = (mI S81 66 0).toInt := zG_zi (f := mI S81) hL_S83 rfl
                      have f745 := zG_a hI_S83 4 (-1) (1500) (c := 66) (k := 0) (by decide) (by decide)
                      have q746 : (mI S81 66 1).toInt = v80.toInt := zG_zi (f := mI (ma_put S79 66 1 (.inl v80))) hL_S81 rfl
                      have f747 := zG_a hI_S81 4 (-1) (1500) (c := 66) (k := 1) (by decide) (by decide)
                      have q748 : (mI S83 66 1).toInt = (mI S81 66 1).toInt := zG_zi (f := mI S81) hL_S83 rfl
                      have f749 := zG_a hI_S83 4 (-1) (1500) (c := 66) (k := 1) (by decide) (by decide)
                      have q750 : (mI S83 64 2).toInt = (mI S81 64 2).toInt := zG_zi (f := mI S81) hL_S83 rfl
                      have f751 := zG_s hI_S83 (0) (100) (c := 64) (k := 2) (by decide)
                      exact K ((-1 : Int32)) _ hI739 (show (-1 : Int32).toInt = -1 ∨ (0 ≤ (-1 : Int32).toInt ∧ (-1 : Int32).toInt ≤ 6 ∧ 0 ≤ (mI S83 66 0).toInt ∧ ((-1 : Int32).toInt = 3 → 0 ≤ (mI S83 66 1).toInt) ∧ ((-1 : Int32).toInt = 6 → 16 ≤ (mI S83 66 1).toInt)) from by omega) (show ((-1 : Int32).toInt = -1 ∧ -1 - (mI S83 64 2).toInt = zAns (f 65) (f 64 1).toInt) ∨ ((-1 : Int32).toInt ≠ -1 ∧ zFin (-1 : Int32).toInt (mI S83 66 0).toInt (mI S83 66 1).toInt = zAns (f 65) (f 64 1).toInt) from by first | (have qk : v4.toInt = 6 := (by omega); have q := zAns_go (s := (mI S1 64 2)) (e := (mI S1 64 3).toInt) (k := v4.toInt) rp0_S1 rp1_S1 rp0_S3 (by omega); rw [show zPts v4.toInt = [0, 4, 5] from by rw [qk]; rfl] at q; replace q := q.trans (zRun_ok0 (s := (mI S73 64 2)) (e := (mI S73 64 3).toInt) (x := v76.toInt) (p := (mI S1 64 3).toInt) rp0_S73 (by omega) rp1_S73 (show v76.toInt = zNum (f 65) (mI S73 64 2).toInt (mI S73 64 3).toInt 16 1500 from rp0_S75) (by omega)); replace q := q.trans (zRun_ok1 (s := (mI S77 64 2)) (e := (mI S77 64 3).toInt) (x := v80.toInt) (p := (mI S73 64 3).toInt) rp0_S77 (by omega) rp1_S77 (show v80.toInt = zNum (f 65) (mI S77 64 2).toInt (mI S77 64 3).toInt 16 (zmn v76.toInt) from (show v80.toInt = zNum (f 65) (mI S77 64 2).toInt (mI S77 64 3).toInt 16 _ from rp0_S79).trans (congrArg (zNum (f 65) (mI S77 64 2).toInt (mI S77 64 3).toInt 16) (zmn_of (by omega) (by omega) (by omega)))) (by omega) (by omega)); have q2 := q.trans (zRun_badp (s := (mI S81 64 2)) (e := (mI S81 64 3).toInt) (x := v84.toInt) (p := (mI S77 64 3).toInt) rp0_S81 (by omega) rp1_S81 (show v84.toInt = zNum (f 65) (mI S81 64 2).toInt (mI S81 64 3).toInt 0 100 from rp0_S83) (by omega)); exact Or.inl ⟨rfl, by omega⟩) | (omega) | (exfalso; omega))
                    · skip
                      have g752 := i_ne h737
                      refine zd (fun h753 => ?_) (fun h753 => ?_)
                      · skip
                        have g754 := i_eq h753
                        have hI755 : zR f r C Z N (ma_put S83 66 2 (.inl v84)) := zG_sa hI_S83 (-1) (1500) rfl (by decide) (by decide) (by decide) trivial (by omega) (by omega)
                        have q756 : (mI S79 66 0).toInt = (mI S77 66 0).toInt := zG_zi (f := mI S77) hL_S79 rfl
                        have f757 := zG_a hI_S79 4 (-1) (1500) (c := 66) (k := 0) (by decide) (by decide)
                        have q758 : (mI S81 66 0).toInt = (mI S79 66 0).toInt := zG_zi (f := mI (ma_put S79 66 1 (.inl v80))) hL_S81 rfl
                        have f759 := zG_a hI_S81 4 (-1) (1500) (c := 66) (k := 0) (by decide) (by decide)
                        have q760 : (mI S83 66 0).toInt = (mI S81 66 0).toInt := zG_zi (f := mI S81) hL_S83 rfl
                        have f761 := zG_a hI_S83 4 (-1) (1500) (c := 66) (k := 0) (by decide) (by decide)
                        have q762 : (mI S81 66 1).toInt = v80.toInt := zG_zi (f := mI (ma_put S79 66 1 (.inl v80))) hL_S81 rfl
                        have f763 := zG_a hI_S81 4 (-1) (1500) (c := 66) (k := 1) (by decide) (by decide)
                        have q764 : (mI S83 66 1).toInt = (mI S81 66 1).toInt := zG_zi (f := mI S81) hL_S83 rfl
                        have f765 := zG_a hI_S83 4 (-1) (1500) (c := 66) (k := 1) (by decide) (by decide)
                        have q766 : (mI S83 64 2).toInt = (mI S81 64 2).toInt := zG_zi (f := mI S81) hL_S83 rfl
                        have f767 := zG_s hI_S83 (0) (100) (c := 64) (k := 2) (by decide)
                        exact K ((-1 : Int32)) _ hI755 (show (-1 : Int32).toInt = -1 ∨ (0 ≤ (-1 : Int32).toInt ∧ (-1 : Int32).toInt ≤ 6 ∧ 0 ≤ (mI S83 66 0).toInt ∧ ((-1 : Int32).toInt = 3 → 0 ≤ (mI S83 66 1).toInt) ∧ ((-1 : Int32).toInt = 6 → 16 ≤ (mI S83 66 1).toInt)) from by omega) (show ((-1 : Int32).toInt = -1 ∧ -1 - (mI S83 64 2).toInt = zAns (f 65) (f 64 1).toInt) ∨ ((-1 : Int32).toInt ≠ -1 ∧ zFin (-1 : Int32).toInt (mI S83 66 0).toInt (mI S83 66 1).toInt = zAns (f 65) (f 64 1).toInt) from by first | (have qk : v4.toInt = 6 := (by omega); have q := zAns_go (s := (mI S1 64 2)) (e := (mI S1 64 3).toInt) (k := v4.toInt) rp0_S1 rp1_S1 rp0_S3 (by omega); rw [show zPts v4.toInt = [0, 4, 5] from by rw [qk]; rfl] at q; replace q := q.trans (zRun_ok0 (s := (mI S73 64 2)) (e := (mI S73 64 3).toInt) (x := v76.toInt) (p := (mI S1 64 3).toInt) rp0_S73 (by omega) rp1_S73 (show v76.toInt = zNum (f 65) (mI S73 64 2).toInt (mI S73 64 3).toInt 16 1500 from rp0_S75) (by omega)); replace q := q.trans (zRun_ok1 (s := (mI S77 64 2)) (e := (mI S77 64 3).toInt) (x := v80.toInt) (p := (mI S73 64 3).toInt) rp0_S77 (by omega) rp1_S77 (show v80.toInt = zNum (f 65) (mI S77 64 2).toInt (mI S77 64 3).toInt 16 (zmn v76.toInt) from (show v80.toInt = zNum (f 65) (mI S77 64 2).toInt (mI S77 64 3).toInt 16 _ from rp0_S79).trans (congrArg (zNum (f 65) (mI S77 64 2).toInt (mI S77 64 3).toInt 16) (zmn_of (by omega) (by omega) (by omega)))) (by omega) (by omega)); have q2 := q.trans (zRun_badp (s := (mI S81 64 2)) (e := (mI S81 64 3).toInt) (x := v84.toInt) (p := (mI S77 64 3).toInt) rp0_S81 (by omega) rp1_S81 (show v84.toInt = zNum (f 65) (mI S81 64 2).toInt (mI S81 64 3).toInt 0 100 from rp0_S83) (by omega)); exact Or.inl ⟨rfl, by omega⟩) | (omega) | (exfalso; omega))
                      · skip
                        have g768 := i_ne h753
                        have hI769 : zR f r C Z N (ma_put S83 66 2 (.inl v84)) := zG_sa hI_S83 (-1) (1500) rfl (by decide) (by decide) (by decide) trivial (by omega) (by omega)
                        have q770 : (mI S83 64 3).toInt = (mI S81 64 3).toInt := zG_zi (f := mI S81) hL_S83 rfl
                        have f771 := zG_s hI_S83 (0) (100) (c := 64) (k := 3) (by decide)
                        refine sp_129_64_n (p0 := ((mI S83 64 3).toInt)) (by omega) (by omega) (zR_dn_zY hI769) (show (mI S83 64 3).toInt = ((mI S83 64 3).toInt) from by omega) (fun v86 S85 hL_S85 hp_v86 rp0_S85 rp1_S85 rp2_S85 rp3_S85 => zi_n ⟨zG_T hL_S85, ?_⟩)
                        have hI_S85 := zR_up_zY hI769 hL_S85
                        have f772 := zG_s hI_S85 (0) (100) (c := 64) (k := 2) (by decide)
                        have rp0_S85 : (mI S85 64 2).toInt = tk true (f 65) (f 64 1).toInt ((mI S83 64 3).toInt) := by
                          have z := rp0_S85
                          (try rw [show mI (ma_put S83 66 2 (.inl v84)) 65 = f 65 from funext (fun k => zG_z hI769 rfl)] at z)
                          (try rw [show mI (ma_put S83 66 2 (.inl v84)) 64 1 = f 64 1 from zG_z hI769 rfl] at z)
                          exact z
                        have f773 := zG_s hI_S85 (0) (100) (c := 64) (k := 3) (by decide)
                        have rp1_S85 : (mI S85 64 3).toInt = tk false (f 65) (f 64 1).toInt (mI S85 64 2).toInt := by
                          have z := rp1_S85
                          (try rw [show mI (ma_put S83 66 2 (.inl v84)) 65 = f 65 from funext (fun k => zG_z hI769 rfl)] at z)
                          (try rw [show mI (ma_put S83 66 2 (.inl v84)) 64 1 = f 64 1 from zG_z hI769 rfl] at z)
                          exact z
                        have rp2_S85 : (v86.toInt = 1 ∧ (mI S85 64 2).toInt < (mI S85 64 3).toInt) ∨ (v86.toInt = 0 ∧ (mI S85 64 3).toInt ≤ (mI S85 64 2).toInt) := by
                          have z := rp2_S85
                          (try rw [show mI (ma_put S83 66 2 (.inl v84)) 65 = f 65 from funext (fun k => zG_z hI769 rfl)] at z)
                          (try rw [show mI (ma_put S83 66 2 (.inl v84)) 64 1 = f 64 1 from zG_z hI769 rfl] at z)
                          exact z
                        have rp3_S85 : (mI S85 64 2).toInt ≤ (mI S85 64 3).toInt := by
                          have z := rp3_S85
                          (try rw [show mI (ma_put S83 66 2 (.inl v84)) 65 = f 65 from funext (fun k => zG_z hI769 rfl)] at z)
                          (try rw [show mI (ma_put S83 66 2 (.inl v84)) 64 1 = f 64 1 from zG_z hI769 rfl] at z)
                          exact z
                        have b774 := i_bd v86
                        refine zd (fun h775 => ?_) (fun h775 => ?_)
                        · skip
                          have g776 := i_eq h775
                          have q777 : (mI S79 66 0).toInt = (mI S77 66 0).toInt := zG_zi (f := mI S77) hL_S79 rfl
                          have f778 := zG_a hI_S79 4 (-1) (1500) (c := 66) (k := 0) (by decide) (by decide)
                          have q779 : (mI S81 66 0).toInt = (mI S79 66 0).toInt := zG_zi (f := mI (ma_put S79 66 1 (.inl v80))) hL_S81 rfl
                          have f780 := zG_a hI_S81 4 (-1) (1500) (c := 66) (k := 0) (by decide) (by decide)
                          have q781 : (mI S83 66 0).toInt = (mI S81 66 0).toInt := zG_zi (f := mI S81) hL_S83 rfl
                          have f782 := zG_a hI_S83 4 (-1) (1500) (c := 66) (k := 0) (by decide) (by decide)
                          have q783 : (mI S85 66 0).toInt = (mI S83 66 0).toInt := zG_zi (f := mI (ma_put S83 66 2 (.inl v84))) hL_S85 rfl
                          have f784 := zG_a hI_S85 4 (-1) (1500) (c := 66) (k := 0) (by decide) (by decide)
                          have q785 : (mI S81 66 1).toInt = v80.toInt := zG_zi (f := mI (ma_put S79 66 1 (.inl v80))) hL_S81 rfl
                          have f786 := zG_a hI_S81 4 (-1) (1500) (c := 66) (k := 1) (by decide) (by decide)
                          have q787 : (mI S83 66 1).toInt = (mI S81 66 1).toInt := zG_zi (f := mI S81) hL_S83 rfl
                          have f788 := zG_a hI_S83 4 (-1) (1500) (c := 66) (k := 1) (by decide) (by decide)
                          have q789 : (mI S85 66 1).toInt = (mI S83 66 1).toInt := zG_zi (f := mI (ma_put S83 66 2 (.inl v84))) hL_S85 rfl
                          have f790 := zG_a hI_S85 4 (-1) (1500) (c := 66) (k := 1) (by decide) (by decide)
                          exact K (v4) _ hI_S85 (show v4.toInt = -1 ∨ (0 ≤ v4.toInt ∧ v4.toInt ≤ 6 ∧ 0 ≤ (mI S85 66 0).toInt ∧ (v4.toInt = 3 → 0 ≤ (mI S85 66 1).toInt) ∧ (v4.toInt = 6 → 16 ≤ (mI S85 66 1).toInt)) from by omega) (show (v4.toInt = -1 ∧ -1 - (mI S85 64 2).toInt = zAns (f 65) (f 64 1).toInt) ∨ (v4.toInt ≠ -1 ∧ zFin v4.toInt (mI S85 66 0).toInt (mI S85 66 1).toInt = zAns (f 65) (f 64 1).toInt) from by first | (have qk : v4.toInt = 6 := (by omega); have q := zAns_go (s := (mI S1 64 2)) (e := (mI S1 64 3).toInt) (k := v4.toInt) rp0_S1 rp1_S1 rp0_S3 (by omega); rw [show zPts v4.toInt = [0, 4, 5] from by rw [qk]; rfl] at q; replace q := q.trans (zRun_ok0 (s := (mI S73 64 2)) (e := (mI S73 64 3).toInt) (x := v76.toInt) (p := (mI S1 64 3).toInt) rp0_S73 (by omega) rp1_S73 (show v76.toInt = zNum (f 65) (mI S73 64 2).toInt (mI S73 64 3).toInt 16 1500 from rp0_S75) (by omega)); replace q := q.trans (zRun_ok1 (s := (mI S77 64 2)) (e := (mI S77 64 3).toInt) (x := v80.toInt) (p := (mI S73 64 3).toInt) rp0_S77 (by omega) rp1_S77 (show v80.toInt = zNum (f 65) (mI S77 64 2).toInt (mI S77 64 3).toInt 16 (zmn v76.toInt) from (show v80.toInt = zNum (f 65) (mI S77 64 2).toInt (mI S77 64 3).toInt 16 _ from rp0_S79).trans (congrArg (zNum (f 65) (mI S77 64 2).toInt (mI S77 64 3).toInt 16) (zmn_of (by omega) (by omega) (by omega)))) (by omega) (by omega)); replace q := q.trans (zRun_okn (s := (mI S81 64 2)) (e := (mI S81 64 3).toInt) (x := v84.toInt) (p := (mI S77 64 3).toInt) rp0_S81 (by omega) rp1_S81 (show v84.toInt = zNum (f 65) (mI S81 64 2).toInt (mI S81 64 3).toInt 0 100 from rp0_S83) (by omega) (by omega)); have q2 := q.trans (zEnd_okp (s := (mI S85 64 2)) (e := (mI S85 64 3).toInt) (p := (mI S81 64 3).toInt) rp0_S85 (by omega) rp1_S85 (by omega)); exact Or.inr ⟨by omega, (zFin_eq (by omega) (by omega)).trans q2.symm⟩) | (omega) | (exfalso; omega))
                        · skip
                          have g791 := i_ne h775
                          have q792 : (mI S79 66 0).toInt = (mI S77 66 0).toInt := zG_zi (f := mI S77) hL_S79 rfl
                          have f793 := zG_a hI_S79 4 (-1) (1500) (c := 66) (k := 0) (by decide) (by decide)
                          have q794 : (mI S81 66 0).toInt = (mI S79 66 0).toInt := zG_zi (f := mI (ma_put S79 66 1 (.inl v80))) hL_S81 rfl
                          have f795 := zG_a hI_S81 4 (-1) (1500) (c := 66) (k := 0) (by decide) (by decide)
                          have q796 : (mI S83 66 0).toInt = (mI S81 66 0).toInt := zG_zi (f := mI S81) hL_S83 rfl
                          have f797 := zG_a hI_S83 4 (-1) (1500) (c := 66) (k := 0) (by decide) (by decide)
                          have q798 : (mI S85 66 0).toInt = (mI S83 66 0).toInt := zG_zi (f := mI (ma_put S83 66 2 (.inl v84))) hL_S85 rfl
                          have f799 := zG_a hI_S85 4 (-1) (1500) (c := 66) (k := 0) (by decide) (by decide)
                          have q800 : (mI S81 66 1).toInt = v80.toInt := zG_zi (f := mI (ma_put S79 66 1 (.inl v80))) hL_S81 rfl
                          have f801 := zG_a hI_S81 4 (-1) (1500) (c := 66) (k := 1) (by decide) (by decide)
                          have q802 : (mI S83 66 1).toInt = (mI S81 66 1).toInt := zG_zi (f := mI S81) hL_S83 rfl
                          have f803 := zG_a hI_S83 4 (-1) (1500) (c := 66) (k := 1) (by decide) (by decide)
                          have q804 : (mI S85 66 1).toInt = (mI S83 66 1).toInt := zG_zi (f := mI (ma_put S83 66 2 (.inl v84))) hL_S85 rfl
                          have f805 := zG_a hI_S85 4 (-1) (1500) (c := 66) (k := 1) (by decide) (by decide)
                          exact K ((-1 : Int32)) _ hI_S85 (show (-1 : Int32).toInt = -1 ∨ (0 ≤ (-1 : Int32).toInt ∧ (-1 : Int32).toInt ≤ 6 ∧ 0 ≤ (mI S85 66 0).toInt ∧ ((-1 : Int32).toInt = 3 → 0 ≤ (mI S85 66 1).toInt) ∧ ((-1 : Int32).toInt = 6 → 16 ≤ (mI S85 66 1).toInt)) from by omega) (show ((-1 : Int32).toInt = -1 ∧ -1 - (mI S85 64 2).toInt = zAns (f 65) (f 64 1).toInt) ∨ ((-1 : Int32).toInt ≠ -1 ∧ zFin (-1 : Int32).toInt (mI S85 66 0).toInt (mI S85 66 1).toInt = zAns (f 65) (f 64 1).toInt) from by first | (have qk : v4.toInt = 6 := (by omega); have q := zAns_go (s := (mI S1 64 2)) (e := (mI S1 64 3).toInt) (k := v4.toInt) rp0_S1 rp1_S1 rp0_S3 (by omega); rw [show zPts v4.toInt = [0, 4, 5] from by rw [qk]; rfl] at q; replace q := q.trans (zRun_ok0 (s := (mI S73 64 2)) (e := (mI S73 64 3).toInt) (x := v76.toInt) (p := (mI S1 64 3).toInt) rp0_S73 (by omega) rp1_S73 (show v76.toInt = zNum (f 65) (mI S73 64 2).toInt (mI S73 64 3).toInt 16 1500 from rp0_S75) (by omega)); replace q := q.trans (zRun_ok1 (s := (mI S77 64 2)) (e := (mI S77 64 3).toInt) (x := v80.toInt) (p := (mI S73 64 3).toInt) rp0_S77 (by omega) rp1_S77 (show v80.toInt = zNum (f 65) (mI S77 64 2).toInt (mI S77 64 3).toInt 16 (zmn v76.toInt) from (show v80.toInt = zNum (f 65) (mI S77 64 2).toInt (mI S77 64 3).toInt 16 _ from rp0_S79).trans (congrArg (zNum (f 65) (mI S77 64 2).toInt (mI S77 64 3).toInt 16) (zmn_of (by omega) (by omega) (by omega)))) (by omega) (by omega)); replace q := q.trans (zRun_okn (s := (mI S81 64 2)) (e := (mI S81 64 3).toInt) (x := v84.toInt) (p := (mI S77 64 3).toInt) rp0_S81 (by omega) rp1_S81 (show v84.toInt = zNum (f 65) (mI S81 64 2).toInt (mI S81 64 3).toInt 0 100 from rp0_S83) (by omega) (by omega)); have q2 := q.trans (zEnd_badp (s := (mI S85 64 2)) (e := (mI S85 64 3).toInt) (p := (mI S81 64 3).toInt) rp0_S85 (by omega) rp1_S85 (by omega)); exact Or.inl ⟨rfl, by omega⟩) | (omega) | (exfalso; omega))
              · skip
                have g806 := i_ne h684
                have li807 : (-1 : Int32).toInt = -1 := rfl
                refine zd (fun h808 => ?_) (fun h808 => ?_)
                · skip
                  have g809 := i_eq h808
                  have f810 := zG_a hI 4 (-1) (1500) (c := 66) (k := 0) (by decide) (by decide)
                  have q811 : (mI S1 66 0).toInt = (mI S 66 0).toInt := zG_zi (f := mI (ma_put S 64 3 (.inl (0 : Int32)))) hL_S1 rfl
                  have f812 := zG_a hI_S1 4 (-1) (1500) (c := 66) (k := 0) (by decide) (by decide)
                  have q813 : (mI S3 66 0).toInt = (mI S1 66 0).toInt := zG_zi (f := mI S1) hL_S3 rfl
                  have f814 := zG_a hI_S3 4 (-1) (1500) (c := 66) (k := 0) (by decide) (by decide)
                  have f815 := zG_a hI 4 (-1) (1500) (c := 66) (k := 1) (by decide) (by decide)
                  have q816 : (mI S1 66 1).toInt = (mI S 66 1).toInt := zG_zi (f := mI (ma_put S 64 3 (.inl (0 : Int32)))) hL_S1 rfl
                  have f817 := zG_a hI_S1 4 (-1) (1500) (c := 66) (k := 1) (by decide) (by decide)
                  have q818 : (mI S3 66 1).toInt = (mI S1 66 1).toInt := zG_zi (f := mI S1) hL_S3 rfl
                  have f819 := zG_a hI_S3 4 (-1) (1500) (c := 66) (k := 1) (by decide) (by decide)
                  have q820 : (mI S3 64 2).toInt = (mI S1 64 2).toInt := zG_zi (f := mI S1) hL_S3 rfl
                  have f821 := zG_s hI_S3 (0) (100) (c := 64) (k := 2) (by decide)
                  exact K ((-1 : Int32)) _ hI_S3 (show (-1 : Int32).toInt = -1 ∨ (0 ≤ (-1 : Int32).toInt ∧ (-1 : Int32).toInt ≤ 6 ∧ 0 ≤ (mI S3 66 0).toInt ∧ ((-1 : Int32).toInt = 3 → 0 ≤ (mI S3 66 1).toInt) ∧ ((-1 : Int32).toInt = 6 → 16 ≤ (mI S3 66 1).toInt)) from by omega) (show ((-1 : Int32).toInt = -1 ∧ -1 - (mI S3 64 2).toInt = zAns (f 65) (f 64 1).toInt) ∨ ((-1 : Int32).toInt ≠ -1 ∧ zFin (-1 : Int32).toInt (mI S3 66 0).toInt (mI S3 66 1).toInt = zAns (f 65) (f 64 1).toInt) from by first | (exact Or.inl ⟨rfl, by have q := zAns_bad (s := (mI S1 64 2)) (e := (mI S1 64 3).toInt) (k := v4.toInt) rp0_S1 rp1_S1 rp0_S3 (by omega); omega⟩) | (omega) | (exfalso; omega))
                · skip
                  have g822 := i_ne h808
                  have q823 : (mI S3 64 3).toInt = (mI S1 64 3).toInt := zG_zi (f := mI S1) hL_S3 rfl
                  have f824 := zG_s hI_S3 (0) (100) (c := 64) (k := 3) (by decide)
                  refine sp_129_64_n (p0 := ((mI S3 64 3).toInt)) (by omega) (by omega) (zR_dn_zY hI_S3) (show (mI S3 64 3).toInt = ((mI S3 64 3).toInt) from by omega) (fun v88 S87 hL_S87 hp_v88 rp0_S87 rp1_S87 rp2_S87 rp3_S87 => zi_n ⟨zG_T hL_S87, ?_⟩)
                  have hI_S87 := zR_up_zY hI_S3 hL_S87
                  have f825 := zG_s hI_S87 (0) (100) (c := 64) (k := 2) (by decide)
                  have rp0_S87 : (mI S87 64 2).toInt = tk true (f 65) (f 64 1).toInt ((mI S3 64 3).toInt) := by
                    have z := rp0_S87
                    (try rw [show mI S3 65 = f 65 from funext (fun k => zG_z hI_S3 rfl)] at z)
                    (try rw [show mI S3 64 1 = f 64 1 from zG_z hI_S3 rfl] at z)
                    exact z
                  have f826 := zG_s hI_S87 (0) (100) (c := 64) (k := 3) (by decide)
                  have rp1_S87 : (mI S87 64 3).toInt = tk false (f 65) (f 64 1).toInt (mI S87 64 2).toInt := by
                    have z := rp1_S87
                    (try rw [show mI S3 65 = f 65 from funext (fun k => zG_z hI_S3 rfl)] at z)
                    (try rw [show mI S3 64 1 = f 64 1 from zG_z hI_S3 rfl] at z)
                    exact z
                  have rp2_S87 : (v88.toInt = 1 ∧ (mI S87 64 2).toInt < (mI S87 64 3).toInt) ∨ (v88.toInt = 0 ∧ (mI S87 64 3).toInt ≤ (mI S87 64 2).toInt) := by
                    have z := rp2_S87
                    (try rw [show mI S3 65 = f 65 from funext (fun k => zG_z hI_S3 rfl)] at z)
                    (try rw [show mI S3 64 1 = f 64 1 from zG_z hI_S3 rfl] at z)
                    exact z
                  have rp3_S87 : (mI S87 64 2).toInt ≤ (mI S87 64 3).toInt := by
                    have z := rp3_S87
                    (try rw [show mI S3 65 = f 65 from funext (fun k => zG_z hI_S3 rfl)] at z)
                    (try rw [show mI S3 64 1 = f 64 1 from zG_z hI_S3 rfl] at z)
                    exact z
                  have b827 := i_bd v88
                  refine zd (fun h828 => ?_) (fun h828 => ?_)
                  · skip
                    have g829 := i_eq h828
                    have f830 := zG_a hI 4 (-1) (1500) (c := 66) (k := 0) (by decide) (by decide)
                    have q831 : (mI S1 66 0).toInt = (mI S 66 0).toInt := zG_zi (f := mI (ma_put S 64 3 (.inl (0 : Int32)))) hL_S1 rfl
                    have f832 := zG_a hI_S1 4 (-1) (1500) (c := 66) (k := 0) (by decide) (by decide)
                    have q833 : (mI S3 66 0).toInt = (mI S1 66 0).toInt := zG_zi (f := mI S1) hL_S3 rfl
                    have f834 := zG_a hI_S3 4 (-1) (1500) (c := 66) (k := 0) (by decide) (by decide)
                    have q835 : (mI S87 66 0).toInt = (mI S3 66 0).toInt := zG_zi (f := mI S3) hL_S87 rfl
                    have f836 := zG_a hI_S87 4 (-1) (1500) (c := 66) (k := 0) (by decide) (by decide)
                    have f837 := zG_a hI 4 (-1) (1500) (c := 66) (k := 1) (by decide) (by decide)
                    have q838 : (mI S1 66 1).toInt = (mI S 66 1).toInt := zG_zi (f := mI (ma_put S 64 3 (.inl (0 : Int32)))) hL_S1 rfl
                    have f839 := zG_a hI_S1 4 (-1) (1500) (c := 66) (k := 1) (by decide) (by decide)
                    have q840 : (mI S3 66 1).toInt = (mI S1 66 1).toInt := zG_zi (f := mI S1) hL_S3 rfl
                    have f841 := zG_a hI_S3 4 (-1) (1500) (c := 66) (k := 1) (by decide) (by decide)
                    have q842 : (mI S87 66 1).toInt = (mI S3 66 1).toInt := zG_zi (f := mI S3) hL_S87 rfl
                    have f843 := zG_a hI_S87 4 (-1) (1500) (c := 66) (k := 1) (by decide) (by decide)
                    exact K (v4) _ hI_S87 (show v4.toInt = -1 ∨ (0 ≤ v4.toInt ∧ v4.toInt ≤ 6 ∧ 0 ≤ (mI S87 66 0).toInt ∧ (v4.toInt = 3 → 0 ≤ (mI S87 66 1).toInt) ∧ (v4.toInt = 6 → 16 ≤ (mI S87 66 1).toInt)) from by omega) (show (v4.toInt = -1 ∧ -1 - (mI S87 64 2).toInt = zAns (f 65) (f 64 1).toInt) ∨ (v4.toInt ≠ -1 ∧ zFin v4.toInt (mI S87 66 0).toInt (mI S87 66 1).toInt = zAns (f 65) (f 64 1).toInt) from by first | (omega) | (exfalso; omega))
                  · skip
                    have g844 := i_ne h828
                    have f845 := zG_a hI 4 (-1) (1500) (c := 66) (k := 0) (by decide) (by decide)
                    have q846 : (mI S1 66 0).toInt = (mI S 66 0).toInt := zG_zi (f := mI (ma_put S 64 3 (.inl (0 : Int32)))) hL_S1 rfl
                    have f847 := zG_a hI_S1 4 (-1) (1500) (c := 66) (k := 0) (by decide) (by decide)
                    have q848 : (mI S3 66 0).toInt = (mI S1 66 0).toInt := zG_zi (f := mI S1) hL_S3 rfl
                    have f849 := zG_a hI_S3 4 (-1) (1500) (c := 66) (k := 0) (by decide) (by decide)
                    have q850 : (mI S87 66 0).toInt = (mI S3 66 0).toInt := zG_zi (f := mI S3) hL_S87 rfl
                    have f851 := zG_a hI_S87 4 (-1) (1500) (c := 66) (k := 0) (by decide) (by decide)
                    have f852 := zG_a hI 4 (-1) (1500) (c := 66) (k := 1) (by decide) (by decide)
                    have q853 : (mI S1 66 1).toInt = (mI S 66 1).toInt := zG_zi (f := mI (ma_put S 64 3 (.inl (0 : Int32)))) hL_S1 rfl
                    have f854 := zG_a hI_S1 4 (-1) (1500) (c := 66) (k := 1) (by decide) (by decide)
                    have q855 : (mI S3 66 1).toInt = (mI S1 66 1).toInt := zG_zi (f := mI S1) hL_S3 rfl
                    have f856 := zG_a hI_S3 4 (-1) (1500) (c := 66) (k := 1) (by decide) (by decide)
                    have q857 : (mI S87 66 1).toInt = (mI S3 66 1).toInt := zG_zi (f := mI S3) hL_S87 rfl
                    have f858 := zG_a hI_S87 4 (-1) (1500) (c := 66) (k := 1) (by decide) (by decide)
                    exact K ((-1 : Int32)) _ hI_S87 (show (-1 : Int32).toInt = -1 ∨ (0 ≤ (-1 : Int32).toInt ∧ (-1 : Int32).toInt ≤ 6 ∧ 0 ≤ (mI S87 66 0).toInt ∧ ((-1 : Int32).toInt = 3 → 0 ≤ (mI S87 66 1).toInt) ∧ ((-1 : Int32).toInt = 6 → 16 ≤ (mI S87 66 1).toInt)) from by omega) (show ((-1 : Int32).toInt = -1 ∧ -1 - (mI S87 64 2).toInt = zAns (f 65) (f 64 1).toInt) ∨ ((-1 : Int32).toInt ≠ -1 ∧ zFin (-1 : Int32).toInt (mI S87 66 0).toInt (mI S87 66 1).toInt = zAns (f 65) (f 64 1).toInt) from by first | (omega) | (exfalso; omega))
