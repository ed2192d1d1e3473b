/-! THE SMALL MACHINE, part 13: the law's own frame and its methods that catch -/
/-- the frames of the law: 0 the law itself, the others its methods with a table: code, locals, answer, table -/
def ma_fi (k : Nat) : Option (ByteArray × Nat × Option FieldType × List (Nat × Nat × Nat × Nat)) := match k with
  | 0 => some (code, 7, some .boolean, [])
  | 1 => some (method_3_code, 8, some .int, [(0, 16, 19, 13)])
  | 2 => some (method_4_code, 4, some .int, [(0, 9, 12, 19)])
  | 3 => some (method_5_code, 5, some .int, [(0, 10, 13, 19), (0, 10, 17, 25)])
  | 4 => some (method_6_code, 5, some .int, [(0, 10, 13, 19), (0, 10, 17, 25)])
  | 5 => some (method_7_code, 6, some .int, [(0, 12, 15, 19), (0, 12, 19, 25)])
  | 6 => some (method_8_code, 6, some .int, [(0, 12, 15, 25), (0, 12, 19, 38), (0, 12, 23, 13), (0, 12, 27, 40)])
  | 7 => some (method_9_code, 6, some .int, [(0, 12, 15, 25), (0, 12, 19, 38), (0, 12, 23, 13), (0, 12, 27, 40)])
  | 8 => some (method_10_code, 5, some .int, [(0, 10, 13, 25), (0, 10, 17, 38), (0, 10, 21, 13)])
  | 9 => some (method_11_code, 5, some .int, [(0, 10, 13, 19), (0, 10, 17, 25), (0, 10, 21, 38)])
  | 10 => some (method_12_code, 5, some .int, [(0, 10, 13, 19), (0, 10, 17, 25), (0, 10, 21, 38)])
  | 11 => some (method_13_code, 5, some .int, [(0, 10, 13, 19), (0, 10, 17, 25)])
  | 12 => some (method_14_code, 5, some .int, [(0, 10, 13, 25), (0, 10, 17, 38), (0, 10, 21, 61)])
  | 13 => some (method_15_code, 4, some .int, [(0, 9, 12, 25), (0, 9, 15, 38)])
  | 14 => some (method_16_code, 4, some .int, [(0, 9, 12, 19), (0, 9, 15, 25)])
  | 15 => some (method_17_code, 3, some .int, [(0, 8, 11, 25)])
  | 16 => some (method_18_code, 4, some .int, [(0, 9, 12, 19), (0, 9, 15, 25), (0, 9, 18, 61)])
  | 17 => some (method_19_code, 5, some .int, [(0, 10, 13, 19), (0, 10, 17, 25), (0, 10, 21, 38)])
  | 18 => some (method_20_code, 5, some .int, [(0, 10, 13, 19), (0, 10, 17, 25), (0, 10, 21, 61), (0, 10, 25, 13)])
  | 19 => some (method_21_code, 4, some .int, [(0, 9, 12, 19), (0, 9, 15, 25)])
  | _ => none
def ma_fy (k : Nat) : MethodName := match k with
  | 1 => ⟨"CollectorHouseLaw", "feed", "(LCollectorHouse;IIIII[J)I"⟩
  | 2 => ⟨"CollectorHouseLaw", "end", "(LCollectorHouse;I[J)I"⟩
  | 3 => ⟨"CollectorHouseLaw", "kind", "(LCollectorHouse;II[J)I"⟩
  | 4 => ⟨"CollectorHouseLaw", "make", "(LCollectorHouse;II[J)I"⟩
  | 5 => ⟨"CollectorHouseLaw", "row", "(LCollectorHouse;ZII[J)I"⟩
  | 6 => ⟨"CollectorHouseLaw", "put", "(LCollectorHouse;III[J)I"⟩
  | 7 => ⟨"CollectorHouseLaw", "link", "(LCollectorHouse;III[J)I"⟩
  | 8 => ⟨"CollectorHouseLaw", "get", "(LCollectorHouse;II[J)I"⟩
  | 9 => ⟨"CollectorHouseLaw", "root", "(LCollectorHouse;II[J)I"⟩
  | 10 => ⟨"CollectorHouseLaw", "weak", "(LCollectorHouse;II[J)I"⟩
  | 11 => ⟨"CollectorHouseLaw", "strong", "(LCollectorHouse;II[J)I"⟩
  | 12 => ⟨"CollectorHouseLaw", "hold", "(LCollectorHouse;IZ[J)I"⟩
  | 13 => ⟨"CollectorHouseLaw", "wish", "(LCollectorHouse;I[J)I"⟩
  | 14 => ⟨"CollectorHouseLaw", "granted", "(LCollectorHouse;I[J)I"⟩
  | 15 => ⟨"CollectorHouseLaw", "clean", "(LCollectorHouse;[J)I"⟩
  | 16 => ⟨"CollectorHouseLaw", "step", "(LCollectorHouse;I[J)I"⟩
  | 17 => ⟨"CollectorHouseLaw", "about", "(LCollectorHouse;II[J)I"⟩
  | 18 => ⟨"CollectorHouseLaw", "block", "(LCollectorHouse;II[J)I"⟩
  | 19 => ⟨"CollectorHouseLaw", "count", "(LCollectorHouse;I[J)I"⟩
  | _ => ⟨"", "", ""⟩
theorem ma_fw1 : Cond.codeWith (ma_fy 1) method_3_code 8 (some .int) [(0, 16, 19, 13)] ∈ ma_TB ∧ Cond.static (ma_fy 1) ∈ ma_TB ∧ (ma_fy 1).cls = "CollectorHouseLaw" := ⟨ma_T3 (i := 44) rfl rfl, ma_T3 (i := 43) (by decide +kernel) (by decide +kernel), rfl⟩
theorem ma_fw2 : Cond.codeWith (ma_fy 2) method_4_code 4 (some .int) [(0, 9, 12, 19)] ∈ ma_TB ∧ Cond.static (ma_fy 2) ∈ ma_TB ∧ (ma_fy 2).cls = "CollectorHouseLaw" := ⟨ma_T3 (i := 122) rfl rfl, ma_T3 (i := 121) (by decide +kernel) (by decide +kernel), rfl⟩
theorem ma_fw3 : Cond.codeWith (ma_fy 3) method_5_code 5 (some .int) [(0, 10, 13, 19), (0, 10, 17, 25)] ∈ ma_TB ∧ Cond.static (ma_fy 3) ∈ ma_TB ∧ (ma_fy 3).cls = "CollectorHouseLaw" := ⟨ma_T3 (i := 145) rfl rfl, ma_T3 (i := 144) (by decide +kernel) (by decide +kernel), rfl⟩
theorem ma_fw4 : Cond.codeWith (ma_fy 4) method_6_code 5 (some .int) [(0, 10, 13, 19), (0, 10, 17, 25)] ∈ ma_TB ∧ Cond.static (ma_fy 4) ∈ ma_TB ∧ (ma_fy 4).cls = "CollectorHouseLaw" := ⟨ma_T3 (i := 168) rfl rfl, ma_T3 (i := 167) (by decide +kernel) (by decide +kernel), rfl⟩
theorem ma_fw5 : Cond.codeWith (ma_fy 5) method_7_code 6 (some .int) [(0, 12, 15, 19), (0, 12, 19, 25)] ∈ ma_TB ∧ Cond.static (ma_fy 5) ∈ ma_TB ∧ (ma_fy 5).cls = "CollectorHouseLaw" := ⟨ma_T5 (i := 216) rfl rfl, ma_T5 (i := 215) (by decide +kernel) (by decide +kernel), rfl⟩
theorem ma_fw6 : Cond.codeWith (ma_fy 6) method_8_code 6 (some .int) [(0, 12, 15, 25), (0, 12, 19, 38), (0, 12, 23, 13), (0, 12, 27, 40)] ∈ ma_TB ∧ Cond.static (ma_fy 6) ∈ ma_TB ∧ (ma_fy 6).cls = "CollectorHouseLaw" := ⟨ma_T5 (i := 224) rfl rfl, ma_T5 (i := 223) (by decide +kernel) (by decide +kernel), rfl⟩
theorem ma_fw7 : Cond.codeWith (ma_fy 7) method_9_code 6 (some .int) [(0, 12, 15, 25), (0, 12, 19, 38), (0, 12, 23, 13), (0, 12, 27, 40)] ∈ ma_TB ∧ Cond.static (ma_fy 7) ∈ ma_TB ∧ (ma_fy 7).cls = "CollectorHouseLaw" := ⟨ma_T6 (i := 33) rfl rfl, ma_T6 (i := 32) (by decide +kernel) (by decide +kernel), rfl⟩
theorem ma_fw8 : Cond.codeWith (ma_fy 8) method_10_code 5 (some .int) [(0, 10, 13, 25), (0, 10, 17, 38), (0, 10, 21, 13)] ∈ ma_TB ∧ Cond.static (ma_fy 8) ∈ ma_TB ∧ (ma_fy 8).cls = "CollectorHouseLaw" := ⟨ma_T6 (i := 57) rfl rfl, ma_T6 (i := 56) (by decide +kernel) (by decide +kernel), rfl⟩
theorem ma_fw9 : Cond.codeWith (ma_fy 9) method_11_code 5 (some .int) [(0, 10, 13, 19), (0, 10, 17, 25), (0, 10, 21, 38)] ∈ ma_TB ∧ Cond.static (ma_fy 9) ∈ ma_TB ∧ (ma_fy 9).cls = "CollectorHouseLaw" := ⟨ma_T6 (i := 68) rfl rfl, ma_T6 (i := 67) (by decide +kernel) (by decide +kernel), rfl⟩
theorem ma_fw10 : Cond.codeWith (ma_fy 10) method_12_code 5 (some .int) [(0, 10, 13, 19), (0, 10, 17, 25), (0, 10, 21, 38)] ∈ ma_TB ∧ Cond.static (ma_fy 10) ∈ ma_TB ∧ (ma_fy 10).cls = "CollectorHouseLaw" := ⟨ma_T6 (i := 75) rfl rfl, ma_T6 (i := 74) (by decide +kernel) (by decide +kernel), rfl⟩
theorem ma_fw11 : Cond.codeWith (ma_fy 11) method_13_code 5 (some .int) [(0, 10, 13, 19), (0, 10, 17, 25)] ∈ ma_TB ∧ Cond.static (ma_fy 11) ∈ ma_TB ∧ (ma_fy 11).cls = "CollectorHouseLaw" := ⟨ma_T6 (i := 82) rfl rfl, ma_T6 (i := 81) (by decide +kernel) (by decide +kernel), rfl⟩
theorem ma_fw12 : Cond.codeWith (ma_fy 12) method_14_code 5 (some .int) [(0, 10, 13, 25), (0, 10, 17, 38), (0, 10, 21, 61)] ∈ ma_TB ∧ Cond.static (ma_fy 12) ∈ ma_TB ∧ (ma_fy 12).cls = "CollectorHouseLaw" := ⟨ma_T6 (i := 102) rfl rfl, ma_T6 (i := 101) (by decide +kernel) (by decide +kernel), rfl⟩
theorem ma_fw13 : Cond.codeWith (ma_fy 13) method_15_code 4 (some .int) [(0, 9, 12, 25), (0, 9, 15, 38)] ∈ ma_TB ∧ Cond.static (ma_fy 13) ∈ ma_TB ∧ (ma_fy 13).cls = "CollectorHouseLaw" := ⟨ma_T6 (i := 144) rfl rfl, ma_T6 (i := 143) (by decide +kernel) (by decide +kernel), rfl⟩
theorem ma_fw14 : Cond.codeWith (ma_fy 14) method_16_code 4 (some .int) [(0, 9, 12, 19), (0, 9, 15, 25)] ∈ ma_TB ∧ Cond.static (ma_fy 14) ∈ ma_TB ∧ (ma_fy 14).cls = "CollectorHouseLaw" := ⟨ma_T6 (i := 151) rfl rfl, ma_T6 (i := 150) (by decide +kernel) (by decide +kernel), rfl⟩
theorem ma_fw15 : Cond.codeWith (ma_fy 15) method_17_code 3 (some .int) [(0, 8, 11, 25)] ∈ ma_TB ∧ Cond.static (ma_fy 15) ∈ ma_TB ∧ (ma_fy 15).cls = "CollectorHouseLaw" := ⟨ma_T6 (i := 162) rfl rfl, ma_T6 (i := 161) (by decide +kernel) (by decide +kernel), rfl⟩
theorem ma_fw16 : Cond.codeWith (ma_fy 16) method_18_code 4 (some .int) [(0, 9, 12, 19), (0, 9, 15, 25), (0, 9, 18, 61)] ∈ ma_TB ∧ Cond.static (ma_fy 16) ∈ ma_TB ∧ (ma_fy 16).cls = "CollectorHouseLaw" := ⟨ma_T6 (i := 181) rfl rfl, ma_T6 (i := 180) (by decide +kernel) (by decide +kernel), rfl⟩
theorem ma_fw17 : Cond.codeWith (ma_fy 17) method_19_code 5 (some .int) [(0, 10, 13, 19), (0, 10, 17, 25), (0, 10, 21, 38)] ∈ ma_TB ∧ Cond.static (ma_fy 17) ∈ ma_TB ∧ (ma_fy 17).cls = "CollectorHouseLaw" := ⟨ma_T6 (i := 189) rfl rfl, ma_T6 (i := 188) (by decide +kernel) (by decide +kernel), rfl⟩
theorem ma_fw18 : Cond.codeWith (ma_fy 18) method_20_code 5 (some .int) [(0, 10, 13, 19), (0, 10, 17, 25), (0, 10, 21, 61), (0, 10, 25, 13)] ∈ ma_TB ∧ Cond.static (ma_fy 18) ∈ ma_TB ∧ (ma_fy 18).cls = "CollectorHouseLaw" := ⟨ma_T6 (i := 223) rfl rfl, ma_T6 (i := 222) (by decide +kernel) (by decide +kernel), rfl⟩
theorem ma_fw19 : Cond.codeWith (ma_fy 19) method_21_code 4 (some .int) [(0, 9, 12, 19), (0, 9, 15, 25)] ∈ ma_TB ∧ Cond.static (ma_fy 19) ∈ ma_TB ∧ (ma_fy 19).cls = "CollectorHouseLaw" := ⟨ma_T6 (i := 238) rfl rfl, ma_T6 (i := 237) (by decide +kernel) (by decide +kernel), rfl⟩
theorem ma_fw {k nL : Nat} {cc : ByteArray} {ret : Option FieldType} {hh : List (Nat × Nat × Nat × Nat)} (hk : 1 ≤ k) (h : ma_fi k = some (cc, nL, ret, hh)) : Cond.codeWith (ma_fy k) cc nL ret hh ∈ ma_TB ∧ Cond.static (ma_fy k) ∈ ma_TB ∧ (ma_fy k).cls = "CollectorHouseLaw" := by
  unfold ma_fi at h
  split at h
  · omega
  · cases h; exact ma_fw1
  · cases h; exact ma_fw2
  · cases h; exact ma_fw3
  · cases h; exact ma_fw4
  · cases h; exact ma_fw5
  · cases h; exact ma_fw6
  · cases h; exact ma_fw7
  · cases h; exact ma_fw8
  · cases h; exact ma_fw9
  · cases h; exact ma_fw10
  · cases h; exact ma_fw11
  · cases h; exact ma_fw12
  · cases h; exact ma_fw13
  · cases h; exact ma_fw14
  · cases h; exact ma_fw15
  · cases h; exact ma_fw16
  · cases h; exact ma_fw17
  · cases h; exact ma_fw18
  · cases h; exact ma_fw19
  · cases h
theorem ma_fwi : Cond.initialized "CollectorHouseLaw" ∈ ma_TB := ma_T1 (i := 0) (by decide +kernel) (by decide +kernel)
/-- calls of those: pool entry, method, how many arguments -/
def ma_cwh : List ((Nat × Nat × Nat) × Nat) := [((89, 1, 7), 522), ((95, 2, 3), 600), ((99, 3, 4), 623), ((107, 4, 4), 646), ((110, 5, 5), 1174), ((114, 6, 5), 1182), ((118, 7, 5), 1231), ((121, 8, 4), 1255), ((124, 9, 4), 1266), ((127, 10, 4), 1273), ((130, 11, 4), 1280), ((133, 12, 4), 1300), ((137, 13, 3), 1342), ((143, 14, 3), 1349), ((146, 15, 2), 1360), ((150, 16, 3), 1379), ((153, 17, 4), 1387), ((156, 18, 4), 1421), ((159, 19, 3), 1436)]
theorem ma_cwh_ok : ∀ q ∈ ma_cwh, (ma_w q.2 (.methodLink "CollectorHouseLaw" q.1.1 (ma_fy q.1.2.1)) && decide ((parseMethodDescriptor (ma_fy q.1.2.1).desc).map (fun d => d.parameters.length) = some q.1.2.2) && decide (1 ≤ q.1.2.1)) = true := List.all_eq_true.mp (by decide +kernel)
def ma_cw (i : Instr) (n : Nat) (st : List ma_V) : Option (Nat × List ma_V × List ma_V) := match i, n with
  | .invokestatic x, 3 => match ma_cwh.find? (fun q => q.1.1 == x) with
    | some q => if q.1.2.2 ≤ st.length then some (q.1.2.1, (st.take q.1.2.2).reverse, st.drop q.1.2.2) else none
    | none => none
  | _, _ => none
/-- the classes that the tables name -/
def ma_cth2 : List ((Nat × Nat) × Nat) := [((13, 1), 525), ((19, 2), 603), ((25, 3), 626), ((38, 4), 1185), ((40, 5), 1186), ((61, 6), 1303)]
theorem ma_cth2_ok : ∀ q ∈ ma_cth2, ma_w q.2 (.classLink "CollectorHouseLaw" q.1.1 (ma_xn q.1.2)) = true := List.all_eq_true.mp (by decide +kernel)
def ma_cx (ct : Nat) : Option Nat := (ma_cth2.find? (fun q => q.1.1 == ct)).map (fun q => q.1.2)
theorem ma_cx_spec {ct x : Nat} (h : ma_cx ct = some x) : Cond.classLink "CollectorHouseLaw" ct (ma_xn x) ∈ ma_TB := by
  unfold ma_cx at h
  cases hf : ma_cth2.find? (fun q => q.1.1 == ct) with
  | none => rw [hf] at h; cases h
  | some q =>
    rw [hf] at h
    have hk : q.1.2 = x := Option.some.inj h
    have h1 := List.find?_some hf
    simp only [beq_iff_eq] at h1
    have h2 := ma_cth2_ok q (List.mem_of_find?_eq_some hf)
    rw [hk, h1] at h2
    exact ma_w_in h2
/-- the answer behind a handler: put it away, a constant, answer -/
def ma_hk (cc : ByteArray) (nL h : Nat) : Option Int32 := match decode cc h with
  | .ok (.astore_n k, 1) => if (k : Nat) < nL then (match decode cc (h + 1), decode cc (h + 1 + 1) with
    | .ok (.iconst c, 1), .ok (.ireturn, 1) => some (Int32.ofInt c)
    | _, _ => none) else none
  | .ok (.astore k, 2) => if k < nL then (match decode cc (h + 2), decode cc (h + 2 + 1) with
    | .ok (.iconst c, 1), .ok (.ireturn, 1) => some (Int32.ofInt c)
    | _, _ => none) else none
  | _ => none
/-- the first row of the table that takes exception x, thrown at pc -/
def ma_hd (cc : ByteArray) (nL x pc : Nat) (hh : List (Nat × Nat × Nat × Nat)) : Option Int32 := match hh with
  | [] => none
  | q :: r => if covers ⟨q.1, q.2.1, q.2.2.1, q.2.2.2⟩ pc && decide (q.2.2.2 ≠ 0) then (match ma_cx q.2.2.2 with
    | some z => if z = x then (if Cond.castable (ma_xn x) (ma_xn x) ∈ ma_nw then ma_hk cc nL q.2.2.1 else none) else if (ma_xn x, ma_xn z) ∈ ma_nc then ma_hd cc nL x pc r else none
    | none => none) else none
def ma_frun (X : Nat × (Nat → Int32)) : Nat → Nat → Nat → Nat → Nat → ma_L → List ma_V → ma_S → Option (Option ma_V × ma_S)
  | 0, _, _, _, _, _, _, _ => none
  | f + 1, k, d, w, pc, L, st, S => match ma_fi k with
    | none => none
    | some (cc, nL, ret, hh) => match decode cc pc with
      | .error _ => none
      | .ok (i, n) => match ma_one X 14 false nL d w i n pc L st S with
        | some (pc', L', st', S') => ma_frun X f k d w pc' L' st' S'
        | none => match ma_ret ret i n st with
          | some v => some (v, S)
          | none => match ma_cl 14 i n st S with
            | some ((kd, M'), as, rest) => (match ma_md M' with
              | none => none
              | some (_, _, _, nL', _) => if 1 ≤ d ∧ 19 + nL' ≤ w ∧ ma_sz as ≤ nL' ∧ ma_sz rest ≤ 8 then (match ma_run X f (d - 1) (w - (19 + nL')) M' 0 (ma_args 0 as) [] S with
                | some (.inl v, S') => ma_frun X f k d w (pc + 3) L (v.toList ++ rest) S'
                | some (.inr (x, _), S') => if kd ≤ 1 ∧ ret = some .int then (ma_hd cc nL x pc hh).map (fun c => (some (.inl c), S')) else none
                | none => none) else none)
            | none => match ma_cw i n st with
              | none => none
              | some (k', as, rest) => match ma_fi k' with
                | none => none
                | some (_, nL', _, _) => if 1 ≤ d ∧ 19 + nL' ≤ w ∧ ma_sz as ≤ nL' ∧ ma_sz rest ≤ 8 then (match ma_frun X f k' (d - 1) (w - (19 + nL')) 0 (ma_args 0 as) [] S with
                  | some (v, S') => ma_frun X f k d w (pc + 3) L (v.toList ++ rest) S'
                  | none => none) else none
theorem ma_cw_c {N n k : Nat} {i : Instr} {st as rest : List ma_V} (hc : ma_cs N st) (h : ma_cw i n st = some (k, as, rest)) : ma_cs N as ∧ ma_cs N rest := by
  unfold ma_cw at h
  split at h
  · split at h
    · split at h
      · cases h
        exact ⟨fun v hv => hc v (List.mem_of_mem_take (List.mem_reverse.mp hv)), fun v hv => hc v (List.mem_of_mem_drop hv)⟩
      · cases h
    · cases h
  · cases h
theorem ma_frun_c {X : Nat × (Nat → Int32)} : ∀ (f k d w pc : Nat) (L : ma_L) (st : List ma_V) (S : ma_S) (out : Option ma_V) (S' : ma_S), ma_frun X f k d w pc L st S = some (out, S') → ma_ch S → ma_cL (mN S) L → ma_cs (mN S) st →
    ma_ch S' ∧ mN S ≤ mN S' ∧ mC S ≤ mC S' ∧ mZ S ≤ mZ S' ∧ ∀ u, out = some u → ma_cv (mN S') u := by
  intro f
  induction f with
  | zero => intro k d w pc L st S out S' h; cases h
  | succ f ih =>
    intro k d w pc L st S out S' h hh hL hc
    unfold ma_frun at h
    split at h
    · cases h
    · split at h
      · cases h
      · split at h
        · next pc1 L1 st1 S1 h1 =>
          obtain ⟨a1, a2, a3, a4, a5, a6⟩ := ma_one_c hh hL hc h1
          obtain ⟨b1, b2, b3, b4, b5⟩ := ih _ _ _ _ _ _ _ _ _ h a1 a2 a3
          exact ⟨b1, by omega, by omega, by omega, b5⟩
        · split at h
          · next v hv =>
            cases h
            exact ⟨hh, Nat.le_refl _, Nat.le_refl _, Nat.le_refl _, fun u hu => ma_ret_cv hc hv u hu⟩
          · split at h
            · next kd M' as rest hcl =>
              obtain ⟨g1, g2, g3⟩ := ma_cl_c hc hcl
              split at h
              · cases h
              · split at h
                · split at h
                  · next v S1 hr =>
                    obtain ⟨b1, b2, b3, b4, b5⟩ := ma_run_c _ _ _ _ _ _ _ _ _ _ hr hh (ma_args_cL as 0 g1) ma_nil_cs
                    obtain ⟨c1, c2, c3, c4, c5⟩ := ih _ _ _ _ _ _ _ _ _ h b1 (hL.mono b2) (ma_opt_cs (fun u hu => b5 u (by rw [hu])) (g2.mono b2))
                    exact ⟨c1, by omega, by omega, by omega, c5⟩
                  · next x px S1 hr =>
                    obtain ⟨b1, b2, b3, b4, b5⟩ := ma_run_c _ _ _ _ _ _ _ _ _ _ hr hh (ma_args_cL as 0 g1) ma_nil_cs
                    split at h
                    · cases hq : ma_hd _ _ x pc _ with
                      | none => rw [hq] at h; cases h
                      | some c9 =>
                        rw [hq] at h
                        cases h
                        exact ⟨b1, b2, b3, b4, fun u hu => by cases hu; exact ma_cv_i⟩
                    · cases h
                  · cases h
                · cases h
            · split at h
              · cases h
              · next k' as rest hcw =>
                obtain ⟨g1, g2⟩ := ma_cw_c hc hcw
                split at h
                · cases h
                · split at h
                  · split at h
                    · next v S1 hr =>
                      obtain ⟨b1, b2, b3, b4, b5⟩ := ih _ _ _ _ _ _ _ _ _ hr hh (ma_args_cL as 0 g1) ma_nil_cs
                      obtain ⟨c1, c2, c3, c4, c5⟩ := ih _ _ _ _ _ _ _ _ _ h b1 (hL.mono b2) (ma_opt_cs b5 (g2.mono b2))
                      exact ⟨c1, by omega, by omega, by omega, c5⟩
                    · cases h
                  · cases h
