/-! from 94.468 -/
/-! an empty heap -/
section EM1
variable {m : Nat → Nat → Int32} {c : Nat} {i j x : Int32} {r us at₉ ow ws di kr kd wd rt wk wi : Nat → Int32} {n : Nat} {b : Nat → Bool} {po ro yo ol ca hf tp ot si rg pr wm : Int32} {T : Nat}
theorem neg_step (h : ∀ s : Nat, (s : Int) < i.toInt → (m c s).toInt < 0) (h0 : 0 ≤ i.toInt) (e : j.toInt = i.toInt + 1) (hx : x.toInt < 0) : ∀ s : Nat, (s : Int) < j.toInt → (ma_u m c i.toNatClampNeg x c s).toInt < 0 := by
  intro s hs
  rw [mu_at]
  split
  · exact hx
  · next q => exact h s (by rw [tn_eq] at q; omega)
theorem cnt_zero (h : ∀ s : Nat, s < n → r s = 0) : cnt r n = 0 := by
  induction n with
  | zero => rfl
  | succ n ih =>
    unfold cnt
    rw [ih (fun s hs => h s (by omega)), if_pos (h n (by omega))]
theorem sm_zero (h : ∀ s : Nat, s < n → b s = false) : sm b ws n = 0 := by
  induction n with
  | zero => rfl
  | succ n ih =>
    unfold sm
    rw [ih (fun s hs => h s (by omega)), h n (by omega)]
    simp
theorem GU_e (h : ∀ s : Nat, s < 3100 → us s = 0) (hx : x.toInt = 0) (hT : T ≤ 3000) : zGU T x us := by
  refine ⟨?_, ?_, hT⟩
  · rw [cnt_zero h]; omega
  · omega
theorem OW_e (h : ∀ s : Nat, s < 4600 → (ow s).toInt < 0) : zOw us at₉ ow := fun p hp z => by have := h p hp; omega
theorem DX_e (h : ∀ s : Nat, s < 3100 → us s = 0) (hr : ∀ s : Nat, (s : Int) < 16 → (rt s).toInt < 0) (hk : ∀ s : Nat, (s : Int) < 16 → (wk s).toInt < 0) (hw : wm.toInt = 0) : zDX po us rt wk wi wm kr kd ws wd := fun _ => ⟨fun k hk₉ => Or.inl (hr k hk₉), fun k hk₉ => Or.inl (hk k hk₉), fun k hk₉ => by omega, fun s hs hu => absurd (h s hs) hu⟩
theorem HA_e (h : ∀ s : Nat, s < 3100 → us s = 0) (h2 : po.toInt = 2 → tp.toInt = 0 ∧ 0 ≤ ro.toInt) (h3 : po.toInt = 3 → tp.toInt = ol.toInt ∧ 0 ≤ yo.toInt ∧ 0 ≤ ol.toInt ∧ 4 ≤ ca.toInt) (hf0 : hf.toInt = 0) (ho : ot.toInt = 0) : zHA po ro yo ol ca hf tp ot us ws at₉ ow di kr kd wd := by
  refine ⟨fun e => ?_, fun e => ?_⟩
  · have a := h2 e
    have s0 : sm (zbU us) ws 3100 = 0 := sm_zero (fun s hs => by unfold zbU; simp [h s hs])
    unfold zB2
    rw [if_pos hf0, s0]
    omega
  · have a := h3 e
    have s0 : sm (zbY ol.toInt us at₉) ws 3100 = 0 := sm_zero (fun s hs => by unfold zbY; simp [h s hs])
    unfold zB3
    rw [if_pos hf0, s0]
    exact ⟨a.2.2.2, by omega, by omega, fun s hs hu => absurd (h s hs) hu, fun s hs hu => absurd (h s hs) hu⟩
theorem RG_e (h : ∀ s : Nat, s < 3100 → us s = 0) (hs : 16 ≤ si.toInt) (hr : 4 * si.toInt ≤ ro.toInt) (hb : ro.toInt ≤ 1500) (e : rg = ro / si) (hp : pr.toInt = 0) (ht : ∀ s : Nat, s < 128 → rt s = 0) (hg : rg.toInt ≤ 93) : zRG1 si rg pr us at₉ ws rt := by
  have d := i_div (x := ro) (y := si) (by omega) (by omega)
  have g4 : 1 ≤ rg.toInt := by
    refine Classical.byContradiction (fun z => ?_)
    rw [e, d.2.2.1] at z
    have := Int.le_ediv_of_mul_le (a := 4) (b := ro.toInt) (c := si.toInt) (by omega) hr
    omega
  refine ⟨hs, g4, ?_, ⟨by omega, by omega⟩, fun r hr₉ => ?_, fun s hs₉ hu => absurd (h s hs₉) hu⟩
  · rw [e]
    have := d.2.2.2
    omega
  · rw [ht r (by omega)]
    have : (0 : Int32).toInt = 0 := rfl
    omega
end EM1

/-! from 94.469 -/
/-! the reference (written by wip/tools/gen94m.py) -/
set_option maxRecDepth 100000 in
theorem hm_180 : ma_md 180 = some (12, yX12_empty, cX12_empty, 2, none) := rfl
theorem p_12_234_12 : ma_pk 12 234 12 64 = true := by decide +kernel
theorem p_12_237_12 : ma_pk 12 237 12 8 = true := by decide +kernel
theorem p_12_246_12 : ma_pk 12 246 12 46 = true := by decide +kernel
theorem p_12_273_12 : ma_pk 12 273 12 61 = true := by decide +kernel
theorem p_12_279_12 : ma_pk 12 279 12 60 = true := by decide +kernel
theorem p_12_282_12 : ma_pk 12 282 12 62 = true := by decide +kernel
theorem dX12_empty_0 : decode cX12_empty 0 = .ok (.aload_n 0, 1) := by decide +kernel
theorem dX12_empty_1 : decode cX12_empty 1 = .ok (.iconst 1, 1) := by decide +kernel
theorem dX12_empty_5 : decode cX12_empty 5 = .ok (.iconst 0, 1) := by decide +kernel
theorem dX12_empty_6 : decode cX12_empty 6 = .ok (.istore_n 1, 1) := by decide +kernel
theorem dX12_empty_2 : decode cX12_empty 2 = .ok (.putfield 237, 3) := by decide +kernel
theorem dX12_empty_7 : decode cX12_empty 7 = .ok (.iload_n 1, 1) := by decide +kernel
theorem dX12_empty_8 : decode cX12_empty 8 = .ok (.sipush 3100, 3) := by decide +kernel
theorem dX12_empty_27 : decode cX12_empty 27 = .ok (.iconst 0, 1) := by decide +kernel
theorem dX12_empty_28 : decode cX12_empty 28 = .ok (.istore_n 1, 1) := by decide +kernel
theorem dX12_empty_14 : decode cX12_empty 14 = .ok (.aload_n 0, 1) := by decide +kernel
theorem dX12_empty_18 : decode cX12_empty 18 = .ok (.iload_n 1, 1) := by decide +kernel
theorem dX12_empty_19 : decode cX12_empty 19 = .ok (.iconst 0, 1) := by decide +kernel
theorem dX12_empty_21 : decode cX12_empty 21 = .ok (.iinc 1 1, 3) := by decide +kernel
theorem dX12_empty_24 : decode cX12_empty 24 = .ok (.goto (-17), 3) := by decide +kernel
theorem dX12_empty_20 : decode cX12_empty 20 = .ok (.bastore, 1) := by decide +kernel
theorem dX12_empty_15 : decode cX12_empty 15 = .ok (.getfield 27, 3) := by decide +kernel
theorem dX12_empty_11 : decode cX12_empty 11 = .ok (.if_icmp .ge 16, 3) := by decide +kernel
theorem dX12_empty_29 : decode cX12_empty 29 = .ok (.iload_n 1, 1) := by decide +kernel
theorem dX12_empty_30 : decode cX12_empty 30 = .ok (.sipush 4600, 3) := by decide +kernel
theorem dX12_empty_49 : decode cX12_empty 49 = .ok (.iconst 0, 1) := by decide +kernel
theorem dX12_empty_50 : decode cX12_empty 50 = .ok (.istore_n 1, 1) := by decide +kernel
theorem dX12_empty_36 : decode cX12_empty 36 = .ok (.aload_n 0, 1) := by decide +kernel
theorem dX12_empty_40 : decode cX12_empty 40 = .ok (.iload_n 1, 1) := by decide +kernel
theorem dX12_empty_41 : decode cX12_empty 41 = .ok (.iconst (-1), 1) := by decide +kernel
theorem dX12_empty_43 : decode cX12_empty 43 = .ok (.iinc 1 1, 3) := by decide +kernel
theorem dX12_empty_46 : decode cX12_empty 46 = .ok (.goto (-17), 3) := by decide +kernel
theorem dX12_empty_42 : decode cX12_empty 42 = .ok (.iastore, 1) := by decide +kernel
theorem dX12_empty_37 : decode cX12_empty 37 = .ok (.getfield 65, 3) := by decide +kernel
theorem dX12_empty_33 : decode cX12_empty 33 = .ok (.if_icmp .ge 16, 3) := by decide +kernel
theorem dX12_empty_51 : decode cX12_empty 51 = .ok (.iload_n 1, 1) := by decide +kernel
theorem dX12_empty_52 : decode cX12_empty 52 = .ok (.bipush 16, 2) := by decide +kernel
theorem dX12_empty_77 : decode cX12_empty 77 = .ok (.aload_n 0, 1) := by decide +kernel
theorem dX12_empty_78 : decode cX12_empty 78 = .ok (.iconst 0, 1) := by decide +kernel
theorem dX12_empty_82 : decode cX12_empty 82 = .ok (.aload_n 0, 1) := by decide +kernel
theorem dX12_empty_83 : decode cX12_empty 83 = .ok (.iconst 0, 1) := by decide +kernel
theorem dX12_empty_87 : decode cX12_empty 87 = .ok (.aload_n 0, 1) := by decide +kernel
theorem dX12_empty_88 : decode cX12_empty 88 = .ok (.iconst 0, 1) := by decide +kernel
theorem dX12_empty_92 : decode cX12_empty 92 = .ok (.aload_n 0, 1) := by decide +kernel
theorem dX12_empty_93 : decode cX12_empty 93 = .ok (.iconst 0, 1) := by decide +kernel
theorem dX12_empty_94 : decode cX12_empty 94 = .ok (.putfield 249, 3) := by decide +kernel
theorem dX12_empty_89 : decode cX12_empty 89 = .ok (.putfield 246, 3) := by decide +kernel
theorem dX12_empty_84 : decode cX12_empty 84 = .ok (.putfield 243, 3) := by decide +kernel
theorem dX12_empty_79 : decode cX12_empty 79 = .ok (.putfield 240, 3) := by decide +kernel
theorem dX12_empty_57 : decode cX12_empty 57 = .ok (.aload_n 0, 1) := by decide +kernel
theorem dX12_empty_61 : decode cX12_empty 61 = .ok (.iload_n 1, 1) := by decide +kernel
theorem dX12_empty_62 : decode cX12_empty 62 = .ok (.iconst (-1), 1) := by decide +kernel
theorem dX12_empty_64 : decode cX12_empty 64 = .ok (.aload_n 0, 1) := by decide +kernel
theorem dX12_empty_68 : decode cX12_empty 68 = .ok (.iload_n 1, 1) := by decide +kernel
theorem dX12_empty_69 : decode cX12_empty 69 = .ok (.iconst (-1), 1) := by decide +kernel
theorem dX12_empty_71 : decode cX12_empty 71 = .ok (.iinc 1 1, 3) := by decide +kernel
theorem dX12_empty_74 : decode cX12_empty 74 = .ok (.goto (-23), 3) := by decide +kernel
theorem dX12_empty_70 : decode cX12_empty 70 = .ok (.iastore, 1) := by decide +kernel
theorem dX12_empty_65 : decode cX12_empty 65 = .ok (.getfield 71, 3) := by decide +kernel
theorem dX12_empty_63 : decode cX12_empty 63 = .ok (.iastore, 1) := by decide +kernel
theorem dX12_empty_58 : decode cX12_empty 58 = .ok (.getfield 68, 3) := by decide +kernel
theorem dX12_empty_54 : decode cX12_empty 54 = .ok (.if_icmp .ge 23, 3) := by decide +kernel
theorem dX12_empty_97 : decode cX12_empty 97 = .ok (.aload_n 0, 1) := by decide +kernel
theorem dX12_empty_98 : decode cX12_empty 98 = .ok (.iconst 0, 1) := by decide +kernel
theorem dX12_empty_102 : decode cX12_empty 102 = .ok (.aload_n 0, 1) := by decide +kernel
theorem dX12_empty_103 : decode cX12_empty 103 = .ok (.iconst 0, 1) := by decide +kernel
theorem dX12_empty_107 : decode cX12_empty 107 = .ok (.aload_n 0, 1) := by decide +kernel
theorem dX12_empty_108 : decode cX12_empty 108 = .ok (.iconst 0, 1) := by decide +kernel
theorem dX12_empty_112 : decode cX12_empty 112 = .ok (.aload_n 0, 1) := by decide +kernel
theorem dX12_empty_113 : decode cX12_empty 113 = .ok (.iconst 0, 1) := by decide +kernel
theorem dX12_empty_114 : decode cX12_empty 114 = .ok (.putfield 261, 3) := by decide +kernel
theorem dX12_empty_109 : decode cX12_empty 109 = .ok (.putfield 258, 3) := by decide +kernel
theorem dX12_empty_104 : decode cX12_empty 104 = .ok (.putfield 255, 3) := by decide +kernel
theorem dX12_empty_99 : decode cX12_empty 99 = .ok (.putfield 252, 3) := by decide +kernel
theorem dX12_empty_117 : decode cX12_empty 117 = .ok (.aload_n 0, 1) := by decide +kernel
theorem dX12_empty_118 : decode cX12_empty 118 = .ok (.iconst 0, 1) := by decide +kernel
theorem dX12_empty_122 : decode cX12_empty 122 = .ok (.aload_n 0, 1) := by decide +kernel
theorem dX12_empty_123 : decode cX12_empty 123 = .ok (.iconst 0, 1) := by decide +kernel
theorem dX12_empty_127 : decode cX12_empty 127 = .ok (.aload_n 0, 1) := by decide +kernel
theorem dX12_empty_128 : decode cX12_empty 128 = .ok (.iconst 0, 1) := by decide +kernel
theorem dX12_empty_132 : decode cX12_empty 132 = .ok (.aload_n 0, 1) := by decide +kernel
theorem dX12_empty_133 : decode cX12_empty 133 = .ok (.iconst 0, 1) := by decide +kernel
theorem dX12_empty_134 : decode cX12_empty 134 = .ok (.putfield 273, 3) := by decide +kernel
theorem dX12_empty_129 : decode cX12_empty 129 = .ok (.putfield 270, 3) := by decide +kernel
theorem dX12_empty_124 : decode cX12_empty 124 = .ok (.putfield 267, 3) := by decide +kernel
theorem dX12_empty_119 : decode cX12_empty 119 = .ok (.putfield 264, 3) := by decide +kernel
theorem dX12_empty_137 : decode cX12_empty 137 = .ok (.aload_n 0, 1) := by decide +kernel
theorem dX12_empty_138 : decode cX12_empty 138 = .ok (.aload_n 0, 1) := by decide +kernel
theorem dX12_empty_142 : decode cX12_empty 142 = .ok (.iconst 3, 1) := by decide +kernel
theorem dX12_empty_153 : decode cX12_empty 153 = .ok (.iconst 0, 1) := by decide +kernel
theorem dX12_empty_154 : decode cX12_empty 154 = .ok (.putfield 276, 3) := by decide +kernel
theorem dX12_empty_146 : decode cX12_empty 146 = .ok (.aload_n 0, 1) := by decide +kernel
theorem dX12_empty_150 : decode cX12_empty 150 = .ok (.goto 4, 3) := by decide +kernel
theorem dX12_empty_147 : decode cX12_empty 147 = .ok (.getfield 210, 3) := by decide +kernel
theorem dX12_empty_143 : decode cX12_empty 143 = .ok (.if_icmp .ne 10, 3) := by decide +kernel
theorem dX12_empty_139 : decode cX12_empty 139 = .ok (.getfield 199, 3) := by decide +kernel
theorem dX12_empty_157 : decode cX12_empty 157 = .ok (.aload_n 0, 1) := by decide +kernel
theorem dX12_empty_158 : decode cX12_empty 158 = .ok (.iconst 0, 1) := by decide +kernel
theorem dX12_empty_162 : decode cX12_empty 162 = .ok (.aload_n 0, 1) := by decide +kernel
theorem dX12_empty_163 : decode cX12_empty 163 = .ok (.iconst 0, 1) := by decide +kernel
theorem dX12_empty_167 : decode cX12_empty 167 = .ok (.aload_n 0, 1) := by decide +kernel
theorem dX12_empty_168 : decode cX12_empty 168 = .ok (.iconst 0, 1) := by decide +kernel
theorem dX12_empty_169 : decode cX12_empty 169 = .ok (.putfield 285, 3) := by decide +kernel
theorem dX12_empty_164 : decode cX12_empty 164 = .ok (.putfield 282, 3) := by decide +kernel
theorem dX12_empty_159 : decode cX12_empty 159 = .ok (.putfield 279, 3) := by decide +kernel
theorem dX12_empty_172 : decode cX12_empty 172 = .ok (.aload_n 0, 1) := by decide +kernel
theorem dX12_empty_173 : decode cX12_empty 173 = .ok (.aload_n 0, 1) := by decide +kernel
theorem dX12_empty_177 : decode cX12_empty 177 = .ok (.bipush 6, 2) := by decide +kernel
theorem dX12_empty_194 : decode cX12_empty 194 = .ok (.iconst 0, 1) := by decide +kernel
theorem dX12_empty_198 : decode cX12_empty 198 = .ok (.iconst 0, 1) := by decide +kernel
theorem dX12_empty_199 : decode cX12_empty 199 = .ok (.istore_n 1, 1) := by decide +kernel
theorem dX12_empty_195 : decode cX12_empty 195 = .ok (.putfield 234, 3) := by decide +kernel
theorem dX12_empty_182 : decode cX12_empty 182 = .ok (.aload_n 0, 1) := by decide +kernel
theorem dX12_empty_186 : decode cX12_empty 186 = .ok (.aload_n 0, 1) := by decide +kernel
theorem dX12_empty_191 : decode cX12_empty 191 = .ok (.goto 4, 3) := by decide +kernel
theorem dX12_empty_190 : decode cX12_empty 190 = .ok (.idiv, 1) := by decide +kernel
theorem dX12_empty_187 : decode cX12_empty 187 = .ok (.getfield 222, 3) := by decide +kernel
theorem dX12_empty_183 : decode cX12_empty 183 = .ok (.getfield 202, 3) := by decide +kernel
theorem dX12_empty_179 : decode cX12_empty 179 = .ok (.if_icmp .ne 15, 3) := by decide +kernel
theorem dX12_empty_174 : decode cX12_empty 174 = .ok (.getfield 199, 3) := by decide +kernel
theorem dX12_empty_200 : decode cX12_empty 200 = .ok (.iload_n 1, 1) := by decide +kernel
theorem dX12_empty_201 : decode cX12_empty 201 = .ok (.aload_n 0, 1) := by decide +kernel
theorem dX12_empty_205 : decode cX12_empty 205 = .ok (.arraylength, 1) := by decide +kernel
theorem dX12_empty_222 : decode cX12_empty 222 = .ok (.iconst 0, 1) := by decide +kernel
theorem dX12_empty_223 : decode cX12_empty 223 = .ok (.istore_n 1, 1) := by decide +kernel
theorem dX12_empty_209 : decode cX12_empty 209 = .ok (.aload_n 0, 1) := by decide +kernel
theorem dX12_empty_213 : decode cX12_empty 213 = .ok (.iload_n 1, 1) := by decide +kernel
theorem dX12_empty_214 : decode cX12_empty 214 = .ok (.iconst 0, 1) := by decide +kernel
theorem dX12_empty_216 : decode cX12_empty 216 = .ok (.iinc 1 1, 3) := by decide +kernel
theorem dX12_empty_219 : decode cX12_empty 219 = .ok (.goto (-19), 3) := by decide +kernel
theorem dX12_empty_215 : decode cX12_empty 215 = .ok (.iastore, 1) := by decide +kernel
theorem dX12_empty_210 : decode cX12_empty 210 = .ok (.getfield 80, 3) := by decide +kernel
theorem dX12_empty_206 : decode cX12_empty 206 = .ok (.if_icmp .ge 16, 3) := by decide +kernel
theorem dX12_empty_202 : decode cX12_empty 202 = .ok (.getfield 80, 3) := by decide +kernel
theorem dX12_empty_224 : decode cX12_empty 224 = .ok (.iload_n 1, 1) := by decide +kernel
theorem dX12_empty_225 : decode cX12_empty 225 = .ok (.aload_n 0, 1) := by decide +kernel
theorem dX12_empty_229 : decode cX12_empty 229 = .ok (.arraylength, 1) := by decide +kernel
theorem dX12_empty_246 : decode cX12_empty 246 = .ok (.return_, 1) := by decide +kernel
theorem dX12_empty_233 : decode cX12_empty 233 = .ok (.aload_n 0, 1) := by decide +kernel
theorem dX12_empty_237 : decode cX12_empty 237 = .ok (.iload_n 1, 1) := by decide +kernel
theorem dX12_empty_238 : decode cX12_empty 238 = .ok (.iconst 0, 1) := by decide +kernel
theorem dX12_empty_240 : decode cX12_empty 240 = .ok (.iinc 1 1, 3) := by decide +kernel
theorem dX12_empty_243 : decode cX12_empty 243 = .ok (.goto (-19), 3) := by decide +kernel
theorem dX12_empty_239 : decode cX12_empty 239 = .ok (.bastore, 1) := by decide +kernel
theorem dX12_empty_234 : decode cX12_empty 234 = .ok (.getfield 83, 3) := by decide +kernel
theorem dX12_empty_230 : decode cX12_empty 230 = .ok (.if_icmp .ge 16, 3) := by decide +kernel
theorem dX12_empty_226 : decode cX12_empty 226 = .ok (.getfield 83, 3) := by decide +kernel
def wr_180 (c k : Nat) : Bool := Nat.beq c 99 || Nat.beq c 111 || Nat.beq c 112 || Nat.beq c 113 || Nat.beq c 116 || Nat.beq c 117 || (Nat.beq c 94 && (Nat.beq k 8 || Nat.beq k 44 || Nat.beq k 45 || Nat.beq k 46 || Nat.beq k 47 || Nat.beq k 48 || Nat.beq k 49 || Nat.beq k 50 || Nat.beq k 55 || Nat.beq k 56 || Nat.beq k 57 || Nat.beq k 58 || Nat.beq k 59 || Nat.beq k 60 || Nat.beq k 61 || Nat.beq k 62 || Nat.beq k 63 || Nat.beq k 64))
theorem g_180_0 {X : Nat × (Nat → Int32)} {m : Nat → Nat → Int32} {P : Option ma_V → (Nat → Nat → Int32) → Prop}  (h : zm X 0 0 180 7 [(0, .inr (.inr (some 94))), (1, .inl (0 : Int32))] (ma_u m 94 8 (1 : Int32)) P) : zm X 0 0 180 0 [(0, .inr (.inr (some 94)))] m P := by
  intro d w S Q hd hw hS hm HQ
  subst hm
  refine zw_push hm_180 dX12_empty_0 (v := .inr (.inr (some 94))) rfl ?_
  refine zw_push hm_180 dX12_empty_1 (v := .inl (1 : Int32)) rfl ?_
  refine zw_pf hm_180 dX12_empty_2 (zT_is hS s_94) (zT_t hS s_94) p_12_237_12 (zk_bool (by decide)) ?_
  refine zw_push hm_180 dX12_empty_5 (v := .inl (0 : Int32)) rfl ?_
  refine zw_sto hm_180 dX12_empty_6 [(1, .inl (0 : Int32)), (0, .inr (.inr (some 94)))] rfl rfl rfl ?_
  exact zw_sub (ma_nd_of (ks := [0, 1]) rfl (by decide)) (ma_nd_of (ks := [1, 0]) rfl (by decide)) (ma_le_cons rfl (ma_le_cons rfl (ma_le_nil _))) (h d w _ Q (by omega) (by omega) (zT_pi hS) rfl HQ)
theorem g_180_7 {X : Nat × (Nat → Int32)} {m : Nat → Nat → Int32} {P : Option ma_V → (Nat → Nat → Int32) → Prop} (l1 : Int32) (h : if (3100 : Int32) ≤ l1 then (zm X 0 0 180 29 [(0, .inr (.inr (some 94))), (1, .inl (0 : Int32))] m P) else ((0 ≤ l1 ∧ l1.toNatClampNeg < 3100) ∧ (zm X 0 0 180 7 [(0, .inr (.inr (some 94))), (1, .inl (l1 + (1 : Int32)))] (ma_u m 99 l1.toNatClampNeg (0 : Int32)) P))) : zm X 0 0 180 7 [(0, .inr (.inr (some 94))), (1, .inl l1)] m P := by
  intro d w S Q hd hw hS hm HQ
  subst hm
  refine zw_push hm_180 dX12_empty_7 (v := .inl l1) rfl ?_
  refine zw_push hm_180 dX12_empty_8 (v := .inl (3100 : Int32)) rfl ?_
  refine zw_if2 hm_180 dX12_empty_11 (t := 27) rfl zc2_ge ?_ ?_
  · intro hc
    rw [if_pos hc] at h
    refine zw_push hm_180 dX12_empty_27 (v := .inl (0 : Int32)) rfl ?_
    refine zw_sto hm_180 dX12_empty_28 [(1, .inl (0 : Int32)), (0, .inr (.inr (some 94)))] rfl rfl rfl ?_
    exact zw_sub (ma_nd_of (ks := [0, 1]) rfl (by decide)) (ma_nd_of (ks := [1, 0]) rfl (by decide)) (ma_le_cons rfl (ma_le_cons rfl (ma_le_nil _))) (h d w _ Q (by omega) (by omega) hS rfl HQ)
  · intro hc
    rw [if_neg hc] at h
    refine zw_push hm_180 dX12_empty_14 (v := .inr (.inr (some 94))) rfl ?_
    refine zw_gf hm_180 dX12_empty_15 (v := .inr (.inr (some 99))) (zT_is hS s_94) (zT_t hS s_94) rfl f_12_27_12 (zT_f hS r_94_31) ?_
    refine zw_push hm_180 dX12_empty_18 (v := .inl l1) rfl ?_
    refine zw_push hm_180 dX12_empty_19 (v := .inl (0 : Int32)) rfl ?_
    obtain ⟨hg, h⟩ := h
    refine zw_bas22l hm_180 dX12_empty_20 (hx := by decide) (yv := (0 : Int32)) (zT_is hS s_99) (zT_h hS s_99) rfl hg ?_
    refine zw_sto hm_180 dX12_empty_21 [(1, .inl (l1 + (1 : Int32))), (0, .inr (.inr (some 94)))] rfl rfl rfl ?_
    refine zw_goto hm_180 dX12_empty_24 (t := 7) rfl ?_
    exact zw_sub (ma_nd_of (ks := [0, 1]) rfl (by decide)) (ma_nd_of (ks := [1, 0]) rfl (by decide)) (ma_le_cons rfl (ma_le_cons rfl (ma_le_nil _))) (h d w _ Q (by omega) (by omega) (zT_pi hS) rfl HQ)
theorem g_180_29 {X : Nat × (Nat → Int32)} {m : Nat → Nat → Int32} {P : Option ma_V → (Nat → Nat → Int32) → Prop} (l1 : Int32) (h : if (4600 : Int32) ≤ l1 then (zm X 0 0 180 51 [(0, .inr (.inr (some 94))), (1, .inl (0 : Int32))] m P) else ((0 ≤ l1 ∧ l1.toNatClampNeg < 4600) ∧ (zm X 0 0 180 29 [(0, .inr (.inr (some 94))), (1, .inl (l1 + (1 : Int32)))] (ma_u m 111 l1.toNatClampNeg (-1 : Int32)) P))) : zm X 0 0 180 29 [(0, .inr (.inr (some 94))), (1, .inl l1)] m P := by
  intro d w S Q hd hw hS hm HQ
  subst hm
  refine zw_push hm_180 dX12_empty_29 (v := .inl l1) rfl ?_
  refine zw_push hm_180 dX12_empty_30 (v := .inl (4600 : Int32)) rfl ?_
  refine zw_if2 hm_180 dX12_empty_33 (t := 49) rfl zc2_ge ?_ ?_
  · intro hc
    rw [if_pos hc] at h
    refine zw_push hm_180 dX12_empty_49 (v := .inl (0 : Int32)) rfl ?_
    refine zw_sto hm_180 dX12_empty_50 [(1, .inl (0 : Int32)), (0, .inr (.inr (some 94)))] rfl rfl rfl ?_
    exact zw_sub (ma_nd_of (ks := [0, 1]) rfl (by decide)) (ma_nd_of (ks := [1, 0]) rfl (by decide)) (ma_le_cons rfl (ma_le_cons rfl (ma_le_nil _))) (h d w _ Q (by omega) (by omega) hS rfl HQ)
  · intro hc
    rw [if_neg hc] at h
    refine zw_push hm_180 dX12_empty_36 (v := .inr (.inr (some 94))) rfl ?_
    refine zw_gf hm_180 dX12_empty_37 (v := .inr (.inr (some 111))) (zT_is hS s_94) (zT_t hS s_94) rfl f_12_65_12 (zT_f hS r_94_43) ?_
    refine zw_push hm_180 dX12_empty_40 (v := .inl l1) rfl ?_
    refine zw_push hm_180 dX12_empty_41 (v := .inl (-1 : Int32)) rfl ?_
    obtain ⟨hg, h⟩ := h
    refine zw_ias hm_180 dX12_empty_42 (zT_is hS s_111) (zT_h hS s_111) rfl hg ?_
    refine zw_sto hm_180 dX12_empty_43 [(1, .inl (l1 + (1 : Int32))), (0, .inr (.inr (some 94)))] rfl rfl rfl ?_
    refine zw_goto hm_180 dX12_empty_46 (t := 29) rfl ?_
    exact zw_sub (ma_nd_of (ks := [0, 1]) rfl (by decide)) (ma_nd_of (ks := [1, 0]) rfl (by decide)) (ma_le_cons rfl (ma_le_cons rfl (ma_le_nil _))) (h d w _ Q (by omega) (by omega) (zT_pi hS) rfl HQ)
theorem g_180_51 {X : Nat × (Nat → Int32)} {m : Nat → Nat → Int32} {P : Option ma_V → (Nat → Nat → Int32) → Prop} (l1 : Int32) (h : if (16 : Int32) ≤ l1 then (zm X 0 0 180 97 [(0, .inr (.inr (some 94)))] (ma_u (ma_u (ma_u (ma_u m 94 44 (0 : Int32)) 94 45 (0 : Int32)) 94 46 (0 : Int32)) 94 47 (0 : Int32)) P) else ((0 ≤ l1 ∧ l1.toNatClampNeg < 16) ∧ ((0 ≤ l1 ∧ l1.toNatClampNeg < 16) ∧ (zm X 0 0 180 51 [(0, .inr (.inr (some 94))), (1, .inl (l1 + (1 : Int32)))] (ma_u (ma_u m 112 l1.toNatClampNeg (-1 : Int32)) 113 l1.toNatClampNeg (-1 : Int32)) P)))) : zm X 0 0 180 51 [(0, .inr (.inr (some 94))), (1, .inl l1)] m P := by
  intro d w S Q hd hw hS hm HQ
  subst hm
  refine zw_push hm_180 dX12_empty_51 (v := .inl l1) rfl ?_
  refine zw_push hm_180 dX12_empty_52 (v := .inl (16 : Int32)) rfl ?_
  refine zw_if2 hm_180 dX12_empty_54 (t := 77) rfl zc2_ge ?_ ?_
  · intro hc
    rw [if_pos hc] at h
    refine zw_push hm_180 dX12_empty_77 (v := .inr (.inr (some 94))) rfl ?_
    refine zw_push hm_180 dX12_empty_78 (v := .inl (0 : Int32)) rfl ?_
    refine zw_pf hm_180 dX12_empty_79 (zT_is hS s_94) (zT_t hS s_94) p_12_240_12 zk_int ?_
    refine zw_push hm_180 dX12_empty_82 (v := .inr (.inr (some 94))) rfl ?_
    refine zw_push hm_180 dX12_empty_83 (v := .inl (0 : Int32)) rfl ?_
    refine zw_pf hm_180 dX12_empty_84 (zT_is (zT_pi hS) s_94) (zT_t (zT_pi hS) s_94) p_12_243_12 zk_int ?_
    refine zw_push hm_180 dX12_empty_87 (v := .inr (.inr (some 94))) rfl ?_
    refine zw_push hm_180 dX12_empty_88 (v := .inl (0 : Int32)) rfl ?_
    refine zw_pf hm_180 dX12_empty_89 (zT_is (zT_pi (zT_pi hS)) s_94) (zT_t (zT_pi (zT_pi hS)) s_94) p_12_246_12 zk_int ?_
    refine zw_push hm_180 dX12_empty_92 (v := .inr (.inr (some 94))) rfl ?_
    refine zw_push hm_180 dX12_empty_93 (v := .inl (0 : Int32)) rfl ?_
    refine zw_pf hm_180 dX12_empty_94 (zT_is (zT_pi (zT_pi (zT_pi hS))) s_94) (zT_t (zT_pi (zT_pi (zT_pi hS))) s_94) p_12_249_12 zk_int ?_
    exact zw_sub (ma_nd_of (ks := [0]) rfl (by decide)) (ma_nd_of (ks := [0, 1]) rfl (by decide)) (ma_le_cons rfl (ma_le_nil _)) (h d w _ Q (by omega) (by omega) (zT_pi (zT_pi (zT_pi (zT_pi hS)))) rfl HQ)
  · intro hc
    rw [if_neg hc] at h
    refine zw_push hm_180 dX12_empty_57 (v := .inr (.inr (some 94))) rfl ?_
    refine zw_gf hm_180 dX12_empty_58 (v := .inr (.inr (some 112))) (zT_is hS s_94) (zT_t hS s_94) rfl f_12_68_12 (zT_f hS r_94_51) ?_
    refine zw_push hm_180 dX12_empty_61 (v := .inl l1) rfl ?_
    refine zw_push hm_180 dX12_empty_62 (v := .inl (-1 : Int32)) rfl ?_
    obtain ⟨hg, h⟩ := h
    refine zw_ias hm_180 dX12_empty_63 (zT_is hS s_112) (zT_h hS s_112) rfl hg ?_
    refine zw_push hm_180 dX12_empty_64 (v := .inr (.inr (some 94))) rfl ?_
    refine zw_gf hm_180 dX12_empty_65 (v := .inr (.inr (some 113))) (zT_is (zT_pi hS) s_94) (zT_t (zT_pi hS) s_94) rfl f_12_71_12 (zT_f (zT_pi hS) r_94_52) ?_
    refine zw_push hm_180 dX12_empty_68 (v := .inl l1) rfl ?_
    refine zw_push hm_180 dX12_empty_69 (v := .inl (-1 : Int32)) rfl ?_
    obtain ⟨hg, h⟩ := h
    refine zw_ias hm_180 dX12_empty_70 (zT_is (zT_pi hS) s_113) (zT_h (zT_pi hS) s_113) rfl hg ?_
    refine zw_sto hm_180 dX12_empty_71 [(1, .inl (l1 + (1 : Int32))), (0, .inr (.inr (some 94)))] rfl rfl rfl ?_
    refine zw_goto hm_180 dX12_empty_74 (t := 51) rfl ?_
    exact zw_sub (ma_nd_of (ks := [0, 1]) rfl (by decide)) (ma_nd_of (ks := [1, 0]) rfl (by decide)) (ma_le_cons rfl (ma_le_cons rfl (ma_le_nil _))) (h d w _ Q (by omega) (by omega) (zT_pi (zT_pi hS)) rfl HQ)
theorem g_180_97 {X : Nat × (Nat → Int32)} {m : Nat → Nat → Int32} {P : Option ma_V → (Nat → Nat → Int32) → Prop}  (h : zm X 0 0 180 117 [(0, .inr (.inr (some 94)))] (ma_u (ma_u (ma_u (ma_u m 94 48 (0 : Int32)) 94 49 (0 : Int32)) 94 50 (0 : Int32)) 94 55 (0 : Int32)) P) : zm X 0 0 180 97 [(0, .inr (.inr (some 94)))] m P := by
  intro d w S Q hd hw hS hm HQ
  subst hm
  refine zw_push hm_180 dX12_empty_97 (v := .inr (.inr (some 94))) rfl ?_
  refine zw_push hm_180 dX12_empty_98 (v := .inl (0 : Int32)) rfl ?_
  refine zw_pf hm_180 dX12_empty_99 (zT_is hS s_94) (zT_t hS s_94) p_12_252_12 zk_int ?_
  refine zw_push hm_180 dX12_empty_102 (v := .inr (.inr (some 94))) rfl ?_
  refine zw_push hm_180 dX12_empty_103 (v := .inl (0 : Int32)) rfl ?_
  refine zw_pf hm_180 dX12_empty_104 (zT_is (zT_pi hS) s_94) (zT_t (zT_pi hS) s_94) p_12_255_12 zk_int ?_
  refine zw_push hm_180 dX12_empty_107 (v := .inr (.inr (some 94))) rfl ?_
  refine zw_push hm_180 dX12_empty_108 (v := .inl (0 : Int32)) rfl ?_
  refine zw_pf hm_180 dX12_empty_109 (zT_is (zT_pi (zT_pi hS)) s_94) (zT_t (zT_pi (zT_pi hS)) s_94) p_12_258_12 zk_int ?_
  refine zw_push hm_180 dX12_empty_112 (v := .inr (.inr (some 94))) rfl ?_
  refine zw_push hm_180 dX12_empty_113 (v := .inl (0 : Int32)) rfl ?_
  refine zw_pf hm_180 dX12_empty_114 (zT_is (zT_pi (zT_pi (zT_pi hS))) s_94) (zT_t (zT_pi (zT_pi (zT_pi hS))) s_94) p_12_261_12 zk_int ?_
  exact (h d w _ Q (by omega) (by omega) (zT_pi (zT_pi (zT_pi (zT_pi hS)))) rfl HQ)
theorem g_180_117 {X : Nat × (Nat → Int32)} {m : Nat → Nat → Int32} {P : Option ma_V → (Nat → Nat → Int32) → Prop}  (h : zm X 0 0 180 137 [(0, .inr (.inr (some 94)))] (ma_u (ma_u (ma_u (ma_u m 94 56 (0 : Int32)) 94 57 (0 : Int32)) 94 58 (0 : Int32)) 94 61 (0 : Int32)) P) : zm X 0 0 180 117 [(0, .inr (.inr (some 94)))] m P := by
  intro d w S Q hd hw hS hm HQ
  subst hm
  refine zw_push hm_180 dX12_empty_117 (v := .inr (.inr (some 94))) rfl ?_
  refine zw_push hm_180 dX12_empty_118 (v := .inl (0 : Int32)) rfl ?_
  refine zw_pf hm_180 dX12_empty_119 (zT_is hS s_94) (zT_t hS s_94) p_12_264_12 zk_int ?_
  refine zw_push hm_180 dX12_empty_122 (v := .inr (.inr (some 94))) rfl ?_
  refine zw_push hm_180 dX12_empty_123 (v := .inl (0 : Int32)) rfl ?_
  refine zw_pf hm_180 dX12_empty_124 (zT_is (zT_pi hS) s_94) (zT_t (zT_pi hS) s_94) p_12_267_12 zk_int ?_
  refine zw_push hm_180 dX12_empty_127 (v := .inr (.inr (some 94))) rfl ?_
  refine zw_push hm_180 dX12_empty_128 (v := .inl (0 : Int32)) rfl ?_
  refine zw_pf hm_180 dX12_empty_129 (zT_is (zT_pi (zT_pi hS)) s_94) (zT_t (zT_pi (zT_pi hS)) s_94) p_12_270_12 (zk_bool (by decide)) ?_
  refine zw_push hm_180 dX12_empty_132 (v := .inr (.inr (some 94))) rfl ?_
  refine zw_push hm_180 dX12_empty_133 (v := .inl (0 : Int32)) rfl ?_
  refine zw_pf hm_180 dX12_empty_134 (zT_is (zT_pi (zT_pi (zT_pi hS))) s_94) (zT_t (zT_pi (zT_pi (zT_pi hS))) s_94) p_12_273_12 zk_int ?_
  exact (h d w _ Q (by omega) (by omega) (zT_pi (zT_pi (zT_pi (zT_pi hS)))) rfl HQ)
theorem g_180_137 {X : Nat × (Nat → Int32)} {m : Nat → Nat → Int32} {P : Option ma_V → (Nat → Nat → Int32) → Prop}  (h : if (m 94 10) = (3 : Int32) then (zm X 0 0 180 157 [(0, .inr (.inr (some 94)))] (ma_u m 94 59 (m 94 14)) P) else (zm X 0 0 180 157 [(0, .inr (.inr (some 94)))] (ma_u m 94 59 (0 : Int32)) P)) : zm X 0 0 180 137 [(0, .inr (.inr (some 94)))] m P := by
  intro d w S Q hd hw hS hm HQ
  subst hm
  refine zw_push hm_180 dX12_empty_137 (v := .inr (.inr (some 94))) rfl ?_
  refine zw_push hm_180 dX12_empty_138 (v := .inr (.inr (some 94))) rfl ?_
  refine zw_gf hm_180 dX12_empty_139 (v := .inl ((mI S) 94 10)) (zT_is hS s_94) (zT_t hS s_94) rfl f_12_199_12 rfl ?_
  refine zw_push hm_180 dX12_empty_142 (v := .inl (3 : Int32)) rfl ?_
  refine zw_if2 hm_180 dX12_empty_143 (t := 153) rfl zc2_ne ?_ ?_
  · intro hc
    rw [if_neg hc] at h
    refine zw_push hm_180 dX12_empty_153 (v := .inl (0 : Int32)) rfl ?_
    refine zw_pf hm_180 dX12_empty_154 (zT_is hS s_94) (zT_t hS s_94) p_12_276_12 zk_int ?_
    exact (h d w _ Q (by omega) (by omega) (zT_pi hS) rfl HQ)
  · intro hc
    rw [if_pos (Classical.not_not.mp hc)] at h
    refine zw_push hm_180 dX12_empty_146 (v := .inr (.inr (some 94))) rfl ?_
    refine zw_gf hm_180 dX12_empty_147 (v := .inl ((mI S) 94 14)) (zT_is hS s_94) (zT_t hS s_94) rfl f_12_210_12 rfl ?_
    refine zw_goto hm_180 dX12_empty_150 (t := 154) rfl ?_
    refine zw_pf hm_180 dX12_empty_154 (zT_is hS s_94) (zT_t hS s_94) p_12_276_12 zk_int ?_
    exact (h d w _ Q (by omega) (by omega) (zT_pi hS) rfl HQ)
theorem g_180_157 {X : Nat × (Nat → Int32)} {m : Nat → Nat → Int32} {P : Option ma_V → (Nat → Nat → Int32) → Prop}  (h : zm X 0 0 180 172 [(0, .inr (.inr (some 94)))] (ma_u (ma_u (ma_u m 94 60 (0 : Int32)) 94 62 (0 : Int32)) 94 63 (0 : Int32)) P) : zm X 0 0 180 157 [(0, .inr (.inr (some 94)))] m P := by
  intro d w S Q hd hw hS hm HQ
  subst hm
  refine zw_push hm_180 dX12_empty_157 (v := .inr (.inr (some 94))) rfl ?_
  refine zw_push hm_180 dX12_empty_158 (v := .inl (0 : Int32)) rfl ?_
  refine zw_pf hm_180 dX12_empty_159 (zT_is hS s_94) (zT_t hS s_94) p_12_279_12 zk_int ?_
  refine zw_push hm_180 dX12_empty_162 (v := .inr (.inr (some 94))) rfl ?_
  refine zw_push hm_180 dX12_empty_163 (v := .inl (0 : Int32)) rfl ?_
  refine zw_pf hm_180 dX12_empty_164 (zT_is (zT_pi hS) s_94) (zT_t (zT_pi hS) s_94) p_12_282_12 zk_int ?_
  refine zw_push hm_180 dX12_empty_167 (v := .inr (.inr (some 94))) rfl ?_
  refine zw_push hm_180 dX12_empty_168 (v := .inl (0 : Int32)) rfl ?_
  refine zw_pf hm_180 dX12_empty_169 (zT_is (zT_pi (zT_pi hS)) s_94) (zT_t (zT_pi (zT_pi hS)) s_94) p_12_285_12 zk_int ?_
  exact (h d w _ Q (by omega) (by omega) (zT_pi (zT_pi (zT_pi hS))) rfl HQ)
theorem g_180_172 {X : Nat × (Nat → Int32)} {m : Nat → Nat → Int32} {P : Option ma_V → (Nat → Nat → Int32) → Prop}  (h : if (m 94 10) = (6 : Int32) then ((m 94 18) ≠ 0 ∧ (zm X 0 0 180 200 [(0, .inr (.inr (some 94))), (1, .inl (0 : Int32))] (ma_u m 94 64 ((m 94 11) / (m 94 18))) P)) else (zm X 0 0 180 200 [(0, .inr (.inr (some 94))), (1, .inl (0 : Int32))] (ma_u m 94 64 (0 : Int32)) P)) : zm X 0 0 180 172 [(0, .inr (.inr (some 94)))] m P := by
  intro d w S Q hd hw hS hm HQ
  subst hm
  refine zw_push hm_180 dX12_empty_172 (v := .inr (.inr (some 94))) rfl ?_
  refine zw_push hm_180 dX12_empty_173 (v := .inr (.inr (some 94))) rfl ?_
  refine zw_gf hm_180 dX12_empty_174 (v := .inl ((mI S) 94 10)) (zT_is hS s_94) (zT_t hS s_94) rfl f_12_199_12 rfl ?_
  refine zw_push hm_180 dX12_empty_177 (v := .inl (6 : Int32)) rfl ?_
  refine zw_if2 hm_180 dX12_empty_179 (t := 194) rfl zc2_ne ?_ ?_
  · intro hc
    rw [if_neg hc] at h
    refine zw_push hm_180 dX12_empty_194 (v := .inl (0 : Int32)) rfl ?_
    refine zw_pf hm_180 dX12_empty_195 (zT_is hS s_94) (zT_t hS s_94) p_12_234_12 zk_int ?_
    refine zw_push hm_180 dX12_empty_198 (v := .inl (0 : Int32)) rfl ?_
    refine zw_sto hm_180 dX12_empty_199 [(1, .inl (0 : Int32)), (0, .inr (.inr (some 94)))] rfl rfl rfl ?_
    exact zw_sub (ma_nd_of (ks := [0, 1]) rfl (by decide)) (ma_nd_of (ks := [1, 0]) rfl (by decide)) (ma_le_cons rfl (ma_le_cons rfl (ma_le_nil _))) (h d w _ Q (by omega) (by omega) (zT_pi hS) rfl HQ)
  · intro hc
    rw [if_pos (Classical.not_not.mp hc)] at h
    refine zw_push hm_180 dX12_empty_182 (v := .inr (.inr (some 94))) rfl ?_
    refine zw_gf hm_180 dX12_empty_183 (v := .inl ((mI S) 94 11)) (zT_is hS s_94) (zT_t hS s_94) rfl f_12_202_12 rfl ?_
    refine zw_push hm_180 dX12_empty_186 (v := .inr (.inr (some 94))) rfl ?_
    refine zw_gf hm_180 dX12_empty_187 (v := .inl ((mI S) 94 18)) (zT_is hS s_94) (zT_t hS s_94) rfl f_12_222_12 rfl ?_
    obtain ⟨hg, h⟩ := h
    refine zw_stk hm_180 dX12_empty_190 (st₉ := [.inl (((mI S) 94 11) / ((mI S) 94 18)), .inr (.inr (some 94))]) rfl (if_neg hg) ?_
    refine zw_goto hm_180 dX12_empty_191 (t := 195) rfl ?_
    refine zw_pf hm_180 dX12_empty_195 (zT_is hS s_94) (zT_t hS s_94) p_12_234_12 zk_int ?_
    refine zw_push hm_180 dX12_empty_198 (v := .inl (0 : Int32)) rfl ?_
    refine zw_sto hm_180 dX12_empty_199 [(1, .inl (0 : Int32)), (0, .inr (.inr (some 94)))] rfl rfl rfl ?_
    exact zw_sub (ma_nd_of (ks := [0, 1]) rfl (by decide)) (ma_nd_of (ks := [1, 0]) rfl (by decide)) (ma_le_cons rfl (ma_le_cons rfl (ma_le_nil _))) (h d w _ Q (by omega) (by omega) (zT_pi hS) rfl HQ)
theorem g_180_200 {X : Nat × (Nat → Int32)} {m : Nat → Nat → Int32} {P : Option ma_V → (Nat → Nat → Int32) → Prop} (l1 : Int32) (h : if (128 : Int32) ≤ l1 then (zm X 0 0 180 224 [(0, .inr (.inr (some 94))), (1, .inl (0 : Int32))] m P) else ((0 ≤ l1 ∧ l1.toNatClampNeg < 128) ∧ (zm X 0 0 180 200 [(0, .inr (.inr (some 94))), (1, .inl (l1 + (1 : Int32)))] (ma_u m 116 l1.toNatClampNeg (0 : Int32)) P))) : zm X 0 0 180 200 [(0, .inr (.inr (some 94))), (1, .inl l1)] m P := by
  intro d w S Q hd hw hS hm HQ
  subst hm
  refine zw_push hm_180 dX12_empty_200 (v := .inl l1) rfl ?_
  refine zw_push hm_180 dX12_empty_201 (v := .inr (.inr (some 94))) rfl ?_
  refine zw_gf hm_180 dX12_empty_202 (v := .inr (.inr (some 116))) (zT_is hS s_94) (zT_t hS s_94) rfl f_12_80_12 (zT_f hS r_94_65) ?_
  refine zw_len hm_180 dX12_empty_205 (v := (128 : Int32)) (zT_is hS s_116) (zT_h hS s_116) rfl rfl ?_
  refine zw_if2 hm_180 dX12_empty_206 (t := 222) rfl zc2_ge ?_ ?_
  · intro hc
    rw [if_pos hc] at h
    refine zw_push hm_180 dX12_empty_222 (v := .inl (0 : Int32)) rfl ?_
    refine zw_sto hm_180 dX12_empty_223 [(1, .inl (0 : Int32)), (0, .inr (.inr (some 94)))] rfl rfl rfl ?_
    exact zw_sub (ma_nd_of (ks := [0, 1]) rfl (by decide)) (ma_nd_of (ks := [1, 0]) rfl (by decide)) (ma_le_cons rfl (ma_le_cons rfl (ma_le_nil _))) (h d w _ Q (by omega) (by omega) hS rfl HQ)
  · intro hc
    rw [if_neg hc] at h
    refine zw_push hm_180 dX12_empty_209 (v := .inr (.inr (some 94))) rfl ?_
    refine zw_gf hm_180 dX12_empty_210 (v := .inr (.inr (some 116))) (zT_is hS s_94) (zT_t hS s_94) rfl f_12_80_12 (zT_f hS r_94_65) ?_
    refine zw_push hm_180 dX12_empty_213 (v := .inl l1) rfl ?_
    refine zw_push hm_180 dX12_empty_214 (v := .inl (0 : Int32)) rfl ?_
    obtain ⟨hg, h⟩ := h
    refine zw_ias hm_180 dX12_empty_215 (zT_is hS s_116) (zT_h hS s_116) rfl hg ?_
    refine zw_sto hm_180 dX12_empty_216 [(1, .inl (l1 + (1 : Int32))), (0, .inr (.inr (some 94)))] rfl rfl rfl ?_
    refine zw_goto hm_180 dX12_empty_219 (t := 200) rfl ?_
    exact zw_sub (ma_nd_of (ks := [0, 1]) rfl (by decide)) (ma_nd_of (ks := [1, 0]) rfl (by decide)) (ma_le_cons rfl (ma_le_cons rfl (ma_le_nil _))) (h d w _ Q (by omega) (by omega) (zT_pi hS) rfl HQ)
theorem g_180_224 {X : Nat × (Nat → Int32)} {m : Nat → Nat → Int32} {P : Option ma_V → (Nat → Nat → Int32) → Prop} (l1 : Int32) (h : if (512 : Int32) ≤ l1 then (P none m) else ((0 ≤ l1 ∧ l1.toNatClampNeg < 512) ∧ (zm X 0 0 180 224 [(0, .inr (.inr (some 94))), (1, .inl (l1 + (1 : Int32)))] (ma_u m 117 l1.toNatClampNeg (0 : Int32)) P))) : zm X 0 0 180 224 [(0, .inr (.inr (some 94))), (1, .inl l1)] m P := by
  intro d w S Q hd hw hS hm HQ
  subst hm
  refine zw_push hm_180 dX12_empty_224 (v := .inl l1) rfl ?_
  refine zw_push hm_180 dX12_empty_225 (v := .inr (.inr (some 94))) rfl ?_
  refine zw_gf hm_180 dX12_empty_226 (v := .inr (.inr (some 117))) (zT_is hS s_94) (zT_t hS s_94) rfl f_12_83_12 (zT_f hS r_94_66) ?_
  refine zw_len hm_180 dX12_empty_229 (v := (512 : Int32)) (zT_is hS s_117) (zT_h hS s_117) rfl rfl ?_
  refine zw_if2 hm_180 dX12_empty_230 (t := 246) rfl zc2_ge ?_ ?_
  · intro hc
    rw [if_pos hc] at h
    exact zw_vret hm_180 dX12_empty_246 (HQ _ _ h)
  · intro hc
    rw [if_neg hc] at h
    refine zw_push hm_180 dX12_empty_233 (v := .inr (.inr (some 94))) rfl ?_
    refine zw_gf hm_180 dX12_empty_234 (v := .inr (.inr (some 117))) (zT_is hS s_94) (zT_t hS s_94) rfl f_12_83_12 (zT_f hS r_94_66) ?_
    refine zw_push hm_180 dX12_empty_237 (v := .inl l1) rfl ?_
    refine zw_push hm_180 dX12_empty_238 (v := .inl (0 : Int32)) rfl ?_
    obtain ⟨hg, h⟩ := h
    refine zw_bas22l hm_180 dX12_empty_239 (hx := by decide) (yv := (0 : Int32)) (zT_is hS s_117) (zT_h hS s_117) rfl hg ?_
    refine zw_sto hm_180 dX12_empty_240 [(1, .inl (l1 + (1 : Int32))), (0, .inr (.inr (some 94)))] rfl rfl rfl ?_
    refine zw_goto hm_180 dX12_empty_243 (t := 224) rfl ?_
    exact zw_sub (ma_nd_of (ks := [0, 1]) rfl (by decide)) (ma_nd_of (ks := [1, 0]) rfl (by decide)) (ma_le_cons rfl (ma_le_cons rfl (ma_le_nil _))) (h d w _ Q (by omega) (by omega) (zT_pi hS) rfl HQ)
