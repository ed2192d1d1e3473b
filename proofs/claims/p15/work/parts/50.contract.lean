/-! THE SMALL MACHINE, part 6: what lies outside the world; a method's contract; behind a call -/
/-- the constant texts: class, pool entry, text, number -/
def ma_txr : List (String × Nat × String × Nat) := [("CollectorHouse", 301, "sweep", 0), ("CollectorHouse", 307, "slide", 1), ("CollectorHouse", 309, "halves", 2), ("CollectorHouse", 311, "ages", 3), ("CollectorHouse", 313, "counts", 4), ("CollectorHouse", 315, "steps", 5), ("CollectorHouse", 317, "regions", 6), ("CollectorHouse", 319, "rf", 7), ("CollectorHouse", 321, "\x72", 8), ("CollectorHouse", 323, "rrac", 9), ("CollectorHouse", 325, "rftb", 10), ("CollectorHouse", 327, "rzs", 11), ("CollectorHouse", 329, "", 12), ("CollectorHouse", 346, "first", 13), ("CollectorHouse", 348, "next", 14), ("CollectorHouse", 350, "best", 15), ("CollectorHouse", 352, "worst", 16), ("CollectorHouse", 354, "picture", 17), ("CollectorHouse", 356, "news", 18)]
def ma_txl : List Nat := [5, 5, 6, 4, 6, 5, 7, 2, 1, 4, 4, 3, 0, 5, 4, 4, 5, 7, 4]
def ma_txb : List (List Int32) := [[115, 119, 101, 101, 112], [115, 108, 105, 100, 101], [104, 97, 108, 118, 101, 115], [97, 103, 101, 115], [99, 111, 117, 110, 116, 115], [115, 116, 101, 112, 115], [114, 101, 103, 105, 111, 110, 115], [114, 102], [114], [114, 114, 97, 99], [114, 102, 116, 98], [114, 122, 115], [], [102, 105, 114, 115, 116], [110, 101, 120, 116], [98, 101, 115, 116], [119, 111, 114, 115, 116], [112, 105, 99, 116, 117, 114, 101], [110, 101, 119, 115]]
/-- the static of which only 'a reference or null' is said: behind the script's end X says which -/
def ma_fm (X : Nat × (Nat → Int32)) : Option Nat := if X.2 X.1 = 0 then none else some 29
def ma_Xt (X : Nat × (Nat → Int32)) (ad : Nat → Nat) (A : Nat → Prop) (U : State) (H : Heap) : Prop :=
  (vx_Zq Bundle.tN "UNASSIGNED_STACK" Bundle.steD A U H ∧ vx_Zq Bundle.tN "SUPPRESSED_SENTINEL" Bundle.listD A U H) ∧ (va_X (ad 30) X.1 X.2 U H ∧ ¬ A (ad 30) ∧ ad 30 < H.size) ∧
  (vk_S 19 ma_txl ma_txb ad (fun i => ad (32 + i)) A U H ∧ (∀ q ∈ ma_txr, vk_R q.1 q.2.1 q.2.2.1 (ad q.2.2.2) U) ∧ va_Z "java/lang/String" "COMPACT_STRINGS" "Z" (.int 1) A U H ∧ va_Z "jdk/internal/util/Preconditions" "SIOOBE_FORMATTER" "Ljava/util/function/BiFunction;" (va_rf ((ma_fm X).map ad)) A U H)
theorem ma_Xt.warm {X : Nat × (Nat → Int32)} {ad : Nat → Nat} {A : Nat → Prop} {s U : State} {H : Heap} (hW : s.WarmedH U.vm) (h : ma_Xt X ad A s H) : ma_Xt X ad A U H := by
  obtain ⟨⟨h1, h2⟩, ⟨h3, h4⟩, h5, h6, h7, h9⟩ := h
  exact ⟨⟨vx_Zq.moved hW.alike h1, vx_Zq.moved hW.alike h2⟩, ⟨va_X.moved hW.alike h3, h4⟩, vk_S.moved hW.alike h5, fun q hq => vk_R.warm hW (h6 q hq), va_Z.moved hW.alike h7, va_Z.moved hW.alike h9⟩
theorem ma_Xt.calling {X : Nat × (Nat → Int32)} {ad : Nat → Nat} {A : Nat → Prop} {s : State} {H : Heap} (g : JFrame) (mk : MethodId) (a : Array Value) (h : ma_Xt X ad A s H) : ma_Xt X ad A (s.calling g mk a) H := by
  obtain ⟨⟨h1, h2⟩, ⟨h3, h4⟩, h5, h6, h7, h9⟩ := h
  have hv : s.vm.Alike (s.calling g mk a).vm := Vm.Alike.refl s.vm
  exact ⟨⟨vx_Zq.moved hv h1, vx_Zq.moved hv h2⟩, ⟨va_X.moved hv h3, h4⟩, vk_S.moved hv h5, fun q hq => vk_R.same rfl (h6 q hq), va_Z.moved hv h7, va_Z.moved hv h9⟩
theorem ma_Xt.kept {X : Nat × (Nat → Int32)} {ad : Nat → Nat} {A : Nat → Prop} {U : State} {H H1 : Heap} (h : ma_Xt X ad A U H) (hz : H.size ≤ H1.size) (hq : ∀ a : Nat, a < H.size → ¬ A a → H1[a]? = H[a]?) : ma_Xt X ad A U H1 := by
  obtain ⟨⟨h1, h2⟩, ⟨h3, h4, h8⟩, h5, h6, h7, h9⟩ := h
  exact ⟨⟨vx_Zq.kept h1 hq, vx_Zq.kept h2 hq⟩, ⟨va_X.kept h3 (hq _ h8 h4), h4, Nat.lt_of_lt_of_le h8 hz⟩, vk_S.kept h5 hq, h6, va_Z.kept h7 hq, va_Z.kept h9 hq⟩
theorem ma_Xt.narrow {X : Nat × (Nat → Int32)} {ad : Nat → Nat} {A B : Nat → Prop} {U : State} {H : Heap} (h : ma_Xt X ad A U H) (hAB : ∀ q, B q → A q) : ma_Xt X ad B U H := by
  obtain ⟨⟨h1, h2⟩, ⟨h3, h4, h8⟩, h5, h6, h7, h9⟩ := h
  exact ⟨⟨vx_Zq.narrow h1 hAB, vx_Zq.narrow h2 hAB⟩, ⟨h3, fun z => h4 (hAB _ z), h8⟩, vk_S.narrow h5 hAB, h6, va_Z.narrow h7 hAB, va_Z.narrow h9 hAB⟩
theorem ma_Xt.ad {X : Nat × (Nat → Int32)} {ad ad' : Nat → Nat} {A : Nat → Prop} {U : State} {H : Heap} (h : ma_Xt X ad A U H) (ha : ∀ b, b < 64 → ad' b = ad b) : ma_Xt X ad' A U H := by
  obtain ⟨⟨h1, h2⟩, ⟨h3, h4, h8⟩, h5, h6, h7, h9⟩ := h
  have hlt : ∀ q ∈ ma_txr, q.2.2.2 < 64 := by decide +kernel
  refine ⟨⟨h1, h2⟩, ⟨by rw [ha 30 (by omega)]; exact h3, by rw [ha 30 (by omega)]; exact h4, by rw [ha 30 (by omega)]; exact h8⟩, ?_, fun q hq => by rw [ha _ (hlt q hq)]; exact h6 q hq, h7, ?_⟩
  rotate_left
  · have : (ma_fm X).map ad' = (ma_fm X).map ad := by
      unfold ma_fm
      split
      · rfl
      · show some (ad' 29) = some (ad 29); rw [ha 29 (by omega)]
    rw [this]; exact h9
  refine ⟨fun i hi => ?_, fun i j hi hj => ?_⟩
  · have := h5.1 i hi
    simp only [ha i (by omega), ha (32 + i) (by omega)]
    exact this
  · rw [ha i (by omega), ha j (by omega)]; exact h5.2 i j hi hj
/-- a method's start: its arguments, the world, what lies outside -/
def ma_Pc (X : Nat × (Nat → Int32)) (D : va_G) (kA : Nat → ClassId) (ad : Nat → Nat) (S : ma_S) (as : List ma_V) (sz : Nat) : Array Value → State → Prop :=
  va_Pc (ma_ts ad as) (fun U => U.heap.size = sz ∧ va_P D vwCl (ma_wl kA ad S) U.heap ∧ va_K D vwCl (ma_tys kA) U ∧ va_D (fun _ => True) (ma_wl kA ad S) ∧ ma_Nx U ∧ ma_Xt X ad (va_A (ma_wl kA ad S) sz) U U.heap)
/-- the world behind -/
def ma_B (D : va_G) (kA : Nat → ClassId) (ad : Nat → Nat) (S S' : ma_S) (st t : State) (ad' : Nat → Nat) : Prop :=
  (∀ b, b < mN S → ad' b = ad b) ∧ va_P D vwCl (ma_wl kA ad' S') t.heap ∧ va_D (va_A (ma_wl kA ad S) st.heap.size) (ma_wl kA ad' S') ∧ va_F (va_A (ma_wl kA ad S) st.heap.size) st t
def ma_Qc (D : va_G) (kA : Nat → ClassId) (ad : Nat → Nat) (S S' : ma_S) (v : Option ma_V) : Array Value → State → Outcome → State → Prop := fun _ st oc t =>
  ∃ ad' : Nat → Nat, oc = .returned (v.map (ma_tv ad')) ∧ ma_B D kA ad S S' st t ad'
def ma_Qx (D : va_G) (kA : Nat → ClassId) (ad : Nat → Nat) (S S' : ma_S) (E : String) : String → State → State → Prop := fun E' st t => E' = E ∧ ∃ ad' : Nat → Nat, ma_B D kA ad S S' st t ad'
theorem ma_Pc_blind {X : Nat × (Nat → Int32)} {D : va_G} {kA : Nat → ClassId} {ad : Nat → Nat} {S : ma_S} {as : List ma_V} {sz : Nat} : FrameBlind (ma_Pc X D kA ad S as sz) := by
  intro a U g mk h
  obtain ⟨h1, h2, h3, h4, h5, h6, h7⟩ := h
  exact ⟨h1, h2, h3, va_K.moved (u := U) (U := U.calling g mk a) (Vm.Alike.refl U.vm) h4, h5, h6.calling g mk a, h7.calling g mk a⟩
section MA6
variable {p : Program} {l : Launch} {e : Env} {R : Room} {s : State} {m : MethodId} {args : Array Value} {below : List Frame} {meth : Method} {c : Code} {H H0 : Heap} {locs : List Loc} {cells slots : Nat} {Q : State → Prop} {pc : Nat} {ls : Array Slot} {rest st0 : List Value} {mc ms : Nat} {a : Array Value} {free : Addr → Prop} {A : Nat → Prop} {X : Nat × (Nat → Int32)} {D : va_G} {kA : Nat → ClassId} {ad : Nat → Nat} {S S' : ma_S} {v : Option ma_V}
theorem ma_free (hD : va_D A (ma_wl kA ad S)) (hS : va_S A H0 H locs) (hA : ∀ q, H0.size ≤ q → A q) : ∀ q, va_A (ma_wl kA ad S) H.size q → A q := by
  intro q h
  rcases h with ⟨k, e, h⟩ | h
  · exact hD.2 k (q, e) h
  · exact hA q (Nat.le_trans hS.1 h)
theorem ma_behind {st₀ t T' : State} {L : List Loc} {ad' : Nat → Nat} (h0 : st₀.heap = H) (e1 : T'.heap = t.heap) (hB : ma_B D kA ad S S' st₀ t ad') (hS : va_S A H0 H locs) (hF : ∀ q, va_A (ma_wl kA ad S) H.size q → A q) (hL : ∀ q ∈ L, va_A (ma_wl kA ad S) H.size q.base) :
    (∀ b, b < mN S → ad' b = ad b) ∧ va_P D vwCl (ma_wl kA ad' S') T'.heap ∧ va_D A (ma_wl kA ad' S') ∧ va_S A H0 T'.heap (locs ++ L) := by
  obtain ⟨b1, b2, b3, b4, b5⟩ := hB
  rw [h0] at b3 b4 b5
  refine ⟨b1, by rw [e1]; exact b2, b3.weaken (fun k q _ h => hF q.1 h), Nat.le_trans hS.1 (by rw [e1]; exact b4), fun q h1 h2 => ?_, fun q hq => ?_⟩
  · rw [e1, b5 q (Nat.lt_of_lt_of_le h1 hS.1) (fun z => h2 (hF q z))]
    exact hS.2.1 q h1 h2
  · rcases List.mem_append.mp hq with h | h
    · exact hS.2.2 q h
    · exact hF _ (hL q h)
/-- behind a call that comes back -/
theorem ma_called (hr : va_Run p l e R s m args below meth c H locs cells slots mc ms (F0 m pc ls st0) rest (ma_Qc D kA ad S S' v a) (va_A (ma_wl kA ad S) H.size)) (hD : va_D A (ma_wl kA ad S)) (hS : va_S A H0 H locs) (hA : ∀ q, H0.size ≤ q → A q)
    (kk : ∀ (ad' : Nat → Nat) (H1 : Heap) (locs1 : List Loc), (∀ b, b < mN S → ad' b = ad b) → va_P D vwCl (ma_wl kA ad' S') H1 → va_D A (ma_wl kA ad' S') → va_S A H0 H1 locs1 → W p l e R s m args below meth c H1 locs1 (cells + mc) (slots + ms) Q (F0 m (pc + 3) ls ((v.map (ma_tv ad')).toList ++ rest))) : W p l e R s m args below meth c H locs cells slots Q (F0 m pc ls st0) := by
  intro T hT X'
  obtain ⟨w, st₀, t, T', L, h0, X', hL, e1, e2, ⟨ad', hv, hB⟩, st⟩ := hr T hT X'
  cases hv
  obtain ⟨b1, b2, b3, b4⟩ := ma_behind h0 e1 hB hS (ma_free hD hS hA) hL
  obtain ⟨t2, a1, a2⟩ := kk ad' T'.heap (locs ++ L) b1 b2 b3 b4 T' rfl X'
  exact ⟨t2, st t2 a1, a2⟩
/-- behind a call that throws -/
theorem ma_threw {E : String} (hr : vx_Run p l e R s m args below meth c H locs cells slots mc ms (F0 m pc ls st0) rest (fun _ _ _ => False) (ma_Qx D kA ad S S' E) (va_A (ma_wl kA ad S) H.size)) (hD : va_D A (ma_wl kA ad S)) (hS : va_S A H0 H locs) (hA : ∀ q, H0.size ≤ q → A q)
    (kk : ∀ (ad' : Nat → Nat) (H1 : Heap) (locs1 : List Loc) (q : Addr) (ce : Cell), (∀ b, b < mN S → ad' b = ad b) → va_P D vwCl (ma_wl kA ad' S') H1 → va_D A (ma_wl kA ad' S') → va_S A H0 H1 locs1 → H1[q]? = some ce → ce.vm = .none → s.vm.findClass E = some ce.cls → vx_W p l e R s m args below meth c H1 locs1 (cells + mc) (slots + ms) Q (F0 m pc ls rest) q) : W p l e R s m args below meth c H locs cells slots Q (F0 m pc ls st0) := by
  intro T hT X'
  rcases hr T hT X' with ⟨_, _, _, _, _, _, _, _, _, _, hf, _⟩ | ⟨q, st₀, t, T', L, E', ce, h0, X', hL, e1, e2, ⟨rfl, ad', hB⟩, hce, hcv, hcl, st⟩
  · exact hf.elim
  · obtain ⟨b1, b2, b3, b4⟩ := ma_behind h0 e1 hB hS (ma_free hD hS hA) hL
    obtain ⟨t2, a1, a2⟩ := kk ad' T'.heap (locs ++ L) q ce b1 b2 b3 b4 (by rw [e1]; exact hce) hcv hcl T' rfl X'
    exact ⟨t2, st.trans a1, a2⟩
end MA6
