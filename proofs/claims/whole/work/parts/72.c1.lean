/-! THE LAW'S CASES 1 -/
theorem l_append {p : Program} {l : Launch} {e : Env} {Rm : Room} {s : State} {m : MethodId} {args : Array Value} {below : List Frame} {meth : Method} {c : Code} {b L : Nat} {xs : Nat → Int32} {D : va_G} {E : Nat → ClassId} (C0 : lwC p l s m args meth c b L xs D E) (hRm : 12 ≤ Rm.frames ∧ 400 ≤ Rm.locals) {Q : State → Prop} {H : Heap} {locs : List Loc} {cells slots : Nat} {ls : Array Slot} {M R : bM} {f : Nat → Int64} {i V : Nat} (hV : 121 ≤ V) (hV8 : V + 8 < 2 ^ 20) (I : lwI s D E H locs M R f V) (hl : lv_has ls 7 (lwV s b i)) (hi : i + 3 < L) (hf : cells + 1 ≤ Rm.cells ∧ slots + 6 ≤ Rm.slots)
    (kk : ∀ (M1 R1 : bM) (f1 : Nat → Int64) (H1 : Heap) (locs1 : List Loc) (ls1 : Array Slot), lwI s D E H1 locs1 M1 R1 f1 (V + 1) → lv_has ls1 7 (lwV s b i) → W p l e Rm s m args below meth c H1 locs1 (cells + 1) (slots + 6) Q (F0 m 1529 ls1 [])) : W p l e Rm s m args below meth c H locs cells slots Q (F0 m 152 ls []) := by
  obtain ⟨hx, hb, hml, hown, hts, hX, hbl, hKX, hZ, hNc, hst, hL⟩ := C0
  obtain ⟨hB, hR, hP, hS, hs, hg⟩ := I
  have hok := ok_append (M := M) (R := R) (x1 := (xs (i + 1))) hs
  refine lv_aload_n hx hb dL_law_152 rfl (lv_at hl 1 rfl) ?_
  refine lv_aload_n hx hb dL_law_153 rfl (lv_at hl 0 rfl) ?_
  refine lv_iload hx hb dL_law_154 (lv_at hl 4 rfl) ?_
  refine lv_iconst (v := 1) hx hb dL_law_156 (by decide) ?_
  refine w_iaddN (i := i) (j := 1) hx hb rfl dL_law_157 ?_
  refine w_sld hx hb hX hbl hS hL (show i + 1 < L by omega) dL_law_158 ?_
  refine lv_aload_n hx hb dL_law_159 rfl (lv_at hl 3 rfl) ?_
  refine w_help (w_runS (As := [.ref (s.heap.size + 0), .int (xs (i + 1)), .ref (oW s)]) (rest := []) ⟨hx, hb, hml, hown, hts⟩ (h_append l hst D E s.heap.size (oW s) f M (xs (i + 1)) rA_w (okF_2 hok)) (vx_cwSW 3 hts gL_law_L_append rfl rfl rfl (by decide +kernel) ⟨Nat.le_trans (by decide) hRm.1, Nat.le_trans (by decide) hRm.2⟩) hB hP hKX (bZ_at hZ hS) hNc rfl hl rfl (Nat.le_of_ble_eq_true rfl) dL_law_160 hf) hS hA_0 (fun H1 locs f1 hB hP hf1 hq hz hS => ?_)
  have hR := bk_kept hR (fun q h1 h2 => hq q (bk_size hR LRR_len q h1 (by rw [LRR_len] at h2; exact h2)) (fun z => by rw [LRR_len] at h2; have hh1 : s.heap.size + 194 ≤ q := h1; have hh2 : q < s.heap.size + 194 + 9 := h2; rcases z with z | z; have h5 := z.2; omega; have h5 : q = s.heap.size + 203 := z; omega))
  refine lv_istore (lv' := (5, .int (plc 1 2 (f_X6_append M (xs (i + 1))).1)) :: lwV s b i) hx hb dL_law_163 hl (by decide) rfl (fun ls hl => ?_)
  refine lv_aload_n hx hb dL_law_165 rfl (lv_at hl 3 rfl) ?_
  refine lv_aload_n hx hb dL_law_166 rfl (lv_at hl 1 rfl) ?_
  refine lv_iload hx hb dL_law_167 (lv_at hl 5 rfl) ?_
  refine lv_iconst (v := 1) hx hb dL_law_169 (by decide) ?_
  refine w_iaddN (i := i) (j := 1) hx hb rfl dL_law_170 ?_
  refine w_sld hx hb hX hbl hS hL (show i + 1 < L by omega) dL_law_171 ?_
  refine w_mI (b_runV (As := [.int (xs (i + 1))]) (rest := []) ⟨hx, hb, hml, hown, hts⟩ (c_X7_append l D E (oB s) R (xs (i + 1)) (sS_hz hs)) (cwV 1 hts gL_law_X7_append rfl rfl rfl (by decide +kernel) ⟨Nat.le_trans (by decide) hRm.1, Nat.le_trans (by decide) hRm.2⟩) hKX.1 (bk_recv hKX.1.1 hR lay_m0 rfl) hR rfl hl rfl (Nat.le_of_ble_eq_true rfl) dL_law_172 ⟨by have := hf.1; omega, by have := hf.2; omega⟩) hS rB_0 (fun r R1 hr H2 locs hR hq2 hz2 hS => ?_)
  obtain ⟨hr1, hr2⟩ := hr
  have hr1 := hr1.symm
  have hr2 := hr2.symm
  subst hr1
  subst hr2
  have hB := bk_kept hB (fun q h1 h2 => hq2 q (fun z => by rw [LRM_len] at h2; have h5 : s.heap.size + 194 ≤ q := z.1; omega))
  have hP := va_at.kept hP (hq2 (oW s) (fun z => by have h5 : s.heap.size + 203 < s.heap.size + 194 + 9 := z.2; omega))
  refine lv_istore (lv' := (6, .int (f_X7_append R (xs (i + 1))).1) :: (5, .int (plc 1 2 (f_X6_append M (xs (i + 1))).1)) :: lwV s b i) hx hb dL_law_175 hl (by decide) rfl (fun ls hl => ?_)
  refine lv_aload_n hx hb dL_law_177 rfl (lv_at hl 4 rfl) ?_
  refine w_pI (b_runV (As := []) (rest := []) ⟨hx, hb, hml, hown, hts⟩ (c_X7_thrown l D E (oB s) (f_X7_append R (xs (i + 1))).2) (cwV 0 hts gL_law_X7_thrown rfl rfl rfl (by decide +kernel) ⟨Nat.le_trans (by decide) hRm.1, Nat.le_trans (by decide) hRm.2⟩) hKX.1 (bk_recv hKX.1.1 hR lay_m0 rfl) hR rfl hl rfl (Nat.le_of_ble_eq_true rfl) dL_law_178 ⟨by have := hf.1; omega, by have := hf.2; omega⟩) hS (fun r hr locs hS => ?_)
  rw [u_f_X7_thrown, hok.1] at hr
  have hr := hr.symm
  subst hr
  refine lv_iload hx hb dL_law_181 (lv_at hl 1 rfl) ?_
  refine lv_icmp_eq (tgt := 188) hx hb dL_law_183 (by decide) (fun _ => ?_) (fun z => absurd rfl z)
  have hI : lwI s D E H2 locs (f_X6_append M (xs (i + 1))).2.2 (f_X7_append R (xs (i + 1))).2 f1 (V + 1) := ⟨hB, hR, hP, hS, hok.2.2.2, gb_rd hg (fr_X7_append R (xs (i + 1)) 2 (by decide) (by decide)) (fr_X7_append R (xs (i + 1)) 4 (by decide) (by decide)) (fr_X7_append R (xs (i + 1)) 5 (by decide) (by decide))⟩
  have hl0 : lv_has ls 7 (lwV s b i) := lv_sub hl [2, 3, 4, 5, 6] rfl
  refine lv_iload hx hb dL_law_188 (lv_at hl 1 rfl) ?_
  refine lv_if_ne (tgt := 205) hx hb dL_law_190 (by decide) (fun _ => ?_) (fun z => ?_)
  · exact lv_goto (tgt := 1529) hx hb dL_law_205 (by decide) (kk _ _ _ _ _ _ hI hl0)
  · have h0 := plc_0 z
    refine lv_aload_n hx hb dL_law_193 rfl (lv_at hl 5 rfl) ?_
    refine lv_iconst (v := 0) hx hb dL_law_194 (by decide) ?_
    refine w_lald hx hb hKX.1.1 hP dL_law_195 ?_
    refine lv_iload hx hb dL_law_196 (lv_at hl 0 rfl) ?_
    refine lv_i2l (v := (f_X7_append R (xs (i + 1))).1.toInt64) hx hb dL_law_198 rfl ?_
    refine W.lcmp hx hb dL_law_199 ?_
    refine lv_if_eq (tgt := 205) hx hb dL_law_200 (by decide) (fun _ => ?_) (fun z => absurd ((cmp_z _ _).mpr ((hf1 h0).trans (by rw [hok.2.2.1 h0]))) z)
    exact lv_goto (tgt := 1529) hx hb dL_law_205 (by decide) (kk _ _ _ _ _ _ hI hl0)
theorem l_clearText {p : Program} {l : Launch} {e : Env} {Rm : Room} {s : State} {m : MethodId} {args : Array Value} {below : List Frame} {meth : Method} {c : Code} {b L : Nat} {xs : Nat → Int32} {D : va_G} {E : Nat → ClassId} (C0 : lwC p l s m args meth c b L xs D E) (hRm : 12 ≤ Rm.frames ∧ 400 ≤ Rm.locals) {Q : State → Prop} {H : Heap} {locs : List Loc} {cells slots : Nat} {ls : Array Slot} {M R : bM} {f : Nat → Int64} {i V : Nat} (hV : 121 ≤ V) (hV8 : V + 8 < 2 ^ 20) (I : lwI s D E H locs M R f V) (hl : lv_has ls 7 (lwV s b i)) (hi : i + 3 < L) (hf : cells + 1 ≤ Rm.cells ∧ slots + 6 ≤ Rm.slots)
    (kk : ∀ (M1 R1 : bM) (f1 : Nat → Int64) (H1 : Heap) (locs1 : List Loc) (ls1 : Array Slot), lwI s D E H1 locs1 M1 R1 f1 (V + 1) → lv_has ls1 7 (lwV s b i) → W p l e Rm s m args below meth c H1 locs1 (cells + 1) (slots + 6) Q (F0 m 1529 ls1 [])) : W p l e Rm s m args below meth c H locs cells slots Q (F0 m 208 ls []) := by
  obtain ⟨hx, hb, hml, hown, hts, hX, hbl, hKX, hZ, hNc, hst, hL⟩ := C0
  obtain ⟨hB, hR, hP, hS, hs, hg⟩ := I
  have hok := ok_clear (M := M) (R := R) hs
  refine W.widen (k := cells + 1) (n := slots + 6) (Nat.le_succ _) (Nat.le_add_right _ _) ?_
  refine lv_aload_n hx hb dL_law_208 rfl (lv_at hl 1 rfl) ?_
  refine w_mI (b_runV (As := []) (rest := []) ⟨hx, hb, hml, hown, hts⟩ (c_X6_clearText l D E s.heap.size M) (cwV 0 hts gL_law_X6_clearText rfl rfl rfl (by decide +kernel) ⟨Nat.le_trans (by decide) hRm.1, Nat.le_trans (by decide) hRm.2⟩) hKX.1 (bk_recv hKX.1.1 hB lay_0 rfl) hB rfl hl rfl (Nat.le_of_ble_eq_true rfl) dL_law_209 ⟨by have := hf.1; omega, by have := hf.2; omega⟩) hS rA_0 (fun r M1 hr H locs hB hq hz hS => ?_)
  obtain ⟨hr1, hr2⟩ := hr
  have hr1 := hr1.symm
  have hr2 := hr2.symm
  subst hr1
  subst hr2
  have hR := bk_kept hR (fun q h1 h2 => hq q (fun z => by have h5 := z.2; have hh1 : s.heap.size + 194 ≤ q := h1; omega))
  have hP := va_at.kept hP (hq (oW s) rA_w)
  refine lv_aload_n hx hb dL_law_212 rfl (lv_at hl 2 rfl) ?_
  refine w_mI (b_runV (As := []) (rest := [.int (f_X6_clearText M).1]) ⟨hx, hb, hml, hown, hts⟩ (c_X7_clearText l D E (oB s) R) (cwV 0 hts gL_law_X7_clearText rfl rfl rfl (by decide +kernel) ⟨Nat.le_trans (by decide) hRm.1, Nat.le_trans (by decide) hRm.2⟩) hKX.1 (bk_recv hKX.1.1 hR lay_m0 rfl) hR rfl hl rfl (Nat.le_of_ble_eq_true rfl) dL_law_213 ⟨by have := hf.1; omega, by have := hf.2; omega⟩) hS rB_0 (fun r R1 hr H2 locs hR hq2 hz2 hS => ?_)
  obtain ⟨hr1, hr2⟩ := hr
  have hr1 := hr1.symm
  have hr2 := hr2.symm
  subst hr1
  subst hr2
  have hB := bk_kept hB (fun q h1 h2 => hq2 q (fun z => by rw [LRM_len] at h2; have h5 : s.heap.size + 194 ≤ q := z.1; omega))
  have hP := va_at.kept hP (hq2 (oW s) (fun z => by have h5 : s.heap.size + 203 < s.heap.size + 194 + 9 := z.2; omega))
  exact lv_icmp_eq (tgt := 1529) hx hb dL_law_216 (by decide) (fun _ => kk _ _ _ _ _ _ ⟨hB, hR, hP, hS, hok.2.2, gb_rd hg (fr_X7_clearText R 2 (by decide)) (fr_X7_clearText R 4 (by decide)) (fr_X7_clearText R 5 (by decide))⟩ hl) (fun z => absurd hok.2.1 z)
theorem l_errorPosition {p : Program} {l : Launch} {e : Env} {Rm : Room} {s : State} {m : MethodId} {args : Array Value} {below : List Frame} {meth : Method} {c : Code} {b L : Nat} {xs : Nat → Int32} {D : va_G} {E : Nat → ClassId} (C0 : lwC p l s m args meth c b L xs D E) (hRm : 12 ≤ Rm.frames ∧ 400 ≤ Rm.locals) {Q : State → Prop} {H : Heap} {locs : List Loc} {cells slots : Nat} {ls : Array Slot} {M R : bM} {f : Nat → Int64} {i V : Nat} (hV : 121 ≤ V) (hV8 : V + 8 < 2 ^ 20) (I : lwI s D E H locs M R f V) (hl : lv_has ls 7 (lwV s b i)) (hi : i + 3 < L) (hf : cells + 1 ≤ Rm.cells ∧ slots + 6 ≤ Rm.slots)
    (kk : ∀ (M1 R1 : bM) (f1 : Nat → Int64) (H1 : Heap) (locs1 : List Loc) (ls1 : Array Slot), lwI s D E H1 locs1 M1 R1 f1 (V + 1) → lv_has ls1 7 (lwV s b i) → W p l e Rm s m args below meth c H1 locs1 (cells + 1) (slots + 6) Q (F0 m 1529 ls1 [])) : W p l e Rm s m args below meth c H locs cells slots Q (F0 m 221 ls []) := by
  obtain ⟨hx, hb, hml, hown, hts, hX, hbl, hKX, hZ, hNc, hst, hL⟩ := C0
  obtain ⟨hB, hR, hP, hS, hs, hg⟩ := I
  have hok := ok_error (M := M) (R := R) hs
  refine W.widen (k := cells + 1) (n := slots + 6) (Nat.le_succ _) (Nat.le_add_right _ _) ?_
  refine lv_aload_n hx hb dL_law_221 rfl (lv_at hl 1 rfl) ?_
  refine w_pI (b_runV (As := []) (rest := []) ⟨hx, hb, hml, hown, hts⟩ (c_X6_errorPosition l D E s.heap.size M (sS_chr hs)) (cwV 0 hts gL_law_X6_errorPosition rfl rfl rfl (by decide +kernel) ⟨Nat.le_trans (by decide) hRm.1, Nat.le_trans (by decide) hRm.2⟩) hKX.1 (bk_recv hKX.1.1 hB lay_0 rfl) hB rfl hl rfl (Nat.le_of_ble_eq_true rfl) dL_law_222 ⟨by have := hf.1; omega, by have := hf.2; omega⟩) hS (fun r hr locs hS => ?_)
  have hr := hr.symm
  subst hr
  refine lv_aload_n hx hb dL_law_225 rfl (lv_at hl 2 rfl) ?_
  refine w_mI (b_runV (As := []) (rest := [.int (f_X6_errorPosition M)]) ⟨hx, hb, hml, hown, hts⟩ (c_X7_errorPosition l D E (oB s) R (sS_hz hs)) (cwV 0 hts gL_law_X7_errorPosition rfl rfl rfl (by decide +kernel) ⟨Nat.le_trans (by decide) hRm.1, Nat.le_trans (by decide) hRm.2⟩) hKX.1 (bk_recv hKX.1.1 hR lay_m0 rfl) hR rfl hl rfl (Nat.le_of_ble_eq_true rfl) dL_law_226 ⟨by have := hf.1; omega, by have := hf.2; omega⟩) hS rB_0 (fun r R1 hr H2 locs hR hq2 hz2 hS => ?_)
  obtain ⟨hr1, hr2⟩ := hr
  have hr1 := hr1.symm
  have hr2 := hr2.symm
  subst hr1
  subst hr2
  have hB := bk_kept hB (fun q h1 h2 => hq2 q (fun z => by rw [LRM_len] at h2; have h5 : s.heap.size + 194 ≤ q := z.1; omega))
  have hP := va_at.kept hP (hq2 (oW s) (fun z => by have h5 : s.heap.size + 203 < s.heap.size + 194 + 9 := z.2; omega))
  exact lv_icmp_eq (tgt := 1529) hx hb dL_law_229 (by decide) (fun _ => kk _ _ _ _ _ _ ⟨hB, hR, hP, hS, hok.2.2, gb_rd hg (fr_X7_errorPosition R 2 (by decide) (by decide) (by decide)) (fr_X7_errorPosition R 4 (by decide) (by decide) (by decide)) (fr_X7_errorPosition R 5 (by decide) (by decide) (by decide))⟩ hl) (fun z => absurd hok.2.1 z)
theorem l_load {p : Program} {l : Launch} {e : Env} {Rm : Room} {s : State} {m : MethodId} {args : Array Value} {below : List Frame} {meth : Method} {c : Code} {b L : Nat} {xs : Nat → Int32} {D : va_G} {E : Nat → ClassId} (C0 : lwC p l s m args meth c b L xs D E) (hRm : 12 ≤ Rm.frames ∧ 400 ≤ Rm.locals) {Q : State → Prop} {H : Heap} {locs : List Loc} {cells slots : Nat} {ls : Array Slot} {M R : bM} {f : Nat → Int64} {i V : Nat} (hV : 121 ≤ V) (hV8 : V + 8 < 2 ^ 20) (I : lwI s D E H locs M R f V) (hl : lv_has ls 7 (lwV s b i)) (hi : i + 3 < L) (hf : cells + 1 ≤ Rm.cells ∧ slots + 6 ≤ Rm.slots)
    (kk : ∀ (M1 R1 : bM) (f1 : Nat → Int64) (H1 : Heap) (locs1 : List Loc) (ls1 : Array Slot), lwI s D E H1 locs1 M1 R1 f1 (V + 1) → lv_has ls1 7 (lwV s b i) → W p l e Rm s m args below meth c H1 locs1 (cells + 1) (slots + 6) Q (F0 m 1529 ls1 [])) : W p l e Rm s m args below meth c H locs cells slots Q (F0 m 234 ls []) := by
  obtain ⟨hx, hb, hml, hown, hts, hX, hbl, hKX, hZ, hNc, hst, hL⟩ := C0
  obtain ⟨hB, hR, hP, hS, hs, hg⟩ := I
  have hok := ok_load (M := M) (R := R) hs
  refine lv_aload_n hx hb dL_law_234 rfl (lv_at hl 1 rfl) ?_
  refine lv_aload_n hx hb dL_law_235 rfl (lv_at hl 3 rfl) ?_
  refine w_help (w_runS (As := [.ref (s.heap.size + 0), .ref (oW s)]) (rest := []) ⟨hx, hb, hml, hown, hts⟩ (h_load l hst D E s.heap.size (oW s) f M rA_w (sS_chr hs) (okF_1 hok n9_load)) (vx_cwSW 2 hts gL_law_L_load rfl rfl rfl (by decide +kernel) ⟨Nat.le_trans (by decide) hRm.1, Nat.le_trans (by decide) hRm.2⟩) hB hP hKX (bZ_at hZ hS) hNc rfl hl rfl (Nat.le_of_ble_eq_true rfl) dL_law_236 hf) hS hA_0 (fun H1 locs f1 hB hP hf1 hq hz hS => ?_)
  have hR := bk_kept hR (fun q h1 h2 => hq q (bk_size hR LRR_len q h1 (by rw [LRR_len] at h2; exact h2)) (fun z => by rw [LRR_len] at h2; have hh1 : s.heap.size + 194 ≤ q := h1; have hh2 : q < s.heap.size + 194 + 9 := h2; rcases z with z | z; have h5 := z.2; omega; have h5 : q = s.heap.size + 203 := z; omega))
  refine lv_istore (lv' := (5, .int (plc 2 9 (f_X6_load M).1)) :: lwV s b i) hx hb dL_law_239 hl (by decide) rfl (fun ls hl => ?_)
  refine lv_aload_n hx hb dL_law_241 rfl (lv_at hl 3 rfl) ?_
  refine w_mI (b_runV (As := []) (rest := []) ⟨hx, hb, hml, hown, hts⟩ (c_X7_load l D E (oB s) R (sS_hz hs)) (cwV 0 hts gL_law_X7_load rfl rfl rfl (by decide +kernel) ⟨Nat.le_trans (by decide) hRm.1, Nat.le_trans (by decide) hRm.2⟩) hKX.1 (bk_recv hKX.1.1 hR lay_m0 rfl) hR rfl hl rfl (Nat.le_of_ble_eq_true rfl) dL_law_242 ⟨by have := hf.1; omega, by have := hf.2; omega⟩) hS rB_0 (fun r R1 hr H2 locs hR hq2 hz2 hS => ?_)
  obtain ⟨hr1, hr2⟩ := hr
  have hr1 := hr1.symm
  have hr2 := hr2.symm
  subst hr1
  subst hr2
  have hB := bk_kept hB (fun q h1 h2 => hq2 q (fun z => by rw [LRM_len] at h2; have h5 : s.heap.size + 194 ≤ q := z.1; omega))
  have hP := va_at.kept hP (hq2 (oW s) (fun z => by have h5 : s.heap.size + 203 < s.heap.size + 194 + 9 := z.2; omega))
  refine lv_istore (lv' := (6, .int (f_X7_load R).1) :: (5, .int (plc 2 9 (f_X6_load M).1)) :: lwV s b i) hx hb dL_law_245 hl (by decide) rfl (fun ls hl => ?_)
  refine lv_aload_n hx hb dL_law_247 rfl (lv_at hl 4 rfl) ?_
  refine w_pI (b_runV (As := []) (rest := []) ⟨hx, hb, hml, hown, hts⟩ (c_X7_thrown l D E (oB s) (f_X7_load R).2) (cwV 0 hts gL_law_X7_thrown rfl rfl rfl (by decide +kernel) ⟨Nat.le_trans (by decide) hRm.1, Nat.le_trans (by decide) hRm.2⟩) hKX.1 (bk_recv hKX.1.1 hR lay_m0 rfl) hR rfl hl rfl (Nat.le_of_ble_eq_true rfl) dL_law_248 ⟨by have := hf.1; omega, by have := hf.2; omega⟩) hS (fun r hr locs hS => ?_)
  rw [u_f_X7_thrown, hok.1] at hr
  have hr := hr.symm
  subst hr
  refine lv_iload hx hb dL_law_251 (lv_at hl 1 rfl) ?_
  refine lv_icmp_eq (tgt := 258) hx hb dL_law_253 (by decide) (fun _ => ?_) (fun z => absurd rfl z)
  have hI : lwI s D E H2 locs (f_X6_load M).2.2 (f_X7_load R).2 f1 (V + 1) := ⟨hB, hR, hP, hS, hok.2.2.2, gb_load hV hs hg⟩
  have hl0 : lv_has ls 7 (lwV s b i) := lv_sub hl [2, 3, 4, 5, 6] rfl
  refine lv_iload hx hb dL_law_258 (lv_at hl 1 rfl) ?_
  refine lv_if_ne (tgt := 275) hx hb dL_law_260 (by decide) (fun _ => ?_) (fun z => ?_)
  · exact lv_goto (tgt := 1529) hx hb dL_law_275 (by decide) (kk _ _ _ _ _ _ hI hl0)
  · have h0 := plc_0 z
    refine lv_aload_n hx hb dL_law_263 rfl (lv_at hl 5 rfl) ?_
    refine lv_iconst (v := 0) hx hb dL_law_264 (by decide) ?_
    refine w_lald hx hb hKX.1.1 hP dL_law_265 ?_
    refine lv_iload hx hb dL_law_266 (lv_at hl 0 rfl) ?_
    refine lv_i2l (v := (f_X7_load R).1.toInt64) hx hb dL_law_268 rfl ?_
    refine W.lcmp hx hb dL_law_269 ?_
    refine lv_if_eq (tgt := 275) hx hb dL_law_270 (by decide) (fun _ => ?_) (fun z => absurd ((cmp_z _ _).mpr ((hf1 h0).trans (by rw [hok.2.2.1 h0]))) z)
    exact lv_goto (tgt := 1529) hx hb dL_law_275 (by decide) (kk _ _ _ _ _ _ hI hl0)
theorem l_about {p : Program} {l : Launch} {e : Env} {Rm : Room} {s : State} {m : MethodId} {args : Array Value} {below : List Frame} {meth : Method} {c : Code} {b L : Nat} {xs : Nat → Int32} {D : va_G} {E : Nat → ClassId} (C0 : lwC p l s m args meth c b L xs D E) (hRm : 12 ≤ Rm.frames ∧ 400 ≤ Rm.locals) {Q : State → Prop} {H : Heap} {locs : List Loc} {cells slots : Nat} {ls : Array Slot} {M R : bM} {f : Nat → Int64} {i V : Nat} (hV : 121 ≤ V) (hV8 : V + 8 < 2 ^ 20) (I : lwI s D E H locs M R f V) (hl : lv_has ls 7 (lwV s b i)) (hi : i + 3 < L) (hf : cells + 1 ≤ Rm.cells ∧ slots + 6 ≤ Rm.slots)
    (kk : ∀ (M1 R1 : bM) (f1 : Nat → Int64) (H1 : Heap) (locs1 : List Loc) (ls1 : Array Slot), lwI s D E H1 locs1 M1 R1 f1 (V + 1) → lv_has ls1 7 (lwV s b i) → W p l e Rm s m args below meth c H1 locs1 (cells + 1) (slots + 6) Q (F0 m 1529 ls1 [])) : W p l e Rm s m args below meth c H locs cells slots Q (F0 m 278 ls []) := by
  obtain ⟨hx, hb, hml, hown, hts, hX, hbl, hKX, hZ, hNc, hst, hL⟩ := C0
  obtain ⟨hB, hR, hP, hS, hs, hg⟩ := I
  have hok := ok_about (M := M) (R := R) (x1 := (xs (i + 1))) hs
  refine lv_aload_n hx hb dL_law_278 rfl (lv_at hl 1 rfl) ?_
  refine lv_aload_n hx hb dL_law_279 rfl (lv_at hl 0 rfl) ?_
  refine lv_iload hx hb dL_law_280 (lv_at hl 4 rfl) ?_
  refine lv_iconst (v := 1) hx hb dL_law_282 (by decide) ?_
  refine w_iaddN (i := i) (j := 1) hx hb rfl dL_law_283 ?_
  refine w_sld hx hb hX hbl hS hL (show i + 1 < L by omega) dL_law_284 ?_
  refine lv_aload_n hx hb dL_law_285 rfl (lv_at hl 3 rfl) ?_
  refine w_help (w_runS (As := [.ref (s.heap.size + 0), .int (xs (i + 1)), .ref (oW s)]) (rest := []) ⟨hx, hb, hml, hown, hts⟩ (h_about l hst D E s.heap.size (oW s) f M (xs (i + 1)) rA_w (okF_1 hok n9_about)) (vx_cwSW 3 hts gL_law_L_about rfl rfl rfl (by decide +kernel) ⟨Nat.le_trans (by decide) hRm.1, Nat.le_trans (by decide) hRm.2⟩) hB hP hKX (bZ_at hZ hS) hNc rfl hl rfl (Nat.le_of_ble_eq_true rfl) dL_law_286 hf) hS hA_0 (fun H1 locs f1 hB hP hf1 hq hz hS => ?_)
  have hR := bk_kept hR (fun q h1 h2 => hq q (bk_size hR LRR_len q h1 (by rw [LRR_len] at h2; exact h2)) (fun z => by rw [LRR_len] at h2; have hh1 : s.heap.size + 194 ≤ q := h1; have hh2 : q < s.heap.size + 194 + 9 := h2; rcases z with z | z; have h5 := z.2; omega; have h5 : q = s.heap.size + 203 := z; omega))
  refine lv_istore (lv' := (5, .int (plc 1 9 (f_X6_about M (xs (i + 1))).1)) :: lwV s b i) hx hb dL_law_289 hl (by decide) rfl (fun ls hl => ?_)
  refine lv_aload_n hx hb dL_law_291 rfl (lv_at hl 3 rfl) ?_
  refine lv_aload_n hx hb dL_law_292 rfl (lv_at hl 1 rfl) ?_
  refine lv_iload hx hb dL_law_293 (lv_at hl 5 rfl) ?_
  refine lv_iconst (v := 1) hx hb dL_law_295 (by decide) ?_
  refine w_iaddN (i := i) (j := 1) hx hb rfl dL_law_296 ?_
  refine w_sld hx hb hX hbl hS hL (show i + 1 < L by omega) dL_law_297 ?_
  refine w_mI (b_runV (As := [.int (xs (i + 1))]) (rest := []) ⟨hx, hb, hml, hown, hts⟩ (c_X7_about l D E (oB s) R (xs (i + 1))) (cwV 1 hts gL_law_X7_about rfl rfl rfl (by decide +kernel) ⟨Nat.le_trans (by decide) hRm.1, Nat.le_trans (by decide) hRm.2⟩) hKX.1 (bk_recv hKX.1.1 hR lay_m0 rfl) hR rfl hl rfl (Nat.le_of_ble_eq_true rfl) dL_law_298 ⟨by have := hf.1; omega, by have := hf.2; omega⟩) hS rB_0 (fun r R1 hr H2 locs hR hq2 hz2 hS => ?_)
  obtain ⟨hr1, hr2⟩ := hr
  have hr1 := hr1.symm
  have hr2 := hr2.symm
  subst hr1
  subst hr2
  have hB := bk_kept hB (fun q h1 h2 => hq2 q (fun z => by rw [LRM_len] at h2; have h5 : s.heap.size + 194 ≤ q := z.1; omega))
  have hP := va_at.kept hP (hq2 (oW s) (fun z => by have h5 : s.heap.size + 203 < s.heap.size + 194 + 9 := z.2; omega))
  refine lv_istore (lv' := (6, .int (f_X7_about R (xs (i + 1))).1) :: (5, .int (plc 1 9 (f_X6_about M (xs (i + 1))).1)) :: lwV s b i) hx hb dL_law_301 hl (by decide) rfl (fun ls hl => ?_)
  refine lv_aload_n hx hb dL_law_303 rfl (lv_at hl 4 rfl) ?_
  refine w_pI (b_runV (As := []) (rest := []) ⟨hx, hb, hml, hown, hts⟩ (c_X7_thrown l D E (oB s) (f_X7_about R (xs (i + 1))).2) (cwV 0 hts gL_law_X7_thrown rfl rfl rfl (by decide +kernel) ⟨Nat.le_trans (by decide) hRm.1, Nat.le_trans (by decide) hRm.2⟩) hKX.1 (bk_recv hKX.1.1 hR lay_m0 rfl) hR rfl hl rfl (Nat.le_of_ble_eq_true rfl) dL_law_304 ⟨by have := hf.1; omega, by have := hf.2; omega⟩) hS (fun r hr locs hS => ?_)
  rw [u_f_X7_thrown, hok.1] at hr
  have hr := hr.symm
  subst hr
  refine lv_iload hx hb dL_law_307 (lv_at hl 1 rfl) ?_
  refine lv_icmp_eq (tgt := 314) hx hb dL_law_309 (by decide) (fun _ => ?_) (fun z => absurd rfl z)
  have hI : lwI s D E H2 locs (f_X6_about M (xs (i + 1))).2.2 (f_X7_about R (xs (i + 1))).2 f1 (V + 1) := ⟨hB, hR, hP, hS, hok.2.2.2, gb_about hg⟩
  have hl0 : lv_has ls 7 (lwV s b i) := lv_sub hl [2, 3, 4, 5, 6] rfl
  refine lv_iload hx hb dL_law_314 (lv_at hl 1 rfl) ?_
  refine lv_if_ne (tgt := 331) hx hb dL_law_316 (by decide) (fun _ => ?_) (fun z => ?_)
  · exact lv_goto (tgt := 1529) hx hb dL_law_331 (by decide) (kk _ _ _ _ _ _ hI hl0)
  · have h0 := plc_0 z
    refine lv_aload_n hx hb dL_law_319 rfl (lv_at hl 5 rfl) ?_
    refine lv_iconst (v := 0) hx hb dL_law_320 (by decide) ?_
    refine w_lald hx hb hKX.1.1 hP dL_law_321 ?_
    refine lv_iload hx hb dL_law_322 (lv_at hl 0 rfl) ?_
    refine lv_i2l (v := (f_X7_about R (xs (i + 1))).1.toInt64) hx hb dL_law_324 rfl ?_
    refine W.lcmp hx hb dL_law_325 ?_
    refine lv_if_eq (tgt := 331) hx hb dL_law_326 (by decide) (fun _ => ?_) (fun z => absurd ((cmp_z _ _).mpr ((hf1 h0).trans (by rw [hok.2.2.1 h0]))) z)
    exact lv_goto (tgt := 1529) hx hb dL_law_331 (by decide) (kk _ _ _ _ _ _ hI hl0)
theorem l_playerOf {p : Program} {l : Launch} {e : Env} {Rm : Room} {s : State} {m : MethodId} {args : Array Value} {below : List Frame} {meth : Method} {c : Code} {b L : Nat} {xs : Nat → Int32} {D : va_G} {E : Nat → ClassId} (C0 : lwC p l s m args meth c b L xs D E) (hRm : 12 ≤ Rm.frames ∧ 400 ≤ Rm.locals) {Q : State → Prop} {H : Heap} {locs : List Loc} {cells slots : Nat} {ls : Array Slot} {M R : bM} {f : Nat → Int64} {i V : Nat} (hV : 121 ≤ V) (hV8 : V + 8 < 2 ^ 20) (I : lwI s D E H locs M R f V) (hl : lv_has ls 7 (lwV s b i)) (hi : i + 3 < L) (hf : cells + 1 ≤ Rm.cells ∧ slots + 6 ≤ Rm.slots)
    (kk : ∀ (M1 R1 : bM) (f1 : Nat → Int64) (H1 : Heap) (locs1 : List Loc) (ls1 : Array Slot), lwI s D E H1 locs1 M1 R1 f1 (V + 1) → lv_has ls1 7 (lwV s b i) → W p l e Rm s m args below meth c H1 locs1 (cells + 1) (slots + 6) Q (F0 m 1529 ls1 [])) : W p l e Rm s m args below meth c H locs cells slots Q (F0 m 334 ls []) := by
  obtain ⟨hx, hb, hml, hown, hts, hX, hbl, hKX, hZ, hNc, hst, hL⟩ := C0
  obtain ⟨hB, hR, hP, hS, hs, hg⟩ := I
  have hok := ok_playerOf (M := M) (R := R) (x1 := (xs (i + 1))) (x2 := (xs (i + 2))) hs
  refine lv_aload_n hx hb dL_law_334 rfl (lv_at hl 1 rfl) ?_
  refine lv_aload_n hx hb dL_law_335 rfl (lv_at hl 0 rfl) ?_
  refine lv_iload hx hb dL_law_336 (lv_at hl 4 rfl) ?_
  refine lv_iconst (v := 1) hx hb dL_law_338 (by decide) ?_
  refine w_iaddN (i := i) (j := 1) hx hb rfl dL_law_339 ?_
  refine w_sld hx hb hX hbl hS hL (show i + 1 < L by omega) dL_law_340 ?_
  refine lv_aload_n hx hb dL_law_341 rfl (lv_at hl 0 rfl) ?_
  refine lv_iload hx hb dL_law_342 (lv_at hl 4 rfl) ?_
  refine lv_iconst (v := 2) hx hb dL_law_344 (by decide) ?_
  refine w_iaddN (i := i) (j := 2) hx hb rfl dL_law_345 ?_
  refine w_sld hx hb hX hbl hS hL (show i + 2 < L by omega) dL_law_346 ?_
  refine lv_aload_n hx hb dL_law_347 rfl (lv_at hl 3 rfl) ?_
  refine w_help (w_runS (As := [.ref (s.heap.size + 0), .int (xs (i + 1)), .int (xs (i + 2)), .ref (oW s)]) (rest := []) ⟨hx, hb, hml, hown, hts⟩ (h_playerOf l hst D E s.heap.size (oW s) f M (xs (i + 1)) (xs (i + 2)) rA_w (okF_2 hok)) (vx_cwSW 4 hts gL_law_L_playerOf rfl rfl rfl (by decide +kernel) ⟨Nat.le_trans (by decide) hRm.1, Nat.le_trans (by decide) hRm.2⟩) hB hP hKX (bZ_at hZ hS) hNc rfl hl rfl (Nat.le_of_ble_eq_true rfl) dL_law_348 hf) hS hA_0 (fun H1 locs f1 hB hP hf1 hq hz hS => ?_)
  have hR := bk_kept hR (fun q h1 h2 => hq q (bk_size hR LRR_len q h1 (by rw [LRR_len] at h2; exact h2)) (fun z => by rw [LRR_len] at h2; have hh1 : s.heap.size + 194 ≤ q := h1; have hh2 : q < s.heap.size + 194 + 9 := h2; rcases z with z | z; have h5 := z.2; omega; have h5 : q = s.heap.size + 203 := z; omega))
  refine lv_istore (lv' := (5, .int (plc 3 1 (f_X6_playerOf M (xs (i + 1)) (xs (i + 2))).1)) :: lwV s b i) hx hb dL_law_351 hl (by decide) rfl (fun ls hl => ?_)
  refine lv_aload_n hx hb dL_law_353 rfl (lv_at hl 3 rfl) ?_
  refine lv_aload_n hx hb dL_law_354 rfl (lv_at hl 1 rfl) ?_
  refine lv_iload hx hb dL_law_355 (lv_at hl 5 rfl) ?_
  refine lv_iconst (v := 1) hx hb dL_law_357 (by decide) ?_
  refine w_iaddN (i := i) (j := 1) hx hb rfl dL_law_358 ?_
  refine w_sld hx hb hX hbl hS hL (show i + 1 < L by omega) dL_law_359 ?_
  refine lv_aload_n hx hb dL_law_360 rfl (lv_at hl 1 rfl) ?_
  refine lv_iload hx hb dL_law_361 (lv_at hl 5 rfl) ?_
  refine lv_iconst (v := 2) hx hb dL_law_363 (by decide) ?_
  refine w_iaddN (i := i) (j := 2) hx hb rfl dL_law_364 ?_
  refine w_sld hx hb hX hbl hS hL (show i + 2 < L by omega) dL_law_365 ?_
  refine w_mI (b_runV (As := [.int (xs (i + 1)), .int (xs (i + 2))]) (rest := []) ⟨hx, hb, hml, hown, hts⟩ (c_X7_playerOf l D E (oB s) R (xs (i + 1)) (xs (i + 2)) (sS_hw hs)) (cwV 2 hts gL_law_X7_playerOf rfl rfl rfl (by decide +kernel) ⟨Nat.le_trans (by decide) hRm.1, Nat.le_trans (by decide) hRm.2⟩) hKX.1 (bk_recv hKX.1.1 hR lay_m0 rfl) hR rfl hl rfl (Nat.le_of_ble_eq_true rfl) dL_law_366 ⟨by have := hf.1; omega, by have := hf.2; omega⟩) hS rB_0 (fun r R1 hr H2 locs hR hq2 hz2 hS => ?_)
  obtain ⟨hr1, hr2⟩ := hr
  have hr1 := hr1.symm
  have hr2 := hr2.symm
  subst hr1
  subst hr2
  have hB := bk_kept hB (fun q h1 h2 => hq2 q (fun z => by rw [LRM_len] at h2; have h5 : s.heap.size + 194 ≤ q := z.1; omega))
  have hP := va_at.kept hP (hq2 (oW s) (fun z => by have h5 : s.heap.size + 203 < s.heap.size + 194 + 9 := z.2; omega))
  refine lv_istore (lv' := (6, .int (f_X7_playerOf R (xs (i + 1)) (xs (i + 2))).1) :: (5, .int (plc 3 1 (f_X6_playerOf M (xs (i + 1)) (xs (i + 2))).1)) :: lwV s b i) hx hb dL_law_369 hl (by decide) rfl (fun ls hl => ?_)
  refine lv_aload_n hx hb dL_law_371 rfl (lv_at hl 4 rfl) ?_
  refine w_pI (b_runV (As := []) (rest := []) ⟨hx, hb, hml, hown, hts⟩ (c_X7_thrown l D E (oB s) (f_X7_playerOf R (xs (i + 1)) (xs (i + 2))).2) (cwV 0 hts gL_law_X7_thrown rfl rfl rfl (by decide +kernel) ⟨Nat.le_trans (by decide) hRm.1, Nat.le_trans (by decide) hRm.2⟩) hKX.1 (bk_recv hKX.1.1 hR lay_m0 rfl) hR rfl hl rfl (Nat.le_of_ble_eq_true rfl) dL_law_372 ⟨by have := hf.1; omega, by have := hf.2; omega⟩) hS (fun r hr locs hS => ?_)
  rw [u_f_X7_thrown, hok.1] at hr
  have hr := hr.symm
  subst hr
  refine lv_iload hx hb dL_law_375 (lv_at hl 1 rfl) ?_
  refine lv_icmp_eq (tgt := 382) hx hb dL_law_377 (by decide) (fun _ => ?_) (fun z => absurd rfl z)
  have hI : lwI s D E H2 locs (f_X6_playerOf M (xs (i + 1)) (xs (i + 2))).2.2 (f_X7_playerOf R (xs (i + 1)) (xs (i + 2))).2 f1 (V + 1) := ⟨hB, hR, hP, hS, hok.2.2.2, gb_playerOf hg⟩
  have hl0 : lv_has ls 7 (lwV s b i) := lv_sub hl [2, 3, 4, 5, 6] rfl
  refine lv_iload hx hb dL_law_382 (lv_at hl 1 rfl) ?_
  refine lv_if_ne (tgt := 399) hx hb dL_law_384 (by decide) (fun _ => ?_) (fun z => ?_)
  · exact lv_goto (tgt := 1529) hx hb dL_law_399 (by decide) (kk _ _ _ _ _ _ hI hl0)
  · have h0 := plc_0 z
    refine lv_aload_n hx hb dL_law_387 rfl (lv_at hl 5 rfl) ?_
    refine lv_iconst (v := 0) hx hb dL_law_388 (by decide) ?_
    refine w_lald hx hb hKX.1.1 hP dL_law_389 ?_
    refine lv_iload hx hb dL_law_390 (lv_at hl 0 rfl) ?_
    refine lv_i2l (v := (f_X7_playerOf R (xs (i + 1)) (xs (i + 2))).1.toInt64) hx hb dL_law_392 rfl ?_
    refine W.lcmp hx hb dL_law_393 ?_
    refine lv_if_eq (tgt := 399) hx hb dL_law_394 (by decide) (fun _ => ?_) (fun z => absurd ((cmp_z _ _).mpr ((hf1 h0).trans (by rw [hok.2.2.1 h0]))) z)
    exact lv_goto (tgt := 1529) hx hb dL_law_399 (by decide) (kk _ _ _ _ _ _ hI hl0)
theorem l_cellOf {p : Program} {l : Launch} {e : Env} {Rm : Room} {s : State} {m : MethodId} {args : Array Value} {below : List Frame} {meth : Method} {c : Code} {b L : Nat} {xs : Nat → Int32} {D : va_G} {E : Nat → ClassId} (C0 : lwC p l s m args meth c b L xs D E) (hRm : 12 ≤ Rm.frames ∧ 400 ≤ Rm.locals) {Q : State → Prop} {H : Heap} {locs : List Loc} {cells slots : Nat} {ls : Array Slot} {M R : bM} {f : Nat → Int64} {i V : Nat} (hV : 121 ≤ V) (hV8 : V + 8 < 2 ^ 20) (I : lwI s D E H locs M R f V) (hl : lv_has ls 7 (lwV s b i)) (hi : i + 3 < L) (hf : cells + 1 ≤ Rm.cells ∧ slots + 6 ≤ Rm.slots)
    (kk : ∀ (M1 R1 : bM) (f1 : Nat → Int64) (H1 : Heap) (locs1 : List Loc) (ls1 : Array Slot), lwI s D E H1 locs1 M1 R1 f1 (V + 1) → lv_has ls1 7 (lwV s b i) → W p l e Rm s m args below meth c H1 locs1 (cells + 1) (slots + 6) Q (F0 m 1529 ls1 [])) : W p l e Rm s m args below meth c H locs cells slots Q (F0 m 402 ls []) := by
  obtain ⟨hx, hb, hml, hown, hts, hX, hbl, hKX, hZ, hNc, hst, hL⟩ := C0
  obtain ⟨hB, hR, hP, hS, hs, hg⟩ := I
  have hok := ok_cellOf (M := M) (R := R) (x1 := (xs (i + 1))) (x2 := (xs (i + 2))) (x3 := (xs (i + 3))) hs
  refine lv_aload_n hx hb dL_law_402 rfl (lv_at hl 1 rfl) ?_
  refine lv_aload_n hx hb dL_law_403 rfl (lv_at hl 0 rfl) ?_
  refine lv_iload hx hb dL_law_404 (lv_at hl 4 rfl) ?_
  refine lv_iconst (v := 1) hx hb dL_law_406 (by decide) ?_
  refine w_iaddN (i := i) (j := 1) hx hb rfl dL_law_407 ?_
  refine w_sld hx hb hX hbl hS hL (show i + 1 < L by omega) dL_law_408 ?_
  refine lv_aload_n hx hb dL_law_409 rfl (lv_at hl 0 rfl) ?_
  refine lv_iload hx hb dL_law_410 (lv_at hl 4 rfl) ?_
  refine lv_iconst (v := 2) hx hb dL_law_412 (by decide) ?_
  refine w_iaddN (i := i) (j := 2) hx hb rfl dL_law_413 ?_
  refine w_sld hx hb hX hbl hS hL (show i + 2 < L by omega) dL_law_414 ?_
  refine lv_aload_n hx hb dL_law_415 rfl (lv_at hl 0 rfl) ?_
  refine lv_iload hx hb dL_law_416 (lv_at hl 4 rfl) ?_
  refine lv_iconst (v := 3) hx hb dL_law_418 (by decide) ?_
  refine w_iaddN (i := i) (j := 3) hx hb rfl dL_law_419 ?_
  refine w_sld hx hb hX hbl hS hL (show i + 3 < L by omega) dL_law_420 ?_
  refine lv_aload_n hx hb dL_law_421 rfl (lv_at hl 3 rfl) ?_
  refine w_help (w_runS (As := [.ref (s.heap.size + 0), .int (xs (i + 1)), .int (xs (i + 2)), .int (xs (i + 3)), .ref (oW s)]) (rest := []) ⟨hx, hb, hml, hown, hts⟩ (h_cellOf l hst D E s.heap.size (oW s) f M (xs (i + 1)) (xs (i + 2)) (xs (i + 3)) rA_w (okF_2 hok)) (vx_cwSW 5 hts gL_law_L_cellOf rfl rfl rfl (by decide +kernel) ⟨Nat.le_trans (by decide) hRm.1, Nat.le_trans (by decide) hRm.2⟩) hB hP hKX (bZ_at hZ hS) hNc rfl hl rfl (Nat.le_of_ble_eq_true rfl) dL_law_422 hf) hS hA_0 (fun H1 locs f1 hB hP hf1 hq hz hS => ?_)
  have hR := bk_kept hR (fun q h1 h2 => hq q (bk_size hR LRR_len q h1 (by rw [LRR_len] at h2; exact h2)) (fun z => by rw [LRR_len] at h2; have hh1 : s.heap.size + 194 ≤ q := h1; have hh2 : q < s.heap.size + 194 + 9 := h2; rcases z with z | z; have h5 := z.2; omega; have h5 : q = s.heap.size + 203 := z; omega))
  refine lv_istore (lv' := (5, .int (plc 3 1 (f_X6_cellOf M (xs (i + 1)) (xs (i + 2)) (xs (i + 3))).1)) :: lwV s b i) hx hb dL_law_425 hl (by decide) rfl (fun ls hl => ?_)
  refine lv_aload_n hx hb dL_law_427 rfl (lv_at hl 3 rfl) ?_
  refine lv_aload_n hx hb dL_law_428 rfl (lv_at hl 1 rfl) ?_
  refine lv_iload hx hb dL_law_429 (lv_at hl 5 rfl) ?_
  refine lv_iconst (v := 1) hx hb dL_law_431 (by decide) ?_
  refine w_iaddN (i := i) (j := 1) hx hb rfl dL_law_432 ?_
  refine w_sld hx hb hX hbl hS hL (show i + 1 < L by omega) dL_law_433 ?_
  refine lv_aload_n hx hb dL_law_434 rfl (lv_at hl 1 rfl) ?_
  refine lv_iload hx hb dL_law_435 (lv_at hl 5 rfl) ?_
  refine lv_iconst (v := 2) hx hb dL_law_437 (by decide) ?_
  refine w_iaddN (i := i) (j := 2) hx hb rfl dL_law_438 ?_
  refine w_sld hx hb hX hbl hS hL (show i + 2 < L by omega) dL_law_439 ?_
  refine lv_aload_n hx hb dL_law_440 rfl (lv_at hl 1 rfl) ?_
  refine lv_iload hx hb dL_law_441 (lv_at hl 5 rfl) ?_
  refine lv_iconst (v := 3) hx hb dL_law_443 (by decide) ?_
  refine w_iaddN (i := i) (j := 3) hx hb rfl dL_law_444 ?_
  refine w_sld hx hb hX hbl hS hL (show i + 3 < L by omega) dL_law_445 ?_
  refine w_mI (b_runV (As := [.int (xs (i + 1)), .int (xs (i + 2)), .int (xs (i + 3))]) (rest := []) ⟨hx, hb, hml, hown, hts⟩ (c_X7_cellOf l D E (oB s) R (xs (i + 1)) (xs (i + 2)) (xs (i + 3))) (cwV 3 hts gL_law_X7_cellOf rfl rfl rfl (by decide +kernel) ⟨Nat.le_trans (by decide) hRm.1, Nat.le_trans (by decide) hRm.2⟩) hKX.1 (bk_recv hKX.1.1 hR lay_m0 rfl) hR rfl hl rfl (Nat.le_of_ble_eq_true rfl) dL_law_446 ⟨by have := hf.1; omega, by have := hf.2; omega⟩) hS rB_0 (fun r R1 hr H2 locs hR hq2 hz2 hS => ?_)
  obtain ⟨hr1, hr2⟩ := hr
  have hr1 := hr1.symm
  have hr2 := hr2.symm
  subst hr1
  subst hr2
  have hB := bk_kept hB (fun q h1 h2 => hq2 q (fun z => by rw [LRM_len] at h2; have h5 : s.heap.size + 194 ≤ q := z.1; omega))
  have hP := va_at.kept hP (hq2 (oW s) (fun z => by have h5 : s.heap.size + 203 < s.heap.size + 194 + 9 := z.2; omega))
  refine lv_istore (lv' := (6, .int (f_X7_cellOf R (xs (i + 1)) (xs (i + 2)) (xs (i + 3))).1) :: (5, .int (plc 3 1 (f_X6_cellOf M (xs (i + 1)) (xs (i + 2)) (xs (i + 3))).1)) :: lwV s b i) hx hb dL_law_449 hl (by decide) rfl (fun ls hl => ?_)
  refine lv_aload_n hx hb dL_law_451 rfl (lv_at hl 4 rfl) ?_
  refine w_pI (b_runV (As := []) (rest := []) ⟨hx, hb, hml, hown, hts⟩ (c_X7_thrown l D E (oB s) (f_X7_cellOf R (xs (i + 1)) (xs (i + 2)) (xs (i + 3))).2) (cwV 0 hts gL_law_X7_thrown rfl rfl rfl (by decide +kernel) ⟨Nat.le_trans (by decide) hRm.1, Nat.le_trans (by decide) hRm.2⟩) hKX.1 (bk_recv hKX.1.1 hR lay_m0 rfl) hR rfl hl rfl (Nat.le_of_ble_eq_true rfl) dL_law_452 ⟨by have := hf.1; omega, by have := hf.2; omega⟩) hS (fun r hr locs hS => ?_)
  rw [u_f_X7_thrown, hok.1] at hr
  have hr := hr.symm
  subst hr
  refine lv_iload hx hb dL_law_455 (lv_at hl 1 rfl) ?_
  refine lv_icmp_eq (tgt := 462) hx hb dL_law_457 (by decide) (fun _ => ?_) (fun z => absurd rfl z)
  have hI : lwI s D E H2 locs (f_X6_cellOf M (xs (i + 1)) (xs (i + 2)) (xs (i + 3))).2.2 (f_X7_cellOf R (xs (i + 1)) (xs (i + 2)) (xs (i + 3))).2 f1 (V + 1) := ⟨hB, hR, hP, hS, hok.2.2.2, gb_cellOf hg⟩
  have hl0 : lv_has ls 7 (lwV s b i) := lv_sub hl [2, 3, 4, 5, 6] rfl
  refine lv_iload hx hb dL_law_462 (lv_at hl 1 rfl) ?_
  refine lv_if_ne (tgt := 479) hx hb dL_law_464 (by decide) (fun _ => ?_) (fun z => ?_)
  · exact lv_goto (tgt := 1529) hx hb dL_law_479 (by decide) (kk _ _ _ _ _ _ hI hl0)
  · have h0 := plc_0 z
    refine lv_aload_n hx hb dL_law_467 rfl (lv_at hl 5 rfl) ?_
    refine lv_iconst (v := 0) hx hb dL_law_468 (by decide) ?_
    refine w_lald hx hb hKX.1.1 hP dL_law_469 ?_
    refine lv_iload hx hb dL_law_470 (lv_at hl 0 rfl) ?_
    refine lv_i2l (v := (f_X7_cellOf R (xs (i + 1)) (xs (i + 2)) (xs (i + 3))).1.toInt64) hx hb dL_law_472 rfl ?_
    refine W.lcmp hx hb dL_law_473 ?_
    refine lv_if_eq (tgt := 479) hx hb dL_law_474 (by decide) (fun _ => ?_) (fun z => absurd ((cmp_z _ _).mpr ((hf1 h0).trans (by rw [hok.2.2.1 h0]))) z)
    exact lv_goto (tgt := 1529) hx hb dL_law_479 (by decide) (kk _ _ _ _ _ _ hI hl0)
theorem l_course {p : Program} {l : Launch} {e : Env} {Rm : Room} {s : State} {m : MethodId} {args : Array Value} {below : List Frame} {meth : Method} {c : Code} {b L : Nat} {xs : Nat → Int32} {D : va_G} {E : Nat → ClassId} (C0 : lwC p l s m args meth c b L xs D E) (hRm : 12 ≤ Rm.frames ∧ 400 ≤ Rm.locals) {Q : State → Prop} {H : Heap} {locs : List Loc} {cells slots : Nat} {ls : Array Slot} {M R : bM} {f : Nat → Int64} {i V : Nat} (hV : 121 ≤ V) (hV8 : V + 8 < 2 ^ 20) (I : lwI s D E H locs M R f V) (hl : lv_has ls 7 (lwV s b i)) (hi : i + 3 < L) (hf : cells + 1 ≤ Rm.cells ∧ slots + 6 ≤ Rm.slots)
    (kk : ∀ (M1 R1 : bM) (f1 : Nat → Int64) (H1 : Heap) (locs1 : List Loc) (ls1 : Array Slot), lwI s D E H1 locs1 M1 R1 f1 (V + 1) → lv_has ls1 7 (lwV s b i) → W p l e Rm s m args below meth c H1 locs1 (cells + 1) (slots + 6) Q (F0 m 1529 ls1 [])) : W p l e Rm s m args below meth c H locs cells slots Q (F0 m 482 ls []) := by
  obtain ⟨hx, hb, hml, hown, hts, hX, hbl, hKX, hZ, hNc, hst, hL⟩ := C0
  obtain ⟨hB, hR, hP, hS, hs, hg⟩ := I
  have hok := ok_course (M := M) (R := R) (x1 := (xs (i + 1))) (x2 := (xs (i + 2))) hs
  refine lv_aload_n hx hb dL_law_482 rfl (lv_at hl 1 rfl) ?_
  refine lv_aload_n hx hb dL_law_483 rfl (lv_at hl 0 rfl) ?_
  refine lv_iload hx hb dL_law_484 (lv_at hl 4 rfl) ?_
  refine lv_iconst (v := 1) hx hb dL_law_486 (by decide) ?_
  refine w_iaddN (i := i) (j := 1) hx hb rfl dL_law_487 ?_
  refine w_sld hx hb hX hbl hS hL (show i + 1 < L by omega) dL_law_488 ?_
  refine lv_aload_n hx hb dL_law_489 rfl (lv_at hl 0 rfl) ?_
  refine lv_iload hx hb dL_law_490 (lv_at hl 4 rfl) ?_
  refine lv_iconst (v := 2) hx hb dL_law_492 (by decide) ?_
  refine w_iaddN (i := i) (j := 2) hx hb rfl dL_law_493 ?_
  refine w_sld hx hb hX hbl hS hL (show i + 2 < L by omega) dL_law_494 ?_
  refine lv_aload_n hx hb dL_law_495 rfl (lv_at hl 3 rfl) ?_
  refine w_help (w_runS (As := [.ref (s.heap.size + 0), .int (xs (i + 1)), .int (xs (i + 2)), .ref (oW s)]) (rest := []) ⟨hx, hb, hml, hown, hts⟩ (h_course l hst D E s.heap.size (oW s) f M (xs (i + 1)) (xs (i + 2)) rA_w (okF_1 hok n9_course)) (vx_cwSW 4 hts gL_law_L_course rfl rfl rfl (by decide +kernel) ⟨Nat.le_trans (by decide) hRm.1, Nat.le_trans (by decide) hRm.2⟩) hB hP hKX (bZ_at hZ hS) hNc rfl hl rfl (Nat.le_of_ble_eq_true rfl) dL_law_496 hf) hS hA_0 (fun H1 locs f1 hB hP hf1 hq hz hS => ?_)
  have hR := bk_kept hR (fun q h1 h2 => hq q (bk_size hR LRR_len q h1 (by rw [LRR_len] at h2; exact h2)) (fun z => by rw [LRR_len] at h2; have hh1 : s.heap.size + 194 ≤ q := h1; have hh2 : q < s.heap.size + 194 + 9 := h2; rcases z with z | z; have h5 := z.2; omega; have h5 : q = s.heap.size + 203 := z; omega))
  refine lv_istore (lv' := (5, .int (plc 3 9 (f_X6_course M (xs (i + 1)) (xs (i + 2))).1)) :: lwV s b i) hx hb dL_law_499 hl (by decide) rfl (fun ls hl => ?_)
  refine lv_aload_n hx hb dL_law_501 rfl (lv_at hl 3 rfl) ?_
  refine lv_aload_n hx hb dL_law_502 rfl (lv_at hl 1 rfl) ?_
  refine lv_iload hx hb dL_law_503 (lv_at hl 5 rfl) ?_
  refine lv_iconst (v := 1) hx hb dL_law_505 (by decide) ?_
  refine w_iaddN (i := i) (j := 1) hx hb rfl dL_law_506 ?_
  refine w_sld hx hb hX hbl hS hL (show i + 1 < L by omega) dL_law_507 ?_
  refine lv_aload_n hx hb dL_law_508 rfl (lv_at hl 1 rfl) ?_
  refine lv_iload hx hb dL_law_509 (lv_at hl 5 rfl) ?_
  refine lv_iconst (v := 2) hx hb dL_law_511 (by decide) ?_
  refine w_iaddN (i := i) (j := 2) hx hb rfl dL_law_512 ?_
  refine w_sld hx hb hX hbl hS hL (show i + 2 < L by omega) dL_law_513 ?_
  refine w_mI (b_runV (As := [.int (xs (i + 1)), .int (xs (i + 2))]) (rest := []) ⟨hx, hb, hml, hown, hts⟩ (c_X7_course l D E (oB s) R (xs (i + 1)) (xs (i + 2)) (sS_hg hs)) (cwV 2 hts gL_law_X7_course rfl rfl rfl (by decide +kernel) ⟨Nat.le_trans (by decide) hRm.1, Nat.le_trans (by decide) hRm.2⟩) hKX.1 (bk_recv hKX.1.1 hR lay_m0 rfl) hR rfl hl rfl (Nat.le_of_ble_eq_true rfl) dL_law_514 ⟨by have := hf.1; omega, by have := hf.2; omega⟩) hS rB_0 (fun r R1 hr H2 locs hR hq2 hz2 hS => ?_)
  obtain ⟨hr1, hr2⟩ := hr
  have hr1 := hr1.symm
  have hr2 := hr2.symm
  subst hr1
  subst hr2
  have hB := bk_kept hB (fun q h1 h2 => hq2 q (fun z => by rw [LRM_len] at h2; have h5 : s.heap.size + 194 ≤ q := z.1; omega))
  have hP := va_at.kept hP (hq2 (oW s) (fun z => by have h5 : s.heap.size + 203 < s.heap.size + 194 + 9 := z.2; omega))
  refine lv_istore (lv' := (6, .int (f_X7_course R (xs (i + 1)) (xs (i + 2))).1) :: (5, .int (plc 3 9 (f_X6_course M (xs (i + 1)) (xs (i + 2))).1)) :: lwV s b i) hx hb dL_law_517 hl (by decide) rfl (fun ls hl => ?_)
  refine lv_aload_n hx hb dL_law_519 rfl (lv_at hl 4 rfl) ?_
  refine w_pI (b_runV (As := []) (rest := []) ⟨hx, hb, hml, hown, hts⟩ (c_X7_thrown l D E (oB s) (f_X7_course R (xs (i + 1)) (xs (i + 2))).2) (cwV 0 hts gL_law_X7_thrown rfl rfl rfl (by decide +kernel) ⟨Nat.le_trans (by decide) hRm.1, Nat.le_trans (by decide) hRm.2⟩) hKX.1 (bk_recv hKX.1.1 hR lay_m0 rfl) hR rfl hl rfl (Nat.le_of_ble_eq_true rfl) dL_law_520 ⟨by have := hf.1; omega, by have := hf.2; omega⟩) hS (fun r hr locs hS => ?_)
  rw [u_f_X7_thrown, hok.1] at hr
  have hr := hr.symm
  subst hr
  refine lv_iload hx hb dL_law_523 (lv_at hl 1 rfl) ?_
  refine lv_icmp_eq (tgt := 530) hx hb dL_law_525 (by decide) (fun _ => ?_) (fun z => absurd rfl z)
  have hI : lwI s D E H2 locs (f_X6_course M (xs (i + 1)) (xs (i + 2))).2.2 (f_X7_course R (xs (i + 1)) (xs (i + 2))).2 f1 (V + 1) := ⟨hB, hR, hP, hS, hok.2.2.2, gb_rd hg (fr_X7_course R (xs (i + 1)) (xs (i + 2)) 2 (by decide)) (fr_X7_course R (xs (i + 1)) (xs (i + 2)) 4 (by decide)) (fr_X7_course R (xs (i + 1)) (xs (i + 2)) 5 (by decide))⟩
  have hl0 : lv_has ls 7 (lwV s b i) := lv_sub hl [2, 3, 4, 5, 6] rfl
  refine lv_iload hx hb dL_law_530 (lv_at hl 1 rfl) ?_
  refine lv_if_ne (tgt := 547) hx hb dL_law_532 (by decide) (fun _ => ?_) (fun z => ?_)
  · exact lv_goto (tgt := 1529) hx hb dL_law_547 (by decide) (kk _ _ _ _ _ _ hI hl0)
  · have h0 := plc_0 z
    refine lv_aload_n hx hb dL_law_535 rfl (lv_at hl 5 rfl) ?_
    refine lv_iconst (v := 0) hx hb dL_law_536 (by decide) ?_
    refine w_lald hx hb hKX.1.1 hP dL_law_537 ?_
    refine lv_iload hx hb dL_law_538 (lv_at hl 0 rfl) ?_
    refine lv_i2l (v := (f_X7_course R (xs (i + 1)) (xs (i + 2))).1.toInt64) hx hb dL_law_540 rfl ?_
    refine W.lcmp hx hb dL_law_541 ?_
    refine lv_if_eq (tgt := 547) hx hb dL_law_542 (by decide) (fun _ => ?_) (fun z => absurd ((cmp_z _ _).mpr ((hf1 h0).trans (by rw [hok.2.2.1 h0]))) z)
    exact lv_goto (tgt := 1529) hx hb dL_law_547 (by decide) (kk _ _ _ _ _ _ hI hl0)
theorem l_setting {p : Program} {l : Launch} {e : Env} {Rm : Room} {s : State} {m : MethodId} {args : Array Value} {below : List Frame} {meth : Method} {c : Code} {b L : Nat} {xs : Nat → Int32} {D : va_G} {E : Nat → ClassId} (C0 : lwC p l s m args meth c b L xs D E) (hRm : 12 ≤ Rm.frames ∧ 400 ≤ Rm.locals) {Q : State → Prop} {H : Heap} {locs : List Loc} {cells slots : Nat} {ls : Array Slot} {M R : bM} {f : Nat → Int64} {i V : Nat} (hV : 121 ≤ V) (hV8 : V + 8 < 2 ^ 20) (I : lwI s D E H locs M R f V) (hl : lv_has ls 7 (lwV s b i)) (hi : i + 3 < L) (hf : cells + 1 ≤ Rm.cells ∧ slots + 6 ≤ Rm.slots)
    (kk : ∀ (M1 R1 : bM) (f1 : Nat → Int64) (H1 : Heap) (locs1 : List Loc) (ls1 : Array Slot), lwI s D E H1 locs1 M1 R1 f1 (V + 1) → lv_has ls1 7 (lwV s b i) → W p l e Rm s m args below meth c H1 locs1 (cells + 1) (slots + 6) Q (F0 m 1529 ls1 [])) : W p l e Rm s m args below meth c H locs cells slots Q (F0 m 550 ls []) := by
  obtain ⟨hx, hb, hml, hown, hts, hX, hbl, hKX, hZ, hNc, hst, hL⟩ := C0
  obtain ⟨hB, hR, hP, hS, hs, hg⟩ := I
  have hok := ok_setting (M := M) (R := R) (x1 := (xs (i + 1))) hs
  refine lv_aload_n hx hb dL_law_550 rfl (lv_at hl 1 rfl) ?_
  refine lv_aload_n hx hb dL_law_551 rfl (lv_at hl 0 rfl) ?_
  refine lv_iload hx hb dL_law_552 (lv_at hl 4 rfl) ?_
  refine lv_iconst (v := 1) hx hb dL_law_554 (by decide) ?_
  refine w_iaddN (i := i) (j := 1) hx hb rfl dL_law_555 ?_
  refine w_sld hx hb hX hbl hS hL (show i + 1 < L by omega) dL_law_556 ?_
  refine lv_aload_n hx hb dL_law_557 rfl (lv_at hl 3 rfl) ?_
  refine w_help (w_runS (As := [.ref (s.heap.size + 0), .int (xs (i + 1)), .ref (oW s)]) (rest := []) ⟨hx, hb, hml, hown, hts⟩ (h_setting l hst D E s.heap.size (oW s) f M (xs (i + 1)) rA_w (okF_1 hok n9_setting)) (vx_cwSW 3 hts gL_law_L_setting rfl rfl rfl (by decide +kernel) ⟨Nat.le_trans (by decide) hRm.1, Nat.le_trans (by decide) hRm.2⟩) hB hP hKX (bZ_at hZ hS) hNc rfl hl rfl (Nat.le_of_ble_eq_true rfl) dL_law_558 hf) hS hA_0 (fun H1 locs f1 hB hP hf1 hq hz hS => ?_)
  have hR := bk_kept hR (fun q h1 h2 => hq q (bk_size hR LRR_len q h1 (by rw [LRR_len] at h2; exact h2)) (fun z => by rw [LRR_len] at h2; have hh1 : s.heap.size + 194 ≤ q := h1; have hh2 : q < s.heap.size + 194 + 9 := h2; rcases z with z | z; have h5 := z.2; omega; have h5 : q = s.heap.size + 203 := z; omega))
  refine lv_istore (lv' := (5, .int (plc 1 9 (f_X6_setting M (xs (i + 1))).1)) :: lwV s b i) hx hb dL_law_561 hl (by decide) rfl (fun ls hl => ?_)
  refine lv_aload_n hx hb dL_law_563 rfl (lv_at hl 3 rfl) ?_
  refine lv_aload_n hx hb dL_law_564 rfl (lv_at hl 1 rfl) ?_
  refine lv_iload hx hb dL_law_565 (lv_at hl 5 rfl) ?_
  refine lv_iconst (v := 1) hx hb dL_law_567 (by decide) ?_
  refine w_iaddN (i := i) (j := 1) hx hb rfl dL_law_568 ?_
  refine w_sld hx hb hX hbl hS hL (show i + 1 < L by omega) dL_law_569 ?_
  refine w_mI (b_runV (As := [.int (xs (i + 1))]) (rest := []) ⟨hx, hb, hml, hown, hts⟩ (c_X7_setting l D E (oB s) R (xs (i + 1))) (cwV 1 hts gL_law_X7_setting rfl rfl rfl (by decide +kernel) ⟨Nat.le_trans (by decide) hRm.1, Nat.le_trans (by decide) hRm.2⟩) hKX.1 (bk_recv hKX.1.1 hR lay_m0 rfl) hR rfl hl rfl (Nat.le_of_ble_eq_true rfl) dL_law_570 ⟨by have := hf.1; omega, by have := hf.2; omega⟩) hS rB_0 (fun r R1 hr H2 locs hR hq2 hz2 hS => ?_)
  obtain ⟨hr1, hr2⟩ := hr
  have hr1 := hr1.symm
  have hr2 := hr2.symm
  subst hr1
  subst hr2
  have hB := bk_kept hB (fun q h1 h2 => hq2 q (fun z => by rw [LRM_len] at h2; have h5 : s.heap.size + 194 ≤ q := z.1; omega))
  have hP := va_at.kept hP (hq2 (oW s) (fun z => by have h5 : s.heap.size + 203 < s.heap.size + 194 + 9 := z.2; omega))
  refine lv_istore (lv' := (6, .int (f_X7_setting R (xs (i + 1))).1) :: (5, .int (plc 1 9 (f_X6_setting M (xs (i + 1))).1)) :: lwV s b i) hx hb dL_law_573 hl (by decide) rfl (fun ls hl => ?_)
  refine lv_aload_n hx hb dL_law_575 rfl (lv_at hl 4 rfl) ?_
  refine w_pI (b_runV (As := []) (rest := []) ⟨hx, hb, hml, hown, hts⟩ (c_X7_thrown l D E (oB s) (f_X7_setting R (xs (i + 1))).2) (cwV 0 hts gL_law_X7_thrown rfl rfl rfl (by decide +kernel) ⟨Nat.le_trans (by decide) hRm.1, Nat.le_trans (by decide) hRm.2⟩) hKX.1 (bk_recv hKX.1.1 hR lay_m0 rfl) hR rfl hl rfl (Nat.le_of_ble_eq_true rfl) dL_law_576 ⟨by have := hf.1; omega, by have := hf.2; omega⟩) hS (fun r hr locs hS => ?_)
  rw [u_f_X7_thrown, hok.1] at hr
  have hr := hr.symm
  subst hr
  refine lv_iload hx hb dL_law_579 (lv_at hl 1 rfl) ?_
  refine lv_icmp_eq (tgt := 586) hx hb dL_law_581 (by decide) (fun _ => ?_) (fun z => absurd rfl z)
  have hI : lwI s D E H2 locs (f_X6_setting M (xs (i + 1))).2.2 (f_X7_setting R (xs (i + 1))).2 f1 (V + 1) := ⟨hB, hR, hP, hS, hok.2.2.2, gb_setting hg⟩
  have hl0 : lv_has ls 7 (lwV s b i) := lv_sub hl [2, 3, 4, 5, 6] rfl
  refine lv_iload hx hb dL_law_586 (lv_at hl 1 rfl) ?_
  refine lv_if_ne (tgt := 603) hx hb dL_law_588 (by decide) (fun _ => ?_) (fun z => ?_)
  · exact lv_goto (tgt := 1529) hx hb dL_law_603 (by decide) (kk _ _ _ _ _ _ hI hl0)
  · have h0 := plc_0 z
    refine lv_aload_n hx hb dL_law_591 rfl (lv_at hl 5 rfl) ?_
    refine lv_iconst (v := 0) hx hb dL_law_592 (by decide) ?_
    refine w_lald hx hb hKX.1.1 hP dL_law_593 ?_
    refine lv_iload hx hb dL_law_594 (lv_at hl 0 rfl) ?_
    refine lv_i2l (v := (f_X7_setting R (xs (i + 1))).1.toInt64) hx hb dL_law_596 rfl ?_
    refine W.lcmp hx hb dL_law_597 ?_
    refine lv_if_eq (tgt := 603) hx hb dL_law_598 (by decide) (fun _ => ?_) (fun z => absurd ((cmp_z _ _).mpr ((hf1 h0).trans (by rw [hok.2.2.1 h0]))) z)
    exact lv_goto (tgt := 1529) hx hb dL_law_603 (by decide) (kk _ _ _ _ _ _ hI hl0)
