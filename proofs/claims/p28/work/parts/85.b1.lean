/-! THE LAW'S steps, its pieces -/
set_option maxHeartbeats 8000000 in
set_option maxRecDepth 100000 in
theorem st_1M {p : Program} {l : Launch} {e : Env} {s : State} {m : MethodId} {args : Array Value} {below : List Frame} {meth : Method} {co : Code} {D : va_G} {E : Nat → ClassId} {o : Nat} {q : Nat} {S : aT} {Q : State → Prop} {H : Heap} {locs : List Loc} {ls : Array Slot} {X P h j c ix : Nat} {r24 r34 r54 r64 cs r122 : Int32} (K : lK p l s m args co D E (rAA o q) cL_steps 20 wsL_steps) (hd : djo o q) (hO : Ob D E o S H) (hQ : Ob D E q S H) (hS : va_S (rAA o q) s.heap H locs) (hl : lv_has ls 20 [(13, .int r122), (12, .int (nI (j))), (0, .ref o), (1, .ref q), (2, .int (nI (X))), (3, .int (nI (P))), (4, .int r24), (5, .int r34), (6, .int (nI (h))), (7, .int r54), (8, .int r64), (9, .int cs), (10, .int 1), (11, .int (nI (ix)))]) (hK : ix < 4) (hP : P < 2) (hh : h < 64) (hc : c < 64) (hto : toI (nI h) (nI j) = nI c) (hw : r122 = 0) (Y : stY S P j c) (h34 : r34 = aF 3 S (nI P) 2 0) (h54 : r54 = aF 2 S 3 0 0) (hM : aF 4 S (nI (c % 8)) (nI (c / 8)) 2 = nI (2 - P))
    (kk : ∀ (H : Heap) (locs : List Loc) (ls : Array Slot) (r194 : Int32), Ob D E o (tF 7 (tF 10 S 0 40) (nI (j)) 0) H → Ob D E q (tF 7 (tF 10 S 0 40) (nI (j)) 0) H → va_S (rAA o q) s.heap H locs → lv_has ls 20 [(19, .int (wtS S (tF 7 (tF 10 S 0 40) (nI (j)) 0) P c r34)), (17, .int r194), (12, .int (nI (j))), (0, .ref o), (1, .ref q), (2, .int (nI (X))), (3, .int (nI (P))), (4, .int r24), (5, .int r34), (6, .int (nI (h))), (7, .int r54), (8, .int r64), (9, .int cs), (10, .int 1), (11, .int (nI (ix)))] → (r194 = aF 6 S 0 0 0) → W p l e (lRm 10 130 780) s m args below meth co H locs (24 * (ix) + 21) (6 * (24 * (ix) + 21)) Q (F0 m 394 ls [])) : W p l e (lRm 10 130 780) s m args below meth co H locs (24 * (ix) + 8) (6 * (24 * (ix) + 8)) Q (F0 m 127 ls []) := by
  obtain ⟨hx, hb, hml, hown, hts, hKX, hZ, hNc, hst⟩ := id K
  obtain ⟨y1, y2, y3, y4, y5, y6, y7, y8, y9⟩ := Y
  refine lv_iload hx hb dL_steps_127 (lv_at hl 0 rfl) ?_
  refine lv_if_ne (tgt := 548) hx hb dL_steps_129 (by decide) (fun z => absurd (hw) z) (fun _ => ?_)
  refine lv_iload hx hb dL_steps_132 (lv_at hl 8 rfl) ?_
  refine lv_iload hx hb dL_steps_134 (lv_at hl 1 rfl) ?_
  refine l_go (cells' := 24 * (ix) + 8) (slots' := 6 * (24 * (ix) + 8)) (l_runS (A1 := bNo) (P := (fun _ => True)) (As := [.int (nI (h)), .int (nI (j))]) (rest := []) ⟨hx, hb, hml, hown, hts⟩ (c_to l D E (nI (h)) (nI (j))) (va_cwS 2 hts gL_steps_L_to rfl rfl rfl (by decide +kernel) ⟨Nat.le_of_ble_eq_true rfl, Nat.le_of_ble_eq_true rfl⟩) trivial hKX (l_Z hZ hS (fun _ h => h.elim)) hNc rfl hl rfl (Nat.le_of_ble_eq_true rfl) dL_steps_136 ⟨by show 24 * (ix) + 8 + 0 ≤ 130; omega, by show 6 * (24 * (ix) + 8) + 0 ≤ 780; omega⟩) hS (fun _ h => h.elim) ⟨by omega, by omega⟩ (fun r136 H locs h136 hq hz hS => ?_)
  have hO := hO.kept hq (fun _ _ _ h => h)
  have hQ := hQ.kept hq (fun _ _ _ h => h)
  refine w_eqI (h136.trans hto) ?_
  refine lv_istore (lv' := [(14, .int (nI (c))), (13, .int r122), (12, .int (nI (j))), (0, .ref o), (1, .ref q), (2, .int (nI (X))), (3, .int (nI (P))), (4, .int r24), (5, .int r34), (6, .int (nI (h))), (7, .int r54), (8, .int r64), (9, .int cs), (10, .int 1), (11, .int (nI (ix)))]) hx hb dL_steps_139 hl (by decide) rfl (fun ls hl => ?_)
  refine lv_aload_n hx hb dL_steps_141 rfl (lv_at hl 3 rfl) ?_
  refine lv_iconst (v := 4) hx hb dL_steps_142 (by decide) ?_
  refine lv_iload hx hb dL_steps_143 (lv_at hl 0 rfl) ?_
  refine lv_bipush (v := 8) hx hb dL_steps_145 (by decide) ?_
  refine w_rem (a := c) (d := 8) hx hb rfl (by omega) (by decide) (by decide) dL_steps_147 ?_
  refine lv_iload hx hb dL_steps_148 (lv_at hl 0 rfl) ?_
  refine lv_bipush (v := 8) hx hb dL_steps_150 (by decide) ?_
  refine w_div (a := c) (d := 8) hx hb rfl (by omega) (by decide) (by decide) dL_steps_152 ?_
  refine lv_iload_n hx hb dL_steps_153 rfl (lv_at hl 6 rfl) ?_
  refine l_go (cells' := 24 * (ix) + 9) (slots' := 6 * (24 * (ix) + 9)) (l_runS (P := Ob D E o S) (As := [.ref o, .int 4, .int (nI ((c) % 8)), .int (nI ((c) / 8)), .int (nI (P))]) (rest := []) ⟨hx, hb, hml, hown, hts⟩ (c_call_4 l hst D E o S (nI ((c) % 8)) (nI ((c) / 8)) (nI (P))) (va_cwS 5 hts gL_steps_L_call rfl rfl rfl (by decide +kernel) ⟨Nat.le_of_ble_eq_true rfl, Nat.le_of_ble_eq_true rfl⟩) hO hKX (l_Z hZ hS (fun _ h => Or.inl h)) hNc rfl hl rfl (Nat.le_of_ble_eq_true rfl) dL_steps_154 ⟨by show 24 * (ix) + 8 + 1 ≤ 130; omega, by show 6 * (24 * (ix) + 8) + 6 ≤ 780; omega⟩) hS (fun _ h => Or.inl h) ⟨by omega, by omega⟩ (fun r154 H locs hp hq hz hS => ?_)
  obtain ⟨h154, hO⟩ := hp
  have hO : Ob D E o S H := hO
  have hQ := hQ.kept hq (dj_1 hd)
  refine lv_istore (lv' := [(15, .int r154), (14, .int (nI (c))), (13, .int r122), (12, .int (nI (j))), (0, .ref o), (1, .ref q), (2, .int (nI (X))), (3, .int (nI (P))), (4, .int r24), (5, .int r34), (6, .int (nI (h))), (7, .int r54), (8, .int r64), (9, .int cs), (10, .int 1), (11, .int (nI (ix)))]) hx hb dL_steps_157 hl (by decide) rfl (fun ls hl => ?_)
  refine lv_aload_n hx hb dL_steps_159 rfl (lv_at hl 4 rfl) ?_
  refine lv_iconst (v := 4) hx hb dL_steps_160 (by decide) ?_
  refine lv_iload hx hb dL_steps_161 (lv_at hl 1 rfl) ?_
  refine lv_bipush (v := 8) hx hb dL_steps_163 (by decide) ?_
  refine w_rem (a := c) (d := 8) hx hb rfl (by omega) (by decide) (by decide) dL_steps_165 ?_
  refine lv_iload hx hb dL_steps_166 (lv_at hl 1 rfl) ?_
  refine lv_bipush (v := 8) hx hb dL_steps_168 (by decide) ?_
  refine w_div (a := c) (d := 8) hx hb rfl (by omega) (by decide) (by decide) dL_steps_170 ?_
  refine lv_iconst (v := 2) hx hb dL_steps_171 (by decide) ?_
  refine l_go (cells' := 24 * (ix) + 10) (slots' := 6 * (24 * (ix) + 10)) (l_runS (P := Ob D E o S) (As := [.ref o, .int 4, .int (nI ((c) % 8)), .int (nI ((c) / 8)), .int 2]) (rest := []) ⟨hx, hb, hml, hown, hts⟩ (c_call_4 l hst D E o S (nI ((c) % 8)) (nI ((c) / 8)) 2) (va_cwS 5 hts gL_steps_L_call rfl rfl rfl (by decide +kernel) ⟨Nat.le_of_ble_eq_true rfl, Nat.le_of_ble_eq_true rfl⟩) hO hKX (l_Z hZ hS (fun _ h => Or.inl h)) hNc rfl hl rfl (Nat.le_of_ble_eq_true rfl) dL_steps_172 ⟨by show 24 * (ix) + 9 + 1 ≤ 130; omega, by show 6 * (24 * (ix) + 9) + 6 ≤ 780; omega⟩) hS (fun _ h => Or.inl h) ⟨by omega, by omega⟩ (fun r172 H locs hp hq hz hS => ?_)
  obtain ⟨h172, hO⟩ := hp
  have hO : Ob D E o S H := hO
  have hQ := hQ.kept hq (dj_1 hd)
  refine lv_iconst (v := 2) hx hb dL_steps_175 (by decide) ?_
  refine lv_iload_n hx hb dL_steps_176 rfl (lv_at hl 7 rfl) ?_
  refine w_sub (i := 2) (j := P) hx hb rfl rfl (by omega) dL_steps_177 ?_
  refine lv_icmp_ne (tgt := 185) hx hb dL_steps_178 (by decide) (fun z => absurd (h172.trans hM) z) (fun _ => ?_)
  refine lv_iconst (v := 1) hx hb dL_steps_181 (by decide) ?_
  refine lv_goto (tgt := 186) hx hb dL_steps_182 (by decide) ?_
  refine lv_istore (lv' := [(16, .int 1), (15, .int r154), (14, .int (nI (c))), (13, .int r122), (12, .int (nI (j))), (0, .ref o), (1, .ref q), (2, .int (nI (X))), (3, .int (nI (P))), (4, .int r24), (5, .int r34), (6, .int (nI (h))), (7, .int r54), (8, .int r64), (9, .int cs), (10, .int 1), (11, .int (nI (ix)))]) hx hb dL_steps_186 hl (by decide) rfl (fun ls hl => ?_)
  refine lv_aload_n hx hb dL_steps_188 rfl (lv_at hl 5 rfl) ?_
  refine lv_bipush (v := 6) hx hb dL_steps_189 (by decide) ?_
  refine lv_iconst (v := 0) hx hb dL_steps_191 (by decide) ?_
  refine lv_iconst (v := 0) hx hb dL_steps_192 (by decide) ?_
  refine lv_iconst (v := 0) hx hb dL_steps_193 (by decide) ?_
  refine l_go (cells' := 24 * (ix) + 11) (slots' := 6 * (24 * (ix) + 11)) (l_runS (P := Ob D E o S) (As := [.ref o, .int 6, .int 0, .int 0, .int 0]) (rest := []) ⟨hx, hb, hml, hown, hts⟩ (c_call_6 l hst D E o S 0 0 0) (va_cwS 5 hts gL_steps_L_call rfl rfl rfl (by decide +kernel) ⟨Nat.le_of_ble_eq_true rfl, Nat.le_of_ble_eq_true rfl⟩) hO hKX (l_Z hZ hS (fun _ h => Or.inl h)) hNc rfl hl rfl (Nat.le_of_ble_eq_true rfl) dL_steps_194 ⟨by show 24 * (ix) + 10 + 1 ≤ 130; omega, by show 6 * (24 * (ix) + 10) + 6 ≤ 780; omega⟩) hS (fun _ h => Or.inl h) ⟨by omega, by omega⟩ (fun r194 H locs hp hq hz hS => ?_)
  obtain ⟨h194, hO⟩ := hp
  have hO : Ob D E o S H := hO
  have hQ := hQ.kept hq (dj_1 hd)
  refine lv_istore (lv' := [(17, .int r194), (16, .int 1), (15, .int r154), (14, .int (nI (c))), (13, .int r122), (12, .int (nI (j))), (0, .ref o), (1, .ref q), (2, .int (nI (X))), (3, .int (nI (P))), (4, .int r24), (5, .int r34), (6, .int (nI (h))), (7, .int r54), (8, .int r64), (9, .int cs), (10, .int 1), (11, .int (nI (ix)))]) hx hb dL_steps_197 hl (by decide) rfl (fun ls hl => ?_)
  refine lv_aload_n hx hb dL_steps_199 rfl (lv_at hl 6 rfl) ?_
  refine lv_bipush (v := 10) hx hb dL_steps_200 (by decide) ?_
  refine lv_iconst (v := 0) hx hb dL_steps_202 (by decide) ?_
  refine lv_bipush (v := 40) hx hb dL_steps_203 (by decide) ?_
  refine lv_iconst (v := 0) hx hb dL_steps_205 (by decide) ?_
  refine l_go (cells' := 24 * (ix) + 12) (slots' := 6 * (24 * (ix) + 12)) (l_runS (P := Ob D E o S) (As := [.ref o, .int 10, .int 0, .int 40, .int 0]) (rest := []) ⟨hx, hb, hml, hown, hts⟩ (c_call_10 l hst D E o S 0 40 0) (va_cwS 5 hts gL_steps_L_call rfl rfl rfl (by decide +kernel) ⟨Nat.le_of_ble_eq_true rfl, Nat.le_of_ble_eq_true rfl⟩) hO hKX (l_Z hZ hS (fun _ h => Or.inl h)) hNc rfl hl rfl (Nat.le_of_ble_eq_true rfl) dL_steps_206 ⟨by show 24 * (ix) + 11 + 1 ≤ 130; omega, by show 6 * (24 * (ix) + 11) + 6 ≤ 780; omega⟩) hS (fun _ h => Or.inl h) ⟨by omega, by omega⟩ (fun r206 H locs hp hq hz hS => ?_)
  obtain ⟨h206, hO⟩ := hp
  have hQ := hQ.kept hq (dj_1 hd)
  refine lv_iload hx hb dL_steps_209 (lv_at hl 0 rfl) ?_
  refine lv_icmp_ne (tgt := 344) hx hb dL_steps_211 (by decide) (fun z => absurd (h206.trans (y1.trans h194.symm)) z) (fun _ => ?_)
  refine lv_aload_n hx hb dL_steps_214 rfl (lv_at hl 7 rfl) ?_
  refine lv_bipush (v := 10) hx hb dL_steps_215 (by decide) ?_
  refine lv_iconst (v := 0) hx hb dL_steps_217 (by decide) ?_
  refine lv_bipush (v := 40) hx hb dL_steps_218 (by decide) ?_
  refine lv_iconst (v := 0) hx hb dL_steps_220 (by decide) ?_
  refine l_go (cells' := 24 * (ix) + 13) (slots' := 6 * (24 * (ix) + 13)) (l_runS (P := Ob D E q S) (As := [.ref q, .int 10, .int 0, .int 40, .int 0]) (rest := []) ⟨hx, hb, hml, hown, hts⟩ (c_call_10 l hst D E q S 0 40 0) (va_cwS 5 hts gL_steps_L_call rfl rfl rfl (by decide +kernel) ⟨Nat.le_of_ble_eq_true rfl, Nat.le_of_ble_eq_true rfl⟩) hQ hKX (l_Z hZ hS (fun _ h => Or.inr h)) hNc rfl hl rfl (Nat.le_of_ble_eq_true rfl) dL_steps_221 ⟨by show 24 * (ix) + 12 + 1 ≤ 130; omega, by show 6 * (24 * (ix) + 12) + 6 ≤ 780; omega⟩) hS (fun _ h => Or.inr h) ⟨by omega, by omega⟩ (fun r221 H locs hp hq hz hS => ?_)
  obtain ⟨h221, hQ⟩ := hp
  have hO := hO.kept hq (dj_2 hd)
  refine lv_iload hx hb dL_steps_224 (lv_at hl 0 rfl) ?_
  refine lv_icmp_ne (tgt := 344) hx hb dL_steps_226 (by decide) (fun z => absurd (h221.trans (y1.trans h194.symm)) z) (fun _ => ?_)
  refine lv_aload_n hx hb dL_steps_229 rfl (lv_at hl 6 rfl) ?_
  refine lv_bipush (v := 7) hx hb dL_steps_230 (by decide) ?_
  refine lv_iload hx hb dL_steps_232 (lv_at hl 5 rfl) ?_
  refine lv_iconst (v := 0) hx hb dL_steps_234 (by decide) ?_
  refine lv_iconst (v := 0) hx hb dL_steps_235 (by decide) ?_
  refine l_go (cells' := 24 * (ix) + 14) (slots' := 6 * (24 * (ix) + 14)) (l_runS (P := Ob D E o (tF 10 S 0 40)) (As := [.ref o, .int 7, .int (nI (j)), .int 0, .int 0]) (rest := []) ⟨hx, hb, hml, hown, hts⟩ (c_call_7 l hst D E o (tF 10 S 0 40) (nI (j)) 0 0) (va_cwS 5 hts gL_steps_L_call rfl rfl rfl (by decide +kernel) ⟨Nat.le_of_ble_eq_true rfl, Nat.le_of_ble_eq_true rfl⟩) hO hKX (l_Z hZ hS (fun _ h => Or.inl h)) hNc rfl hl rfl (Nat.le_of_ble_eq_true rfl) dL_steps_236 ⟨by show 24 * (ix) + 13 + 1 ≤ 130; omega, by show 6 * (24 * (ix) + 13) + 6 ≤ 780; omega⟩) hS (fun _ h => Or.inl h) ⟨by omega, by omega⟩ (fun r236 H locs hp hq hz hS => ?_)
  obtain ⟨h236, hO⟩ := hp
  have hQ := hQ.kept hq (dj_1 hd)
  refine lv_if_ne (tgt := 344) hx hb dL_steps_239 (by decide) (fun z => absurd (h236.trans y2) z) (fun _ => ?_)
  refine lv_aload_n hx hb dL_steps_242 rfl (lv_at hl 7 rfl) ?_
  refine lv_bipush (v := 7) hx hb dL_steps_243 (by decide) ?_
  refine lv_iload hx hb dL_steps_245 (lv_at hl 5 rfl) ?_
  refine lv_iconst (v := 0) hx hb dL_steps_247 (by decide) ?_
  refine lv_iconst (v := 0) hx hb dL_steps_248 (by decide) ?_
  refine l_go (cells' := 24 * (ix) + 15) (slots' := 6 * (24 * (ix) + 15)) (l_runS (P := Ob D E q (tF 10 S 0 40)) (As := [.ref q, .int 7, .int (nI (j)), .int 0, .int 0]) (rest := []) ⟨hx, hb, hml, hown, hts⟩ (c_call_7 l hst D E q (tF 10 S 0 40) (nI (j)) 0 0) (va_cwS 5 hts gL_steps_L_call rfl rfl rfl (by decide +kernel) ⟨Nat.le_of_ble_eq_true rfl, Nat.le_of_ble_eq_true rfl⟩) hQ hKX (l_Z hZ hS (fun _ h => Or.inr h)) hNc rfl hl rfl (Nat.le_of_ble_eq_true rfl) dL_steps_249 ⟨by show 24 * (ix) + 14 + 1 ≤ 130; omega, by show 6 * (24 * (ix) + 14) + 6 ≤ 780; omega⟩) hS (fun _ h => Or.inr h) ⟨by omega, by omega⟩ (fun r249 H locs hp hq hz hS => ?_)
  obtain ⟨h249, hQ⟩ := hp
  have hO := hO.kept hq (dj_2 hd)
  refine lv_if_ne (tgt := 344) hx hb dL_steps_252 (by decide) (fun z => absurd (h249.trans y2) z) (fun _ => ?_)
  refine lv_aload_n hx hb dL_steps_255 rfl (lv_at hl 6 rfl) ?_
  refine lv_iconst (v := 3) hx hb dL_steps_256 (by decide) ?_
  refine lv_iload_n hx hb dL_steps_257 rfl (lv_at hl 9 rfl) ?_
  refine lv_iconst (v := 1) hx hb dL_steps_258 (by decide) ?_
  refine lv_iconst (v := 0) hx hb dL_steps_259 (by decide) ?_
  refine l_go (cells' := 24 * (ix) + 16) (slots' := 6 * (24 * (ix) + 16)) (l_runS (P := Ob D E o (tF 7 (tF 10 S 0 40) (nI (j)) 0)) (As := [.ref o, .int 3, .int (nI (P)), .int 1, .int 0]) (rest := []) ⟨hx, hb, hml, hown, hts⟩ (c_call_3 l hst D E o (tF 7 (tF 10 S 0 40) (nI (j)) 0) (nI (P)) 1 0) (va_cwS 5 hts gL_steps_L_call rfl rfl rfl (by decide +kernel) ⟨Nat.le_of_ble_eq_true rfl, Nat.le_of_ble_eq_true rfl⟩) hO hKX (l_Z hZ hS (fun _ h => Or.inl h)) hNc rfl hl rfl (Nat.le_of_ble_eq_true rfl) dL_steps_260 ⟨by show 24 * (ix) + 15 + 1 ≤ 130; omega, by show 6 * (24 * (ix) + 15) + 6 ≤ 780; omega⟩) hS (fun _ h => Or.inl h) ⟨by omega, by omega⟩ (fun r260 H locs hp hq hz hS => ?_)
  obtain ⟨h260, hO⟩ := hp
  rw [tF_3] at hO
  have hQ := hQ.kept hq (dj_1 hd)
  refine lv_iload hx hb dL_steps_263 (lv_at hl 3 rfl) ?_
  refine lv_icmp_ne (tgt := 344) hx hb dL_steps_265 (by decide) (fun z => absurd (h260.trans y3) z) (fun _ => ?_)
  refine lv_aload_n hx hb dL_steps_268 rfl (lv_at hl 6 rfl) ?_
  refine lv_iconst (v := 2) hx hb dL_steps_269 (by decide) ?_
  refine lv_iconst (v := 3) hx hb dL_steps_270 (by decide) ?_
  refine lv_iconst (v := 0) hx hb dL_steps_271 (by decide) ?_
  refine lv_iconst (v := 0) hx hb dL_steps_272 (by decide) ?_
  refine l_go (cells' := 24 * (ix) + 17) (slots' := 6 * (24 * (ix) + 17)) (l_runS (P := Ob D E o (tF 7 (tF 10 S 0 40) (nI (j)) 0)) (As := [.ref o, .int 2, .int 3, .int 0, .int 0]) (rest := []) ⟨hx, hb, hml, hown, hts⟩ (c_call_2 l hst D E o (tF 7 (tF 10 S 0 40) (nI (j)) 0) 3 0 0) (va_cwS 5 hts gL_steps_L_call rfl rfl rfl (by decide +kernel) ⟨Nat.le_of_ble_eq_true rfl, Nat.le_of_ble_eq_true rfl⟩) hO hKX (l_Z hZ hS (fun _ h => Or.inl h)) hNc rfl hl rfl (Nat.le_of_ble_eq_true rfl) dL_steps_273 ⟨by show 24 * (ix) + 16 + 1 ≤ 130; omega, by show 6 * (24 * (ix) + 16) + 6 ≤ 780; omega⟩) hS (fun _ h => Or.inl h) ⟨by omega, by omega⟩ (fun r273 H locs hp hq hz hS => ?_)
  obtain ⟨h273, hO⟩ := hp
  rw [tF_2] at hO
  have hQ := hQ.kept hq (dj_1 hd)
  refine lv_iload hx hb dL_steps_276 (lv_at hl 13 rfl) ?_
  refine lv_iconst (v := 1) hx hb dL_steps_278 (by decide) ?_
  refine lv_iadd hx hb dL_steps_279 ?_
  refine lv_icmp_ne (tgt := 344) hx hb dL_steps_280 (by decide) (fun z => absurd (by rw [h273, h54]; exact y4) z) (fun _ => ?_)
  refine lv_aload_n hx hb dL_steps_283 rfl (lv_at hl 6 rfl) ?_
  refine lv_iconst (v := 3) hx hb dL_steps_284 (by decide) ?_
  refine lv_iload_n hx hb dL_steps_285 rfl (lv_at hl 9 rfl) ?_
  refine lv_iconst (v := 2) hx hb dL_steps_286 (by decide) ?_
  refine lv_iconst (v := 0) hx hb dL_steps_287 (by decide) ?_
  refine l_go (cells' := 24 * (ix) + 18) (slots' := 6 * (24 * (ix) + 18)) (l_runS (P := Ob D E o (tF 7 (tF 10 S 0 40) (nI (j)) 0)) (As := [.ref o, .int 3, .int (nI (P)), .int 2, .int 0]) (rest := []) ⟨hx, hb, hml, hown, hts⟩ (c_call_3 l hst D E o (tF 7 (tF 10 S 0 40) (nI (j)) 0) (nI (P)) 2 0) (va_cwS 5 hts gL_steps_L_call rfl rfl rfl (by decide +kernel) ⟨Nat.le_of_ble_eq_true rfl, Nat.le_of_ble_eq_true rfl⟩) hO hKX (l_Z hZ hS (fun _ h => Or.inl h)) hNc rfl hl rfl (Nat.le_of_ble_eq_true rfl) dL_steps_288 ⟨by show 24 * (ix) + 17 + 1 ≤ 130; omega, by show 6 * (24 * (ix) + 17) + 6 ≤ 780; omega⟩) hS (fun _ h => Or.inl h) ⟨by omega, by omega⟩ (fun r288 H locs hp hq hz hS => ?_)
  obtain ⟨h288, hO⟩ := hp
  rw [tF_3] at hO
  have hQ := hQ.kept hq (dj_1 hd)
  refine lv_iload hx hb dL_steps_291 (lv_at hl 11 rfl) ?_
  refine lv_iload hx hb dL_steps_293 (lv_at hl 2 rfl) ?_
  refine lv_iload hx hb dL_steps_295 (lv_at hl 1 rfl) ?_
  rw [if_pos hM] at y5
  refine lv_if_eq (tgt := 312) hx hb dL_steps_297 (by decide) (fun z => absurd z (show ¬ (1 : Int32) = 0 by decide)) (fun _ => ?_)
  refine lv_aload_n hx hb dL_steps_300 rfl (lv_at hl 6 rfl) ?_
  refine lv_bipush (v := 6) hx hb dL_steps_301 (by decide) ?_
  refine lv_iconst (v := 1) hx hb dL_steps_303 (by decide) ?_
  refine lv_iconst (v := 0) hx hb dL_steps_304 (by decide) ?_
  refine lv_iconst (v := 0) hx hb dL_steps_305 (by decide) ?_
  refine l_go (cells' := 24 * (ix) + 19) (slots' := 6 * (24 * (ix) + 19)) (l_runS (P := Ob D E o (tF 7 (tF 10 S 0 40) (nI (j)) 0)) (As := [.ref o, .int 6, .int 1, .int 0, .int 0]) (rest := [.int r154, .int r34, .int r288]) ⟨hx, hb, hml, hown, hts⟩ (c_call_6 l hst D E o (tF 7 (tF 10 S 0 40) (nI (j)) 0) 1 0 0) (va_cwS 5 hts gL_steps_L_call rfl rfl rfl (by decide +kernel) ⟨Nat.le_of_ble_eq_true rfl, Nat.le_of_ble_eq_true rfl⟩) hO hKX (l_Z hZ hS (fun _ h => Or.inl h)) hNc rfl hl rfl (Nat.le_of_ble_eq_true rfl) dL_steps_306 ⟨by show 24 * (ix) + 18 + 1 ≤ 130; omega, by show 6 * (24 * (ix) + 18) + 6 ≤ 780; omega⟩) hS (fun _ h => Or.inl h) ⟨by omega, by omega⟩ (fun r306 H locs hp hq hz hS => ?_)
  obtain ⟨h306, hO⟩ := hp
  rw [tF_6] at hO
  have hQ := hQ.kept hq (dj_1 hd)
  refine lv_goto (tgt := 313) hx hb dL_steps_309 (by decide) ?_
  refine lv_imul hx hb dL_steps_313 ?_
  refine lv_iadd hx hb dL_steps_314 ?_
  refine lv_icmp_ne (tgt := 344) hx hb dL_steps_315 (by decide) (fun z => absurd (by rw [h288, h34, h154, h306]; exact y5) z) (fun _ => ?_)
  refine lv_aload_n hx hb dL_steps_318 rfl (lv_at hl 6 rfl) ?_
  refine lv_iconst (v := 2) hx hb dL_steps_319 (by decide) ?_
  refine lv_iconst (v := 1) hx hb dL_steps_320 (by decide) ?_
  refine lv_iconst (v := 0) hx hb dL_steps_321 (by decide) ?_
  refine lv_iconst (v := 0) hx hb dL_steps_322 (by decide) ?_
  refine l_go (cells' := 24 * (ix) + 20) (slots' := 6 * (24 * (ix) + 20)) (l_runS (P := Ob D E o (tF 7 (tF 10 S 0 40) (nI (j)) 0)) (As := [.ref o, .int 2, .int 1, .int 0, .int 0]) (rest := []) ⟨hx, hb, hml, hown, hts⟩ (c_call_2 l hst D E o (tF 7 (tF 10 S 0 40) (nI (j)) 0) 1 0 0) (va_cwS 5 hts gL_steps_L_call rfl rfl rfl (by decide +kernel) ⟨Nat.le_of_ble_eq_true rfl, Nat.le_of_ble_eq_true rfl⟩) hO hKX (l_Z hZ hS (fun _ h => Or.inl h)) hNc rfl hl rfl (Nat.le_of_ble_eq_true rfl) dL_steps_323 ⟨by show 24 * (ix) + 19 + 1 ≤ 130; omega, by show 6 * (24 * (ix) + 19) + 6 ≤ 780; omega⟩) hS (fun _ h => Or.inl h) ⟨by omega, by omega⟩ (fun r323 H locs hp hq hz hS => ?_)
  obtain ⟨h323, hO⟩ := hp
  rw [tF_2] at hO
  have hQ := hQ.kept hq (dj_1 hd)
  refine lv_iconst (v := 2) hx hb dL_steps_326 (by decide) ?_
  refine lv_icmp_ne (tgt := 334) hx hb dL_steps_327 (by decide) (fun z => absurd (h323.trans (y6.mpr hM)) z) (fun _ => ?_)
  refine lv_iconst (v := 1) hx hb dL_steps_330 (by decide) ?_
  refine lv_goto (tgt := 335) hx hb dL_steps_331 (by decide) ?_
  refine lv_iload hx hb dL_steps_335 (lv_at hl 1 rfl) ?_
  refine lv_icmp_ne (tgt := 344) hx hb dL_steps_337 (by decide) (fun z => absurd (rfl) z) (fun _ => ?_)
  refine lv_iconst (v := 1) hx hb dL_steps_340 (by decide) ?_
  refine lv_goto (tgt := 345) hx hb dL_steps_341 (by decide) ?_
  refine lv_istore (lv' := [(10, .int 1), (17, .int r194), (16, .int 1), (15, .int r154), (14, .int (nI (c))), (13, .int r122), (12, .int (nI (j))), (0, .ref o), (1, .ref q), (2, .int (nI (X))), (3, .int (nI (P))), (4, .int r24), (5, .int r34), (6, .int (nI (h))), (7, .int r54), (8, .int r64), (9, .int cs), (11, .int (nI (ix)))]) hx hb dL_steps_345 hl (by decide) rfl (fun ls hl => ?_)
  refine lv_iload hx hb dL_steps_347 (lv_at hl 2 rfl) ?_
  refine lv_if_eq (tgt := 356) hx hb dL_steps_349 (by decide) (fun z => absurd z (show ¬ (1 : Int32) = 0 by decide)) (fun _ => ?_)
  refine lv_iconst (v := 0) hx hb dL_steps_352 (by decide) ?_
  refine lv_goto (tgt := 365) hx hb dL_steps_353 (by decide) ?_
  refine lv_istore (lv' := [(18, .int 0), (10, .int 1), (17, .int r194), (16, .int 1), (15, .int r154), (14, .int (nI (c))), (13, .int r122), (12, .int (nI (j))), (0, .ref o), (1, .ref q), (2, .int (nI (X))), (3, .int (nI (P))), (4, .int r24), (5, .int r34), (6, .int (nI (h))), (7, .int r54), (8, .int r64), (9, .int cs), (11, .int (nI (ix)))]) hx hb dL_steps_365 hl (by decide) rfl (fun ls hl => ?_)
  refine lv_iload hx hb dL_steps_367 (lv_at hl 0 rfl) ?_
  refine lv_iconst (v := (-1)) hx hb dL_steps_369 (by decide) ?_
  refine lv_icmp_ne (tgt := 378) hx hb dL_steps_370 (by decide) (fun _ => ?_) (fun z => absurd z (show ¬ (0 : Int32) = -1 by decide))
  refine lv_iload hx hb dL_steps_378 (lv_at hl 0 rfl) ?_
  refine lv_aload_n hx hb dL_steps_380 rfl (lv_at hl 8 rfl) ?_
  refine lv_iconst (v := 3) hx hb dL_steps_381 (by decide) ?_
  refine lv_iload_n hx hb dL_steps_382 rfl (lv_at hl 11 rfl) ?_
  refine lv_iconst (v := 2) hx hb dL_steps_383 (by decide) ?_
  refine lv_iconst (v := 0) hx hb dL_steps_384 (by decide) ?_
  refine l_go (cells' := 24 * (ix) + 21) (slots' := 6 * (24 * (ix) + 21)) (l_runS (P := Ob D E o (tF 7 (tF 10 S 0 40) (nI (j)) 0)) (As := [.ref o, .int 3, .int (nI (P)), .int 2, .int 0]) (rest := [.int 0]) ⟨hx, hb, hml, hown, hts⟩ (c_call_3 l hst D E o (tF 7 (tF 10 S 0 40) (nI (j)) 0) (nI (P)) 2 0) (va_cwS 5 hts gL_steps_L_call rfl rfl rfl (by decide +kernel) ⟨Nat.le_of_ble_eq_true rfl, Nat.le_of_ble_eq_true rfl⟩) hO hKX (l_Z hZ hS (fun _ h => Or.inl h)) hNc rfl hl rfl (Nat.le_of_ble_eq_true rfl) dL_steps_385 ⟨by show 24 * (ix) + 20 + 1 ≤ 130; omega, by show 6 * (24 * (ix) + 20) + 6 ≤ 780; omega⟩) hS (fun _ h => Or.inl h) ⟨by omega, by omega⟩ (fun r385 H locs hp hq hz hS => ?_)
  obtain ⟨h385, hO⟩ := hp
  rw [tF_3] at hO
  have hQ := hQ.kept hq (dj_1 hd)
  refine lv_iadd hx hb dL_steps_388 ?_
  refine lv_iload hx hb dL_steps_389 (lv_at hl 13 rfl) ?_
  refine lv_isub hx hb dL_steps_391 ?_
  refine w_eqI (wtS_M hM h385) ?_
  refine lv_istore (lv' := [(19, .int (wtS S (tF 7 (tF 10 S 0 40) (nI (j)) 0) P c r34)), (18, .int 0), (10, .int 1), (17, .int r194), (16, .int 1), (15, .int r154), (14, .int (nI (c))), (13, .int r122), (12, .int (nI (j))), (0, .ref o), (1, .ref q), (2, .int (nI (X))), (3, .int (nI (P))), (4, .int r24), (5, .int r34), (6, .int (nI (h))), (7, .int r54), (8, .int r64), (9, .int cs), (11, .int (nI (ix)))]) hx hb dL_steps_392 hl (by decide) rfl (fun ls hl => ?_)
  refine W.widen (k := 24 * (ix) + 21) (n := 6 * (24 * (ix) + 21)) (by omega) (by omega) ?_
  have hl : lv_has ls 20 [(19, .int (wtS S (tF 7 (tF 10 S 0 40) (nI (j)) 0) P c r34)), (17, .int r194), (12, .int (nI (j))), (0, .ref o), (1, .ref q), (2, .int (nI (X))), (3, .int (nI (P))), (4, .int r24), (5, .int r34), (6, .int (nI (h))), (7, .int r54), (8, .int r64), (9, .int cs), (10, .int 1), (11, .int (nI (ix)))] := lv_sub hl [0, 3, 8, 9, 10, 11, 12, 13, 14, 15, 16, 17, 18, 2, 19] rfl
  exact kk _ _ _ r194 hO hQ hS hl h194
set_option maxHeartbeats 8000000 in
set_option maxRecDepth 100000 in
theorem st_1N1 {p : Program} {l : Launch} {e : Env} {s : State} {m : MethodId} {args : Array Value} {below : List Frame} {meth : Method} {co : Code} {D : va_G} {E : Nat → ClassId} {o : Nat} {q : Nat} {S : aT} {Q : State → Prop} {H : Heap} {locs : List Loc} {ls : Array Slot} {X P h j c ix : Nat} {r24 r34 r54 r64 cs r122 : Int32} (K : lK p l s m args co D E (rAA o q) cL_steps 20 wsL_steps) (hd : djo o q) (hO : Ob D E o S H) (hQ : Ob D E q S H) (hS : va_S (rAA o q) s.heap H locs) (hl : lv_has ls 20 [(13, .int r122), (12, .int (nI (j))), (0, .ref o), (1, .ref q), (2, .int (nI (X))), (3, .int (nI (P))), (4, .int r24), (5, .int r34), (6, .int (nI (h))), (7, .int r54), (8, .int r64), (9, .int cs), (10, .int 1), (11, .int (nI (ix)))]) (hK : ix < 4) (hP : P < 2) (hh : h < 64) (hc : c < 64) (hto : toI (nI h) (nI j) = nI c) (hw : r122 = 0) (Y : stY S P j c) (h34 : r34 = aF 3 S (nI P) 2 0) (h54 : r54 = aF 2 S 3 0 0) (hM : ¬ aF 4 S (nI (c % 8)) (nI (c / 8)) 2 = nI (2 - P)) (hw9 : aF 14 (tF 7 (tF 10 S 0 40) (nI (j)) 0) (nI P) 0 0 = -1)
    (kk : ∀ (H : Heap) (locs : List Loc) (ls : Array Slot) (r194 : Int32), Ob D E o (tF 7 (tF 10 S 0 40) (nI (j)) 0) H → Ob D E q (tF 7 (tF 10 S 0 40) (nI (j)) 0) H → va_S (rAA o q) s.heap H locs → lv_has ls 20 [(19, .int (wtS S (tF 7 (tF 10 S 0 40) (nI (j)) 0) P c r34)), (17, .int r194), (12, .int (nI (j))), (0, .ref o), (1, .ref q), (2, .int (nI (X))), (3, .int (nI (P))), (4, .int r24), (5, .int r34), (6, .int (nI (h))), (7, .int r54), (8, .int r64), (9, .int cs), (10, .int 1), (11, .int (nI (ix)))] → (r194 = aF 6 S 0 0 0) → W p l e (lRm 10 130 780) s m args below meth co H locs (24 * (ix) + 21) (6 * (24 * (ix) + 21)) Q (F0 m 394 ls [])) : W p l e (lRm 10 130 780) s m args below meth co H locs (24 * (ix) + 8) (6 * (24 * (ix) + 8)) Q (F0 m 127 ls []) := by
  obtain ⟨hx, hb, hml, hown, hts, hKX, hZ, hNc, hst⟩ := id K
  obtain ⟨y1, y2, y3, y4, y5, y6, y7, y8, y9⟩ := Y
  refine lv_iload hx hb dL_steps_127 (lv_at hl 0 rfl) ?_
  refine lv_if_ne (tgt := 548) hx hb dL_steps_129 (by decide) (fun z => absurd (hw) z) (fun _ => ?_)
  refine lv_iload hx hb dL_steps_132 (lv_at hl 8 rfl) ?_
  refine lv_iload hx hb dL_steps_134 (lv_at hl 1 rfl) ?_
  refine l_go (cells' := 24 * (ix) + 8) (slots' := 6 * (24 * (ix) + 8)) (l_runS (A1 := bNo) (P := (fun _ => True)) (As := [.int (nI (h)), .int (nI (j))]) (rest := []) ⟨hx, hb, hml, hown, hts⟩ (c_to l D E (nI (h)) (nI (j))) (va_cwS 2 hts gL_steps_L_to rfl rfl rfl (by decide +kernel) ⟨Nat.le_of_ble_eq_true rfl, Nat.le_of_ble_eq_true rfl⟩) trivial hKX (l_Z hZ hS (fun _ h => h.elim)) hNc rfl hl rfl (Nat.le_of_ble_eq_true rfl) dL_steps_136 ⟨by show 24 * (ix) + 8 + 0 ≤ 130; omega, by show 6 * (24 * (ix) + 8) + 0 ≤ 780; omega⟩) hS (fun _ h => h.elim) ⟨by omega, by omega⟩ (fun r136 H locs h136 hq hz hS => ?_)
  have hO := hO.kept hq (fun _ _ _ h => h)
  have hQ := hQ.kept hq (fun _ _ _ h => h)
  refine w_eqI (h136.trans hto) ?_
  refine lv_istore (lv' := [(14, .int (nI (c))), (13, .int r122), (12, .int (nI (j))), (0, .ref o), (1, .ref q), (2, .int (nI (X))), (3, .int (nI (P))), (4, .int r24), (5, .int r34), (6, .int (nI (h))), (7, .int r54), (8, .int r64), (9, .int cs), (10, .int 1), (11, .int (nI (ix)))]) hx hb dL_steps_139 hl (by decide) rfl (fun ls hl => ?_)
  refine lv_aload_n hx hb dL_steps_141 rfl (lv_at hl 3 rfl) ?_
  refine lv_iconst (v := 4) hx hb dL_steps_142 (by decide) ?_
  refine lv_iload hx hb dL_steps_143 (lv_at hl 0 rfl) ?_
  refine lv_bipush (v := 8) hx hb dL_steps_145 (by decide) ?_
  refine w_rem (a := c) (d := 8) hx hb rfl (by omega) (by decide) (by decide) dL_steps_147 ?_
  refine lv_iload hx hb dL_steps_148 (lv_at hl 0 rfl) ?_
  refine lv_bipush (v := 8) hx hb dL_steps_150 (by decide) ?_
  refine w_div (a := c) (d := 8) hx hb rfl (by omega) (by decide) (by decide) dL_steps_152 ?_
  refine lv_iload_n hx hb dL_steps_153 rfl (lv_at hl 6 rfl) ?_
  refine l_go (cells' := 24 * (ix) + 9) (slots' := 6 * (24 * (ix) + 9)) (l_runS (P := Ob D E o S) (As := [.ref o, .int 4, .int (nI ((c) % 8)), .int (nI ((c) / 8)), .int (nI (P))]) (rest := []) ⟨hx, hb, hml, hown, hts⟩ (c_call_4 l hst D E o S (nI ((c) % 8)) (nI ((c) / 8)) (nI (P))) (va_cwS 5 hts gL_steps_L_call rfl rfl rfl (by decide +kernel) ⟨Nat.le_of_ble_eq_true rfl, Nat.le_of_ble_eq_true rfl⟩) hO hKX (l_Z hZ hS (fun _ h => Or.inl h)) hNc rfl hl rfl (Nat.le_of_ble_eq_true rfl) dL_steps_154 ⟨by show 24 * (ix) + 8 + 1 ≤ 130; omega, by show 6 * (24 * (ix) + 8) + 6 ≤ 780; omega⟩) hS (fun _ h => Or.inl h) ⟨by omega, by omega⟩ (fun r154 H locs hp hq hz hS => ?_)
  obtain ⟨h154, hO⟩ := hp
  have hO : Ob D E o S H := hO
  have hQ := hQ.kept hq (dj_1 hd)
  refine lv_istore (lv' := [(15, .int r154), (14, .int (nI (c))), (13, .int r122), (12, .int (nI (j))), (0, .ref o), (1, .ref q), (2, .int (nI (X))), (3, .int (nI (P))), (4, .int r24), (5, .int r34), (6, .int (nI (h))), (7, .int r54), (8, .int r64), (9, .int cs), (10, .int 1), (11, .int (nI (ix)))]) hx hb dL_steps_157 hl (by decide) rfl (fun ls hl => ?_)
  refine lv_aload_n hx hb dL_steps_159 rfl (lv_at hl 4 rfl) ?_
  refine lv_iconst (v := 4) hx hb dL_steps_160 (by decide) ?_
  refine lv_iload hx hb dL_steps_161 (lv_at hl 1 rfl) ?_
  refine lv_bipush (v := 8) hx hb dL_steps_163 (by decide) ?_
  refine w_rem (a := c) (d := 8) hx hb rfl (by omega) (by decide) (by decide) dL_steps_165 ?_
  refine lv_iload hx hb dL_steps_166 (lv_at hl 1 rfl) ?_
  refine lv_bipush (v := 8) hx hb dL_steps_168 (by decide) ?_
  refine w_div (a := c) (d := 8) hx hb rfl (by omega) (by decide) (by decide) dL_steps_170 ?_
  refine lv_iconst (v := 2) hx hb dL_steps_171 (by decide) ?_
  refine l_go (cells' := 24 * (ix) + 10) (slots' := 6 * (24 * (ix) + 10)) (l_runS (P := Ob D E o S) (As := [.ref o, .int 4, .int (nI ((c) % 8)), .int (nI ((c) / 8)), .int 2]) (rest := []) ⟨hx, hb, hml, hown, hts⟩ (c_call_4 l hst D E o S (nI ((c) % 8)) (nI ((c) / 8)) 2) (va_cwS 5 hts gL_steps_L_call rfl rfl rfl (by decide +kernel) ⟨Nat.le_of_ble_eq_true rfl, Nat.le_of_ble_eq_true rfl⟩) hO hKX (l_Z hZ hS (fun _ h => Or.inl h)) hNc rfl hl rfl (Nat.le_of_ble_eq_true rfl) dL_steps_172 ⟨by show 24 * (ix) + 9 + 1 ≤ 130; omega, by show 6 * (24 * (ix) + 9) + 6 ≤ 780; omega⟩) hS (fun _ h => Or.inl h) ⟨by omega, by omega⟩ (fun r172 H locs hp hq hz hS => ?_)
  obtain ⟨h172, hO⟩ := hp
  have hO : Ob D E o S H := hO
  have hQ := hQ.kept hq (dj_1 hd)
  refine lv_iconst (v := 2) hx hb dL_steps_175 (by decide) ?_
  refine lv_iload_n hx hb dL_steps_176 rfl (lv_at hl 7 rfl) ?_
  refine w_sub (i := 2) (j := P) hx hb rfl rfl (by omega) dL_steps_177 ?_
  refine lv_icmp_ne (tgt := 185) hx hb dL_steps_178 (by decide) (fun _ => ?_) (fun z => absurd z (fun q => hM (h172.symm.trans q)))
  refine lv_iconst (v := 0) hx hb dL_steps_185 (by decide) ?_
  refine lv_istore (lv' := [(16, .int 0), (15, .int r154), (14, .int (nI (c))), (13, .int r122), (12, .int (nI (j))), (0, .ref o), (1, .ref q), (2, .int (nI (X))), (3, .int (nI (P))), (4, .int r24), (5, .int r34), (6, .int (nI (h))), (7, .int r54), (8, .int r64), (9, .int cs), (10, .int 1), (11, .int (nI (ix)))]) hx hb dL_steps_186 hl (by decide) rfl (fun ls hl => ?_)
  refine lv_aload_n hx hb dL_steps_188 rfl (lv_at hl 5 rfl) ?_
  refine lv_bipush (v := 6) hx hb dL_steps_189 (by decide) ?_
  refine lv_iconst (v := 0) hx hb dL_steps_191 (by decide) ?_
  refine lv_iconst (v := 0) hx hb dL_steps_192 (by decide) ?_
  refine lv_iconst (v := 0) hx hb dL_steps_193 (by decide) ?_
  refine l_go (cells' := 24 * (ix) + 11) (slots' := 6 * (24 * (ix) + 11)) (l_runS (P := Ob D E o S) (As := [.ref o, .int 6, .int 0, .int 0, .int 0]) (rest := []) ⟨hx, hb, hml, hown, hts⟩ (c_call_6 l hst D E o S 0 0 0) (va_cwS 5 hts gL_steps_L_call rfl rfl rfl (by decide +kernel) ⟨Nat.le_of_ble_eq_true rfl, Nat.le_of_ble_eq_true rfl⟩) hO hKX (l_Z hZ hS (fun _ h => Or.inl h)) hNc rfl hl rfl (Nat.le_of_ble_eq_true rfl) dL_steps_194 ⟨by show 24 * (ix) + 10 + 1 ≤ 130; omega, by show 6 * (24 * (ix) + 10) + 6 ≤ 780; omega⟩) hS (fun _ h => Or.inl h) ⟨by omega, by omega⟩ (fun r194 H locs hp hq hz hS => ?_)
  obtain ⟨h194, hO⟩ := hp
  have hO : Ob D E o S H := hO
  have hQ := hQ.kept hq (dj_1 hd)
  refine lv_istore (lv' := [(17, .int r194), (16, .int 0), (15, .int r154), (14, .int (nI (c))), (13, .int r122), (12, .int (nI (j))), (0, .ref o), (1, .ref q), (2, .int (nI (X))), (3, .int (nI (P))), (4, .int r24), (5, .int r34), (6, .int (nI (h))), (7, .int r54), (8, .int r64), (9, .int cs), (10, .int 1), (11, .int (nI (ix)))]) hx hb dL_steps_197 hl (by decide) rfl (fun ls hl => ?_)
  refine lv_aload_n hx hb dL_steps_199 rfl (lv_at hl 6 rfl) ?_
  refine lv_bipush (v := 10) hx hb dL_steps_200 (by decide) ?_
  refine lv_iconst (v := 0) hx hb dL_steps_202 (by decide) ?_
  refine lv_bipush (v := 40) hx hb dL_steps_203 (by decide) ?_
  refine lv_iconst (v := 0) hx hb dL_steps_205 (by decide) ?_
  refine l_go (cells' := 24 * (ix) + 12) (slots' := 6 * (24 * (ix) + 12)) (l_runS (P := Ob D E o S) (As := [.ref o, .int 10, .int 0, .int 40, .int 0]) (rest := []) ⟨hx, hb, hml, hown, hts⟩ (c_call_10 l hst D E o S 0 40 0) (va_cwS 5 hts gL_steps_L_call rfl rfl rfl (by decide +kernel) ⟨Nat.le_of_ble_eq_true rfl, Nat.le_of_ble_eq_true rfl⟩) hO hKX (l_Z hZ hS (fun _ h => Or.inl h)) hNc rfl hl rfl (Nat.le_of_ble_eq_true rfl) dL_steps_206 ⟨by show 24 * (ix) + 11 + 1 ≤ 130; omega, by show 6 * (24 * (ix) + 11) + 6 ≤ 780; omega⟩) hS (fun _ h => Or.inl h) ⟨by omega, by omega⟩ (fun r206 H locs hp hq hz hS => ?_)
  obtain ⟨h206, hO⟩ := hp
  have hQ := hQ.kept hq (dj_1 hd)
  refine lv_iload hx hb dL_steps_209 (lv_at hl 0 rfl) ?_
  refine lv_icmp_ne (tgt := 344) hx hb dL_steps_211 (by decide) (fun z => absurd (h206.trans (y1.trans h194.symm)) z) (fun _ => ?_)
  refine lv_aload_n hx hb dL_steps_214 rfl (lv_at hl 7 rfl) ?_
  refine lv_bipush (v := 10) hx hb dL_steps_215 (by decide) ?_
  refine lv_iconst (v := 0) hx hb dL_steps_217 (by decide) ?_
  refine lv_bipush (v := 40) hx hb dL_steps_218 (by decide) ?_
  refine lv_iconst (v := 0) hx hb dL_steps_220 (by decide) ?_
  refine l_go (cells' := 24 * (ix) + 13) (slots' := 6 * (24 * (ix) + 13)) (l_runS (P := Ob D E q S) (As := [.ref q, .int 10, .int 0, .int 40, .int 0]) (rest := []) ⟨hx, hb, hml, hown, hts⟩ (c_call_10 l hst D E q S 0 40 0) (va_cwS 5 hts gL_steps_L_call rfl rfl rfl (by decide +kernel) ⟨Nat.le_of_ble_eq_true rfl, Nat.le_of_ble_eq_true rfl⟩) hQ hKX (l_Z hZ hS (fun _ h => Or.inr h)) hNc rfl hl rfl (Nat.le_of_ble_eq_true rfl) dL_steps_221 ⟨by show 24 * (ix) + 12 + 1 ≤ 130; omega, by show 6 * (24 * (ix) + 12) + 6 ≤ 780; omega⟩) hS (fun _ h => Or.inr h) ⟨by omega, by omega⟩ (fun r221 H locs hp hq hz hS => ?_)
  obtain ⟨h221, hQ⟩ := hp
  have hO := hO.kept hq (dj_2 hd)
  refine lv_iload hx hb dL_steps_224 (lv_at hl 0 rfl) ?_
  refine lv_icmp_ne (tgt := 344) hx hb dL_steps_226 (by decide) (fun z => absurd (h221.trans (y1.trans h194.symm)) z) (fun _ => ?_)
  refine lv_aload_n hx hb dL_steps_229 rfl (lv_at hl 6 rfl) ?_
  refine lv_bipush (v := 7) hx hb dL_steps_230 (by decide) ?_
  refine lv_iload hx hb dL_steps_232 (lv_at hl 5 rfl) ?_
  refine lv_iconst (v := 0) hx hb dL_steps_234 (by decide) ?_
  refine lv_iconst (v := 0) hx hb dL_steps_235 (by decide) ?_
  refine l_go (cells' := 24 * (ix) + 14) (slots' := 6 * (24 * (ix) + 14)) (l_runS (P := Ob D E o (tF 10 S 0 40)) (As := [.ref o, .int 7, .int (nI (j)), .int 0, .int 0]) (rest := []) ⟨hx, hb, hml, hown, hts⟩ (c_call_7 l hst D E o (tF 10 S 0 40) (nI (j)) 0 0) (va_cwS 5 hts gL_steps_L_call rfl rfl rfl (by decide +kernel) ⟨Nat.le_of_ble_eq_true rfl, Nat.le_of_ble_eq_true rfl⟩) hO hKX (l_Z hZ hS (fun _ h => Or.inl h)) hNc rfl hl rfl (Nat.le_of_ble_eq_true rfl) dL_steps_236 ⟨by show 24 * (ix) + 13 + 1 ≤ 130; omega, by show 6 * (24 * (ix) + 13) + 6 ≤ 780; omega⟩) hS (fun _ h => Or.inl h) ⟨by omega, by omega⟩ (fun r236 H locs hp hq hz hS => ?_)
  obtain ⟨h236, hO⟩ := hp
  have hQ := hQ.kept hq (dj_1 hd)
  refine lv_if_ne (tgt := 344) hx hb dL_steps_239 (by decide) (fun z => absurd (h236.trans y2) z) (fun _ => ?_)
  refine lv_aload_n hx hb dL_steps_242 rfl (lv_at hl 7 rfl) ?_
  refine lv_bipush (v := 7) hx hb dL_steps_243 (by decide) ?_
  refine lv_iload hx hb dL_steps_245 (lv_at hl 5 rfl) ?_
  refine lv_iconst (v := 0) hx hb dL_steps_247 (by decide) ?_
  refine lv_iconst (v := 0) hx hb dL_steps_248 (by decide) ?_
  refine l_go (cells' := 24 * (ix) + 15) (slots' := 6 * (24 * (ix) + 15)) (l_runS (P := Ob D E q (tF 10 S 0 40)) (As := [.ref q, .int 7, .int (nI (j)), .int 0, .int 0]) (rest := []) ⟨hx, hb, hml, hown, hts⟩ (c_call_7 l hst D E q (tF 10 S 0 40) (nI (j)) 0 0) (va_cwS 5 hts gL_steps_L_call rfl rfl rfl (by decide +kernel) ⟨Nat.le_of_ble_eq_true rfl, Nat.le_of_ble_eq_true rfl⟩) hQ hKX (l_Z hZ hS (fun _ h => Or.inr h)) hNc rfl hl rfl (Nat.le_of_ble_eq_true rfl) dL_steps_249 ⟨by show 24 * (ix) + 14 + 1 ≤ 130; omega, by show 6 * (24 * (ix) + 14) + 6 ≤ 780; omega⟩) hS (fun _ h => Or.inr h) ⟨by omega, by omega⟩ (fun r249 H locs hp hq hz hS => ?_)
  obtain ⟨h249, hQ⟩ := hp
  have hO := hO.kept hq (dj_2 hd)
  refine lv_if_ne (tgt := 344) hx hb dL_steps_252 (by decide) (fun z => absurd (h249.trans y2) z) (fun _ => ?_)
  refine lv_aload_n hx hb dL_steps_255 rfl (lv_at hl 6 rfl) ?_
  refine lv_iconst (v := 3) hx hb dL_steps_256 (by decide) ?_
  refine lv_iload_n hx hb dL_steps_257 rfl (lv_at hl 9 rfl) ?_
  refine lv_iconst (v := 1) hx hb dL_steps_258 (by decide) ?_
  refine lv_iconst (v := 0) hx hb dL_steps_259 (by decide) ?_
  refine l_go (cells' := 24 * (ix) + 16) (slots' := 6 * (24 * (ix) + 16)) (l_runS (P := Ob D E o (tF 7 (tF 10 S 0 40) (nI (j)) 0)) (As := [.ref o, .int 3, .int (nI (P)), .int 1, .int 0]) (rest := []) ⟨hx, hb, hml, hown, hts⟩ (c_call_3 l hst D E o (tF 7 (tF 10 S 0 40) (nI (j)) 0) (nI (P)) 1 0) (va_cwS 5 hts gL_steps_L_call rfl rfl rfl (by decide +kernel) ⟨Nat.le_of_ble_eq_true rfl, Nat.le_of_ble_eq_true rfl⟩) hO hKX (l_Z hZ hS (fun _ h => Or.inl h)) hNc rfl hl rfl (Nat.le_of_ble_eq_true rfl) dL_steps_260 ⟨by show 24 * (ix) + 15 + 1 ≤ 130; omega, by show 6 * (24 * (ix) + 15) + 6 ≤ 780; omega⟩) hS (fun _ h => Or.inl h) ⟨by omega, by omega⟩ (fun r260 H locs hp hq hz hS => ?_)
  obtain ⟨h260, hO⟩ := hp
  rw [tF_3] at hO
  have hQ := hQ.kept hq (dj_1 hd)
  refine lv_iload hx hb dL_steps_263 (lv_at hl 3 rfl) ?_
  refine lv_icmp_ne (tgt := 344) hx hb dL_steps_265 (by decide) (fun z => absurd (h260.trans y3) z) (fun _ => ?_)
  refine lv_aload_n hx hb dL_steps_268 rfl (lv_at hl 6 rfl) ?_
  refine lv_iconst (v := 2) hx hb dL_steps_269 (by decide) ?_
  refine lv_iconst (v := 3) hx hb dL_steps_270 (by decide) ?_
  refine lv_iconst (v := 0) hx hb dL_steps_271 (by decide) ?_
  refine lv_iconst (v := 0) hx hb dL_steps_272 (by decide) ?_
  refine l_go (cells' := 24 * (ix) + 17) (slots' := 6 * (24 * (ix) + 17)) (l_runS (P := Ob D E o (tF 7 (tF 10 S 0 40) (nI (j)) 0)) (As := [.ref o, .int 2, .int 3, .int 0, .int 0]) (rest := []) ⟨hx, hb, hml, hown, hts⟩ (c_call_2 l hst D E o (tF 7 (tF 10 S 0 40) (nI (j)) 0) 3 0 0) (va_cwS 5 hts gL_steps_L_call rfl rfl rfl (by decide +kernel) ⟨Nat.le_of_ble_eq_true rfl, Nat.le_of_ble_eq_true rfl⟩) hO hKX (l_Z hZ hS (fun _ h => Or.inl h)) hNc rfl hl rfl (Nat.le_of_ble_eq_true rfl) dL_steps_273 ⟨by show 24 * (ix) + 16 + 1 ≤ 130; omega, by show 6 * (24 * (ix) + 16) + 6 ≤ 780; omega⟩) hS (fun _ h => Or.inl h) ⟨by omega, by omega⟩ (fun r273 H locs hp hq hz hS => ?_)
  obtain ⟨h273, hO⟩ := hp
  rw [tF_2] at hO
  have hQ := hQ.kept hq (dj_1 hd)
  refine lv_iload hx hb dL_steps_276 (lv_at hl 13 rfl) ?_
  refine lv_iconst (v := 1) hx hb dL_steps_278 (by decide) ?_
  refine lv_iadd hx hb dL_steps_279 ?_
  refine lv_icmp_ne (tgt := 344) hx hb dL_steps_280 (by decide) (fun z => absurd (by rw [h273, h54]; exact y4) z) (fun _ => ?_)
  refine lv_aload_n hx hb dL_steps_283 rfl (lv_at hl 6 rfl) ?_
  refine lv_iconst (v := 3) hx hb dL_steps_284 (by decide) ?_
  refine lv_iload_n hx hb dL_steps_285 rfl (lv_at hl 9 rfl) ?_
  refine lv_iconst (v := 2) hx hb dL_steps_286 (by decide) ?_
  refine lv_iconst (v := 0) hx hb dL_steps_287 (by decide) ?_
  refine l_go (cells' := 24 * (ix) + 18) (slots' := 6 * (24 * (ix) + 18)) (l_runS (P := Ob D E o (tF 7 (tF 10 S 0 40) (nI (j)) 0)) (As := [.ref o, .int 3, .int (nI (P)), .int 2, .int 0]) (rest := []) ⟨hx, hb, hml, hown, hts⟩ (c_call_3 l hst D E o (tF 7 (tF 10 S 0 40) (nI (j)) 0) (nI (P)) 2 0) (va_cwS 5 hts gL_steps_L_call rfl rfl rfl (by decide +kernel) ⟨Nat.le_of_ble_eq_true rfl, Nat.le_of_ble_eq_true rfl⟩) hO hKX (l_Z hZ hS (fun _ h => Or.inl h)) hNc rfl hl rfl (Nat.le_of_ble_eq_true rfl) dL_steps_288 ⟨by show 24 * (ix) + 17 + 1 ≤ 130; omega, by show 6 * (24 * (ix) + 17) + 6 ≤ 780; omega⟩) hS (fun _ h => Or.inl h) ⟨by omega, by omega⟩ (fun r288 H locs hp hq hz hS => ?_)
  obtain ⟨h288, hO⟩ := hp
  rw [tF_3] at hO
  have hQ := hQ.kept hq (dj_1 hd)
  refine lv_iload hx hb dL_steps_291 (lv_at hl 11 rfl) ?_
  refine lv_iload hx hb dL_steps_293 (lv_at hl 2 rfl) ?_
  refine lv_iload hx hb dL_steps_295 (lv_at hl 1 rfl) ?_
  rw [if_neg hM] at y5
  refine lv_if_eq (tgt := 312) hx hb dL_steps_297 (by decide) (fun _ => ?_) (fun z => absurd (rfl) z)
  refine lv_iconst (v := 1) hx hb dL_steps_312 (by decide) ?_
  refine lv_imul hx hb dL_steps_313 ?_
  refine lv_iadd hx hb dL_steps_314 ?_
  refine lv_icmp_ne (tgt := 344) hx hb dL_steps_315 (by decide) (fun z => absurd (by rw [h288, h34, h154]; exact y5) z) (fun _ => ?_)
  refine lv_aload_n hx hb dL_steps_318 rfl (lv_at hl 6 rfl) ?_
  refine lv_iconst (v := 2) hx hb dL_steps_319 (by decide) ?_
  refine lv_iconst (v := 1) hx hb dL_steps_320 (by decide) ?_
  refine lv_iconst (v := 0) hx hb dL_steps_321 (by decide) ?_
  refine lv_iconst (v := 0) hx hb dL_steps_322 (by decide) ?_
  refine l_go (cells' := 24 * (ix) + 19) (slots' := 6 * (24 * (ix) + 19)) (l_runS (P := Ob D E o (tF 7 (tF 10 S 0 40) (nI (j)) 0)) (As := [.ref o, .int 2, .int 1, .int 0, .int 0]) (rest := []) ⟨hx, hb, hml, hown, hts⟩ (c_call_2 l hst D E o (tF 7 (tF 10 S 0 40) (nI (j)) 0) 1 0 0) (va_cwS 5 hts gL_steps_L_call rfl rfl rfl (by decide +kernel) ⟨Nat.le_of_ble_eq_true rfl, Nat.le_of_ble_eq_true rfl⟩) hO hKX (l_Z hZ hS (fun _ h => Or.inl h)) hNc rfl hl rfl (Nat.le_of_ble_eq_true rfl) dL_steps_323 ⟨by show 24 * (ix) + 18 + 1 ≤ 130; omega, by show 6 * (24 * (ix) + 18) + 6 ≤ 780; omega⟩) hS (fun _ h => Or.inl h) ⟨by omega, by omega⟩ (fun r323 H locs hp hq hz hS => ?_)
  obtain ⟨h323, hO⟩ := hp
  rw [tF_2] at hO
  have hQ := hQ.kept hq (dj_1 hd)
  refine lv_iconst (v := 2) hx hb dL_steps_326 (by decide) ?_
  refine lv_icmp_ne (tgt := 334) hx hb dL_steps_327 (by decide) (fun _ => ?_) (fun z => absurd z (fun q => hM (y6.mp (h323.symm.trans q))))
  refine lv_iconst (v := 0) hx hb dL_steps_334 (by decide) ?_
  refine lv_iload hx hb dL_steps_335 (lv_at hl 1 rfl) ?_
  refine lv_icmp_ne (tgt := 344) hx hb dL_steps_337 (by decide) (fun z => absurd (rfl) z) (fun _ => ?_)
  refine lv_iconst (v := 1) hx hb dL_steps_340 (by decide) ?_
  refine lv_goto (tgt := 345) hx hb dL_steps_341 (by decide) ?_
  refine lv_istore (lv' := [(10, .int 1), (17, .int r194), (16, .int 0), (15, .int r154), (14, .int (nI (c))), (13, .int r122), (12, .int (nI (j))), (0, .ref o), (1, .ref q), (2, .int (nI (X))), (3, .int (nI (P))), (4, .int r24), (5, .int r34), (6, .int (nI (h))), (7, .int r54), (8, .int r64), (9, .int cs), (11, .int (nI (ix)))]) hx hb dL_steps_345 hl (by decide) rfl (fun ls hl => ?_)
  refine lv_iload hx hb dL_steps_347 (lv_at hl 2 rfl) ?_
  refine lv_if_eq (tgt := 356) hx hb dL_steps_349 (by decide) (fun _ => ?_) (fun z => absurd (rfl) z)
  refine lv_aload_n hx hb dL_steps_356 rfl (lv_at hl 7 rfl) ?_
  refine lv_bipush (v := 14) hx hb dL_steps_357 (by decide) ?_
  refine lv_iload_n hx hb dL_steps_359 rfl (lv_at hl 10 rfl) ?_
  refine lv_iconst (v := 0) hx hb dL_steps_360 (by decide) ?_
  refine lv_iconst (v := 0) hx hb dL_steps_361 (by decide) ?_
  refine l_go (cells' := 24 * (ix) + 20) (slots' := 6 * (24 * (ix) + 20)) (l_runS (P := Ob D E o (tF 7 (tF 10 S 0 40) (nI (j)) 0)) (As := [.ref o, .int 14, .int (nI (P)), .int 0, .int 0]) (rest := []) ⟨hx, hb, hml, hown, hts⟩ (c_call_14 l hst D E o (tF 7 (tF 10 S 0 40) (nI (j)) 0) (nI (P)) 0 0) (va_cwS 5 hts gL_steps_L_call rfl rfl rfl (by decide +kernel) ⟨Nat.le_of_ble_eq_true rfl, Nat.le_of_ble_eq_true rfl⟩) hO hKX (l_Z hZ hS (fun _ h => Or.inl h)) hNc rfl hl rfl (Nat.le_of_ble_eq_true rfl) dL_steps_362 ⟨by show 24 * (ix) + 19 + 1 ≤ 130; omega, by show 6 * (24 * (ix) + 19) + 6 ≤ 780; omega⟩) hS (fun _ h => Or.inl h) ⟨by omega, by omega⟩ (fun r362 H locs hp hq hz hS => ?_)
  obtain ⟨h362, hO⟩ := hp
  rw [tF_14] at hO
  have hQ := hQ.kept hq (dj_1 hd)
  refine lv_istore (lv' := [(18, .int r362), (10, .int 1), (17, .int r194), (16, .int 0), (15, .int r154), (14, .int (nI (c))), (13, .int r122), (12, .int (nI (j))), (0, .ref o), (1, .ref q), (2, .int (nI (X))), (3, .int (nI (P))), (4, .int r24), (5, .int r34), (6, .int (nI (h))), (7, .int r54), (8, .int r64), (9, .int cs), (11, .int (nI (ix)))]) hx hb dL_steps_365 hl (by decide) rfl (fun ls hl => ?_)
  refine lv_iload hx hb dL_steps_367 (lv_at hl 0 rfl) ?_
  refine lv_iconst (v := (-1)) hx hb dL_steps_369 (by decide) ?_
  have hw1 : r362 = -1 := h362.trans hw9
  refine lv_icmp_ne (tgt := 378) hx hb dL_steps_370 (by decide) (fun z => absurd (hw1) z) (fun _ => ?_)
  refine lv_ldc (v := (99999)) hx hb hown (hts (.constant RL 201 (99999)) (List.mem_of_getElem? (i := 1) (by decide +kernel))) dL_steps_373 ?_
  refine lv_goto (tgt := 392) hx hb dL_steps_375 (by decide) ?_
  refine w_eqI (wtS_1 (S := S) (S2 := tF 7 (tF 10 S 0 40) (nI j) 0) (P := P) (c := c) (pd := r34) hM h362 hw1) ?_
  refine lv_istore (lv' := [(19, .int (wtS S (tF 7 (tF 10 S 0 40) (nI (j)) 0) P c r34)), (18, .int r362), (10, .int 1), (17, .int r194), (16, .int 0), (15, .int r154), (14, .int (nI (c))), (13, .int r122), (12, .int (nI (j))), (0, .ref o), (1, .ref q), (2, .int (nI (X))), (3, .int (nI (P))), (4, .int r24), (5, .int r34), (6, .int (nI (h))), (7, .int r54), (8, .int r64), (9, .int cs), (11, .int (nI (ix)))]) hx hb dL_steps_392 hl (by decide) rfl (fun ls hl => ?_)
  refine W.widen (k := 24 * (ix) + 21) (n := 6 * (24 * (ix) + 21)) (by omega) (by omega) ?_
  have hl : lv_has ls 20 [(19, .int (wtS S (tF 7 (tF 10 S 0 40) (nI (j)) 0) P c r34)), (17, .int r194), (12, .int (nI (j))), (0, .ref o), (1, .ref q), (2, .int (nI (X))), (3, .int (nI (P))), (4, .int r24), (5, .int r34), (6, .int (nI (h))), (7, .int r54), (8, .int r64), (9, .int cs), (10, .int 1), (11, .int (nI (ix)))] := lv_sub hl [0, 3, 8, 9, 10, 11, 12, 13, 14, 15, 16, 17, 18, 2, 19] rfl
  exact kk _ _ _ r194 hO hQ hS hl h194
set_option maxHeartbeats 8000000 in
set_option maxRecDepth 100000 in
theorem st_1N2 {p : Program} {l : Launch} {e : Env} {s : State} {m : MethodId} {args : Array Value} {below : List Frame} {meth : Method} {co : Code} {D : va_G} {E : Nat → ClassId} {o : Nat} {q : Nat} {S : aT} {Q : State → Prop} {H : Heap} {locs : List Loc} {ls : Array Slot} {X P h j c ix : Nat} {r24 r34 r54 r64 cs r122 : Int32} (K : lK p l s m args co D E (rAA o q) cL_steps 20 wsL_steps) (hd : djo o q) (hO : Ob D E o S H) (hQ : Ob D E q S H) (hS : va_S (rAA o q) s.heap H locs) (hl : lv_has ls 20 [(13, .int r122), (12, .int (nI (j))), (0, .ref o), (1, .ref q), (2, .int (nI (X))), (3, .int (nI (P))), (4, .int r24), (5, .int r34), (6, .int (nI (h))), (7, .int r54), (8, .int r64), (9, .int cs), (10, .int 1), (11, .int (nI (ix)))]) (hK : ix < 4) (hP : P < 2) (hh : h < 64) (hc : c < 64) (hto : toI (nI h) (nI j) = nI c) (hw : r122 = 0) (Y : stY S P j c) (h34 : r34 = aF 3 S (nI P) 2 0) (h54 : r54 = aF 2 S 3 0 0) (hM : ¬ aF 4 S (nI (c % 8)) (nI (c / 8)) 2 = nI (2 - P)) (hw9 : ¬ aF 14 (tF 7 (tF 10 S 0 40) (nI (j)) 0) (nI P) 0 0 = -1)
    (kk : ∀ (H : Heap) (locs : List Loc) (ls : Array Slot) (r194 : Int32), Ob D E o (tF 7 (tF 10 S 0 40) (nI (j)) 0) H → Ob D E q (tF 7 (tF 10 S 0 40) (nI (j)) 0) H → va_S (rAA o q) s.heap H locs → lv_has ls 20 [(19, .int (wtS S (tF 7 (tF 10 S 0 40) (nI (j)) 0) P c r34)), (17, .int r194), (12, .int (nI (j))), (0, .ref o), (1, .ref q), (2, .int (nI (X))), (3, .int (nI (P))), (4, .int r24), (5, .int r34), (6, .int (nI (h))), (7, .int r54), (8, .int r64), (9, .int cs), (10, .int 1), (11, .int (nI (ix)))] → (r194 = aF 6 S 0 0 0) → W p l e (lRm 10 130 780) s m args below meth co H locs (24 * (ix) + 21) (6 * (24 * (ix) + 21)) Q (F0 m 394 ls [])) : W p l e (lRm 10 130 780) s m args below meth co H locs (24 * (ix) + 8) (6 * (24 * (ix) + 8)) Q (F0 m 127 ls []) := by
  obtain ⟨hx, hb, hml, hown, hts, hKX, hZ, hNc, hst⟩ := id K
  obtain ⟨y1, y2, y3, y4, y5, y6, y7, y8, y9⟩ := Y
  refine lv_iload hx hb dL_steps_127 (lv_at hl 0 rfl) ?_
  refine lv_if_ne (tgt := 548) hx hb dL_steps_129 (by decide) (fun z => absurd (hw) z) (fun _ => ?_)
  refine lv_iload hx hb dL_steps_132 (lv_at hl 8 rfl) ?_
  refine lv_iload hx hb dL_steps_134 (lv_at hl 1 rfl) ?_
  refine l_go (cells' := 24 * (ix) + 8) (slots' := 6 * (24 * (ix) + 8)) (l_runS (A1 := bNo) (P := (fun _ => True)) (As := [.int (nI (h)), .int (nI (j))]) (rest := []) ⟨hx, hb, hml, hown, hts⟩ (c_to l D E (nI (h)) (nI (j))) (va_cwS 2 hts gL_steps_L_to rfl rfl rfl (by decide +kernel) ⟨Nat.le_of_ble_eq_true rfl, Nat.le_of_ble_eq_true rfl⟩) trivial hKX (l_Z hZ hS (fun _ h => h.elim)) hNc rfl hl rfl (Nat.le_of_ble_eq_true rfl) dL_steps_136 ⟨by show 24 * (ix) + 8 + 0 ≤ 130; omega, by show 6 * (24 * (ix) + 8) + 0 ≤ 780; omega⟩) hS (fun _ h => h.elim) ⟨by omega, by omega⟩ (fun r136 H locs h136 hq hz hS => ?_)
  have hO := hO.kept hq (fun _ _ _ h => h)
  have hQ := hQ.kept hq (fun _ _ _ h => h)
  refine w_eqI (h136.trans hto) ?_
  refine lv_istore (lv' := [(14, .int (nI (c))), (13, .int r122), (12, .int (nI (j))), (0, .ref o), (1, .ref q), (2, .int (nI (X))), (3, .int (nI (P))), (4, .int r24), (5, .int r34), (6, .int (nI (h))), (7, .int r54), (8, .int r64), (9, .int cs), (10, .int 1), (11, .int (nI (ix)))]) hx hb dL_steps_139 hl (by decide) rfl (fun ls hl => ?_)
  refine lv_aload_n hx hb dL_steps_141 rfl (lv_at hl 3 rfl) ?_
  refine lv_iconst (v := 4) hx hb dL_steps_142 (by decide) ?_
  refine lv_iload hx hb dL_steps_143 (lv_at hl 0 rfl) ?_
  refine lv_bipush (v := 8) hx hb dL_steps_145 (by decide) ?_
  refine w_rem (a := c) (d := 8) hx hb rfl (by omega) (by decide) (by decide) dL_steps_147 ?_
  refine lv_iload hx hb dL_steps_148 (lv_at hl 0 rfl) ?_
  refine lv_bipush (v := 8) hx hb dL_steps_150 (by decide) ?_
  refine w_div (a := c) (d := 8) hx hb rfl (by omega) (by decide) (by decide) dL_steps_152 ?_
  refine lv_iload_n hx hb dL_steps_153 rfl (lv_at hl 6 rfl) ?_
  refine l_go (cells' := 24 * (ix) + 9) (slots' := 6 * (24 * (ix) + 9)) (l_runS (P := Ob D E o S) (As := [.ref o, .int 4, .int (nI ((c) % 8)), .int (nI ((c) / 8)), .int (nI (P))]) (rest := []) ⟨hx, hb, hml, hown, hts⟩ (c_call_4 l hst D E o S (nI ((c) % 8)) (nI ((c) / 8)) (nI (P))) (va_cwS 5 hts gL_steps_L_call rfl rfl rfl (by decide +kernel) ⟨Nat.le_of_ble_eq_true rfl, Nat.le_of_ble_eq_true rfl⟩) hO hKX (l_Z hZ hS (fun _ h => Or.inl h)) hNc rfl hl rfl (Nat.le_of_ble_eq_true rfl) dL_steps_154 ⟨by show 24 * (ix) + 8 + 1 ≤ 130; omega, by show 6 * (24 * (ix) + 8) + 6 ≤ 780; omega⟩) hS (fun _ h => Or.inl h) ⟨by omega, by omega⟩ (fun r154 H locs hp hq hz hS => ?_)
  obtain ⟨h154, hO⟩ := hp
  have hO : Ob D E o S H := hO
  have hQ := hQ.kept hq (dj_1 hd)
  refine lv_istore (lv' := [(15, .int r154), (14, .int (nI (c))), (13, .int r122), (12, .int (nI (j))), (0, .ref o), (1, .ref q), (2, .int (nI (X))), (3, .int (nI (P))), (4, .int r24), (5, .int r34), (6, .int (nI (h))), (7, .int r54), (8, .int r64), (9, .int cs), (10, .int 1), (11, .int (nI (ix)))]) hx hb dL_steps_157 hl (by decide) rfl (fun ls hl => ?_)
  refine lv_aload_n hx hb dL_steps_159 rfl (lv_at hl 4 rfl) ?_
  refine lv_iconst (v := 4) hx hb dL_steps_160 (by decide) ?_
  refine lv_iload hx hb dL_steps_161 (lv_at hl 1 rfl) ?_
  refine lv_bipush (v := 8) hx hb dL_steps_163 (by decide) ?_
  refine w_rem (a := c) (d := 8) hx hb rfl (by omega) (by decide) (by decide) dL_steps_165 ?_
  refine lv_iload hx hb dL_steps_166 (lv_at hl 1 rfl) ?_
  refine lv_bipush (v := 8) hx hb dL_steps_168 (by decide) ?_
  refine w_div (a := c) (d := 8) hx hb rfl (by omega) (by decide) (by decide) dL_steps_170 ?_
  refine lv_iconst (v := 2) hx hb dL_steps_171 (by decide) ?_
  refine l_go (cells' := 24 * (ix) + 10) (slots' := 6 * (24 * (ix) + 10)) (l_runS (P := Ob D E o S) (As := [.ref o, .int 4, .int (nI ((c) % 8)), .int (nI ((c) / 8)), .int 2]) (rest := []) ⟨hx, hb, hml, hown, hts⟩ (c_call_4 l hst D E o S (nI ((c) % 8)) (nI ((c) / 8)) 2) (va_cwS 5 hts gL_steps_L_call rfl rfl rfl (by decide +kernel) ⟨Nat.le_of_ble_eq_true rfl, Nat.le_of_ble_eq_true rfl⟩) hO hKX (l_Z hZ hS (fun _ h => Or.inl h)) hNc rfl hl rfl (Nat.le_of_ble_eq_true rfl) dL_steps_172 ⟨by show 24 * (ix) + 9 + 1 ≤ 130; omega, by show 6 * (24 * (ix) + 9) + 6 ≤ 780; omega⟩) hS (fun _ h => Or.inl h) ⟨by omega, by omega⟩ (fun r172 H locs hp hq hz hS => ?_)
  obtain ⟨h172, hO⟩ := hp
  have hO : Ob D E o S H := hO
  have hQ := hQ.kept hq (dj_1 hd)
  refine lv_iconst (v := 2) hx hb dL_steps_175 (by decide) ?_
  refine lv_iload_n hx hb dL_steps_176 rfl (lv_at hl 7 rfl) ?_
  refine w_sub (i := 2) (j := P) hx hb rfl rfl (by omega) dL_steps_177 ?_
  refine lv_icmp_ne (tgt := 185) hx hb dL_steps_178 (by decide) (fun _ => ?_) (fun z => absurd z (fun q => hM (h172.symm.trans q)))
  refine lv_iconst (v := 0) hx hb dL_steps_185 (by decide) ?_
  refine lv_istore (lv' := [(16, .int 0), (15, .int r154), (14, .int (nI (c))), (13, .int r122), (12, .int (nI (j))), (0, .ref o), (1, .ref q), (2, .int (nI (X))), (3, .int (nI (P))), (4, .int r24), (5, .int r34), (6, .int (nI (h))), (7, .int r54), (8, .int r64), (9, .int cs), (10, .int 1), (11, .int (nI (ix)))]) hx hb dL_steps_186 hl (by decide) rfl (fun ls hl => ?_)
  refine lv_aload_n hx hb dL_steps_188 rfl (lv_at hl 5 rfl) ?_
  refine lv_bipush (v := 6) hx hb dL_steps_189 (by decide) ?_
  refine lv_iconst (v := 0) hx hb dL_steps_191 (by decide) ?_
  refine lv_iconst (v := 0) hx hb dL_steps_192 (by decide) ?_
  refine lv_iconst (v := 0) hx hb dL_steps_193 (by decide) ?_
  refine l_go (cells' := 24 * (ix) + 11) (slots' := 6 * (24 * (ix) + 11)) (l_runS (P := Ob D E o S) (As := [.ref o, .int 6, .int 0, .int 0, .int 0]) (rest := []) ⟨hx, hb, hml, hown, hts⟩ (c_call_6 l hst D E o S 0 0 0) (va_cwS 5 hts gL_steps_L_call rfl rfl rfl (by decide +kernel) ⟨Nat.le_of_ble_eq_true rfl, Nat.le_of_ble_eq_true rfl⟩) hO hKX (l_Z hZ hS (fun _ h => Or.inl h)) hNc rfl hl rfl (Nat.le_of_ble_eq_true rfl) dL_steps_194 ⟨by show 24 * (ix) + 10 + 1 ≤ 130; omega, by show 6 * (24 * (ix) + 10) + 6 ≤ 780; omega⟩) hS (fun _ h => Or.inl h) ⟨by omega, by omega⟩ (fun r194 H locs hp hq hz hS => ?_)
  obtain ⟨h194, hO⟩ := hp
  have hO : Ob D E o S H := hO
  have hQ := hQ.kept hq (dj_1 hd)
  refine lv_istore (lv' := [(17, .int r194), (16, .int 0), (15, .int r154), (14, .int (nI (c))), (13, .int r122), (12, .int (nI (j))), (0, .ref o), (1, .ref q), (2, .int (nI (X))), (3, .int (nI (P))), (4, .int r24), (5, .int r34), (6, .int (nI (h))), (7, .int r54), (8, .int r64), (9, .int cs), (10, .int 1), (11, .int (nI (ix)))]) hx hb dL_steps_197 hl (by decide) rfl (fun ls hl => ?_)
  refine lv_aload_n hx hb dL_steps_199 rfl (lv_at hl 6 rfl) ?_
  refine lv_bipush (v := 10) hx hb dL_steps_200 (by decide) ?_
  refine lv_iconst (v := 0) hx hb dL_steps_202 (by decide) ?_
  refine lv_bipush (v := 40) hx hb dL_steps_203 (by decide) ?_
  refine lv_iconst (v := 0) hx hb dL_steps_205 (by decide) ?_
  refine l_go (cells' := 24 * (ix) + 12) (slots' := 6 * (24 * (ix) + 12)) (l_runS (P := Ob D E o S) (As := [.ref o, .int 10, .int 0, .int 40, .int 0]) (rest := []) ⟨hx, hb, hml, hown, hts⟩ (c_call_10 l hst D E o S 0 40 0) (va_cwS 5 hts gL_steps_L_call rfl rfl rfl (by decide +kernel) ⟨Nat.le_of_ble_eq_true rfl, Nat.le_of_ble_eq_true rfl⟩) hO hKX (l_Z hZ hS (fun _ h => Or.inl h)) hNc rfl hl rfl (Nat.le_of_ble_eq_true rfl) dL_steps_206 ⟨by show 24 * (ix) + 11 + 1 ≤ 130; omega, by show 6 * (24 * (ix) + 11) + 6 ≤ 780; omega⟩) hS (fun _ h => Or.inl h) ⟨by omega, by omega⟩ (fun r206 H locs hp hq hz hS => ?_)
  obtain ⟨h206, hO⟩ := hp
  have hQ := hQ.kept hq (dj_1 hd)
  refine lv_iload hx hb dL_steps_209 (lv_at hl 0 rfl) ?_
  refine lv_icmp_ne (tgt := 344) hx hb dL_steps_211 (by decide) (fun z => absurd (h206.trans (y1.trans h194.symm)) z) (fun _ => ?_)
  refine lv_aload_n hx hb dL_steps_214 rfl (lv_at hl 7 rfl) ?_
  refine lv_bipush (v := 10) hx hb dL_steps_215 (by decide) ?_
  refine lv_iconst (v := 0) hx hb dL_steps_217 (by decide) ?_
  refine lv_bipush (v := 40) hx hb dL_steps_218 (by decide) ?_
  refine lv_iconst (v := 0) hx hb dL_steps_220 (by decide) ?_
  refine l_go (cells' := 24 * (ix) + 13) (slots' := 6 * (24 * (ix) + 13)) (l_runS (P := Ob D E q S) (As := [.ref q, .int 10, .int 0, .int 40, .int 0]) (rest := []) ⟨hx, hb, hml, hown, hts⟩ (c_call_10 l hst D E q S 0 40 0) (va_cwS 5 hts gL_steps_L_call rfl rfl rfl (by decide +kernel) ⟨Nat.le_of_ble_eq_true rfl, Nat.le_of_ble_eq_true rfl⟩) hQ hKX (l_Z hZ hS (fun _ h => Or.inr h)) hNc rfl hl rfl (Nat.le_of_ble_eq_true rfl) dL_steps_221 ⟨by show 24 * (ix) + 12 + 1 ≤ 130; omega, by show 6 * (24 * (ix) + 12) + 6 ≤ 780; omega⟩) hS (fun _ h => Or.inr h) ⟨by omega, by omega⟩ (fun r221 H locs hp hq hz hS => ?_)
  obtain ⟨h221, hQ⟩ := hp
  have hO := hO.kept hq (dj_2 hd)
  refine lv_iload hx hb dL_steps_224 (lv_at hl 0 rfl) ?_
  refine lv_icmp_ne (tgt := 344) hx hb dL_steps_226 (by decide) (fun z => absurd (h221.trans (y1.trans h194.symm)) z) (fun _ => ?_)
  refine lv_aload_n hx hb dL_steps_229 rfl (lv_at hl 6 rfl) ?_
  refine lv_bipush (v := 7) hx hb dL_steps_230 (by decide) ?_
  refine lv_iload hx hb dL_steps_232 (lv_at hl 5 rfl) ?_
  refine lv_iconst (v := 0) hx hb dL_steps_234 (by decide) ?_
  refine lv_iconst (v := 0) hx hb dL_steps_235 (by decide) ?_
  refine l_go (cells' := 24 * (ix) + 14) (slots' := 6 * (24 * (ix) + 14)) (l_runS (P := Ob D E o (tF 10 S 0 40)) (As := [.ref o, .int 7, .int (nI (j)), .int 0, .int 0]) (rest := []) ⟨hx, hb, hml, hown, hts⟩ (c_call_7 l hst D E o (tF 10 S 0 40) (nI (j)) 0 0) (va_cwS 5 hts gL_steps_L_call rfl rfl rfl (by decide +kernel) ⟨Nat.le_of_ble_eq_true rfl, Nat.le_of_ble_eq_true rfl⟩) hO hKX (l_Z hZ hS (fun _ h => Or.inl h)) hNc rfl hl rfl (Nat.le_of_ble_eq_true rfl) dL_steps_236 ⟨by show 24 * (ix) + 13 + 1 ≤ 130; omega, by show 6 * (24 * (ix) + 13) + 6 ≤ 780; omega⟩) hS (fun _ h => Or.inl h) ⟨by omega, by omega⟩ (fun r236 H locs hp hq hz hS => ?_)
  obtain ⟨h236, hO⟩ := hp
  have hQ := hQ.kept hq (dj_1 hd)
  refine lv_if_ne (tgt := 344) hx hb dL_steps_239 (by decide) (fun z => absurd (h236.trans y2) z) (fun _ => ?_)
  refine lv_aload_n hx hb dL_steps_242 rfl (lv_at hl 7 rfl) ?_
  refine lv_bipush (v := 7) hx hb dL_steps_243 (by decide) ?_
  refine lv_iload hx hb dL_steps_245 (lv_at hl 5 rfl) ?_
  refine lv_iconst (v := 0) hx hb dL_steps_247 (by decide) ?_
  refine lv_iconst (v := 0) hx hb dL_steps_248 (by decide) ?_
  refine l_go (cells' := 24 * (ix) + 15) (slots' := 6 * (24 * (ix) + 15)) (l_runS (P := Ob D E q (tF 10 S 0 40)) (As := [.ref q, .int 7, .int (nI (j)), .int 0, .int 0]) (rest := []) ⟨hx, hb, hml, hown, hts⟩ (c_call_7 l hst D E q (tF 10 S 0 40) (nI (j)) 0 0) (va_cwS 5 hts gL_steps_L_call rfl rfl rfl (by decide +kernel) ⟨Nat.le_of_ble_eq_true rfl, Nat.le_of_ble_eq_true rfl⟩) hQ hKX (l_Z hZ hS (fun _ h => Or.inr h)) hNc rfl hl rfl (Nat.le_of_ble_eq_true rfl) dL_steps_249 ⟨by show 24 * (ix) + 14 + 1 ≤ 130; omega, by show 6 * (24 * (ix) + 14) + 6 ≤ 780; omega⟩) hS (fun _ h => Or.inr h) ⟨by omega, by omega⟩ (fun r249 H locs hp hq hz hS => ?_)
  obtain ⟨h249, hQ⟩ := hp
  have hO := hO.kept hq (dj_2 hd)
  refine lv_if_ne (tgt := 344) hx hb dL_steps_252 (by decide) (fun z => absurd (h249.trans y2) z) (fun _ => ?_)
  refine lv_aload_n hx hb dL_steps_255 rfl (lv_at hl 6 rfl) ?_
  refine lv_iconst (v := 3) hx hb dL_steps_256 (by decide) ?_
  refine lv_iload_n hx hb dL_steps_257 rfl (lv_at hl 9 rfl) ?_
  refine lv_iconst (v := 1) hx hb dL_steps_258 (by decide) ?_
  refine lv_iconst (v := 0) hx hb dL_steps_259 (by decide) ?_
  refine l_go (cells' := 24 * (ix) + 16) (slots' := 6 * (24 * (ix) + 16)) (l_runS (P := Ob D E o (tF 7 (tF 10 S 0 40) (nI (j)) 0)) (As := [.ref o, .int 3, .int (nI (P)), .int 1, .int 0]) (rest := []) ⟨hx, hb, hml, hown, hts⟩ (c_call_3 l hst D E o (tF 7 (tF 10 S 0 40) (nI (j)) 0) (nI (P)) 1 0) (va_cwS 5 hts gL_steps_L_call rfl rfl rfl (by decide +kernel) ⟨Nat.le_of_ble_eq_true rfl, Nat.le_of_ble_eq_true rfl⟩) hO hKX (l_Z hZ hS (fun _ h => Or.inl h)) hNc rfl hl rfl (Nat.le_of_ble_eq_true rfl) dL_steps_260 ⟨by show 24 * (ix) + 15 + 1 ≤ 130; omega, by show 6 * (24 * (ix) + 15) + 6 ≤ 780; omega⟩) hS (fun _ h => Or.inl h) ⟨by omega, by omega⟩ (fun r260 H locs hp hq hz hS => ?_)
  obtain ⟨h260, hO⟩ := hp
  rw [tF_3] at hO
  have hQ := hQ.kept hq (dj_1 hd)
  refine lv_iload hx hb dL_steps_263 (lv_at hl 3 rfl) ?_
  refine lv_icmp_ne (tgt := 344) hx hb dL_steps_265 (by decide) (fun z => absurd (h260.trans y3) z) (fun _ => ?_)
  refine lv_aload_n hx hb dL_steps_268 rfl (lv_at hl 6 rfl) ?_
  refine lv_iconst (v := 2) hx hb dL_steps_269 (by decide) ?_
  refine lv_iconst (v := 3) hx hb dL_steps_270 (by decide) ?_
  refine lv_iconst (v := 0) hx hb dL_steps_271 (by decide) ?_
  refine lv_iconst (v := 0) hx hb dL_steps_272 (by decide) ?_
  refine l_go (cells' := 24 * (ix) + 17) (slots' := 6 * (24 * (ix) + 17)) (l_runS (P := Ob D E o (tF 7 (tF 10 S 0 40) (nI (j)) 0)) (As := [.ref o, .int 2, .int 3, .int 0, .int 0]) (rest := []) ⟨hx, hb, hml, hown, hts⟩ (c_call_2 l hst D E o (tF 7 (tF 10 S 0 40) (nI (j)) 0) 3 0 0) (va_cwS 5 hts gL_steps_L_call rfl rfl rfl (by decide +kernel) ⟨Nat.le_of_ble_eq_true rfl, Nat.le_of_ble_eq_true rfl⟩) hO hKX (l_Z hZ hS (fun _ h => Or.inl h)) hNc rfl hl rfl (Nat.le_of_ble_eq_true rfl) dL_steps_273 ⟨by show 24 * (ix) + 16 + 1 ≤ 130; omega, by show 6 * (24 * (ix) + 16) + 6 ≤ 780; omega⟩) hS (fun _ h => Or.inl h) ⟨by omega, by omega⟩ (fun r273 H locs hp hq hz hS => ?_)
  obtain ⟨h273, hO⟩ := hp
  rw [tF_2] at hO
  have hQ := hQ.kept hq (dj_1 hd)
  refine lv_iload hx hb dL_steps_276 (lv_at hl 13 rfl) ?_
  refine lv_iconst (v := 1) hx hb dL_steps_278 (by decide) ?_
  refine lv_iadd hx hb dL_steps_279 ?_
  refine lv_icmp_ne (tgt := 344) hx hb dL_steps_280 (by decide) (fun z => absurd (by rw [h273, h54]; exact y4) z) (fun _ => ?_)
  refine lv_aload_n hx hb dL_steps_283 rfl (lv_at hl 6 rfl) ?_
  refine lv_iconst (v := 3) hx hb dL_steps_284 (by decide) ?_
  refine lv_iload_n hx hb dL_steps_285 rfl (lv_at hl 9 rfl) ?_
  refine lv_iconst (v := 2) hx hb dL_steps_286 (by decide) ?_
  refine lv_iconst (v := 0) hx hb dL_steps_287 (by decide) ?_
  refine l_go (cells' := 24 * (ix) + 18) (slots' := 6 * (24 * (ix) + 18)) (l_runS (P := Ob D E o (tF 7 (tF 10 S 0 40) (nI (j)) 0)) (As := [.ref o, .int 3, .int (nI (P)), .int 2, .int 0]) (rest := []) ⟨hx, hb, hml, hown, hts⟩ (c_call_3 l hst D E o (tF 7 (tF 10 S 0 40) (nI (j)) 0) (nI (P)) 2 0) (va_cwS 5 hts gL_steps_L_call rfl rfl rfl (by decide +kernel) ⟨Nat.le_of_ble_eq_true rfl, Nat.le_of_ble_eq_true rfl⟩) hO hKX (l_Z hZ hS (fun _ h => Or.inl h)) hNc rfl hl rfl (Nat.le_of_ble_eq_true rfl) dL_steps_288 ⟨by show 24 * (ix) + 17 + 1 ≤ 130; omega, by show 6 * (24 * (ix) + 17) + 6 ≤ 780; omega⟩) hS (fun _ h => Or.inl h) ⟨by omega, by omega⟩ (fun r288 H locs hp hq hz hS => ?_)
  obtain ⟨h288, hO⟩ := hp
  rw [tF_3] at hO
  have hQ := hQ.kept hq (dj_1 hd)
  refine lv_iload hx hb dL_steps_291 (lv_at hl 11 rfl) ?_
  refine lv_iload hx hb dL_steps_293 (lv_at hl 2 rfl) ?_
  refine lv_iload hx hb dL_steps_295 (lv_at hl 1 rfl) ?_
  rw [if_neg hM] at y5
  refine lv_if_eq (tgt := 312) hx hb dL_steps_297 (by decide) (fun _ => ?_) (fun z => absurd (rfl) z)
  refine lv_iconst (v := 1) hx hb dL_steps_312 (by decide) ?_
  refine lv_imul hx hb dL_steps_313 ?_
  refine lv_iadd hx hb dL_steps_314 ?_
  refine lv_icmp_ne (tgt := 344) hx hb dL_steps_315 (by decide) (fun z => absurd (by rw [h288, h34, h154]; exact y5) z) (fun _ => ?_)
  refine lv_aload_n hx hb dL_steps_318 rfl (lv_at hl 6 rfl) ?_
  refine lv_iconst (v := 2) hx hb dL_steps_319 (by decide) ?_
  refine lv_iconst (v := 1) hx hb dL_steps_320 (by decide) ?_
  refine lv_iconst (v := 0) hx hb dL_steps_321 (by decide) ?_
  refine lv_iconst (v := 0) hx hb dL_steps_322 (by decide) ?_
  refine l_go (cells' := 24 * (ix) + 19) (slots' := 6 * (24 * (ix) + 19)) (l_runS (P := Ob D E o (tF 7 (tF 10 S 0 40) (nI (j)) 0)) (As := [.ref o, .int 2, .int 1, .int 0, .int 0]) (rest := []) ⟨hx, hb, hml, hown, hts⟩ (c_call_2 l hst D E o (tF 7 (tF 10 S 0 40) (nI (j)) 0) 1 0 0) (va_cwS 5 hts gL_steps_L_call rfl rfl rfl (by decide +kernel) ⟨Nat.le_of_ble_eq_true rfl, Nat.le_of_ble_eq_true rfl⟩) hO hKX (l_Z hZ hS (fun _ h => Or.inl h)) hNc rfl hl rfl (Nat.le_of_ble_eq_true rfl) dL_steps_323 ⟨by show 24 * (ix) + 18 + 1 ≤ 130; omega, by show 6 * (24 * (ix) + 18) + 6 ≤ 780; omega⟩) hS (fun _ h => Or.inl h) ⟨by omega, by omega⟩ (fun r323 H locs hp hq hz hS => ?_)
  obtain ⟨h323, hO⟩ := hp
  rw [tF_2] at hO
  have hQ := hQ.kept hq (dj_1 hd)
  refine lv_iconst (v := 2) hx hb dL_steps_326 (by decide) ?_
  refine lv_icmp_ne (tgt := 334) hx hb dL_steps_327 (by decide) (fun _ => ?_) (fun z => absurd z (fun q => hM (y6.mp (h323.symm.trans q))))
  refine lv_iconst (v := 0) hx hb dL_steps_334 (by decide) ?_
  refine lv_iload hx hb dL_steps_335 (lv_at hl 1 rfl) ?_
  refine lv_icmp_ne (tgt := 344) hx hb dL_steps_337 (by decide) (fun z => absurd (rfl) z) (fun _ => ?_)
  refine lv_iconst (v := 1) hx hb dL_steps_340 (by decide) ?_
  refine lv_goto (tgt := 345) hx hb dL_steps_341 (by decide) ?_
  refine lv_istore (lv' := [(10, .int 1), (17, .int r194), (16, .int 0), (15, .int r154), (14, .int (nI (c))), (13, .int r122), (12, .int (nI (j))), (0, .ref o), (1, .ref q), (2, .int (nI (X))), (3, .int (nI (P))), (4, .int r24), (5, .int r34), (6, .int (nI (h))), (7, .int r54), (8, .int r64), (9, .int cs), (11, .int (nI (ix)))]) hx hb dL_steps_345 hl (by decide) rfl (fun ls hl => ?_)
  refine lv_iload hx hb dL_steps_347 (lv_at hl 2 rfl) ?_
  refine lv_if_eq (tgt := 356) hx hb dL_steps_349 (by decide) (fun _ => ?_) (fun z => absurd (rfl) z)
  refine lv_aload_n hx hb dL_steps_356 rfl (lv_at hl 7 rfl) ?_
  refine lv_bipush (v := 14) hx hb dL_steps_357 (by decide) ?_
  refine lv_iload_n hx hb dL_steps_359 rfl (lv_at hl 10 rfl) ?_
  refine lv_iconst (v := 0) hx hb dL_steps_360 (by decide) ?_
  refine lv_iconst (v := 0) hx hb dL_steps_361 (by decide) ?_
  refine l_go (cells' := 24 * (ix) + 20) (slots' := 6 * (24 * (ix) + 20)) (l_runS (P := Ob D E o (tF 7 (tF 10 S 0 40) (nI (j)) 0)) (As := [.ref o, .int 14, .int (nI (P)), .int 0, .int 0]) (rest := []) ⟨hx, hb, hml, hown, hts⟩ (c_call_14 l hst D E o (tF 7 (tF 10 S 0 40) (nI (j)) 0) (nI (P)) 0 0) (va_cwS 5 hts gL_steps_L_call rfl rfl rfl (by decide +kernel) ⟨Nat.le_of_ble_eq_true rfl, Nat.le_of_ble_eq_true rfl⟩) hO hKX (l_Z hZ hS (fun _ h => Or.inl h)) hNc rfl hl rfl (Nat.le_of_ble_eq_true rfl) dL_steps_362 ⟨by show 24 * (ix) + 19 + 1 ≤ 130; omega, by show 6 * (24 * (ix) + 19) + 6 ≤ 780; omega⟩) hS (fun _ h => Or.inl h) ⟨by omega, by omega⟩ (fun r362 H locs hp hq hz hS => ?_)
  obtain ⟨h362, hO⟩ := hp
  rw [tF_14] at hO
  have hQ := hQ.kept hq (dj_1 hd)
  refine lv_istore (lv' := [(18, .int r362), (10, .int 1), (17, .int r194), (16, .int 0), (15, .int r154), (14, .int (nI (c))), (13, .int r122), (12, .int (nI (j))), (0, .ref o), (1, .ref q), (2, .int (nI (X))), (3, .int (nI (P))), (4, .int r24), (5, .int r34), (6, .int (nI (h))), (7, .int r54), (8, .int r64), (9, .int cs), (11, .int (nI (ix)))]) hx hb dL_steps_365 hl (by decide) rfl (fun ls hl => ?_)
  refine lv_iload hx hb dL_steps_367 (lv_at hl 0 rfl) ?_
  refine lv_iconst (v := (-1)) hx hb dL_steps_369 (by decide) ?_
  have hw1 : ¬ r362 = -1 := fun q => hw9 (h362.symm.trans q)
  refine lv_icmp_ne (tgt := 378) hx hb dL_steps_370 (by decide) (fun _ => ?_) (fun z => absurd z (hw1))
  refine lv_iload hx hb dL_steps_378 (lv_at hl 0 rfl) ?_
  refine lv_aload_n hx hb dL_steps_380 rfl (lv_at hl 8 rfl) ?_
  refine lv_iconst (v := 3) hx hb dL_steps_381 (by decide) ?_
  refine lv_iload_n hx hb dL_steps_382 rfl (lv_at hl 11 rfl) ?_
  refine lv_iconst (v := 2) hx hb dL_steps_383 (by decide) ?_
  refine lv_iconst (v := 0) hx hb dL_steps_384 (by decide) ?_
  refine l_go (cells' := 24 * (ix) + 21) (slots' := 6 * (24 * (ix) + 21)) (l_runS (P := Ob D E o (tF 7 (tF 10 S 0 40) (nI (j)) 0)) (As := [.ref o, .int 3, .int (nI (P)), .int 2, .int 0]) (rest := [.int r362]) ⟨hx, hb, hml, hown, hts⟩ (c_call_3 l hst D E o (tF 7 (tF 10 S 0 40) (nI (j)) 0) (nI (P)) 2 0) (va_cwS 5 hts gL_steps_L_call rfl rfl rfl (by decide +kernel) ⟨Nat.le_of_ble_eq_true rfl, Nat.le_of_ble_eq_true rfl⟩) hO hKX (l_Z hZ hS (fun _ h => Or.inl h)) hNc rfl hl rfl (Nat.le_of_ble_eq_true rfl) dL_steps_385 ⟨by show 24 * (ix) + 20 + 1 ≤ 130; omega, by show 6 * (24 * (ix) + 20) + 6 ≤ 780; omega⟩) hS (fun _ h => Or.inl h) ⟨by omega, by omega⟩ (fun r385 H locs hp hq hz hS => ?_)
  obtain ⟨h385, hO⟩ := hp
  rw [tF_3] at hO
  have hQ := hQ.kept hq (dj_1 hd)
  refine lv_iadd hx hb dL_steps_388 ?_
  refine lv_iload hx hb dL_steps_389 (lv_at hl 13 rfl) ?_
  refine lv_isub hx hb dL_steps_391 ?_
  refine w_eqI (wtS_2 hM h362 hw1 h385) ?_
  refine lv_istore (lv' := [(19, .int (wtS S (tF 7 (tF 10 S 0 40) (nI (j)) 0) P c r34)), (18, .int r362), (10, .int 1), (17, .int r194), (16, .int 0), (15, .int r154), (14, .int (nI (c))), (13, .int r122), (12, .int (nI (j))), (0, .ref o), (1, .ref q), (2, .int (nI (X))), (3, .int (nI (P))), (4, .int r24), (5, .int r34), (6, .int (nI (h))), (7, .int r54), (8, .int r64), (9, .int cs), (11, .int (nI (ix)))]) hx hb dL_steps_392 hl (by decide) rfl (fun ls hl => ?_)
  refine W.widen (k := 24 * (ix) + 21) (n := 6 * (24 * (ix) + 21)) (by omega) (by omega) ?_
  have hl : lv_has ls 20 [(19, .int (wtS S (tF 7 (tF 10 S 0 40) (nI (j)) 0) P c r34)), (17, .int r194), (12, .int (nI (j))), (0, .ref o), (1, .ref q), (2, .int (nI (X))), (3, .int (nI (P))), (4, .int r24), (5, .int r34), (6, .int (nI (h))), (7, .int r54), (8, .int r64), (9, .int cs), (10, .int 1), (11, .int (nI (ix)))] := lv_sub hl [0, 3, 8, 9, 10, 11, 12, 13, 14, 15, 16, 17, 18, 2, 19] rfl
  exact kk _ _ _ r194 hO hQ hS hl h194
set_option maxHeartbeats 8000000 in
set_option maxRecDepth 100000 in
theorem st_1 {p : Program} {l : Launch} {e : Env} {s : State} {m : MethodId} {args : Array Value} {below : List Frame} {meth : Method} {co : Code} {D : va_G} {E : Nat → ClassId} {o : Nat} {q : Nat} {S : aT} {Q : State → Prop} {H : Heap} {locs : List Loc} {ls : Array Slot} {X P h j c ix : Nat} {r24 r34 r54 r64 cs r122 : Int32} (K : lK p l s m args co D E (rAA o q) cL_steps 20 wsL_steps) (hd : djo o q) (hO : Ob D E o S H) (hQ : Ob D E q S H) (hS : va_S (rAA o q) s.heap H locs) (hl : lv_has ls 20 [(13, .int r122), (12, .int (nI (j))), (0, .ref o), (1, .ref q), (2, .int (nI (X))), (3, .int (nI (P))), (4, .int r24), (5, .int r34), (6, .int (nI (h))), (7, .int r54), (8, .int r64), (9, .int cs), (10, .int 1), (11, .int (nI (ix)))]) (hK : ix < 4) (hP : P < 2) (hh : h < 64) (hc : c < 64) (hto : toI (nI h) (nI j) = nI c) (hw : r122 = 0) (Y : stY S P j c) (h34 : r34 = aF 3 S (nI P) 2 0) (h54 : r54 = aF 2 S 3 0 0)
    (kk : ∀ (H : Heap) (locs : List Loc) (ls : Array Slot) (r194 : Int32), Ob D E o (tF 7 (tF 10 S 0 40) (nI (j)) 0) H → Ob D E q (tF 7 (tF 10 S 0 40) (nI (j)) 0) H → va_S (rAA o q) s.heap H locs → lv_has ls 20 [(19, .int (wtS S (tF 7 (tF 10 S 0 40) (nI (j)) 0) P c r34)), (17, .int r194), (12, .int (nI (j))), (0, .ref o), (1, .ref q), (2, .int (nI (X))), (3, .int (nI (P))), (4, .int r24), (5, .int r34), (6, .int (nI (h))), (7, .int r54), (8, .int r64), (9, .int cs), (10, .int 1), (11, .int (nI (ix)))] → (r194 = aF 6 S 0 0 0) → W p l e (lRm 10 130 780) s m args below meth co H locs (24 * (ix) + 21) (6 * (24 * (ix) + 21)) Q (F0 m 394 ls [])) : W p l e (lRm 10 130 780) s m args below meth co H locs (24 * (ix) + 8) (6 * (24 * (ix) + 8)) Q (F0 m 127 ls []) := by
  by_cases hM : aF 4 S (nI (c % 8)) (nI (c / 8)) 2 = nI (2 - P)
  · exact st_1M K hd hO hQ hS hl hK hP hh hc hto hw Y h34 h54 hM kk
  · by_cases hw9 : aF 14 (tF 7 (tF 10 S 0 40) (nI (j)) 0) (nI P) 0 0 = -1
    · exact st_1N1 K hd hO hQ hS hl hK hP hh hc hto hw Y h34 h54 hM hw9 kk
    · exact st_1N2 K hd hO hQ hS hl hK hP hh hc hto hw Y h34 h54 hM hw9 kk
set_option maxHeartbeats 8000000 in
set_option maxRecDepth 100000 in
theorem st_2a {p : Program} {l : Launch} {e : Env} {s : State} {m : MethodId} {args : Array Value} {below : List Frame} {meth : Method} {co : Code} {D : va_G} {E : Nat → ClassId} {o : Nat} {q : Nat} {S : aT} {Q : State → Prop} {H : Heap} {locs : List Loc} {ls : Array Slot} {X P h j c ix : Nat} {r24 r34 r54 r64 cs r194 : Int32} (K : lK p l s m args co D E (rAA o q) cL_steps 20 wsL_steps) (hd : djo o q) (hO : Ob D E o (tF 7 (tF 10 S 0 40) (nI (j)) 0) H) (hQ : Ob D E q (tF 7 (tF 10 S 0 40) (nI (j)) 0) H) (hS : va_S (rAA o q) s.heap H locs) (hl : lv_has ls 20 [(19, .int (wtS S (tF 7 (tF 10 S 0 40) (nI (j)) 0) P c r34)), (17, .int r194), (12, .int (nI (j))), (0, .ref o), (1, .ref q), (2, .int (nI (X))), (3, .int (nI (P))), (4, .int r24), (5, .int r34), (6, .int (nI (h))), (7, .int r54), (8, .int r64), (9, .int cs), (10, .int 1), (11, .int (nI (ix)))]) (hK : ix < 4) (hP : P < 2) (Y : stY S P j c) (h194 : r194 = aF 6 S 0 0 0) (hk0 : ix = 0)
    (kk : ∀ (H : Heap) (locs : List Loc) (ls : Array Slot), Ob D E o (cuS S 12) H → Ob D E q (cuS S 12) H → va_S (rAA o q) s.heap H locs → lv_has ls 20 [(0, .ref o), (1, .ref q), (2, .int (nI (X))), (3, .int (nI (P))), (4, .int r24), (5, .int r34), (6, .int (nI (h))), (7, .int r54), (8, .int r64), (9, .int (wtS S (tF 7 (tF 10 S 0 40) (nI (j)) 0) P c r34)), (10, .int 1), (11, .int (nI (ix + 1)))] → W p l e (lRm 10 130 780) s m args below meth co H locs (24 * (ix) + 30) (6 * (24 * (ix) + 30)) Q (F0 m 78 ls [])) : W p l e (lRm 10 130 780) s m args below meth co H locs (24 * (ix) + 21) (6 * (24 * (ix) + 21)) Q (F0 m 394 ls []) := by
  obtain ⟨hx, hb, hml, hown, hts, hKX, hZ, hNc, hst⟩ := id K
  obtain ⟨y1, y2, y3, y4, y5, y6, y7, y8, y9⟩ := Y
  refine lv_iload hx hb dL_steps_394 (lv_at hl 13 rfl) ?_
  refine lv_if_eq (tgt := 442) hx hb dL_steps_396 (by decide) (fun z => absurd z (show ¬ (1 : Int32) = 0 by decide)) (fun _ => ?_)
  refine lv_iload hx hb dL_steps_399 (lv_at hl 14 rfl) ?_
  refine lv_if_eq (tgt := 438) hx hb dL_steps_401 (by decide) (fun _ => ?_) (fun z => absurd (by rw [hk0]; rfl) z)
  refine lv_iconst (v := 1) hx hb dL_steps_438 (by decide) ?_
  refine lv_goto (tgt := 443) hx hb dL_steps_439 (by decide) ?_
  refine lv_istore (lv' := [(10, .int 1), (19, .int (wtS S (tF 7 (tF 10 S 0 40) (nI (j)) 0) P c r34)), (17, .int r194), (12, .int (nI (j))), (0, .ref o), (1, .ref q), (2, .int (nI (X))), (3, .int (nI (P))), (4, .int r24), (5, .int r34), (6, .int (nI (h))), (7, .int r54), (8, .int r64), (9, .int cs), (11, .int (nI (ix)))]) hx hb dL_steps_443 hl (by decide) rfl (fun ls hl => ?_)
  refine lv_iload hx hb dL_steps_445 (lv_at hl 14 rfl) ?_
  refine lv_if_ne (tgt := 455) hx hb dL_steps_447 (by decide) (fun z => absurd (by rw [hk0]; rfl) z) (fun _ => ?_)
  refine lv_iload hx hb dL_steps_450 (lv_at hl 1 rfl) ?_
  refine lv_goto (tgt := 457) hx hb dL_steps_452 (by decide) ?_
  refine lv_istore (lv' := [(9, .int (wtS S (tF 7 (tF 10 S 0 40) (nI (j)) 0) P c r34)), (10, .int 1), (19, .int (wtS S (tF 7 (tF 10 S 0 40) (nI (j)) 0) P c r34)), (17, .int r194), (12, .int (nI (j))), (0, .ref o), (1, .ref q), (2, .int (nI (X))), (3, .int (nI (P))), (4, .int r24), (5, .int r34), (6, .int (nI (h))), (7, .int r54), (8, .int r64), (11, .int (nI (ix)))]) hx hb dL_steps_457 hl (by decide) rfl (fun ls hl => ?_)
  refine lv_iload hx hb dL_steps_459 (lv_at hl 1 rfl) ?_
  refine lv_if_eq (tgt := 542) hx hb dL_steps_461 (by decide) (fun z => absurd z (show ¬ (1 : Int32) = 0 by decide)) (fun _ => ?_)
  refine lv_aload_n hx hb dL_steps_464 rfl (lv_at hl 5 rfl) ?_
  refine lv_bipush (v := 11) hx hb dL_steps_465 (by decide) ?_
  refine lv_iconst (v := 0) hx hb dL_steps_467 (by decide) ?_
  refine lv_iconst (v := 0) hx hb dL_steps_468 (by decide) ?_
  refine lv_iconst (v := 0) hx hb dL_steps_469 (by decide) ?_
  refine l_go (cells' := 24 * (ix) + 22) (slots' := 6 * (24 * (ix) + 22)) (l_runS (P := Ob D E o (tF 7 (tF 10 S 0 40) (nI (j)) 0)) (As := [.ref o, .int 11, .int 0, .int 0, .int 0]) (rest := []) ⟨hx, hb, hml, hown, hts⟩ (c_call_11 l hst D E o (tF 7 (tF 10 S 0 40) (nI (j)) 0) 0 0 0) (va_cwS 5 hts gL_steps_L_call rfl rfl rfl (by decide +kernel) ⟨Nat.le_of_ble_eq_true rfl, Nat.le_of_ble_eq_true rfl⟩) hO hKX (l_Z hZ hS (fun _ h => Or.inl h)) hNc rfl hl rfl (Nat.le_of_ble_eq_true rfl) dL_steps_470 ⟨by show 24 * (ix) + 21 + 1 ≤ 130; omega, by show 6 * (24 * (ix) + 21) + 6 ≤ 780; omega⟩) hS (fun _ h => Or.inl h) ⟨by omega, by omega⟩ (fun r470 H locs hp hq hz hS => ?_)
  obtain ⟨h470, hO⟩ := hp
  have hQ := hQ.kept hq (dj_1 hd)
  refine l_go (cells' := 24 * (ix) + 22) (slots' := 6 * (24 * (ix) + 22)) (l_runS (A1 := bNo) (P := (fun _ => True)) (As := [.int r470]) (rest := []) ⟨hx, hb, hml, hown, hts⟩ (c_thrown l D E r470 (by rw [h470]; exact y7)) (va_cwS 1 hts gL_steps_L_thrown rfl rfl rfl (by decide +kernel) ⟨Nat.le_of_ble_eq_true rfl, Nat.le_of_ble_eq_true rfl⟩) trivial hKX (l_Z hZ hS (fun _ h => h.elim)) hNc rfl hl rfl (Nat.le_of_ble_eq_true rfl) dL_steps_473 ⟨by show 24 * (ix) + 22 + 0 ≤ 130; omega, by show 6 * (24 * (ix) + 22) + 0 ≤ 780; omega⟩) hS (fun _ h => h.elim) ⟨by omega, by omega⟩ (fun r473 H locs h473 hq hz hS => ?_)
  have hO := hO.kept hq (fun _ _ _ h => h)
  have hQ := hQ.kept hq (fun _ _ _ h => h)
  refine lv_if_ne (tgt := 542) hx hb dL_steps_476 (by decide) (fun z => absurd (h473) z) (fun _ => ?_)
  refine lv_aload_n hx hb dL_steps_479 rfl (lv_at hl 6 rfl) ?_
  refine lv_bipush (v := 11) hx hb dL_steps_480 (by decide) ?_
  refine lv_iconst (v := 0) hx hb dL_steps_482 (by decide) ?_
  refine lv_iconst (v := 0) hx hb dL_steps_483 (by decide) ?_
  refine lv_iconst (v := 0) hx hb dL_steps_484 (by decide) ?_
  refine l_go (cells' := 24 * (ix) + 23) (slots' := 6 * (24 * (ix) + 23)) (l_runS (P := Ob D E q (tF 7 (tF 10 S 0 40) (nI (j)) 0)) (As := [.ref q, .int 11, .int 0, .int 0, .int 0]) (rest := []) ⟨hx, hb, hml, hown, hts⟩ (c_call_11 l hst D E q (tF 7 (tF 10 S 0 40) (nI (j)) 0) 0 0 0) (va_cwS 5 hts gL_steps_L_call rfl rfl rfl (by decide +kernel) ⟨Nat.le_of_ble_eq_true rfl, Nat.le_of_ble_eq_true rfl⟩) hQ hKX (l_Z hZ hS (fun _ h => Or.inr h)) hNc rfl hl rfl (Nat.le_of_ble_eq_true rfl) dL_steps_485 ⟨by show 24 * (ix) + 22 + 1 ≤ 130; omega, by show 6 * (24 * (ix) + 22) + 6 ≤ 780; omega⟩) hS (fun _ h => Or.inr h) ⟨by omega, by omega⟩ (fun r485 H locs hp hq hz hS => ?_)
  obtain ⟨h485, hQ⟩ := hp
  have hO := hO.kept hq (dj_2 hd)
  refine l_go (cells' := 24 * (ix) + 23) (slots' := 6 * (24 * (ix) + 23)) (l_runS (A1 := bNo) (P := (fun _ => True)) (As := [.int r485]) (rest := []) ⟨hx, hb, hml, hown, hts⟩ (c_thrown l D E r485 (by rw [h485]; exact y7)) (va_cwS 1 hts gL_steps_L_thrown rfl rfl rfl (by decide +kernel) ⟨Nat.le_of_ble_eq_true rfl, Nat.le_of_ble_eq_true rfl⟩) trivial hKX (l_Z hZ hS (fun _ h => h.elim)) hNc rfl hl rfl (Nat.le_of_ble_eq_true rfl) dL_steps_488 ⟨by show 24 * (ix) + 23 + 0 ≤ 130; omega, by show 6 * (24 * (ix) + 23) + 0 ≤ 780; omega⟩) hS (fun _ h => h.elim) ⟨by omega, by omega⟩ (fun r488 H locs h488 hq hz hS => ?_)
  have hO := hO.kept hq (fun _ _ _ h => h)
  have hQ := hQ.kept hq (fun _ _ _ h => h)
  refine lv_if_ne (tgt := 542) hx hb dL_steps_491 (by decide) (fun z => absurd (h488) z) (fun _ => ?_)
  refine lv_aload_n hx hb dL_steps_494 rfl (lv_at hl 5 rfl) ?_
  refine lv_bipush (v := 11) hx hb dL_steps_495 (by decide) ?_
  refine lv_iconst (v := 0) hx hb dL_steps_497 (by decide) ?_
  refine lv_iconst (v := 0) hx hb dL_steps_498 (by decide) ?_
  refine lv_iconst (v := 0) hx hb dL_steps_499 (by decide) ?_
  refine l_go (cells' := 24 * (ix) + 24) (slots' := 6 * (24 * (ix) + 24)) (l_runS (P := Ob D E o (tF 11 (tF 7 (tF 10 S 0 40) (nI (j)) 0) 0 0)) (As := [.ref o, .int 11, .int 0, .int 0, .int 0]) (rest := []) ⟨hx, hb, hml, hown, hts⟩ (c_call_11 l hst D E o (tF 11 (tF 7 (tF 10 S 0 40) (nI (j)) 0) 0 0) 0 0 0) (va_cwS 5 hts gL_steps_L_call rfl rfl rfl (by decide +kernel) ⟨Nat.le_of_ble_eq_true rfl, Nat.le_of_ble_eq_true rfl⟩) hO hKX (l_Z hZ hS (fun _ h => Or.inl h)) hNc rfl hl rfl (Nat.le_of_ble_eq_true rfl) dL_steps_500 ⟨by show 24 * (ix) + 23 + 1 ≤ 130; omega, by show 6 * (24 * (ix) + 23) + 6 ≤ 780; omega⟩) hS (fun _ h => Or.inl h) ⟨by omega, by omega⟩ (fun r500 H locs hp hq hz hS => ?_)
  obtain ⟨h500, hO⟩ := hp
  rw [y9] at hO
  have hQ := hQ.kept hq (dj_1 hd)
  refine l_go (cells' := 24 * (ix) + 24) (slots' := 6 * (24 * (ix) + 24)) (l_runS (A1 := bNo) (P := (fun _ => True)) (As := [.int r500]) (rest := []) ⟨hx, hb, hml, hown, hts⟩ (c_thrown l D E r500 (by rw [h500]; exact y8)) (va_cwS 1 hts gL_steps_L_thrown rfl rfl rfl (by decide +kernel) ⟨Nat.le_of_ble_eq_true rfl, Nat.le_of_ble_eq_true rfl⟩) trivial hKX (l_Z hZ hS (fun _ h => h.elim)) hNc rfl hl rfl (Nat.le_of_ble_eq_true rfl) dL_steps_503 ⟨by show 24 * (ix) + 24 + 0 ≤ 130; omega, by show 6 * (24 * (ix) + 24) + 0 ≤ 780; omega⟩) hS (fun _ h => h.elim) ⟨by omega, by omega⟩ (fun r503 H locs h503 hq hz hS => ?_)
  have hO := hO.kept hq (fun _ _ _ h => h)
  have hQ := hQ.kept hq (fun _ _ _ h => h)
  refine lv_if_ne (tgt := 542) hx hb dL_steps_506 (by decide) (fun z => absurd (h503) z) (fun _ => ?_)
  refine lv_aload_n hx hb dL_steps_509 rfl (lv_at hl 6 rfl) ?_
  refine lv_bipush (v := 11) hx hb dL_steps_510 (by decide) ?_
  refine lv_iconst (v := 0) hx hb dL_steps_512 (by decide) ?_
  refine lv_iconst (v := 0) hx hb dL_steps_513 (by decide) ?_
  refine lv_iconst (v := 0) hx hb dL_steps_514 (by decide) ?_
  refine l_go (cells' := 24 * (ix) + 25) (slots' := 6 * (24 * (ix) + 25)) (l_runS (P := Ob D E q (tF 11 (tF 7 (tF 10 S 0 40) (nI (j)) 0) 0 0)) (As := [.ref q, .int 11, .int 0, .int 0, .int 0]) (rest := []) ⟨hx, hb, hml, hown, hts⟩ (c_call_11 l hst D E q (tF 11 (tF 7 (tF 10 S 0 40) (nI (j)) 0) 0 0) 0 0 0) (va_cwS 5 hts gL_steps_L_call rfl rfl rfl (by decide +kernel) ⟨Nat.le_of_ble_eq_true rfl, Nat.le_of_ble_eq_true rfl⟩) hQ hKX (l_Z hZ hS (fun _ h => Or.inr h)) hNc rfl hl rfl (Nat.le_of_ble_eq_true rfl) dL_steps_515 ⟨by show 24 * (ix) + 24 + 1 ≤ 130; omega, by show 6 * (24 * (ix) + 24) + 6 ≤ 780; omega⟩) hS (fun _ h => Or.inr h) ⟨by omega, by omega⟩ (fun r515 H locs hp hq hz hS => ?_)
  obtain ⟨h515, hQ⟩ := hp
  rw [y9] at hQ
  have hO := hO.kept hq (dj_2 hd)
  refine l_go (cells' := 24 * (ix) + 25) (slots' := 6 * (24 * (ix) + 25)) (l_runS (A1 := bNo) (P := (fun _ => True)) (As := [.int r515]) (rest := []) ⟨hx, hb, hml, hown, hts⟩ (c_thrown l D E r515 (by rw [h515]; exact y8)) (va_cwS 1 hts gL_steps_L_thrown rfl rfl rfl (by decide +kernel) ⟨Nat.le_of_ble_eq_true rfl, Nat.le_of_ble_eq_true rfl⟩) trivial hKX (l_Z hZ hS (fun _ h => h.elim)) hNc rfl hl rfl (Nat.le_of_ble_eq_true rfl) dL_steps_518 ⟨by show 24 * (ix) + 25 + 0 ≤ 130; omega, by show 6 * (24 * (ix) + 25) + 0 ≤ 780; omega⟩) hS (fun _ h => h.elim) ⟨by omega, by omega⟩ (fun r518 H locs h518 hq hz hS => ?_)
  have hO := hO.kept hq (fun _ _ _ h => h)
  have hQ := hQ.kept hq (fun _ _ _ h => h)
  refine lv_if_ne (tgt := 542) hx hb dL_steps_521 (by decide) (fun z => absurd (h518) z) (fun _ => ?_)
  refine lv_aload_n hx hb dL_steps_524 rfl (lv_at hl 5 rfl) ?_
  refine lv_bipush (v := 6) hx hb dL_steps_525 (by decide) ?_
  refine lv_iconst (v := 0) hx hb dL_steps_527 (by decide) ?_
  refine lv_iconst (v := 0) hx hb dL_steps_528 (by decide) ?_
  refine lv_iconst (v := 0) hx hb dL_steps_529 (by decide) ?_
  refine l_go (cells' := 24 * (ix) + 26) (slots' := 6 * (24 * (ix) + 26)) (l_runS (P := Ob D E o (cuS S 12)) (As := [.ref o, .int 6, .int 0, .int 0, .int 0]) (rest := []) ⟨hx, hb, hml, hown, hts⟩ (c_call_6 l hst D E o (cuS S 12) 0 0 0) (va_cwS 5 hts gL_steps_L_call rfl rfl rfl (by decide +kernel) ⟨Nat.le_of_ble_eq_true rfl, Nat.le_of_ble_eq_true rfl⟩) hO hKX (l_Z hZ hS (fun _ h => Or.inl h)) hNc rfl hl rfl (Nat.le_of_ble_eq_true rfl) dL_steps_530 ⟨by show 24 * (ix) + 25 + 1 ≤ 130; omega, by show 6 * (24 * (ix) + 25) + 6 ≤ 780; omega⟩) hS (fun _ h => Or.inl h) ⟨by omega, by omega⟩ (fun r530 H locs hp hq hz hS => ?_)
  obtain ⟨h530, hO⟩ := hp
  rw [tF_6] at hO
  have hQ := hQ.kept hq (dj_1 hd)
  refine lv_iload hx hb dL_steps_533 (lv_at hl 3 rfl) ?_
  refine lv_icmp_ne (tgt := 542) hx hb dL_steps_535 (by decide) (fun z => absurd (h530.trans ((a_se (p := 0) (by decide)).trans ((a_se (S := S) (p := 0) (by decide)).symm.trans h194.symm))) z) (fun _ => ?_)
  refine lv_iconst (v := 1) hx hb dL_steps_538 (by decide) ?_
  refine lv_goto (tgt := 543) hx hb dL_steps_539 (by decide) ?_
  refine lv_istore (lv' := [(10, .int 1), (9, .int (wtS S (tF 7 (tF 10 S 0 40) (nI (j)) 0) P c r34)), (19, .int (wtS S (tF 7 (tF 10 S 0 40) (nI (j)) 0) P c r34)), (17, .int r194), (12, .int (nI (j))), (0, .ref o), (1, .ref q), (2, .int (nI (X))), (3, .int (nI (P))), (4, .int r24), (5, .int r34), (6, .int (nI (h))), (7, .int r54), (8, .int r64), (11, .int (nI (ix)))]) hx hb dL_steps_543 hl (by decide) rfl (fun ls hl => ?_)
  refine lv_goto (tgt := 634) hx hb dL_steps_545 (by decide) ?_
  refine lv_iinc (v := (nI (ix + 1))) (lv' := [(11, .int (nI (ix + 1))), (10, .int 1), (9, .int (wtS S (tF 7 (tF 10 S 0 40) (nI (j)) 0) P c r34)), (19, .int (wtS S (tF 7 (tF 10 S 0 40) (nI (j)) 0) P c r34)), (17, .int r194), (12, .int (nI (j))), (0, .ref o), (1, .ref q), (2, .int (nI (X))), (3, .int (nI (P))), (4, .int r24), (5, .int r34), (6, .int (nI (h))), (7, .int r54), (8, .int r64)]) hx hb dL_steps_634 hl (k := 14) rfl (nI_1 _) (by decide) rfl (fun ls hl => ?_)
  refine lv_goto (tgt := 78) hx hb dL_steps_637 (by decide) ?_
  have hl : lv_has ls 20 [(0, .ref o), (1, .ref q), (2, .int (nI (X))), (3, .int (nI (P))), (4, .int r24), (5, .int r34), (6, .int (nI (h))), (7, .int r54), (8, .int r64), (9, .int (wtS S (tF 7 (tF 10 S 0 40) (nI (j)) 0) P c r34)), (10, .int 1), (11, .int (nI (ix + 1)))] := lv_sub hl [6, 7, 8, 9, 10, 11, 12, 13, 14, 2, 1, 0] rfl
  refine W.widen (k := 24 * (ix) + 30) (n := 6 * (24 * (ix) + 30)) (by omega) (by omega) ?_
  exact kk _ _ _ hO hQ hS hl
set_option maxHeartbeats 8000000 in
set_option maxRecDepth 100000 in
theorem st_2b {p : Program} {l : Launch} {e : Env} {s : State} {m : MethodId} {args : Array Value} {below : List Frame} {meth : Method} {co : Code} {D : va_G} {E : Nat → ClassId} {o : Nat} {q : Nat} {S : aT} {Q : State → Prop} {H : Heap} {locs : List Loc} {ls : Array Slot} {X P h j c ix : Nat} {r24 r34 r54 r64 cs r194 : Int32} (K : lK p l s m args co D E (rAA o q) cL_steps 20 wsL_steps) (hd : djo o q) (hO : Ob D E o (tF 7 (tF 10 S 0 40) (nI (j)) 0) H) (hQ : Ob D E q (tF 7 (tF 10 S 0 40) (nI (j)) 0) H) (hS : va_S (rAA o q) s.heap H locs) (hl : lv_has ls 20 [(19, .int (wtS S (tF 7 (tF 10 S 0 40) (nI (j)) 0) P c r34)), (17, .int r194), (12, .int (nI (j))), (0, .ref o), (1, .ref q), (2, .int (nI (X))), (3, .int (nI (P))), (4, .int r24), (5, .int r34), (6, .int (nI (h))), (7, .int r54), (8, .int r64), (9, .int cs), (10, .int 1), (11, .int (nI (ix)))]) (hK : ix < 4) (hP : P < 2) (Y : stY S P j c) (h194 : r194 = aF 6 S 0 0 0) (hk0 : ¬ ix = 0) (h64 : r64 = aF 2 S 4 0 0) (hcs : aF 2 (tF 7 (tF 10 S 0 40) (nI (j)) 0) 4 0 0 < aF 2 S 4 0 0 ∨ cs < (wtS S (tF 7 (tF 10 S 0 40) (nI (j)) 0) P c r34) ∨ (wtS S (tF 7 (tF 10 S 0 40) (nI (j)) 0) P c r34) = cs ∧ ¬ nI j < r24)
    (kk : ∀ (H : Heap) (locs : List Loc) (ls : Array Slot), Ob D E o (cuS S 12) H → Ob D E q (cuS S 12) H → va_S (rAA o q) s.heap H locs → lv_has ls 20 [(0, .ref o), (1, .ref q), (2, .int (nI (X))), (3, .int (nI (P))), (4, .int r24), (5, .int r34), (6, .int (nI (h))), (7, .int r54), (8, .int r64), (9, .int cs), (10, .int 1), (11, .int (nI (ix + 1)))] → W p l e (lRm 10 130 780) s m args below meth co H locs (24 * (ix) + 30) (6 * (24 * (ix) + 30)) Q (F0 m 78 ls [])) : W p l e (lRm 10 130 780) s m args below meth co H locs (24 * (ix) + 21) (6 * (24 * (ix) + 21)) Q (F0 m 394 ls []) := by
  obtain ⟨hx, hb, hml, hown, hts, hKX, hZ, hNc, hst⟩ := id K
  obtain ⟨y1, y2, y3, y4, y5, y6, y7, y8, y9⟩ := Y
  refine lv_iload hx hb dL_steps_394 (lv_at hl 13 rfl) ?_
  refine lv_if_eq (tgt := 442) hx hb dL_steps_396 (by decide) (fun z => absurd z (show ¬ (1 : Int32) = 0 by decide)) (fun _ => ?_)
  refine lv_iload hx hb dL_steps_399 (lv_at hl 14 rfl) ?_
  refine lv_if_eq (tgt := 438) hx hb dL_steps_401 (by decide) (fun z => absurd z (fun q => hk0 (nI_inj (a := ix) (b := 0) (by omega) (by decide) q))) (fun _ => ?_)
  refine lv_aload_n hx hb dL_steps_404 rfl (lv_at hl 3 rfl) ?_
  refine lv_iconst (v := 2) hx hb dL_steps_405 (by decide) ?_
  refine lv_iconst (v := 4) hx hb dL_steps_406 (by decide) ?_
  refine lv_iconst (v := 0) hx hb dL_steps_407 (by decide) ?_
  refine lv_iconst (v := 0) hx hb dL_steps_408 (by decide) ?_
  refine l_go (cells' := 24 * (ix) + 22) (slots' := 6 * (24 * (ix) + 22)) (l_runS (P := Ob D E o (tF 7 (tF 10 S 0 40) (nI (j)) 0)) (As := [.ref o, .int 2, .int 4, .int 0, .int 0]) (rest := []) ⟨hx, hb, hml, hown, hts⟩ (c_call_2 l hst D E o (tF 7 (tF 10 S 0 40) (nI (j)) 0) 4 0 0) (va_cwS 5 hts gL_steps_L_call rfl rfl rfl (by decide +kernel) ⟨Nat.le_of_ble_eq_true rfl, Nat.le_of_ble_eq_true rfl⟩) hO hKX (l_Z hZ hS (fun _ h => Or.inl h)) hNc rfl hl rfl (Nat.le_of_ble_eq_true rfl) dL_steps_409 ⟨by show 24 * (ix) + 21 + 1 ≤ 130; omega, by show 6 * (24 * (ix) + 21) + 6 ≤ 780; omega⟩) hS (fun _ h => Or.inl h) ⟨by omega, by omega⟩ (fun r409 H locs hp hq hz hS => ?_)
  obtain ⟨h409, hO⟩ := hp
  rw [tF_2] at hO
  have hQ := hQ.kept hq (dj_1 hd)
  refine lv_iload hx hb dL_steps_412 (lv_at hl 11 rfl) ?_
  refine w_cutP (J := 438) (rest := []) (P0 := True) (fun kk => ?_) (fun _ => ?_)
  · refine lv_icmp_lt (tgt := 438) hx hb dL_steps_414 (by decide) (fun d1 => ?_) (fun d1 => ?_)
    · exact kk trivial
    · refine lv_iload hx hb dL_steps_417 (lv_at hl 0 rfl) ?_
      refine lv_iload hx hb dL_steps_419 (lv_at hl 12 rfl) ?_
      refine lv_icmp_gt (tgt := 438) hx hb dL_steps_421 (by decide) (fun d2 => ?_) (fun d2 => ?_)
      · exact kk trivial
      · have hz : (wtS S (tF 7 (tF 10 S 0 40) (nI (j)) 0) P c r34) = cs ∧ ¬ nI j < r24 := by
          rcases hcs with z | z | z
          · exact absurd (by rw [h409, h64]; exact z) d1
          · exact absurd z d2
          · exact z
        refine lv_iload hx hb dL_steps_424 (lv_at hl 0 rfl) ?_
        refine lv_iload hx hb dL_steps_426 (lv_at hl 12 rfl) ?_
        refine lv_icmp_ne (tgt := 442) hx hb dL_steps_428 (by decide) (fun z => absurd (hz.1) z) (fun _ => ?_)
        refine lv_iload hx hb dL_steps_431 (lv_at hl 2 rfl) ?_
        refine lv_iload hx hb dL_steps_433 (lv_at hl 7 rfl) ?_
        refine lv_icmp_lt (tgt := 442) hx hb dL_steps_435 (by decide) (fun z => absurd z (hz.2)) (fun _ => ?_)
        exact kk trivial
  refine lv_iconst (v := 1) hx hb dL_steps_438 (by decide) ?_
  refine lv_goto (tgt := 443) hx hb dL_steps_439 (by decide) ?_
  refine lv_istore (lv' := [(10, .int 1), (19, .int (wtS S (tF 7 (tF 10 S 0 40) (nI (j)) 0) P c r34)), (17, .int r194), (12, .int (nI (j))), (0, .ref o), (1, .ref q), (2, .int (nI (X))), (3, .int (nI (P))), (4, .int r24), (5, .int r34), (6, .int (nI (h))), (7, .int r54), (8, .int r64), (9, .int cs), (11, .int (nI (ix)))]) hx hb dL_steps_443 hl (by decide) rfl (fun ls hl => ?_)
  refine lv_iload hx hb dL_steps_445 (lv_at hl 14 rfl) ?_
  refine lv_if_ne (tgt := 455) hx hb dL_steps_447 (by decide) (fun _ => ?_) (fun z => absurd z (fun q => hk0 (nI_inj (a := ix) (b := 0) (by omega) (by decide) q)))
  refine lv_iload hx hb dL_steps_455 (lv_at hl 13 rfl) ?_
  refine lv_istore (lv' := [(9, .int cs), (10, .int 1), (19, .int (wtS S (tF 7 (tF 10 S 0 40) (nI (j)) 0) P c r34)), (17, .int r194), (12, .int (nI (j))), (0, .ref o), (1, .ref q), (2, .int (nI (X))), (3, .int (nI (P))), (4, .int r24), (5, .int r34), (6, .int (nI (h))), (7, .int r54), (8, .int r64), (11, .int (nI (ix)))]) hx hb dL_steps_457 hl (by decide) rfl (fun ls hl => ?_)
  refine lv_iload hx hb dL_steps_459 (lv_at hl 1 rfl) ?_
  refine lv_if_eq (tgt := 542) hx hb dL_steps_461 (by decide) (fun z => absurd z (show ¬ (1 : Int32) = 0 by decide)) (fun _ => ?_)
  refine lv_aload_n hx hb dL_steps_464 rfl (lv_at hl 5 rfl) ?_
  refine lv_bipush (v := 11) hx hb dL_steps_465 (by decide) ?_
  refine lv_iconst (v := 0) hx hb dL_steps_467 (by decide) ?_
  refine lv_iconst (v := 0) hx hb dL_steps_468 (by decide) ?_
  refine lv_iconst (v := 0) hx hb dL_steps_469 (by decide) ?_
  refine l_go (cells' := 24 * (ix) + 23) (slots' := 6 * (24 * (ix) + 23)) (l_runS (P := Ob D E o (tF 7 (tF 10 S 0 40) (nI (j)) 0)) (As := [.ref o, .int 11, .int 0, .int 0, .int 0]) (rest := []) ⟨hx, hb, hml, hown, hts⟩ (c_call_11 l hst D E o (tF 7 (tF 10 S 0 40) (nI (j)) 0) 0 0 0) (va_cwS 5 hts gL_steps_L_call rfl rfl rfl (by decide +kernel) ⟨Nat.le_of_ble_eq_true rfl, Nat.le_of_ble_eq_true rfl⟩) hO hKX (l_Z hZ hS (fun _ h => Or.inl h)) hNc rfl hl rfl (Nat.le_of_ble_eq_true rfl) dL_steps_470 ⟨by show 24 * (ix) + 22 + 1 ≤ 130; omega, by show 6 * (24 * (ix) + 22) + 6 ≤ 780; omega⟩) hS (fun _ h => Or.inl h) ⟨by omega, by omega⟩ (fun r470 H locs hp hq hz hS => ?_)
  obtain ⟨h470, hO⟩ := hp
  have hQ := hQ.kept hq (dj_1 hd)
  refine l_go (cells' := 24 * (ix) + 23) (slots' := 6 * (24 * (ix) + 23)) (l_runS (A1 := bNo) (P := (fun _ => True)) (As := [.int r470]) (rest := []) ⟨hx, hb, hml, hown, hts⟩ (c_thrown l D E r470 (by rw [h470]; exact y7)) (va_cwS 1 hts gL_steps_L_thrown rfl rfl rfl (by decide +kernel) ⟨Nat.le_of_ble_eq_true rfl, Nat.le_of_ble_eq_true rfl⟩) trivial hKX (l_Z hZ hS (fun _ h => h.elim)) hNc rfl hl rfl (Nat.le_of_ble_eq_true rfl) dL_steps_473 ⟨by show 24 * (ix) + 23 + 0 ≤ 130; omega, by show 6 * (24 * (ix) + 23) + 0 ≤ 780; omega⟩) hS (fun _ h => h.elim) ⟨by omega, by omega⟩ (fun r473 H locs h473 hq hz hS => ?_)
  have hO := hO.kept hq (fun _ _ _ h => h)
  have hQ := hQ.kept hq (fun _ _ _ h => h)
  refine lv_if_ne (tgt := 542) hx hb dL_steps_476 (by decide) (fun z => absurd (h473) z) (fun _ => ?_)
  refine lv_aload_n hx hb dL_steps_479 rfl (lv_at hl 6 rfl) ?_
  refine lv_bipush (v := 11) hx hb dL_steps_480 (by decide) ?_
  refine lv_iconst (v := 0) hx hb dL_steps_482 (by decide) ?_
  refine lv_iconst (v := 0) hx hb dL_steps_483 (by decide) ?_
  refine lv_iconst (v := 0) hx hb dL_steps_484 (by decide) ?_
  refine l_go (cells' := 24 * (ix) + 24) (slots' := 6 * (24 * (ix) + 24)) (l_runS (P := Ob D E q (tF 7 (tF 10 S 0 40) (nI (j)) 0)) (As := [.ref q, .int 11, .int 0, .int 0, .int 0]) (rest := []) ⟨hx, hb, hml, hown, hts⟩ (c_call_11 l hst D E q (tF 7 (tF 10 S 0 40) (nI (j)) 0) 0 0 0) (va_cwS 5 hts gL_steps_L_call rfl rfl rfl (by decide +kernel) ⟨Nat.le_of_ble_eq_true rfl, Nat.le_of_ble_eq_true rfl⟩) hQ hKX (l_Z hZ hS (fun _ h => Or.inr h)) hNc rfl hl rfl (Nat.le_of_ble_eq_true rfl) dL_steps_485 ⟨by show 24 * (ix) + 23 + 1 ≤ 130; omega, by show 6 * (24 * (ix) + 23) + 6 ≤ 780; omega⟩) hS (fun _ h => Or.inr h) ⟨by omega, by omega⟩ (fun r485 H locs hp hq hz hS => ?_)
  obtain ⟨h485, hQ⟩ := hp
  have hO := hO.kept hq (dj_2 hd)
  refine l_go (cells' := 24 * (ix) + 24) (slots' := 6 * (24 * (ix) + 24)) (l_runS (A1 := bNo) (P := (fun _ => True)) (As := [.int r485]) (rest := []) ⟨hx, hb, hml, hown, hts⟩ (c_thrown l D E r485 (by rw [h485]; exact y7)) (va_cwS 1 hts gL_steps_L_thrown rfl rfl rfl (by decide +kernel) ⟨Nat.le_of_ble_eq_true rfl, Nat.le_of_ble_eq_true rfl⟩) trivial hKX (l_Z hZ hS (fun _ h => h.elim)) hNc rfl hl rfl (Nat.le_of_ble_eq_true rfl) dL_steps_488 ⟨by show 24 * (ix) + 24 + 0 ≤ 130; omega, by show 6 * (24 * (ix) + 24) + 0 ≤ 780; omega⟩) hS (fun _ h => h.elim) ⟨by omega, by omega⟩ (fun r488 H locs h488 hq hz hS => ?_)
  have hO := hO.kept hq (fun _ _ _ h => h)
  have hQ := hQ.kept hq (fun _ _ _ h => h)
  refine lv_if_ne (tgt := 542) hx hb dL_steps_491 (by decide) (fun z => absurd (h488) z) (fun _ => ?_)
  refine lv_aload_n hx hb dL_steps_494 rfl (lv_at hl 5 rfl) ?_
  refine lv_bipush (v := 11) hx hb dL_steps_495 (by decide) ?_
  refine lv_iconst (v := 0) hx hb dL_steps_497 (by decide) ?_
  refine lv_iconst (v := 0) hx hb dL_steps_498 (by decide) ?_
  refine lv_iconst (v := 0) hx hb dL_steps_499 (by decide) ?_
  refine l_go (cells' := 24 * (ix) + 25) (slots' := 6 * (24 * (ix) + 25)) (l_runS (P := Ob D E o (tF 11 (tF 7 (tF 10 S 0 40) (nI (j)) 0) 0 0)) (As := [.ref o, .int 11, .int 0, .int 0, .int 0]) (rest := []) ⟨hx, hb, hml, hown, hts⟩ (c_call_11 l hst D E o (tF 11 (tF 7 (tF 10 S 0 40) (nI (j)) 0) 0 0) 0 0 0) (va_cwS 5 hts gL_steps_L_call rfl rfl rfl (by decide +kernel) ⟨Nat.le_of_ble_eq_true rfl, Nat.le_of_ble_eq_true rfl⟩) hO hKX (l_Z hZ hS (fun _ h => Or.inl h)) hNc rfl hl rfl (Nat.le_of_ble_eq_true rfl) dL_steps_500 ⟨by show 24 * (ix) + 24 + 1 ≤ 130; omega, by show 6 * (24 * (ix) + 24) + 6 ≤ 780; omega⟩) hS (fun _ h => Or.inl h) ⟨by omega, by omega⟩ (fun r500 H locs hp hq hz hS => ?_)
  obtain ⟨h500, hO⟩ := hp
  rw [y9] at hO
  have hQ := hQ.kept hq (dj_1 hd)
  refine l_go (cells' := 24 * (ix) + 25) (slots' := 6 * (24 * (ix) + 25)) (l_runS (A1 := bNo) (P := (fun _ => True)) (As := [.int r500]) (rest := []) ⟨hx, hb, hml, hown, hts⟩ (c_thrown l D E r500 (by rw [h500]; exact y8)) (va_cwS 1 hts gL_steps_L_thrown rfl rfl rfl (by decide +kernel) ⟨Nat.le_of_ble_eq_true rfl, Nat.le_of_ble_eq_true rfl⟩) trivial hKX (l_Z hZ hS (fun _ h => h.elim)) hNc rfl hl rfl (Nat.le_of_ble_eq_true rfl) dL_steps_503 ⟨by show 24 * (ix) + 25 + 0 ≤ 130; omega, by show 6 * (24 * (ix) + 25) + 0 ≤ 780; omega⟩) hS (fun _ h => h.elim) ⟨by omega, by omega⟩ (fun r503 H locs h503 hq hz hS => ?_)
  have hO := hO.kept hq (fun _ _ _ h => h)
  have hQ := hQ.kept hq (fun _ _ _ h => h)
  refine lv_if_ne (tgt := 542) hx hb dL_steps_506 (by decide) (fun z => absurd (h503) z) (fun _ => ?_)
  refine lv_aload_n hx hb dL_steps_509 rfl (lv_at hl 6 rfl) ?_
  refine lv_bipush (v := 11) hx hb dL_steps_510 (by decide) ?_
  refine lv_iconst (v := 0) hx hb dL_steps_512 (by decide) ?_
  refine lv_iconst (v := 0) hx hb dL_steps_513 (by decide) ?_
  refine lv_iconst (v := 0) hx hb dL_steps_514 (by decide) ?_
  refine l_go (cells' := 24 * (ix) + 26) (slots' := 6 * (24 * (ix) + 26)) (l_runS (P := Ob D E q (tF 11 (tF 7 (tF 10 S 0 40) (nI (j)) 0) 0 0)) (As := [.ref q, .int 11, .int 0, .int 0, .int 0]) (rest := []) ⟨hx, hb, hml, hown, hts⟩ (c_call_11 l hst D E q (tF 11 (tF 7 (tF 10 S 0 40) (nI (j)) 0) 0 0) 0 0 0) (va_cwS 5 hts gL_steps_L_call rfl rfl rfl (by decide +kernel) ⟨Nat.le_of_ble_eq_true rfl, Nat.le_of_ble_eq_true rfl⟩) hQ hKX (l_Z hZ hS (fun _ h => Or.inr h)) hNc rfl hl rfl (Nat.le_of_ble_eq_true rfl) dL_steps_515 ⟨by show 24 * (ix) + 25 + 1 ≤ 130; omega, by show 6 * (24 * (ix) + 25) + 6 ≤ 780; omega⟩) hS (fun _ h => Or.inr h) ⟨by omega, by omega⟩ (fun r515 H locs hp hq hz hS => ?_)
  obtain ⟨h515, hQ⟩ := hp
  rw [y9] at hQ
  have hO := hO.kept hq (dj_2 hd)
  refine l_go (cells' := 24 * (ix) + 26) (slots' := 6 * (24 * (ix) + 26)) (l_runS (A1 := bNo) (P := (fun _ => True)) (As := [.int r515]) (rest := []) ⟨hx, hb, hml, hown, hts⟩ (c_thrown l D E r515 (by rw [h515]; exact y8)) (va_cwS 1 hts gL_steps_L_thrown rfl rfl rfl (by decide +kernel) ⟨Nat.le_of_ble_eq_true rfl, Nat.le_of_ble_eq_true rfl⟩) trivial hKX (l_Z hZ hS (fun _ h => h.elim)) hNc rfl hl rfl (Nat.le_of_ble_eq_true rfl) dL_steps_518 ⟨by show 24 * (ix) + 26 + 0 ≤ 130; omega, by show 6 * (24 * (ix) + 26) + 0 ≤ 780; omega⟩) hS (fun _ h => h.elim) ⟨by omega, by omega⟩ (fun r518 H locs h518 hq hz hS => ?_)
  have hO := hO.kept hq (fun _ _ _ h => h)
  have hQ := hQ.kept hq (fun _ _ _ h => h)
  refine lv_if_ne (tgt := 542) hx hb dL_steps_521 (by decide) (fun z => absurd (h518) z) (fun _ => ?_)
  refine lv_aload_n hx hb dL_steps_524 rfl (lv_at hl 5 rfl) ?_
  refine lv_bipush (v := 6) hx hb dL_steps_525 (by decide) ?_
  refine lv_iconst (v := 0) hx hb dL_steps_527 (by decide) ?_
  refine lv_iconst (v := 0) hx hb dL_steps_528 (by decide) ?_
  refine lv_iconst (v := 0) hx hb dL_steps_529 (by decide) ?_
  refine l_go (cells' := 24 * (ix) + 27) (slots' := 6 * (24 * (ix) + 27)) (l_runS (P := Ob D E o (cuS S 12)) (As := [.ref o, .int 6, .int 0, .int 0, .int 0]) (rest := []) ⟨hx, hb, hml, hown, hts⟩ (c_call_6 l hst D E o (cuS S 12) 0 0 0) (va_cwS 5 hts gL_steps_L_call rfl rfl rfl (by decide +kernel) ⟨Nat.le_of_ble_eq_true rfl, Nat.le_of_ble_eq_true rfl⟩) hO hKX (l_Z hZ hS (fun _ h => Or.inl h)) hNc rfl hl rfl (Nat.le_of_ble_eq_true rfl) dL_steps_530 ⟨by show 24 * (ix) + 26 + 1 ≤ 130; omega, by show 6 * (24 * (ix) + 26) + 6 ≤ 780; omega⟩) hS (fun _ h => Or.inl h) ⟨by omega, by omega⟩ (fun r530 H locs hp hq hz hS => ?_)
  obtain ⟨h530, hO⟩ := hp
  rw [tF_6] at hO
  have hQ := hQ.kept hq (dj_1 hd)
  refine lv_iload hx hb dL_steps_533 (lv_at hl 3 rfl) ?_
  refine lv_icmp_ne (tgt := 542) hx hb dL_steps_535 (by decide) (fun z => absurd (h530.trans ((a_se (p := 0) (by decide)).trans ((a_se (S := S) (p := 0) (by decide)).symm.trans h194.symm))) z) (fun _ => ?_)
  refine lv_iconst (v := 1) hx hb dL_steps_538 (by decide) ?_
  refine lv_goto (tgt := 543) hx hb dL_steps_539 (by decide) ?_
  refine lv_istore (lv' := [(10, .int 1), (9, .int cs), (19, .int (wtS S (tF 7 (tF 10 S 0 40) (nI (j)) 0) P c r34)), (17, .int r194), (12, .int (nI (j))), (0, .ref o), (1, .ref q), (2, .int (nI (X))), (3, .int (nI (P))), (4, .int r24), (5, .int r34), (6, .int (nI (h))), (7, .int r54), (8, .int r64), (11, .int (nI (ix)))]) hx hb dL_steps_543 hl (by decide) rfl (fun ls hl => ?_)
  refine lv_goto (tgt := 634) hx hb dL_steps_545 (by decide) ?_
  refine lv_iinc (v := (nI (ix + 1))) (lv' := [(11, .int (nI (ix + 1))), (10, .int 1), (9, .int cs), (19, .int (wtS S (tF 7 (tF 10 S 0 40) (nI (j)) 0) P c r34)), (17, .int r194), (12, .int (nI (j))), (0, .ref o), (1, .ref q), (2, .int (nI (X))), (3, .int (nI (P))), (4, .int r24), (5, .int r34), (6, .int (nI (h))), (7, .int r54), (8, .int r64)]) hx hb dL_steps_634 hl (k := 14) rfl (nI_1 _) (by decide) rfl (fun ls hl => ?_)
  refine lv_goto (tgt := 78) hx hb dL_steps_637 (by decide) ?_
  have hl : lv_has ls 20 [(0, .ref o), (1, .ref q), (2, .int (nI (X))), (3, .int (nI (P))), (4, .int r24), (5, .int r34), (6, .int (nI (h))), (7, .int r54), (8, .int r64), (9, .int cs), (10, .int 1), (11, .int (nI (ix + 1)))] := lv_sub hl [6, 7, 8, 9, 10, 11, 12, 13, 14, 2, 1, 0] rfl
  refine W.widen (k := 24 * (ix) + 30) (n := 6 * (24 * (ix) + 30)) (by omega) (by omega) ?_
  exact kk _ _ _ hO hQ hS hl
set_option maxHeartbeats 8000000 in
set_option maxRecDepth 100000 in
theorem st_r0n {p : Program} {l : Launch} {e : Env} {s : State} {m : MethodId} {args : Array Value} {below : List Frame} {meth : Method} {co : Code} {D : va_G} {E : Nat → ClassId} {o : Nat} {q : Nat} {S : aT} {Q : State → Prop} {H : Heap} {locs : List Loc} {ls : Array Slot} {X P h ix : Nat} {r24 r34 r54 r64 cs : Int32} (K : lK p l s m args co D E (rAA o q) cL_steps 20 wsL_steps) (hd : djo o q) (hO : Ob D E o S H) (hQ : Ob D E q S H) (hS : va_S (rAA o q) s.heap H locs) (hl : lv_has ls 20 [(0, .ref o), (1, .ref q), (2, .int (nI (X))), (3, .int (nI (P))), (4, .int r24), (5, .int r34), (6, .int (nI (h))), (7, .int r54), (8, .int r64), (9, .int cs), (10, .int 1), (11, .int (nI (ix)))]) (hK : ix < 4) (hk0 : ix = 0) (hb1 : r24 = -1)
    (kk : ∀ (H : Heap) (locs : List Loc) (ls : Array Slot), Ob D E o S H → Ob D E q S H → va_S (rAA o q) s.heap H locs → lv_has ls 20 [(0, .ref o), (1, .ref q), (2, .int (nI (X))), (3, .int (nI (P))), (4, .int r24), (5, .int r34), (6, .int (nI (h))), (7, .int r54), (8, .int r64), (9, .int cs), (10, .int 1), (11, .int (nI (ix + 1)))] → W p l e (lRm 10 130 780) s m args below meth co H locs (24 * (ix) + 30) (6 * (24 * (ix) + 30)) Q (F0 m 78 ls [])) : W p l e (lRm 10 130 780) s m args below meth co H locs (24 * (ix) + 6) (6 * (24 * (ix) + 6)) Q (F0 m 78 ls []) := by
  obtain ⟨hx, hb, hml, hown, hts, hKX, hZ, hNc, hst⟩ := id K
  refine lv_iload hx hb dL_steps_78 (lv_at hl 11 rfl) ?_
  refine lv_iconst (v := 4) hx hb dL_steps_80 (by decide) ?_
  refine lv_icmp_ge (tgt := 640) hx hb dL_steps_81 (by decide) (fun z => absurd z (nI_ge (a := ix) (b := 4) hK (by decide))) (fun _ => ?_)
  refine lv_iload hx hb dL_steps_84 (lv_at hl 10 rfl) ?_
  refine lv_if_eq (tgt := 640) hx hb dL_steps_86 (by decide) (fun z => absurd z (show ¬ (1 : Int32) = 0 by decide)) (fun _ => ?_)
  refine lv_iload hx hb dL_steps_89 (lv_at hl 11 rfl) ?_
  refine lv_if_ne (tgt := 99) hx hb dL_steps_91 (by decide) (fun z => absurd (by rw [hk0]; rfl) z) (fun _ => ?_)
  refine lv_iload hx hb dL_steps_94 (lv_at hl 4 rfl) ?_
  refine lv_goto (tgt := 103) hx hb dL_steps_96 (by decide) ?_
  refine w_eqI (hb1) ?_
  refine lv_istore (lv' := [(12, .int (-1)), (0, .ref o), (1, .ref q), (2, .int (nI (X))), (3, .int (nI (P))), (4, .int r24), (5, .int r34), (6, .int (nI (h))), (7, .int r54), (8, .int r64), (9, .int cs), (10, .int 1), (11, .int (nI (ix)))]) hx hb dL_steps_103 hl (by decide) rfl (fun ls hl => ?_)
  refine lv_iload hx hb dL_steps_105 (lv_at hl 0 rfl) ?_
  refine lv_iconst (v := (-1)) hx hb dL_steps_107 (by decide) ?_
  refine lv_icmp_ne (tgt := 115) hx hb dL_steps_108 (by decide) (fun z => absurd (rfl) z) (fun _ => ?_)
  refine lv_iconst (v := 1) hx hb dL_steps_111 (by decide) ?_
  refine lv_goto (tgt := 125) hx hb dL_steps_112 (by decide) ?_
  refine lv_istore (lv' := [(13, .int 1), (12, .int (-1)), (0, .ref o), (1, .ref q), (2, .int (nI (X))), (3, .int (nI (P))), (4, .int r24), (5, .int r34), (6, .int (nI (h))), (7, .int r54), (8, .int r64), (9, .int cs), (10, .int 1), (11, .int (nI (ix)))]) hx hb dL_steps_125 hl (by decide) rfl (fun ls hl => ?_)
  refine lv_iload hx hb dL_steps_127 (lv_at hl 0 rfl) ?_
  refine lv_if_ne (tgt := 548) hx hb dL_steps_129 (by decide) (fun _ => ?_) (fun z => absurd z (show ¬ (1 : Int32) = 0 by decide))
  refine lv_iload hx hb dL_steps_548 (lv_at hl 1 rfl) ?_
  refine lv_iconst (v := (-1)) hx hb dL_steps_550 (by decide) ?_
  refine lv_icmp_eq (tgt := 634) hx hb dL_steps_551 (by decide) (fun _ => ?_) (fun z => absurd (rfl) z)
  refine lv_iinc (v := (nI (ix + 1))) (lv' := [(11, .int (nI (ix + 1))), (13, .int 1), (12, .int (-1)), (0, .ref o), (1, .ref q), (2, .int (nI (X))), (3, .int (nI (P))), (4, .int r24), (5, .int r34), (6, .int (nI (h))), (7, .int r54), (8, .int r64), (9, .int cs), (10, .int 1)]) hx hb dL_steps_634 hl (k := 13) rfl (nI_1 _) (by decide) rfl (fun ls hl => ?_)
  refine lv_goto (tgt := 78) hx hb dL_steps_637 (by decide) ?_
  have hl : lv_has ls 20 [(0, .ref o), (1, .ref q), (2, .int (nI (X))), (3, .int (nI (P))), (4, .int r24), (5, .int r34), (6, .int (nI (h))), (7, .int r54), (8, .int r64), (9, .int cs), (10, .int 1), (11, .int (nI (ix + 1)))] := lv_sub hl [3, 4, 5, 6, 7, 8, 9, 10, 11, 12, 13, 0] rfl
  refine W.widen (k := 24 * (ix) + 30) (n := 6 * (24 * (ix) + 30)) (by omega) (by omega) ?_
  exact kk _ _ _ hO hQ hS hl
set_option maxHeartbeats 8000000 in
set_option maxRecDepth 100000 in
theorem st_r0y {p : Program} {l : Launch} {e : Env} {s : State} {m : MethodId} {args : Array Value} {below : List Frame} {meth : Method} {co : Code} {D : va_G} {E : Nat → ClassId} {o : Nat} {q : Nat} {S : aT} {Q : State → Prop} {H : Heap} {locs : List Loc} {ls : Array Slot} {X P h j c ix : Nat} {r24 r34 r54 r64 cs : Int32} (K : lK p l s m args co D E (rAA o q) cL_steps 20 wsL_steps) (hd : djo o q) (hO : Ob D E o S H) (hQ : Ob D E q S H) (hS : va_S (rAA o q) s.heap H locs) (hl : lv_has ls 20 [(0, .ref o), (1, .ref q), (2, .int (nI (X))), (3, .int (nI (P))), (4, .int r24), (5, .int r34), (6, .int (nI (h))), (7, .int r54), (8, .int r64), (9, .int cs), (10, .int 1), (11, .int (nI (ix)))]) (hK : ix < 4) (hP : P < 2) (hh : h < 64) (hj : j < 3) (hc : c < 64) (hto : toI (nI h) (nI j) = nI c) (hwy : aF 12 S (nI j) 0 0 = 0) (Y : stY S P j c) (h34 : r34 = aF 3 S (nI P) 2 0) (h54 : r54 = aF 2 S 3 0 0) (hk0 : ix = 0) (hb1 : r24 = nI j)
    (kk : ∀ (H : Heap) (locs : List Loc) (ls : Array Slot), Ob D E o (cuS S 12) H → Ob D E q (cuS S 12) H → va_S (rAA o q) s.heap H locs → lv_has ls 20 [(0, .ref o), (1, .ref q), (2, .int (nI (X))), (3, .int (nI (P))), (4, .int r24), (5, .int r34), (6, .int (nI (h))), (7, .int r54), (8, .int r64), (9, .int (wtS S (tF 7 (tF 10 S 0 40) (nI (j)) 0) P c r34)), (10, .int 1), (11, .int (nI (ix + 1)))] → W p l e (lRm 10 130 780) s m args below meth co H locs (24 * (ix) + 30) (6 * (24 * (ix) + 30)) Q (F0 m 78 ls [])) : W p l e (lRm 10 130 780) s m args below meth co H locs (24 * (ix) + 6) (6 * (24 * (ix) + 6)) Q (F0 m 78 ls []) := by
  obtain ⟨hx, hb, hml, hown, hts, hKX, hZ, hNc, hst⟩ := id K
  refine lv_iload hx hb dL_steps_78 (lv_at hl 11 rfl) ?_
  refine lv_iconst (v := 4) hx hb dL_steps_80 (by decide) ?_
  refine lv_icmp_ge (tgt := 640) hx hb dL_steps_81 (by decide) (fun z => absurd z (nI_ge (a := ix) (b := 4) hK (by decide))) (fun _ => ?_)
  refine lv_iload hx hb dL_steps_84 (lv_at hl 10 rfl) ?_
  refine lv_if_eq (tgt := 640) hx hb dL_steps_86 (by decide) (fun z => absurd z (show ¬ (1 : Int32) = 0 by decide)) (fun _ => ?_)
  refine lv_iload hx hb dL_steps_89 (lv_at hl 11 rfl) ?_
  refine lv_if_ne (tgt := 99) hx hb dL_steps_91 (by decide) (fun z => absurd (by rw [hk0]; rfl) z) (fun _ => ?_)
  refine lv_iload hx hb dL_steps_94 (lv_at hl 4 rfl) ?_
  refine lv_goto (tgt := 103) hx hb dL_steps_96 (by decide) ?_
  refine w_eqI (hb1) ?_
  refine lv_istore (lv' := [(12, .int (nI (j))), (0, .ref o), (1, .ref q), (2, .int (nI (X))), (3, .int (nI (P))), (4, .int r24), (5, .int r34), (6, .int (nI (h))), (7, .int r54), (8, .int r64), (9, .int cs), (10, .int 1), (11, .int (nI (ix)))]) hx hb dL_steps_103 hl (by decide) rfl (fun ls hl => ?_)
  refine lv_iload hx hb dL_steps_105 (lv_at hl 0 rfl) ?_
  refine lv_iconst (v := (-1)) hx hb dL_steps_107 (by decide) ?_
  refine lv_icmp_ne (tgt := 115) hx hb dL_steps_108 (by decide) (fun _ => ?_) (fun z => absurd z (nI_ne_m1 (by omega)))
  refine lv_aload_n hx hb dL_steps_115 rfl (lv_at hl 1 rfl) ?_
  refine lv_bipush (v := 12) hx hb dL_steps_116 (by decide) ?_
  refine lv_iload hx hb dL_steps_118 (lv_at hl 0 rfl) ?_
  refine lv_iconst (v := 0) hx hb dL_steps_120 (by decide) ?_
  refine lv_iconst (v := 0) hx hb dL_steps_121 (by decide) ?_
  refine l_go (cells' := 24 * (ix) + 7) (slots' := 6 * (24 * (ix) + 7)) (l_runS (P := Ob D E o S) (As := [.ref o, .int 12, .int (nI (j)), .int 0, .int 0]) (rest := []) ⟨hx, hb, hml, hown, hts⟩ (c_call_12 l hst D E o S (nI (j)) 0 0) (va_cwS 5 hts gL_steps_L_call rfl rfl rfl (by decide +kernel) ⟨Nat.le_of_ble_eq_true rfl, Nat.le_of_ble_eq_true rfl⟩) hO hKX (l_Z hZ hS (fun _ h => Or.inl h)) hNc rfl hl rfl (Nat.le_of_ble_eq_true rfl) dL_steps_122 ⟨by show 24 * (ix) + 6 + 1 ≤ 130; omega, by show 6 * (24 * (ix) + 6) + 6 ≤ 780; omega⟩) hS (fun _ h => Or.inl h) ⟨by omega, by omega⟩ (fun r122 H locs hp hq hz hS => ?_)
  obtain ⟨h122, hO⟩ := hp
  have hO : Ob D E o S H := hO
  have hQ := hQ.kept hq (dj_1 hd)
  refine lv_istore (lv' := [(13, .int r122), (12, .int (nI (j))), (0, .ref o), (1, .ref q), (2, .int (nI (X))), (3, .int (nI (P))), (4, .int r24), (5, .int r34), (6, .int (nI (h))), (7, .int r54), (8, .int r64), (9, .int cs), (10, .int 1), (11, .int (nI (ix)))]) hx hb dL_steps_125 hl (by decide) rfl (fun ls hl => ?_)
  have hw : r122 = 0 := h122.trans hwy
  refine W.widen (k := 24 * (ix) + 8) (n := 6 * (24 * (ix) + 8)) (by omega) (by omega) ?_
  refine st_1 K hd hO hQ hS hl hK hP hh hc hto hw Y h34 h54 (fun H locs ls r194 hO hQ hS hl h194 => ?_)
  refine st_2a K hd hO hQ hS hl hK hP Y h194 hk0 (fun H locs ls hO hQ hS hl => ?_)
  exact kk _ _ _ hO hQ hS hl
set_option maxHeartbeats 8000000 in
set_option maxRecDepth 100000 in
theorem st_rky {p : Program} {l : Launch} {e : Env} {s : State} {m : MethodId} {args : Array Value} {below : List Frame} {meth : Method} {co : Code} {D : va_G} {E : Nat → ClassId} {o : Nat} {q : Nat} {S : aT} {Q : State → Prop} {H : Heap} {locs : List Loc} {ls : Array Slot} {X P h j c : Nat} {r24 r34 r54 r64 cs : Int32} (K : lK p l s m args co D E (rAA o q) cL_steps 20 wsL_steps) (hd : djo o q) (hO : Ob D E o S H) (hQ : Ob D E q S H) (hS : va_S (rAA o q) s.heap H locs) (hl : lv_has ls 20 [(0, .ref o), (1, .ref q), (2, .int (nI (X))), (3, .int (nI (P))), (4, .int r24), (5, .int r34), (6, .int (nI (h))), (7, .int r54), (8, .int r64), (9, .int cs), (10, .int 1), (11, .int (nI (j + 1)))]) (hP : P < 2) (hh : h < 64) (hj : j < 3) (hc : c < 64) (hto : toI (nI h) (nI j) = nI c) (hwy : aF 12 S (nI j) 0 0 = 0) (Y : stY S P j c) (h34 : r34 = aF 3 S (nI P) 2 0) (h54 : r54 = aF 2 S 3 0 0) (h64 : r64 = aF 2 S 4 0 0) (hcs : aF 2 (tF 7 (tF 10 S 0 40) (nI (j)) 0) 4 0 0 < aF 2 S 4 0 0 ∨ cs < (wtS S (tF 7 (tF 10 S 0 40) (nI (j)) 0) P c r34) ∨ (wtS S (tF 7 (tF 10 S 0 40) (nI (j)) 0) P c r34) = cs ∧ ¬ nI j < r24)
    (kk : ∀ (H : Heap) (locs : List Loc) (ls : Array Slot), Ob D E o (cuS S 12) H → Ob D E q (cuS S 12) H → va_S (rAA o q) s.heap H locs → lv_has ls 20 [(0, .ref o), (1, .ref q), (2, .int (nI (X))), (3, .int (nI (P))), (4, .int r24), (5, .int r34), (6, .int (nI (h))), (7, .int r54), (8, .int r64), (9, .int cs), (10, .int 1), (11, .int (nI (j + 1 + 1)))] → W p l e (lRm 10 130 780) s m args below meth co H locs (24 * (j + 1) + 30) (6 * (24 * (j + 1) + 30)) Q (F0 m 78 ls [])) : W p l e (lRm 10 130 780) s m args below meth co H locs (24 * (j + 1) + 6) (6 * (24 * (j + 1) + 6)) Q (F0 m 78 ls []) := by
  obtain ⟨hx, hb, hml, hown, hts, hKX, hZ, hNc, hst⟩ := id K
  refine lv_iload hx hb dL_steps_78 (lv_at hl 11 rfl) ?_
  refine lv_iconst (v := 4) hx hb dL_steps_80 (by decide) ?_
  refine lv_icmp_ge (tgt := 640) hx hb dL_steps_81 (by decide) (fun z => absurd z (nI_ge (a := j + 1) (b := 4) (by omega) (by decide))) (fun _ => ?_)
  refine lv_iload hx hb dL_steps_84 (lv_at hl 10 rfl) ?_
  refine lv_if_eq (tgt := 640) hx hb dL_steps_86 (by decide) (fun z => absurd z (show ¬ (1 : Int32) = 0 by decide)) (fun _ => ?_)
  refine lv_iload hx hb dL_steps_89 (lv_at hl 11 rfl) ?_
  refine lv_if_ne (tgt := 99) hx hb dL_steps_91 (by decide) (fun _ => ?_) (fun z => absurd z (fun q => absurd (nI_inj (a := j + 1) (b := 0) (by omega) (by decide) q) (by omega)))
  refine lv_iload hx hb dL_steps_99 (lv_at hl 11 rfl) ?_
  refine lv_iconst (v := 1) hx hb dL_steps_101 (by decide) ?_
  refine w_sub (i := j + 1) (j := 1) hx hb rfl rfl (by omega) dL_steps_102 ?_
  refine w_eqI (congrArg nI (Nat.add_sub_cancel j 1)) ?_
  refine lv_istore (lv' := [(12, .int (nI (j))), (0, .ref o), (1, .ref q), (2, .int (nI (X))), (3, .int (nI (P))), (4, .int r24), (5, .int r34), (6, .int (nI (h))), (7, .int r54), (8, .int r64), (9, .int cs), (10, .int 1), (11, .int (nI (j + 1)))]) hx hb dL_steps_103 hl (by decide) rfl (fun ls hl => ?_)
  refine lv_iload hx hb dL_steps_105 (lv_at hl 0 rfl) ?_
  refine lv_iconst (v := (-1)) hx hb dL_steps_107 (by decide) ?_
  refine lv_icmp_ne (tgt := 115) hx hb dL_steps_108 (by decide) (fun _ => ?_) (fun z => absurd z (nI_ne_m1 (by omega)))
  refine lv_aload_n hx hb dL_steps_115 rfl (lv_at hl 1 rfl) ?_
  refine lv_bipush (v := 12) hx hb dL_steps_116 (by decide) ?_
  refine lv_iload hx hb dL_steps_118 (lv_at hl 0 rfl) ?_
  refine lv_iconst (v := 0) hx hb dL_steps_120 (by decide) ?_
  refine lv_iconst (v := 0) hx hb dL_steps_121 (by decide) ?_
  refine l_go (cells' := 24 * (j + 1) + 7) (slots' := 6 * (24 * (j + 1) + 7)) (l_runS (P := Ob D E o S) (As := [.ref o, .int 12, .int (nI (j)), .int 0, .int 0]) (rest := []) ⟨hx, hb, hml, hown, hts⟩ (c_call_12 l hst D E o S (nI (j)) 0 0) (va_cwS 5 hts gL_steps_L_call rfl rfl rfl (by decide +kernel) ⟨Nat.le_of_ble_eq_true rfl, Nat.le_of_ble_eq_true rfl⟩) hO hKX (l_Z hZ hS (fun _ h => Or.inl h)) hNc rfl hl rfl (Nat.le_of_ble_eq_true rfl) dL_steps_122 ⟨by show 24 * (j + 1) + 6 + 1 ≤ 130; omega, by show 6 * (24 * (j + 1) + 6) + 6 ≤ 780; omega⟩) hS (fun _ h => Or.inl h) ⟨by omega, by omega⟩ (fun r122 H locs hp hq hz hS => ?_)
  obtain ⟨h122, hO⟩ := hp
  have hO : Ob D E o S H := hO
  have hQ := hQ.kept hq (dj_1 hd)
  refine lv_istore (lv' := [(13, .int r122), (12, .int (nI (j))), (0, .ref o), (1, .ref q), (2, .int (nI (X))), (3, .int (nI (P))), (4, .int r24), (5, .int r34), (6, .int (nI (h))), (7, .int r54), (8, .int r64), (9, .int cs), (10, .int 1), (11, .int (nI (j + 1)))]) hx hb dL_steps_125 hl (by decide) rfl (fun ls hl => ?_)
  refine W.widen (k := 24 * (j + 1) + 8) (n := 6 * (24 * (j + 1) + 8)) (by omega) (by omega) ?_
  have hw : r122 = 0 := h122.trans hwy
  have hK : j + 1 < 4 := by omega
  refine st_1 K hd hO hQ hS hl hK hP hh hc hto hw Y h34 h54 (fun H locs ls r194 hO hQ hS hl h194 => ?_)
  have hk0 : ¬ j + 1 = 0 := by omega
  refine st_2b K hd hO hQ hS hl hK hP Y h194 hk0 h64 hcs (fun H locs ls hO hQ hS hl => ?_)
  exact kk _ _ _ hO hQ hS hl
set_option maxHeartbeats 8000000 in
set_option maxRecDepth 100000 in
theorem st_rkn {p : Program} {l : Launch} {e : Env} {s : State} {m : MethodId} {args : Array Value} {below : List Frame} {meth : Method} {co : Code} {D : va_G} {E : Nat → ClassId} {o : Nat} {q : Nat} {S : aT} {Q : State → Prop} {H : Heap} {locs : List Loc} {ls : Array Slot} {X P h j : Nat} {r24 r34 r54 r64 cs : Int32} (K : lK p l s m args co D E (rAA o q) cL_steps 20 wsL_steps) (hd : djo o q) (hO : Ob D E o S H) (hQ : Ob D E q S H) (hS : va_S (rAA o q) s.heap H locs) (hl : lv_has ls 20 [(0, .ref o), (1, .ref q), (2, .int (nI (X))), (3, .int (nI (P))), (4, .int r24), (5, .int r34), (6, .int (nI (h))), (7, .int r54), (8, .int r64), (9, .int cs), (10, .int 1), (11, .int (nI (j + 1)))]) (hj : j < 3) (hwn : ¬ aF 12 S (nI j) 0 0 = 0) (Nf : stN S j) (h54 : r54 = aF 2 S 3 0 0)
    (kk : ∀ (H : Heap) (locs : List Loc) (ls : Array Slot), Ob D E o (cuS S 13) H → Ob D E q (cuS S 13) H → va_S (rAA o q) s.heap H locs → lv_has ls 20 [(0, .ref o), (1, .ref q), (2, .int (nI (X))), (3, .int (nI (P))), (4, .int r24), (5, .int r34), (6, .int (nI (h))), (7, .int r54), (8, .int r64), (9, .int cs), (10, .int 1), (11, .int (nI (j + 1 + 1)))] → W p l e (lRm 10 130 780) s m args below meth co H locs (24 * (j + 1) + 30) (6 * (24 * (j + 1) + 30)) Q (F0 m 78 ls [])) : W p l e (lRm 10 130 780) s m args below meth co H locs (24 * (j + 1) + 6) (6 * (24 * (j + 1) + 6)) Q (F0 m 78 ls []) := by
  obtain ⟨hx, hb, hml, hown, hts, hKX, hZ, hNc, hst⟩ := id K
  refine lv_iload hx hb dL_steps_78 (lv_at hl 11 rfl) ?_
  refine lv_iconst (v := 4) hx hb dL_steps_80 (by decide) ?_
  refine lv_icmp_ge (tgt := 640) hx hb dL_steps_81 (by decide) (fun z => absurd z (nI_ge (a := j + 1) (b := 4) (by omega) (by decide))) (fun _ => ?_)
  refine lv_iload hx hb dL_steps_84 (lv_at hl 10 rfl) ?_
  refine lv_if_eq (tgt := 640) hx hb dL_steps_86 (by decide) (fun z => absurd z (show ¬ (1 : Int32) = 0 by decide)) (fun _ => ?_)
  refine lv_iload hx hb dL_steps_89 (lv_at hl 11 rfl) ?_
  refine lv_if_ne (tgt := 99) hx hb dL_steps_91 (by decide) (fun _ => ?_) (fun z => absurd z (fun q => absurd (nI_inj (a := j + 1) (b := 0) (by omega) (by decide) q) (by omega)))
  refine lv_iload hx hb dL_steps_99 (lv_at hl 11 rfl) ?_
  refine lv_iconst (v := 1) hx hb dL_steps_101 (by decide) ?_
  refine w_sub (i := j + 1) (j := 1) hx hb rfl rfl (by omega) dL_steps_102 ?_
  refine w_eqI (congrArg nI (Nat.add_sub_cancel j 1)) ?_
  refine lv_istore (lv' := [(12, .int (nI (j))), (0, .ref o), (1, .ref q), (2, .int (nI (X))), (3, .int (nI (P))), (4, .int r24), (5, .int r34), (6, .int (nI (h))), (7, .int r54), (8, .int r64), (9, .int cs), (10, .int 1), (11, .int (nI (j + 1)))]) hx hb dL_steps_103 hl (by decide) rfl (fun ls hl => ?_)
  refine lv_iload hx hb dL_steps_105 (lv_at hl 0 rfl) ?_
  refine lv_iconst (v := (-1)) hx hb dL_steps_107 (by decide) ?_
  refine lv_icmp_ne (tgt := 115) hx hb dL_steps_108 (by decide) (fun _ => ?_) (fun z => absurd z (nI_ne_m1 (by omega)))
  refine lv_aload_n hx hb dL_steps_115 rfl (lv_at hl 1 rfl) ?_
  refine lv_bipush (v := 12) hx hb dL_steps_116 (by decide) ?_
  refine lv_iload hx hb dL_steps_118 (lv_at hl 0 rfl) ?_
  refine lv_iconst (v := 0) hx hb dL_steps_120 (by decide) ?_
  refine lv_iconst (v := 0) hx hb dL_steps_121 (by decide) ?_
  refine l_go (cells' := 24 * (j + 1) + 7) (slots' := 6 * (24 * (j + 1) + 7)) (l_runS (P := Ob D E o S) (As := [.ref o, .int 12, .int (nI (j)), .int 0, .int 0]) (rest := []) ⟨hx, hb, hml, hown, hts⟩ (c_call_12 l hst D E o S (nI (j)) 0 0) (va_cwS 5 hts gL_steps_L_call rfl rfl rfl (by decide +kernel) ⟨Nat.le_of_ble_eq_true rfl, Nat.le_of_ble_eq_true rfl⟩) hO hKX (l_Z hZ hS (fun _ h => Or.inl h)) hNc rfl hl rfl (Nat.le_of_ble_eq_true rfl) dL_steps_122 ⟨by show 24 * (j + 1) + 6 + 1 ≤ 130; omega, by show 6 * (24 * (j + 1) + 6) + 6 ≤ 780; omega⟩) hS (fun _ h => Or.inl h) ⟨by omega, by omega⟩ (fun r122 H locs hp hq hz hS => ?_)
  obtain ⟨h122, hO⟩ := hp
  have hO : Ob D E o S H := hO
  have hQ := hQ.kept hq (dj_1 hd)
  refine lv_istore (lv' := [(13, .int r122), (12, .int (nI (j))), (0, .ref o), (1, .ref q), (2, .int (nI (X))), (3, .int (nI (P))), (4, .int r24), (5, .int r34), (6, .int (nI (h))), (7, .int r54), (8, .int r64), (9, .int cs), (10, .int 1), (11, .int (nI (j + 1)))]) hx hb dL_steps_125 hl (by decide) rfl (fun ls hl => ?_)
  refine W.widen (k := 24 * (j + 1) + 8) (n := 6 * (24 * (j + 1) + 8)) (by omega) (by omega) ?_
  obtain ⟨n1, n2, n3, n4⟩ := Nf
  refine lv_iload hx hb dL_steps_127 (lv_at hl 0 rfl) ?_
  refine lv_if_ne (tgt := 548) hx hb dL_steps_129 (by decide) (fun _ => ?_) (fun z => absurd z (fun q => hwn (h122.symm.trans q)))
  refine lv_iload hx hb dL_steps_548 (lv_at hl 1 rfl) ?_
  refine lv_iconst (v := (-1)) hx hb dL_steps_550 (by decide) ?_
  refine lv_icmp_eq (tgt := 634) hx hb dL_steps_551 (by decide) (fun z => absurd z (nI_ne_m1 (by omega))) (fun _ => ?_)
  refine lv_aload_n hx hb dL_steps_554 rfl (lv_at hl 2 rfl) ?_
  refine lv_bipush (v := 7) hx hb dL_steps_555 (by decide) ?_
  refine lv_iload hx hb dL_steps_557 (lv_at hl 1 rfl) ?_
  refine lv_iconst (v := 0) hx hb dL_steps_559 (by decide) ?_
  refine lv_iconst (v := 0) hx hb dL_steps_560 (by decide) ?_
  refine l_go (cells' := 24 * (j + 1) + 9) (slots' := 6 * (24 * (j + 1) + 9)) (l_runS (P := Ob D E o S) (As := [.ref o, .int 7, .int (nI (j)), .int 0, .int 0]) (rest := []) ⟨hx, hb, hml, hown, hts⟩ (c_call_7 l hst D E o S (nI (j)) 0 0) (va_cwS 5 hts gL_steps_L_call rfl rfl rfl (by decide +kernel) ⟨Nat.le_of_ble_eq_true rfl, Nat.le_of_ble_eq_true rfl⟩) hO hKX (l_Z hZ hS (fun _ h => Or.inl h)) hNc rfl hl rfl (Nat.le_of_ble_eq_true rfl) dL_steps_561 ⟨by show 24 * (j + 1) + 8 + 1 ≤ 130; omega, by show 6 * (24 * (j + 1) + 8) + 6 ≤ 780; omega⟩) hS (fun _ h => Or.inl h) ⟨by omega, by omega⟩ (fun r561 H locs hp hq hz hS => ?_)
  obtain ⟨h561, hO⟩ := hp
  have hQ := hQ.kept hq (dj_1 hd)
  refine lv_iload hx hb dL_steps_564 (lv_at hl 0 rfl) ?_
  refine lv_icmp_ne (tgt := 631) hx hb dL_steps_566 (by decide) (fun z => absurd (h561.trans (n1.trans h122.symm)) z) (fun _ => ?_)
  refine lv_aload_n hx hb dL_steps_569 rfl (lv_at hl 3 rfl) ?_
  refine lv_bipush (v := 7) hx hb dL_steps_570 (by decide) ?_
  refine lv_iload hx hb dL_steps_572 (lv_at hl 1 rfl) ?_
  refine lv_iconst (v := 0) hx hb dL_steps_574 (by decide) ?_
  refine lv_iconst (v := 0) hx hb dL_steps_575 (by decide) ?_
  refine l_go (cells' := 24 * (j + 1) + 10) (slots' := 6 * (24 * (j + 1) + 10)) (l_runS (P := Ob D E q S) (As := [.ref q, .int 7, .int (nI (j)), .int 0, .int 0]) (rest := []) ⟨hx, hb, hml, hown, hts⟩ (c_call_7 l hst D E q S (nI (j)) 0 0) (va_cwS 5 hts gL_steps_L_call rfl rfl rfl (by decide +kernel) ⟨Nat.le_of_ble_eq_true rfl, Nat.le_of_ble_eq_true rfl⟩) hQ hKX (l_Z hZ hS (fun _ h => Or.inr h)) hNc rfl hl rfl (Nat.le_of_ble_eq_true rfl) dL_steps_576 ⟨by show 24 * (j + 1) + 9 + 1 ≤ 130; omega, by show 6 * (24 * (j + 1) + 9) + 6 ≤ 780; omega⟩) hS (fun _ h => Or.inr h) ⟨by omega, by omega⟩ (fun r576 H locs hp hq hz hS => ?_)
  obtain ⟨h576, hQ⟩ := hp
  have hO := hO.kept hq (dj_2 hd)
  refine lv_iload hx hb dL_steps_579 (lv_at hl 0 rfl) ?_
  refine lv_icmp_ne (tgt := 631) hx hb dL_steps_581 (by decide) (fun z => absurd (h576.trans (n1.trans h122.symm)) z) (fun _ => ?_)
  refine lv_aload_n hx hb dL_steps_584 rfl (lv_at hl 2 rfl) ?_
  refine lv_iconst (v := 2) hx hb dL_steps_585 (by decide) ?_
  refine lv_iconst (v := 3) hx hb dL_steps_586 (by decide) ?_
  refine lv_iconst (v := 0) hx hb dL_steps_587 (by decide) ?_
  refine lv_iconst (v := 0) hx hb dL_steps_588 (by decide) ?_
  refine l_go (cells' := 24 * (j + 1) + 11) (slots' := 6 * (24 * (j + 1) + 11)) (l_runS (P := Ob D E o (tF 7 S (nI (j)) 0)) (As := [.ref o, .int 2, .int 3, .int 0, .int 0]) (rest := []) ⟨hx, hb, hml, hown, hts⟩ (c_call_2 l hst D E o (tF 7 S (nI (j)) 0) 3 0 0) (va_cwS 5 hts gL_steps_L_call rfl rfl rfl (by decide +kernel) ⟨Nat.le_of_ble_eq_true rfl, Nat.le_of_ble_eq_true rfl⟩) hO hKX (l_Z hZ hS (fun _ h => Or.inl h)) hNc rfl hl rfl (Nat.le_of_ble_eq_true rfl) dL_steps_589 ⟨by show 24 * (j + 1) + 10 + 1 ≤ 130; omega, by show 6 * (24 * (j + 1) + 10) + 6 ≤ 780; omega⟩) hS (fun _ h => Or.inl h) ⟨by omega, by omega⟩ (fun r589 H locs hp hq hz hS => ?_)
  obtain ⟨h589, hO⟩ := hp
  rw [tF_2] at hO
  have hQ := hQ.kept hq (dj_1 hd)
  refine lv_iload hx hb dL_steps_592 (lv_at hl 9 rfl) ?_
  refine lv_icmp_ne (tgt := 631) hx hb dL_steps_594 (by decide) (fun z => absurd (h589.trans (n2.trans h54.symm)) z) (fun _ => ?_)
  refine lv_aload_n hx hb dL_steps_597 rfl (lv_at hl 2 rfl) ?_
  refine lv_bipush (v := 11) hx hb dL_steps_598 (by decide) ?_
  refine lv_iconst (v := 0) hx hb dL_steps_600 (by decide) ?_
  refine lv_iconst (v := 0) hx hb dL_steps_601 (by decide) ?_
  refine lv_iconst (v := 0) hx hb dL_steps_602 (by decide) ?_
  refine l_go (cells' := 24 * (j + 1) + 12) (slots' := 6 * (24 * (j + 1) + 12)) (l_runS (P := Ob D E o (tF 7 S (nI (j)) 0)) (As := [.ref o, .int 11, .int 0, .int 0, .int 0]) (rest := []) ⟨hx, hb, hml, hown, hts⟩ (c_call_11 l hst D E o (tF 7 S (nI (j)) 0) 0 0 0) (va_cwS 5 hts gL_steps_L_call rfl rfl rfl (by decide +kernel) ⟨Nat.le_of_ble_eq_true rfl, Nat.le_of_ble_eq_true rfl⟩) hO hKX (l_Z hZ hS (fun _ h => Or.inl h)) hNc rfl hl rfl (Nat.le_of_ble_eq_true rfl) dL_steps_603 ⟨by show 24 * (j + 1) + 11 + 1 ≤ 130; omega, by show 6 * (24 * (j + 1) + 11) + 6 ≤ 780; omega⟩) hS (fun _ h => Or.inl h) ⟨by omega, by omega⟩ (fun r603 H locs hp hq hz hS => ?_)
  obtain ⟨h603, hO⟩ := hp
  rw [n4] at hO
  have hQ := hQ.kept hq (dj_1 hd)
  refine l_go (cells' := 24 * (j + 1) + 12) (slots' := 6 * (24 * (j + 1) + 12)) (l_runS (A1 := bNo) (P := (fun _ => True)) (As := [.int r603]) (rest := []) ⟨hx, hb, hml, hown, hts⟩ (c_thrown l D E r603 (by rw [h603]; exact n3)) (va_cwS 1 hts gL_steps_L_thrown rfl rfl rfl (by decide +kernel) ⟨Nat.le_of_ble_eq_true rfl, Nat.le_of_ble_eq_true rfl⟩) trivial hKX (l_Z hZ hS (fun _ h => h.elim)) hNc rfl hl rfl (Nat.le_of_ble_eq_true rfl) dL_steps_606 ⟨by show 24 * (j + 1) + 12 + 0 ≤ 130; omega, by show 6 * (24 * (j + 1) + 12) + 0 ≤ 780; omega⟩) hS (fun _ h => h.elim) ⟨by omega, by omega⟩ (fun r606 H locs h606 hq hz hS => ?_)
  have hO := hO.kept hq (fun _ _ _ h => h)
  have hQ := hQ.kept hq (fun _ _ _ h => h)
  refine lv_if_ne (tgt := 631) hx hb dL_steps_609 (by decide) (fun z => absurd (h606) z) (fun _ => ?_)
  refine lv_aload_n hx hb dL_steps_612 rfl (lv_at hl 3 rfl) ?_
  refine lv_bipush (v := 11) hx hb dL_steps_613 (by decide) ?_
  refine lv_iconst (v := 0) hx hb dL_steps_615 (by decide) ?_
  refine lv_iconst (v := 0) hx hb dL_steps_616 (by decide) ?_
  refine lv_iconst (v := 0) hx hb dL_steps_617 (by decide) ?_
  refine l_go (cells' := 24 * (j + 1) + 13) (slots' := 6 * (24 * (j + 1) + 13)) (l_runS (P := Ob D E q (tF 7 S (nI (j)) 0)) (As := [.ref q, .int 11, .int 0, .int 0, .int 0]) (rest := []) ⟨hx, hb, hml, hown, hts⟩ (c_call_11 l hst D E q (tF 7 S (nI (j)) 0) 0 0 0) (va_cwS 5 hts gL_steps_L_call rfl rfl rfl (by decide +kernel) ⟨Nat.le_of_ble_eq_true rfl, Nat.le_of_ble_eq_true rfl⟩) hQ hKX (l_Z hZ hS (fun _ h => Or.inr h)) hNc rfl hl rfl (Nat.le_of_ble_eq_true rfl) dL_steps_618 ⟨by show 24 * (j + 1) + 12 + 1 ≤ 130; omega, by show 6 * (24 * (j + 1) + 12) + 6 ≤ 780; omega⟩) hS (fun _ h => Or.inr h) ⟨by omega, by omega⟩ (fun r618 H locs hp hq hz hS => ?_)
  obtain ⟨h618, hQ⟩ := hp
  rw [n4] at hQ
  have hO := hO.kept hq (dj_2 hd)
  refine l_go (cells' := 24 * (j + 1) + 13) (slots' := 6 * (24 * (j + 1) + 13)) (l_runS (A1 := bNo) (P := (fun _ => True)) (As := [.int r618]) (rest := []) ⟨hx, hb, hml, hown, hts⟩ (c_thrown l D E r618 (by rw [h618]; exact n3)) (va_cwS 1 hts gL_steps_L_thrown rfl rfl rfl (by decide +kernel) ⟨Nat.le_of_ble_eq_true rfl, Nat.le_of_ble_eq_true rfl⟩) trivial hKX (l_Z hZ hS (fun _ h => h.elim)) hNc rfl hl rfl (Nat.le_of_ble_eq_true rfl) dL_steps_621 ⟨by show 24 * (j + 1) + 13 + 0 ≤ 130; omega, by show 6 * (24 * (j + 1) + 13) + 0 ≤ 780; omega⟩) hS (fun _ h => h.elim) ⟨by omega, by omega⟩ (fun r621 H locs h621 hq hz hS => ?_)
  have hO := hO.kept hq (fun _ _ _ h => h)
  have hQ := hQ.kept hq (fun _ _ _ h => h)
  refine lv_if_ne (tgt := 631) hx hb dL_steps_624 (by decide) (fun z => absurd (h621) z) (fun _ => ?_)
  refine lv_iconst (v := 1) hx hb dL_steps_627 (by decide) ?_
  refine lv_goto (tgt := 632) hx hb dL_steps_628 (by decide) ?_
  refine lv_istore (lv' := [(10, .int 1), (13, .int r122), (12, .int (nI (j))), (0, .ref o), (1, .ref q), (2, .int (nI (X))), (3, .int (nI (P))), (4, .int r24), (5, .int r34), (6, .int (nI (h))), (7, .int r54), (8, .int r64), (9, .int cs), (11, .int (nI (j + 1)))]) hx hb dL_steps_632 hl (by decide) rfl (fun ls hl => ?_)
  refine lv_iinc (v := (nI (j + 1 + 1))) (lv' := [(11, .int (nI (j + 1 + 1))), (10, .int 1), (13, .int r122), (12, .int (nI (j))), (0, .ref o), (1, .ref q), (2, .int (nI (X))), (3, .int (nI (P))), (4, .int r24), (5, .int r34), (6, .int (nI (h))), (7, .int r54), (8, .int r64), (9, .int cs)]) hx hb dL_steps_634 hl (k := 13) rfl (nI_1 _) (by decide) rfl (fun ls hl => ?_)
  refine lv_goto (tgt := 78) hx hb dL_steps_637 (by decide) ?_
  have hl : lv_has ls 20 [(0, .ref o), (1, .ref q), (2, .int (nI (X))), (3, .int (nI (P))), (4, .int r24), (5, .int r34), (6, .int (nI (h))), (7, .int r54), (8, .int r64), (9, .int cs), (10, .int 1), (11, .int (nI (j + 1 + 1)))] := lv_sub hl [4, 5, 6, 7, 8, 9, 10, 11, 12, 13, 1, 0] rfl
  refine W.widen (k := 24 * (j + 1) + 30) (n := 6 * (24 * (j + 1) + 30)) (by omega) (by omega) ?_
  exact kk _ _ _ hO hQ hS hl
