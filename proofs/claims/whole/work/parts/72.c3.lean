/-! THE LAW'S CASES 3 -/
theorem l_cheapest {p : Program} {l : Launch} {e : Env} {Rm : Room} {s : State} {m : MethodId} {args : Array Value} {below : List Frame} {meth : Method} {c : Code} {b L : Nat} {xs : Nat → Int32} {D : va_G} {E : Nat → ClassId} (C0 : lwC p l s m args meth c b L xs D E) (hRm : 12 ≤ Rm.frames ∧ 400 ≤ Rm.locals) {Q : State → Prop} {H : Heap} {locs : List Loc} {cells slots : Nat} {ls : Array Slot} {M R : bM} {f : Nat → Int64} {i V : Nat} (hV : 121 ≤ V) (hV8 : V + 8 < 2 ^ 20) (I : lwI s D E H locs M R f V) (hl : lv_has ls 7 (lwV s b i)) (hi : i + 3 < L) (hf : cells + 1 ≤ Rm.cells ∧ slots + 6 ≤ Rm.slots)
    (kk : ∀ (M1 R1 : bM) (f1 : Nat → Int64) (H1 : Heap) (locs1 : List Loc) (ls1 : Array Slot), lwI s D E H1 locs1 M1 R1 f1 (V + 1) → lv_has ls1 7 (lwV s b i) → W p l e Rm s m args below meth c H1 locs1 (cells + 1) (slots + 6) Q (F0 m 1529 ls1 [])) : W p l e Rm s m args below meth c H locs cells slots Q (F0 m 1067 ls []) := by
  obtain ⟨hx, hb, hml, hown, hts, hX, hbl, hKX, hZ, hNc, hst, hL⟩ := C0
  obtain ⟨hB, hR, hP, hS, hs, hg⟩ := I
  have hok := ok_cheapest (M := M) (R := R) (x1 := (xs (i + 1))) (x2 := (xs (i + 2))) hs
  refine lv_aload_n hx hb dL_law_1067 rfl (lv_at hl 1 rfl) ?_
  refine lv_aload_n hx hb dL_law_1068 rfl (lv_at hl 0 rfl) ?_
  refine lv_iload hx hb dL_law_1069 (lv_at hl 4 rfl) ?_
  refine lv_iconst (v := 1) hx hb dL_law_1071 (by decide) ?_
  refine w_iaddN (i := i) (j := 1) hx hb rfl dL_law_1072 ?_
  refine w_sld hx hb hX hbl hS hL (show i + 1 < L by omega) dL_law_1073 ?_
  refine lv_aload_n hx hb dL_law_1074 rfl (lv_at hl 0 rfl) ?_
  refine lv_iload hx hb dL_law_1075 (lv_at hl 4 rfl) ?_
  refine lv_iconst (v := 2) hx hb dL_law_1077 (by decide) ?_
  refine w_iaddN (i := i) (j := 2) hx hb rfl dL_law_1078 ?_
  refine w_sld hx hb hX hbl hS hL (show i + 2 < L by omega) dL_law_1079 ?_
  refine lv_aload_n hx hb dL_law_1080 rfl (lv_at hl 3 rfl) ?_
  refine w_help (w_runS (As := [.ref (s.heap.size + 0), .int (xs (i + 1)), .int (xs (i + 2)), .ref (oW s)]) (rest := []) ⟨hx, hb, hml, hown, hts⟩ (h_cheapest l hst D E s.heap.size (oW s) f M (xs (i + 1)) (xs (i + 2)) rA_w (okF_2 hok)) (vx_cwSW 4 hts gL_law_L_cheapest rfl rfl rfl (by decide +kernel) ⟨Nat.le_trans (by decide) hRm.1, Nat.le_trans (by decide) hRm.2⟩) hB hP hKX (bZ_at hZ hS) hNc rfl hl rfl (Nat.le_of_ble_eq_true rfl) dL_law_1081 hf) hS hA_0 (fun H1 locs f1 hB hP hf1 hq hz hS => ?_)
  have hR := bk_kept hR (fun q h1 h2 => hq q (bk_size hR LRR_len q h1 (by rw [LRR_len] at h2; exact h2)) (fun z => by rw [LRR_len] at h2; have hh1 : s.heap.size + 194 ≤ q := h1; have hh2 : q < s.heap.size + 194 + 9 := h2; rcases z with z | z; have h5 := z.2; omega; have h5 : q = s.heap.size + 203 := z; omega))
  refine lv_istore (lv' := (5, .int (plc 3 1 (f_X6_cheapest M (xs (i + 1)) (xs (i + 2))).1)) :: lwV s b i) hx hb dL_law_1084 hl (by decide) rfl (fun ls hl => ?_)
  refine lv_aload_n hx hb dL_law_1086 rfl (lv_at hl 3 rfl) ?_
  refine lv_aload_n hx hb dL_law_1087 rfl (lv_at hl 1 rfl) ?_
  refine lv_iload hx hb dL_law_1088 (lv_at hl 5 rfl) ?_
  refine lv_iconst (v := 1) hx hb dL_law_1090 (by decide) ?_
  refine w_iaddN (i := i) (j := 1) hx hb rfl dL_law_1091 ?_
  refine w_sld hx hb hX hbl hS hL (show i + 1 < L by omega) dL_law_1092 ?_
  refine lv_aload_n hx hb dL_law_1093 rfl (lv_at hl 1 rfl) ?_
  refine lv_iload hx hb dL_law_1094 (lv_at hl 5 rfl) ?_
  refine lv_iconst (v := 2) hx hb dL_law_1096 (by decide) ?_
  refine w_iaddN (i := i) (j := 2) hx hb rfl dL_law_1097 ?_
  refine w_sld hx hb hX hbl hS hL (show i + 2 < L by omega) dL_law_1098 ?_
  refine w_mI (b_runV (As := [.int (xs (i + 1)), .int (xs (i + 2))]) (rest := []) ⟨hx, hb, hml, hown, hts⟩ (c_X7_cheapest l D E (oB s) R (xs (i + 1)) (xs (i + 2)) (sS_hg hs)) (cwV 2 hts gL_law_X7_cheapest rfl rfl rfl (by decide +kernel) ⟨Nat.le_trans (by decide) hRm.1, Nat.le_trans (by decide) hRm.2⟩) hKX.1 (bk_recv hKX.1.1 hR lay_m0 rfl) hR rfl hl rfl (Nat.le_of_ble_eq_true rfl) dL_law_1099 ⟨by have := hf.1; omega, by have := hf.2; omega⟩) hS rB_0 (fun r R1 hr H2 locs hR hq2 hz2 hS => ?_)
  obtain ⟨hr1, hr2⟩ := hr
  have hr1 := hr1.symm
  have hr2 := hr2.symm
  subst hr1
  subst hr2
  have hB := bk_kept hB (fun q h1 h2 => hq2 q (fun z => by rw [LRM_len] at h2; have h5 : s.heap.size + 194 ≤ q := z.1; omega))
  have hP := va_at.kept hP (hq2 (oW s) (fun z => by have h5 : s.heap.size + 203 < s.heap.size + 194 + 9 := z.2; omega))
  refine lv_istore (lv' := (6, .int (f_X7_cheapest R (xs (i + 1)) (xs (i + 2))).1) :: (5, .int (plc 3 1 (f_X6_cheapest M (xs (i + 1)) (xs (i + 2))).1)) :: lwV s b i) hx hb dL_law_1102 hl (by decide) rfl (fun ls hl => ?_)
  refine lv_aload_n hx hb dL_law_1104 rfl (lv_at hl 4 rfl) ?_
  refine w_pI (b_runV (As := []) (rest := []) ⟨hx, hb, hml, hown, hts⟩ (c_X7_thrown l D E (oB s) (f_X7_cheapest R (xs (i + 1)) (xs (i + 2))).2) (cwV 0 hts gL_law_X7_thrown rfl rfl rfl (by decide +kernel) ⟨Nat.le_trans (by decide) hRm.1, Nat.le_trans (by decide) hRm.2⟩) hKX.1 (bk_recv hKX.1.1 hR lay_m0 rfl) hR rfl hl rfl (Nat.le_of_ble_eq_true rfl) dL_law_1105 ⟨by have := hf.1; omega, by have := hf.2; omega⟩) hS (fun r hr locs hS => ?_)
  rw [u_f_X7_thrown, hok.1] at hr
  have hr := hr.symm
  subst hr
  refine lv_iload hx hb dL_law_1108 (lv_at hl 1 rfl) ?_
  refine lv_icmp_eq (tgt := 1115) hx hb dL_law_1110 (by decide) (fun _ => ?_) (fun z => absurd rfl z)
  have hI : lwI s D E H2 locs (f_X6_cheapest M (xs (i + 1)) (xs (i + 2))).2.2 (f_X7_cheapest R (xs (i + 1)) (xs (i + 2))).2 f1 (V + 1) := ⟨hB, hR, hP, hS, hok.2.2.2, gb_rd hg (fr_X7_cheapest R (xs (i + 1)) (xs (i + 2)) 2 (by decide) (by decide)) (fr_X7_cheapest R (xs (i + 1)) (xs (i + 2)) 4 (by decide) (by decide)) (fr_X7_cheapest R (xs (i + 1)) (xs (i + 2)) 5 (by decide) (by decide))⟩
  have hl0 : lv_has ls 7 (lwV s b i) := lv_sub hl [2, 3, 4, 5, 6] rfl
  refine lv_iload hx hb dL_law_1115 (lv_at hl 1 rfl) ?_
  refine lv_if_ne (tgt := 1132) hx hb dL_law_1117 (by decide) (fun _ => ?_) (fun z => ?_)
  · exact lv_goto (tgt := 1529) hx hb dL_law_1132 (by decide) (kk _ _ _ _ _ _ hI hl0)
  · have h0 := plc_0 z
    refine lv_aload_n hx hb dL_law_1120 rfl (lv_at hl 5 rfl) ?_
    refine lv_iconst (v := 0) hx hb dL_law_1121 (by decide) ?_
    refine w_lald hx hb hKX.1.1 hP dL_law_1122 ?_
    refine lv_iload hx hb dL_law_1123 (lv_at hl 0 rfl) ?_
    refine lv_i2l (v := (f_X7_cheapest R (xs (i + 1)) (xs (i + 2))).1.toInt64) hx hb dL_law_1125 rfl ?_
    refine W.lcmp hx hb dL_law_1126 ?_
    refine lv_if_eq (tgt := 1132) hx hb dL_law_1127 (by decide) (fun _ => ?_) (fun z => absurd ((cmp_z _ _).mpr ((hf1 h0).trans (by rw [hok.2.2.1 h0]))) z)
    exact lv_goto (tgt := 1529) hx hb dL_law_1132 (by decide) (kk _ _ _ _ _ _ hI hl0)
theorem l_meetsIn {p : Program} {l : Launch} {e : Env} {Rm : Room} {s : State} {m : MethodId} {args : Array Value} {below : List Frame} {meth : Method} {c : Code} {b L : Nat} {xs : Nat → Int32} {D : va_G} {E : Nat → ClassId} (C0 : lwC p l s m args meth c b L xs D E) (hRm : 12 ≤ Rm.frames ∧ 400 ≤ Rm.locals) {Q : State → Prop} {H : Heap} {locs : List Loc} {cells slots : Nat} {ls : Array Slot} {M R : bM} {f : Nat → Int64} {i V : Nat} (hV : 121 ≤ V) (hV8 : V + 8 < 2 ^ 20) (I : lwI s D E H locs M R f V) (hl : lv_has ls 7 (lwV s b i)) (hi : i + 3 < L) (hf : cells + 1 ≤ Rm.cells ∧ slots + 6 ≤ Rm.slots)
    (kk : ∀ (M1 R1 : bM) (f1 : Nat → Int64) (H1 : Heap) (locs1 : List Loc) (ls1 : Array Slot), lwI s D E H1 locs1 M1 R1 f1 (V + 1) → lv_has ls1 7 (lwV s b i) → W p l e Rm s m args below meth c H1 locs1 (cells + 1) (slots + 6) Q (F0 m 1529 ls1 [])) : W p l e Rm s m args below meth c H locs cells slots Q (F0 m 1135 ls []) := by
  obtain ⟨hx, hb, hml, hown, hts, hX, hbl, hKX, hZ, hNc, hst, hL⟩ := C0
  obtain ⟨hB, hR, hP, hS, hs, hg⟩ := I
  have hok := ok_meetsIn (M := M) (R := R) (x1 := (xs (i + 1))) hs
  refine lv_aload_n hx hb dL_law_1135 rfl (lv_at hl 1 rfl) ?_
  refine lv_aload_n hx hb dL_law_1136 rfl (lv_at hl 0 rfl) ?_
  refine lv_iload hx hb dL_law_1137 (lv_at hl 4 rfl) ?_
  refine lv_iconst (v := 1) hx hb dL_law_1139 (by decide) ?_
  refine w_iaddN (i := i) (j := 1) hx hb rfl dL_law_1140 ?_
  refine w_sld hx hb hX hbl hS hL (show i + 1 < L by omega) dL_law_1141 ?_
  refine lv_aload_n hx hb dL_law_1142 rfl (lv_at hl 3 rfl) ?_
  refine w_help (w_runS (As := [.ref (s.heap.size + 0), .int (xs (i + 1)), .ref (oW s)]) (rest := []) ⟨hx, hb, hml, hown, hts⟩ (h_meetsIn l hst D E s.heap.size (oW s) f M (xs (i + 1)) rA_w (okF_1 hok n9_meetsIn)) (vx_cwSW 3 hts gL_law_L_meetsIn rfl rfl rfl (by decide +kernel) ⟨Nat.le_trans (by decide) hRm.1, Nat.le_trans (by decide) hRm.2⟩) hB hP hKX (bZ_at hZ hS) hNc rfl hl rfl (Nat.le_of_ble_eq_true rfl) dL_law_1143 hf) hS hA_0 (fun H1 locs f1 hB hP hf1 hq hz hS => ?_)
  have hR := bk_kept hR (fun q h1 h2 => hq q (bk_size hR LRR_len q h1 (by rw [LRR_len] at h2; exact h2)) (fun z => by rw [LRR_len] at h2; have hh1 : s.heap.size + 194 ≤ q := h1; have hh2 : q < s.heap.size + 194 + 9 := h2; rcases z with z | z; have h5 := z.2; omega; have h5 : q = s.heap.size + 203 := z; omega))
  refine lv_istore (lv' := (5, .int (plc 3 9 (f_X6_meetsIn M (xs (i + 1))).1)) :: lwV s b i) hx hb dL_law_1146 hl (by decide) rfl (fun ls hl => ?_)
  refine lv_aload_n hx hb dL_law_1148 rfl (lv_at hl 3 rfl) ?_
  refine lv_aload_n hx hb dL_law_1149 rfl (lv_at hl 1 rfl) ?_
  refine lv_iload hx hb dL_law_1150 (lv_at hl 5 rfl) ?_
  refine lv_iconst (v := 1) hx hb dL_law_1152 (by decide) ?_
  refine w_iaddN (i := i) (j := 1) hx hb rfl dL_law_1153 ?_
  refine w_sld hx hb hX hbl hS hL (show i + 1 < L by omega) dL_law_1154 ?_
  refine w_mI (b_runV (As := [.int (xs (i + 1))]) (rest := []) ⟨hx, hb, hml, hown, hts⟩ (c_X7_meetsIn l D E (oB s) R (xs (i + 1)) (sS_hg hs)) (cwV 1 hts gL_law_X7_meetsIn rfl rfl rfl (by decide +kernel) ⟨Nat.le_trans (by decide) hRm.1, Nat.le_trans (by decide) hRm.2⟩) hKX.1 (bk_recv hKX.1.1 hR lay_m0 rfl) hR rfl hl rfl (Nat.le_of_ble_eq_true rfl) dL_law_1155 ⟨by have := hf.1; omega, by have := hf.2; omega⟩) hS rB_0 (fun r R1 hr H2 locs hR hq2 hz2 hS => ?_)
  obtain ⟨hr1, hr2⟩ := hr
  have hr1 := hr1.symm
  have hr2 := hr2.symm
  subst hr1
  subst hr2
  have hB := bk_kept hB (fun q h1 h2 => hq2 q (fun z => by rw [LRM_len] at h2; have h5 : s.heap.size + 194 ≤ q := z.1; omega))
  have hP := va_at.kept hP (hq2 (oW s) (fun z => by have h5 : s.heap.size + 203 < s.heap.size + 194 + 9 := z.2; omega))
  refine lv_istore (lv' := (6, .int (f_X7_meetsIn R (xs (i + 1))).1) :: (5, .int (plc 3 9 (f_X6_meetsIn M (xs (i + 1))).1)) :: lwV s b i) hx hb dL_law_1158 hl (by decide) rfl (fun ls hl => ?_)
  refine lv_aload_n hx hb dL_law_1160 rfl (lv_at hl 4 rfl) ?_
  refine w_pI (b_runV (As := []) (rest := []) ⟨hx, hb, hml, hown, hts⟩ (c_X7_thrown l D E (oB s) (f_X7_meetsIn R (xs (i + 1))).2) (cwV 0 hts gL_law_X7_thrown rfl rfl rfl (by decide +kernel) ⟨Nat.le_trans (by decide) hRm.1, Nat.le_trans (by decide) hRm.2⟩) hKX.1 (bk_recv hKX.1.1 hR lay_m0 rfl) hR rfl hl rfl (Nat.le_of_ble_eq_true rfl) dL_law_1161 ⟨by have := hf.1; omega, by have := hf.2; omega⟩) hS (fun r hr locs hS => ?_)
  rw [u_f_X7_thrown, hok.1] at hr
  have hr := hr.symm
  subst hr
  refine lv_iload hx hb dL_law_1164 (lv_at hl 1 rfl) ?_
  refine lv_icmp_eq (tgt := 1171) hx hb dL_law_1166 (by decide) (fun _ => ?_) (fun z => absurd rfl z)
  have hI : lwI s D E H2 locs (f_X6_meetsIn M (xs (i + 1))).2.2 (f_X7_meetsIn R (xs (i + 1))).2 f1 (V + 1) := ⟨hB, hR, hP, hS, hok.2.2.2, gb_rd hg (fr_X7_meetsIn R (xs (i + 1)) 2 (by decide) (by decide)) (fr_X7_meetsIn R (xs (i + 1)) 4 (by decide) (by decide)) (fr_X7_meetsIn R (xs (i + 1)) 5 (by decide) (by decide))⟩
  have hl0 : lv_has ls 7 (lwV s b i) := lv_sub hl [2, 3, 4, 5, 6] rfl
  refine lv_iload hx hb dL_law_1171 (lv_at hl 1 rfl) ?_
  refine lv_if_ne (tgt := 1188) hx hb dL_law_1173 (by decide) (fun _ => ?_) (fun z => ?_)
  · exact lv_goto (tgt := 1529) hx hb dL_law_1188 (by decide) (kk _ _ _ _ _ _ hI hl0)
  · have h0 := plc_0 z
    refine lv_aload_n hx hb dL_law_1176 rfl (lv_at hl 5 rfl) ?_
    refine lv_iconst (v := 0) hx hb dL_law_1177 (by decide) ?_
    refine w_lald hx hb hKX.1.1 hP dL_law_1178 ?_
    refine lv_iload hx hb dL_law_1179 (lv_at hl 0 rfl) ?_
    refine lv_i2l (v := (f_X7_meetsIn R (xs (i + 1))).1.toInt64) hx hb dL_law_1181 rfl ?_
    refine W.lcmp hx hb dL_law_1182 ?_
    refine lv_if_eq (tgt := 1188) hx hb dL_law_1183 (by decide) (fun _ => ?_) (fun z => absurd ((cmp_z _ _).mpr ((hf1 h0).trans (by rw [hok.2.2.1 h0]))) z)
    exact lv_goto (tgt := 1529) hx hb dL_law_1188 (by decide) (kk _ _ _ _ _ _ hI hl0)
theorem l_leastWished {p : Program} {l : Launch} {e : Env} {Rm : Room} {s : State} {m : MethodId} {args : Array Value} {below : List Frame} {meth : Method} {c : Code} {b L : Nat} {xs : Nat → Int32} {D : va_G} {E : Nat → ClassId} (C0 : lwC p l s m args meth c b L xs D E) (hRm : 12 ≤ Rm.frames ∧ 400 ≤ Rm.locals) {Q : State → Prop} {H : Heap} {locs : List Loc} {cells slots : Nat} {ls : Array Slot} {M R : bM} {f : Nat → Int64} {i V : Nat} (hV : 121 ≤ V) (hV8 : V + 8 < 2 ^ 20) (I : lwI s D E H locs M R f V) (hl : lv_has ls 7 (lwV s b i)) (hi : i + 3 < L) (hf : cells + 1 ≤ Rm.cells ∧ slots + 6 ≤ Rm.slots)
    (kk : ∀ (M1 R1 : bM) (f1 : Nat → Int64) (H1 : Heap) (locs1 : List Loc) (ls1 : Array Slot), lwI s D E H1 locs1 M1 R1 f1 (V + 1) → lv_has ls1 7 (lwV s b i) → W p l e Rm s m args below meth c H1 locs1 (cells + 1) (slots + 6) Q (F0 m 1529 ls1 [])) : W p l e Rm s m args below meth c H locs cells slots Q (F0 m 1191 ls []) := by
  obtain ⟨hx, hb, hml, hown, hts, hX, hbl, hKX, hZ, hNc, hst, hL⟩ := C0
  obtain ⟨hB, hR, hP, hS, hs, hg⟩ := I
  have hok := ok_least (M := M) (R := R) hs
  refine W.widen (k := cells + 1) (n := slots + 6) (Nat.le_succ _) (Nat.le_add_right _ _) ?_
  refine lv_aload_n hx hb dL_law_1191 rfl (lv_at hl 1 rfl) ?_
  refine w_mI (b_runV (As := []) (rest := []) ⟨hx, hb, hml, hown, hts⟩ (c_X6_leastWished l D E s.heap.size M) (cwV 0 hts gL_law_X6_leastWished rfl rfl rfl (by decide +kernel) ⟨Nat.le_trans (by decide) hRm.1, Nat.le_trans (by decide) hRm.2⟩) hKX.1 (bk_recv hKX.1.1 hB lay_0 rfl) hB rfl hl rfl (Nat.le_of_ble_eq_true rfl) dL_law_1192 ⟨by have := hf.1; omega, by have := hf.2; omega⟩) hS rA_0 (fun r M1 hr H locs hB hq hz hS => ?_)
  obtain ⟨hr1, hr2⟩ := hr
  have hr1 := hr1.symm
  have hr2 := hr2.symm
  subst hr1
  subst hr2
  have hR := bk_kept hR (fun q h1 h2 => hq q (fun z => by have h5 := z.2; have hh1 : s.heap.size + 194 ≤ q := h1; omega))
  have hP := va_at.kept hP (hq (oW s) rA_w)
  refine lv_aload_n hx hb dL_law_1195 rfl (lv_at hl 2 rfl) ?_
  refine w_mI (b_runV (As := []) (rest := [.int (f_X6_leastWished M).1]) ⟨hx, hb, hml, hown, hts⟩ (c_X7_leastWished l D E (oB s) R (sS_hg hs)) (cwV 0 hts gL_law_X7_leastWished rfl rfl rfl (by decide +kernel) ⟨Nat.le_trans (by decide) hRm.1, Nat.le_trans (by decide) hRm.2⟩) hKX.1 (bk_recv hKX.1.1 hR lay_m0 rfl) hR rfl hl rfl (Nat.le_of_ble_eq_true rfl) dL_law_1196 ⟨by have := hf.1; omega, by have := hf.2; omega⟩) hS rB_0 (fun r R1 hr H2 locs hR hq2 hz2 hS => ?_)
  obtain ⟨hr1, hr2⟩ := hr
  have hr1 := hr1.symm
  have hr2 := hr2.symm
  subst hr1
  subst hr2
  have hB := bk_kept hB (fun q h1 h2 => hq2 q (fun z => by rw [LRM_len] at h2; have h5 : s.heap.size + 194 ≤ q := z.1; omega))
  have hP := va_at.kept hP (hq2 (oW s) (fun z => by have h5 : s.heap.size + 203 < s.heap.size + 194 + 9 := z.2; omega))
  exact lv_icmp_eq (tgt := 1529) hx hb dL_law_1199 (by decide) (fun _ => kk _ _ _ _ _ _ ⟨hB, hR, hP, hS, hok.2.2, gb_rd hg (fr_X7_leastWished R 2 (by decide) (by decide) (by decide)) (fr_X7_leastWished R 4 (by decide) (by decide) (by decide)) (fr_X7_leastWished R 5 (by decide) (by decide) (by decide))⟩ hl) (fun z => absurd hok.2.1 z)
theorem l_best {p : Program} {l : Launch} {e : Env} {Rm : Room} {s : State} {m : MethodId} {args : Array Value} {below : List Frame} {meth : Method} {c : Code} {b L : Nat} {xs : Nat → Int32} {D : va_G} {E : Nat → ClassId} (C0 : lwC p l s m args meth c b L xs D E) (hRm : 12 ≤ Rm.frames ∧ 400 ≤ Rm.locals) {Q : State → Prop} {H : Heap} {locs : List Loc} {cells slots : Nat} {ls : Array Slot} {M R : bM} {f : Nat → Int64} {i V : Nat} (hV : 121 ≤ V) (hV8 : V + 8 < 2 ^ 20) (I : lwI s D E H locs M R f V) (hl : lv_has ls 7 (lwV s b i)) (hi : i + 3 < L) (hf : cells + 1 ≤ Rm.cells ∧ slots + 6 ≤ Rm.slots)
    (kk : ∀ (M1 R1 : bM) (f1 : Nat → Int64) (H1 : Heap) (locs1 : List Loc) (ls1 : Array Slot), lwI s D E H1 locs1 M1 R1 f1 (V + 1) → lv_has ls1 7 (lwV s b i) → W p l e Rm s m args below meth c H1 locs1 (cells + 1) (slots + 6) Q (F0 m 1529 ls1 [])) : W p l e Rm s m args below meth c H locs cells slots Q (F0 m 1204 ls []) := by
  obtain ⟨hx, hb, hml, hown, hts, hX, hbl, hKX, hZ, hNc, hst, hL⟩ := C0
  obtain ⟨hB, hR, hP, hS, hs, hg⟩ := I
  have hok := ok_best (M := M) (R := R) hs
  refine W.widen (k := cells + 1) (n := slots + 6) (Nat.le_succ _) (Nat.le_add_right _ _) ?_
  refine lv_aload_n hx hb dL_law_1204 rfl (lv_at hl 1 rfl) ?_
  refine w_mI (b_runV (As := []) (rest := []) ⟨hx, hb, hml, hown, hts⟩ (c_X6_best l D E s.heap.size M) (cwV 0 hts gL_law_X6_best rfl rfl rfl (by decide +kernel) ⟨Nat.le_trans (by decide) hRm.1, Nat.le_trans (by decide) hRm.2⟩) hKX.1 (bk_recv hKX.1.1 hB lay_0 rfl) hB rfl hl rfl (Nat.le_of_ble_eq_true rfl) dL_law_1205 ⟨by have := hf.1; omega, by have := hf.2; omega⟩) hS rA_0 (fun r M1 hr H locs hB hq hz hS => ?_)
  obtain ⟨hr1, hr2⟩ := hr
  have hr1 := hr1.symm
  have hr2 := hr2.symm
  subst hr1
  subst hr2
  have hR := bk_kept hR (fun q h1 h2 => hq q (fun z => by have h5 := z.2; have hh1 : s.heap.size + 194 ≤ q := h1; omega))
  have hP := va_at.kept hP (hq (oW s) rA_w)
  refine lv_aload_n hx hb dL_law_1208 rfl (lv_at hl 2 rfl) ?_
  refine w_mI (b_runV (As := []) (rest := [.int (f_X6_best M).1]) ⟨hx, hb, hml, hown, hts⟩ (c_X7_best l D E (oB s) R (sS_hg hs)) (cwV 0 hts gL_law_X7_best rfl rfl rfl (by decide +kernel) ⟨Nat.le_trans (by decide) hRm.1, Nat.le_trans (by decide) hRm.2⟩) hKX.1 (bk_recv hKX.1.1 hR lay_m0 rfl) hR rfl hl rfl (Nat.le_of_ble_eq_true rfl) dL_law_1209 ⟨by have := hf.1; omega, by have := hf.2; omega⟩) hS rB_0 (fun r R1 hr H2 locs hR hq2 hz2 hS => ?_)
  obtain ⟨hr1, hr2⟩ := hr
  have hr1 := hr1.symm
  have hr2 := hr2.symm
  subst hr1
  subst hr2
  have hB := bk_kept hB (fun q h1 h2 => hq2 q (fun z => by rw [LRM_len] at h2; have h5 : s.heap.size + 194 ≤ q := z.1; omega))
  have hP := va_at.kept hP (hq2 (oW s) (fun z => by have h5 : s.heap.size + 203 < s.heap.size + 194 + 9 := z.2; omega))
  exact lv_icmp_eq (tgt := 1529) hx hb dL_law_1212 (by decide) (fun _ => kk _ _ _ _ _ _ ⟨hB, hR, hP, hS, hok.2.2, gb_rd hg (fr_X7_best R 2 (by decide) (by decide)) (fr_X7_best R 4 (by decide) (by decide)) (fr_X7_best R 5 (by decide) (by decide))⟩ hl) (fun z => absurd hok.2.1 z)
theorem l_runScript {p : Program} {l : Launch} {e : Env} {Rm : Room} {s : State} {m : MethodId} {args : Array Value} {below : List Frame} {meth : Method} {c : Code} {b L : Nat} {xs : Nat → Int32} {D : va_G} {E : Nat → ClassId} (C0 : lwC p l s m args meth c b L xs D E) (hRm : 12 ≤ Rm.frames ∧ 400 ≤ Rm.locals) {Q : State → Prop} {H : Heap} {locs : List Loc} {cells slots : Nat} {ls : Array Slot} {M R : bM} {f : Nat → Int64} {i V : Nat} (hV : 121 ≤ V) (hV8 : V + 8 < 2 ^ 20) (I : lwI s D E H locs M R f V) (hl : lv_has ls 7 (lwV s b i)) (hi : i + 3 < L) (hf : cells + 1 ≤ Rm.cells ∧ slots + 6 ≤ Rm.slots)
    (kk : ∀ (M1 R1 : bM) (f1 : Nat → Int64) (H1 : Heap) (locs1 : List Loc) (ls1 : Array Slot), lwI s D E H1 locs1 M1 R1 f1 (V + 1) → lv_has ls1 7 (lwV s b i) → W p l e Rm s m args below meth c H1 locs1 (cells + 1) (slots + 6) Q (F0 m 1529 ls1 [])) : W p l e Rm s m args below meth c H locs cells slots Q (F0 m 1217 ls []) := by
  obtain ⟨hx, hb, hml, hown, hts, hX, hbl, hKX, hZ, hNc, hst, hL⟩ := C0
  obtain ⟨hB, hR, hP, hS, hs, hg⟩ := I
  have hok := ok_runScript (M := M) (R := R) (x1 := (xs (i + 1))) (x2 := (lng (xs (i + 2)) (xs (i + 3)))) hV8 hg.1 hs
  refine lv_aload_n hx hb dL_law_1217 rfl (lv_at hl 1 rfl) ?_
  refine lv_aload_n hx hb dL_law_1218 rfl (lv_at hl 0 rfl) ?_
  refine lv_iload hx hb dL_law_1219 (lv_at hl 4 rfl) ?_
  refine lv_iconst (v := 1) hx hb dL_law_1221 (by decide) ?_
  refine w_iaddN (i := i) (j := 1) hx hb rfl dL_law_1222 ?_
  refine w_sld hx hb hX hbl hS hL (show i + 1 < L by omega) dL_law_1223 ?_
  refine lv_aload_n hx hb dL_law_1224 rfl (lv_at hl 0 rfl) ?_
  refine lv_iload hx hb dL_law_1225 (lv_at hl 4 rfl) ?_
  refine lv_iconst (v := 2) hx hb dL_law_1227 (by decide) ?_
  refine w_iaddN (i := i) (j := 2) hx hb rfl dL_law_1228 ?_
  refine w_sld hx hb hX hbl hS hL (show i + 2 < L by omega) dL_law_1229 ?_
  refine lv_i2l (v := (xs (i + 2)).toInt64) hx hb dL_law_1230 rfl ?_
  refine lv_bipush (v := 32) hx hb dL_law_1231 (by decide) ?_
  refine lv_lshl (v := (xs (i + 2)).toInt64 <<< ((32 : Int32).toInt64 &&& 63)) hx hb dL_law_1233 rfl ?_
  refine lv_aload_n hx hb dL_law_1234 rfl (lv_at hl 0 rfl) ?_
  refine lv_iload hx hb dL_law_1235 (lv_at hl 4 rfl) ?_
  refine lv_iconst (v := 3) hx hb dL_law_1237 (by decide) ?_
  refine w_iaddN (i := i) (j := 3) hx hb rfl dL_law_1238 ?_
  refine w_sld hx hb hX hbl hS hL (show i + 3 < L by omega) dL_law_1239 ?_
  refine lv_i2l (v := (xs (i + 3)).toInt64) hx hb dL_law_1240 rfl ?_
  refine lv_ldc2 (v := 4294967295) hx hb hown (hts (.constantLong RL 123 (4294967295)) (List.mem_of_getElem? (i := 7) (by decide +kernel))) dL_law_1241 ?_
  refine lv_land hx hb dL_law_1244 ?_
  refine lv_lor hx hb dL_law_1245 ?_
  refine lv_aload_n hx hb dL_law_1246 rfl (lv_at hl 3 rfl) ?_
  refine w_help (w_runS (As := [.ref (s.heap.size + 0), .int (xs (i + 1)), .long (lng (xs (i + 2)) (xs (i + 3))), .ref (oW s)]) (rest := []) ⟨hx, hb, hml, hown, hts⟩ (h_runScript l hst D E s.heap.size (oW s) f M (xs (i + 1)) (lng (xs (i + 2)) (xs (i + 3))) rA_w (okF_1 hok n9_runScript)) (vx_cwSW 4 hts gL_law_L_runScript rfl rfl rfl (by decide +kernel) ⟨Nat.le_trans (by decide) hRm.1, Nat.le_trans (by decide) hRm.2⟩) hB hP hKX (bZ_at hZ hS) hNc rfl hl rfl (Nat.le_of_ble_eq_true rfl) dL_law_1247 hf) hS hA_0 (fun H1 locs f1 hB hP hf1 hq hz hS => ?_)
  have hR := bk_kept hR (fun q h1 h2 => hq q (bk_size hR LRR_len q h1 (by rw [LRR_len] at h2; exact h2)) (fun z => by rw [LRR_len] at h2; have hh1 : s.heap.size + 194 ≤ q := h1; have hh2 : q < s.heap.size + 194 + 9 := h2; rcases z with z | z; have h5 := z.2; omega; have h5 : q = s.heap.size + 203 := z; omega))
  refine lv_istore (lv' := (5, .int (plc 1 9 (f_X6_runScript M (xs (i + 1)) (lng (xs (i + 2)) (xs (i + 3)))).1)) :: lwV s b i) hx hb dL_law_1250 hl (by decide) rfl (fun ls hl => ?_)
  refine lv_aload_n hx hb dL_law_1252 rfl (lv_at hl 3 rfl) ?_
  refine lv_aload_n hx hb dL_law_1253 rfl (lv_at hl 1 rfl) ?_
  refine lv_iload hx hb dL_law_1254 (lv_at hl 5 rfl) ?_
  refine lv_iconst (v := 1) hx hb dL_law_1256 (by decide) ?_
  refine w_iaddN (i := i) (j := 1) hx hb rfl dL_law_1257 ?_
  refine w_sld hx hb hX hbl hS hL (show i + 1 < L by omega) dL_law_1258 ?_
  refine lv_aload_n hx hb dL_law_1259 rfl (lv_at hl 1 rfl) ?_
  refine lv_iload hx hb dL_law_1260 (lv_at hl 5 rfl) ?_
  refine lv_iconst (v := 2) hx hb dL_law_1262 (by decide) ?_
  refine w_iaddN (i := i) (j := 2) hx hb rfl dL_law_1263 ?_
  refine w_sld hx hb hX hbl hS hL (show i + 2 < L by omega) dL_law_1264 ?_
  refine lv_i2l (v := (xs (i + 2)).toInt64) hx hb dL_law_1265 rfl ?_
  refine lv_bipush (v := 32) hx hb dL_law_1266 (by decide) ?_
  refine lv_lshl (v := (xs (i + 2)).toInt64 <<< ((32 : Int32).toInt64 &&& 63)) hx hb dL_law_1268 rfl ?_
  refine lv_aload_n hx hb dL_law_1269 rfl (lv_at hl 1 rfl) ?_
  refine lv_iload hx hb dL_law_1270 (lv_at hl 5 rfl) ?_
  refine lv_iconst (v := 3) hx hb dL_law_1272 (by decide) ?_
  refine w_iaddN (i := i) (j := 3) hx hb rfl dL_law_1273 ?_
  refine w_sld hx hb hX hbl hS hL (show i + 3 < L by omega) dL_law_1274 ?_
  refine lv_i2l (v := (xs (i + 3)).toInt64) hx hb dL_law_1275 rfl ?_
  refine lv_ldc2 (v := 4294967295) hx hb hown (hts (.constantLong RL 123 (4294967295)) (List.mem_of_getElem? (i := 7) (by decide +kernel))) dL_law_1276 ?_
  refine lv_land hx hb dL_law_1279 ?_
  refine lv_lor hx hb dL_law_1280 ?_
  refine w_mI (b_runV (As := [.int (xs (i + 1)), .long (lng (xs (i + 2)) (xs (i + 3)))]) (rest := []) ⟨hx, hb, hml, hown, hts⟩ (c_X7_runScript l D E (oB s) R (xs (i + 1)) (lng (xs (i + 2)) (xs (i + 3))) (sS_hg hs)) (cwV 2 hts gL_law_X7_runScript rfl rfl rfl (by decide +kernel) ⟨Nat.le_trans (by decide) hRm.1, Nat.le_trans (by decide) hRm.2⟩) hKX.1 (bk_recv hKX.1.1 hR lay_m0 rfl) hR rfl hl rfl (Nat.le_of_ble_eq_true rfl) dL_law_1281 ⟨by have := hf.1; omega, by have := hf.2; omega⟩) hS rB_0 (fun r R1 hr H2 locs hR hq2 hz2 hS => ?_)
  obtain ⟨hr1, hr2⟩ := hr
  have hr1 := hr1.symm
  have hr2 := hr2.symm
  subst hr1
  subst hr2
  have hB := bk_kept hB (fun q h1 h2 => hq2 q (fun z => by rw [LRM_len] at h2; have h5 : s.heap.size + 194 ≤ q := z.1; omega))
  have hP := va_at.kept hP (hq2 (oW s) (fun z => by have h5 : s.heap.size + 203 < s.heap.size + 194 + 9 := z.2; omega))
  refine lv_istore (lv' := (6, .int (f_X7_runScript R (xs (i + 1)) (lng (xs (i + 2)) (xs (i + 3)))).1) :: (5, .int (plc 1 9 (f_X6_runScript M (xs (i + 1)) (lng (xs (i + 2)) (xs (i + 3)))).1)) :: lwV s b i) hx hb dL_law_1284 hl (by decide) rfl (fun ls hl => ?_)
  refine lv_aload_n hx hb dL_law_1286 rfl (lv_at hl 4 rfl) ?_
  refine w_pI (b_runV (As := []) (rest := []) ⟨hx, hb, hml, hown, hts⟩ (c_X7_thrown l D E (oB s) (f_X7_runScript R (xs (i + 1)) (lng (xs (i + 2)) (xs (i + 3)))).2) (cwV 0 hts gL_law_X7_thrown rfl rfl rfl (by decide +kernel) ⟨Nat.le_trans (by decide) hRm.1, Nat.le_trans (by decide) hRm.2⟩) hKX.1 (bk_recv hKX.1.1 hR lay_m0 rfl) hR rfl hl rfl (Nat.le_of_ble_eq_true rfl) dL_law_1287 ⟨by have := hf.1; omega, by have := hf.2; omega⟩) hS (fun r hr locs hS => ?_)
  rw [u_f_X7_thrown, hok.1] at hr
  have hr := hr.symm
  subst hr
  refine lv_iload hx hb dL_law_1290 (lv_at hl 1 rfl) ?_
  refine lv_icmp_eq (tgt := 1297) hx hb dL_law_1292 (by decide) (fun _ => ?_) (fun z => absurd rfl z)
  have hI : lwI s D E H2 locs (f_X6_runScript M (xs (i + 1)) (lng (xs (i + 2)) (xs (i + 3)))).2.2 (f_X7_runScript R (xs (i + 1)) (lng (xs (i + 2)) (xs (i + 3)))).2 f1 (V + 1) := ⟨hB, hR, hP, hS, hok.2.2.2, gb_rd hg (fr_X7_runScript R (xs (i + 1)) (lng (xs (i + 2)) (xs (i + 3))) 2 (by decide) (by decide) (by decide)) (fr_X7_runScript R (xs (i + 1)) (lng (xs (i + 2)) (xs (i + 3))) 4 (by decide) (by decide) (by decide)) (fr_X7_runScript R (xs (i + 1)) (lng (xs (i + 2)) (xs (i + 3))) 5 (by decide) (by decide) (by decide))⟩
  have hl0 : lv_has ls 7 (lwV s b i) := lv_sub hl [2, 3, 4, 5, 6] rfl
  refine lv_iload hx hb dL_law_1297 (lv_at hl 1 rfl) ?_
  refine lv_if_ne (tgt := 1314) hx hb dL_law_1299 (by decide) (fun _ => ?_) (fun z => ?_)
  · exact lv_goto (tgt := 1529) hx hb dL_law_1314 (by decide) (kk _ _ _ _ _ _ hI hl0)
  · have h0 := plc_0 z
    refine lv_aload_n hx hb dL_law_1302 rfl (lv_at hl 5 rfl) ?_
    refine lv_iconst (v := 0) hx hb dL_law_1303 (by decide) ?_
    refine w_lald hx hb hKX.1.1 hP dL_law_1304 ?_
    refine lv_iload hx hb dL_law_1305 (lv_at hl 0 rfl) ?_
    refine lv_i2l (v := (f_X7_runScript R (xs (i + 1)) (lng (xs (i + 2)) (xs (i + 3)))).1.toInt64) hx hb dL_law_1307 rfl ?_
    refine W.lcmp hx hb dL_law_1308 ?_
    refine lv_if_eq (tgt := 1314) hx hb dL_law_1309 (by decide) (fun _ => ?_) (fun z => absurd ((cmp_z _ _).mpr ((hf1 h0).trans (by rw [hok.2.2.1 h0]))) z)
    exact lv_goto (tgt := 1529) hx hb dL_law_1314 (by decide) (kk _ _ _ _ _ _ hI hl0)
theorem l_simulate {p : Program} {l : Launch} {e : Env} {Rm : Room} {s : State} {m : MethodId} {args : Array Value} {below : List Frame} {meth : Method} {c : Code} {b L : Nat} {xs : Nat → Int32} {D : va_G} {E : Nat → ClassId} (C0 : lwC p l s m args meth c b L xs D E) (hRm : 12 ≤ Rm.frames ∧ 400 ≤ Rm.locals) {Q : State → Prop} {H : Heap} {locs : List Loc} {cells slots : Nat} {ls : Array Slot} {M R : bM} {f : Nat → Int64} {i V : Nat} (hV : 121 ≤ V) (hV8 : V + 8 < 2 ^ 20) (I : lwI s D E H locs M R f V) (hl : lv_has ls 7 (lwV s b i)) (hi : i + 3 < L) (hf : cells + 1 ≤ Rm.cells ∧ slots + 6 ≤ Rm.slots)
    (kk : ∀ (M1 R1 : bM) (f1 : Nat → Int64) (H1 : Heap) (locs1 : List Loc) (ls1 : Array Slot), lwI s D E H1 locs1 M1 R1 f1 (V + 1) → lv_has ls1 7 (lwV s b i) → W p l e Rm s m args below meth c H1 locs1 (cells + 1) (slots + 6) Q (F0 m 1529 ls1 [])) : W p l e Rm s m args below meth c H locs cells slots Q (F0 m 1317 ls []) := by
  obtain ⟨hx, hb, hml, hown, hts, hX, hbl, hKX, hZ, hNc, hst, hL⟩ := C0
  obtain ⟨hB, hR, hP, hS, hs, hg⟩ := I
  have hok := ok_simulate (M := M) (R := R) (x1 := (lng (xs (i + 1)) (xs (i + 2)))) (x2 := (xs (i + 3))) hs
  refine lv_aload_n hx hb dL_law_1317 rfl (lv_at hl 1 rfl) ?_
  refine lv_aload_n hx hb dL_law_1318 rfl (lv_at hl 0 rfl) ?_
  refine lv_iload hx hb dL_law_1319 (lv_at hl 4 rfl) ?_
  refine lv_iconst (v := 1) hx hb dL_law_1321 (by decide) ?_
  refine w_iaddN (i := i) (j := 1) hx hb rfl dL_law_1322 ?_
  refine w_sld hx hb hX hbl hS hL (show i + 1 < L by omega) dL_law_1323 ?_
  refine lv_i2l (v := (xs (i + 1)).toInt64) hx hb dL_law_1324 rfl ?_
  refine lv_bipush (v := 32) hx hb dL_law_1325 (by decide) ?_
  refine lv_lshl (v := (xs (i + 1)).toInt64 <<< ((32 : Int32).toInt64 &&& 63)) hx hb dL_law_1327 rfl ?_
  refine lv_aload_n hx hb dL_law_1328 rfl (lv_at hl 0 rfl) ?_
  refine lv_iload hx hb dL_law_1329 (lv_at hl 4 rfl) ?_
  refine lv_iconst (v := 2) hx hb dL_law_1331 (by decide) ?_
  refine w_iaddN (i := i) (j := 2) hx hb rfl dL_law_1332 ?_
  refine w_sld hx hb hX hbl hS hL (show i + 2 < L by omega) dL_law_1333 ?_
  refine lv_i2l (v := (xs (i + 2)).toInt64) hx hb dL_law_1334 rfl ?_
  refine lv_ldc2 (v := 4294967295) hx hb hown (hts (.constantLong RL 123 (4294967295)) (List.mem_of_getElem? (i := 7) (by decide +kernel))) dL_law_1335 ?_
  refine lv_land hx hb dL_law_1338 ?_
  refine lv_lor hx hb dL_law_1339 ?_
  refine lv_aload_n hx hb dL_law_1340 rfl (lv_at hl 0 rfl) ?_
  refine lv_iload hx hb dL_law_1341 (lv_at hl 4 rfl) ?_
  refine lv_iconst (v := 3) hx hb dL_law_1343 (by decide) ?_
  refine w_iaddN (i := i) (j := 3) hx hb rfl dL_law_1344 ?_
  refine w_sld hx hb hX hbl hS hL (show i + 3 < L by omega) dL_law_1345 ?_
  refine lv_aload_n hx hb dL_law_1346 rfl (lv_at hl 3 rfl) ?_
  refine w_help (w_runS (As := [.ref (s.heap.size + 0), .long (lng (xs (i + 1)) (xs (i + 2))), .int (xs (i + 3)), .ref (oW s)]) (rest := []) ⟨hx, hb, hml, hown, hts⟩ (h_simulate l hst D E s.heap.size (oW s) f M (lng (xs (i + 1)) (xs (i + 2))) (xs (i + 3)) rA_w (okF_1 hok n9_simulate)) (vx_cwSW 4 hts gL_law_L_simulate rfl rfl rfl (by decide +kernel) ⟨Nat.le_trans (by decide) hRm.1, Nat.le_trans (by decide) hRm.2⟩) hB hP hKX (bZ_at hZ hS) hNc rfl hl rfl (Nat.le_of_ble_eq_true rfl) dL_law_1347 hf) hS hA_0 (fun H1 locs f1 hB hP hf1 hq hz hS => ?_)
  have hR := bk_kept hR (fun q h1 h2 => hq q (bk_size hR LRR_len q h1 (by rw [LRR_len] at h2; exact h2)) (fun z => by rw [LRR_len] at h2; have hh1 : s.heap.size + 194 ≤ q := h1; have hh2 : q < s.heap.size + 194 + 9 := h2; rcases z with z | z; have h5 := z.2; omega; have h5 : q = s.heap.size + 203 := z; omega))
  refine lv_istore (lv' := (5, .int (plc 1 9 (f_X6_simulate M (lng (xs (i + 1)) (xs (i + 2))) (xs (i + 3))).1)) :: lwV s b i) hx hb dL_law_1350 hl (by decide) rfl (fun ls hl => ?_)
  refine lv_aload_n hx hb dL_law_1352 rfl (lv_at hl 3 rfl) ?_
  refine lv_aload_n hx hb dL_law_1353 rfl (lv_at hl 1 rfl) ?_
  refine lv_iload hx hb dL_law_1354 (lv_at hl 5 rfl) ?_
  refine lv_iconst (v := 1) hx hb dL_law_1356 (by decide) ?_
  refine w_iaddN (i := i) (j := 1) hx hb rfl dL_law_1357 ?_
  refine w_sld hx hb hX hbl hS hL (show i + 1 < L by omega) dL_law_1358 ?_
  refine lv_i2l (v := (xs (i + 1)).toInt64) hx hb dL_law_1359 rfl ?_
  refine lv_bipush (v := 32) hx hb dL_law_1360 (by decide) ?_
  refine lv_lshl (v := (xs (i + 1)).toInt64 <<< ((32 : Int32).toInt64 &&& 63)) hx hb dL_law_1362 rfl ?_
  refine lv_aload_n hx hb dL_law_1363 rfl (lv_at hl 1 rfl) ?_
  refine lv_iload hx hb dL_law_1364 (lv_at hl 5 rfl) ?_
  refine lv_iconst (v := 2) hx hb dL_law_1366 (by decide) ?_
  refine w_iaddN (i := i) (j := 2) hx hb rfl dL_law_1367 ?_
  refine w_sld hx hb hX hbl hS hL (show i + 2 < L by omega) dL_law_1368 ?_
  refine lv_i2l (v := (xs (i + 2)).toInt64) hx hb dL_law_1369 rfl ?_
  refine lv_ldc2 (v := 4294967295) hx hb hown (hts (.constantLong RL 123 (4294967295)) (List.mem_of_getElem? (i := 7) (by decide +kernel))) dL_law_1370 ?_
  refine lv_land hx hb dL_law_1373 ?_
  refine lv_lor hx hb dL_law_1374 ?_
  refine lv_aload_n hx hb dL_law_1375 rfl (lv_at hl 1 rfl) ?_
  refine lv_iload hx hb dL_law_1376 (lv_at hl 5 rfl) ?_
  refine lv_iconst (v := 3) hx hb dL_law_1378 (by decide) ?_
  refine w_iaddN (i := i) (j := 3) hx hb rfl dL_law_1379 ?_
  refine w_sld hx hb hX hbl hS hL (show i + 3 < L by omega) dL_law_1380 ?_
  refine w_mI (b_runV (As := [.long (lng (xs (i + 1)) (xs (i + 2))), .int (xs (i + 3))]) (rest := []) ⟨hx, hb, hml, hown, hts⟩ (c_X7_simulate l D E (oB s) R (lng (xs (i + 1)) (xs (i + 2))) (xs (i + 3)) (sS_hg hs)) (cwV 2 hts gL_law_X7_simulate rfl rfl rfl (by decide +kernel) ⟨Nat.le_trans (by decide) hRm.1, Nat.le_trans (by decide) hRm.2⟩) hKX.1 (bk_recv hKX.1.1 hR lay_m0 rfl) hR rfl hl rfl (Nat.le_of_ble_eq_true rfl) dL_law_1381 ⟨by have := hf.1; omega, by have := hf.2; omega⟩) hS rB_0 (fun r R1 hr H2 locs hR hq2 hz2 hS => ?_)
  obtain ⟨hr1, hr2⟩ := hr
  have hr1 := hr1.symm
  have hr2 := hr2.symm
  subst hr1
  subst hr2
  have hB := bk_kept hB (fun q h1 h2 => hq2 q (fun z => by rw [LRM_len] at h2; have h5 : s.heap.size + 194 ≤ q := z.1; omega))
  have hP := va_at.kept hP (hq2 (oW s) (fun z => by have h5 : s.heap.size + 203 < s.heap.size + 194 + 9 := z.2; omega))
  refine lv_istore (lv' := (6, .int (f_X7_simulate R (lng (xs (i + 1)) (xs (i + 2))) (xs (i + 3))).1) :: (5, .int (plc 1 9 (f_X6_simulate M (lng (xs (i + 1)) (xs (i + 2))) (xs (i + 3))).1)) :: lwV s b i) hx hb dL_law_1384 hl (by decide) rfl (fun ls hl => ?_)
  refine lv_aload_n hx hb dL_law_1386 rfl (lv_at hl 4 rfl) ?_
  refine w_pI (b_runV (As := []) (rest := []) ⟨hx, hb, hml, hown, hts⟩ (c_X7_thrown l D E (oB s) (f_X7_simulate R (lng (xs (i + 1)) (xs (i + 2))) (xs (i + 3))).2) (cwV 0 hts gL_law_X7_thrown rfl rfl rfl (by decide +kernel) ⟨Nat.le_trans (by decide) hRm.1, Nat.le_trans (by decide) hRm.2⟩) hKX.1 (bk_recv hKX.1.1 hR lay_m0 rfl) hR rfl hl rfl (Nat.le_of_ble_eq_true rfl) dL_law_1387 ⟨by have := hf.1; omega, by have := hf.2; omega⟩) hS (fun r hr locs hS => ?_)
  rw [u_f_X7_thrown, hok.1] at hr
  have hr := hr.symm
  subst hr
  refine lv_iload hx hb dL_law_1390 (lv_at hl 1 rfl) ?_
  refine lv_icmp_eq (tgt := 1397) hx hb dL_law_1392 (by decide) (fun _ => ?_) (fun z => absurd rfl z)
  have hI : lwI s D E H2 locs (f_X6_simulate M (lng (xs (i + 1)) (xs (i + 2))) (xs (i + 3))).2.2 (f_X7_simulate R (lng (xs (i + 1)) (xs (i + 2))) (xs (i + 3))).2 f1 (V + 1) := ⟨hB, hR, hP, hS, hok.2.2.2, gb_rd hg (fr_X7_simulate R (lng (xs (i + 1)) (xs (i + 2))) (xs (i + 3)) 2 (by decide) (by decide) (by decide)) (fr_X7_simulate R (lng (xs (i + 1)) (xs (i + 2))) (xs (i + 3)) 4 (by decide) (by decide) (by decide)) (fr_X7_simulate R (lng (xs (i + 1)) (xs (i + 2))) (xs (i + 3)) 5 (by decide) (by decide) (by decide))⟩
  have hl0 : lv_has ls 7 (lwV s b i) := lv_sub hl [2, 3, 4, 5, 6] rfl
  refine lv_iload hx hb dL_law_1397 (lv_at hl 1 rfl) ?_
  refine lv_if_ne (tgt := 1414) hx hb dL_law_1399 (by decide) (fun _ => ?_) (fun z => ?_)
  · exact lv_goto (tgt := 1529) hx hb dL_law_1414 (by decide) (kk _ _ _ _ _ _ hI hl0)
  · have h0 := plc_0 z
    refine lv_aload_n hx hb dL_law_1402 rfl (lv_at hl 5 rfl) ?_
    refine lv_iconst (v := 0) hx hb dL_law_1403 (by decide) ?_
    refine w_lald hx hb hKX.1.1 hP dL_law_1404 ?_
    refine lv_iload hx hb dL_law_1405 (lv_at hl 0 rfl) ?_
    refine lv_i2l (v := (f_X7_simulate R (lng (xs (i + 1)) (xs (i + 2))) (xs (i + 3))).1.toInt64) hx hb dL_law_1407 rfl ?_
    refine W.lcmp hx hb dL_law_1408 ?_
    refine lv_if_eq (tgt := 1414) hx hb dL_law_1409 (by decide) (fun _ => ?_) (fun z => absurd ((cmp_z _ _).mpr ((hf1 h0).trans (by rw [hok.2.2.1 h0]))) z)
    exact lv_goto (tgt := 1529) hx hb dL_law_1414 (by decide) (kk _ _ _ _ _ _ hI hl0)
theorem l_save {p : Program} {l : Launch} {e : Env} {Rm : Room} {s : State} {m : MethodId} {args : Array Value} {below : List Frame} {meth : Method} {c : Code} {b L : Nat} {xs : Nat → Int32} {D : va_G} {E : Nat → ClassId} (C0 : lwC p l s m args meth c b L xs D E) (hRm : 12 ≤ Rm.frames ∧ 400 ≤ Rm.locals) {Q : State → Prop} {H : Heap} {locs : List Loc} {cells slots : Nat} {ls : Array Slot} {M R : bM} {f : Nat → Int64} {i V : Nat} (hV : 121 ≤ V) (hV8 : V + 8 < 2 ^ 20) (I : lwI s D E H locs M R f V) (hl : lv_has ls 7 (lwV s b i)) (hi : i + 3 < L) (hf : cells + 1 ≤ Rm.cells ∧ slots + 6 ≤ Rm.slots)
    (kk : ∀ (M1 R1 : bM) (f1 : Nat → Int64) (H1 : Heap) (locs1 : List Loc) (ls1 : Array Slot), lwI s D E H1 locs1 M1 R1 f1 (V + 1) → lv_has ls1 7 (lwV s b i) → W p l e Rm s m args below meth c H1 locs1 (cells + 1) (slots + 6) Q (F0 m 1529 ls1 [])) : W p l e Rm s m args below meth c H locs cells slots Q (F0 m 1417 ls []) := by
  obtain ⟨hx, hb, hml, hown, hts, hX, hbl, hKX, hZ, hNc, hst, hL⟩ := C0
  obtain ⟨hB, hR, hP, hS, hs, hg⟩ := I
  have hok := ok_save (M := M) (R := R) (x1 := (xs (i + 1))) hs
  refine lv_aload_n hx hb dL_law_1417 rfl (lv_at hl 1 rfl) ?_
  refine lv_aload_n hx hb dL_law_1418 rfl (lv_at hl 0 rfl) ?_
  refine lv_iload hx hb dL_law_1419 (lv_at hl 4 rfl) ?_
  refine lv_iconst (v := 1) hx hb dL_law_1421 (by decide) ?_
  refine w_iaddN (i := i) (j := 1) hx hb rfl dL_law_1422 ?_
  refine w_sld hx hb hX hbl hS hL (show i + 1 < L by omega) dL_law_1423 ?_
  refine lv_aload_n hx hb dL_law_1424 rfl (lv_at hl 3 rfl) ?_
  refine w_help (w_runS (As := [.ref (s.heap.size + 0), .int (xs (i + 1)), .ref (oW s)]) (rest := []) ⟨hx, hb, hml, hown, hts⟩ (h_save l hst D E s.heap.size (oW s) f M (xs (i + 1)) rA_w (okF_1 hok n9_save)) (vx_cwSW 3 hts gL_law_L_save rfl rfl rfl (by decide +kernel) ⟨Nat.le_trans (by decide) hRm.1, Nat.le_trans (by decide) hRm.2⟩) hB hP hKX (bZ_at hZ hS) hNc rfl hl rfl (Nat.le_of_ble_eq_true rfl) dL_law_1425 hf) hS hA_0 (fun H1 locs f1 hB hP hf1 hq hz hS => ?_)
  have hR := bk_kept hR (fun q h1 h2 => hq q (bk_size hR LRR_len q h1 (by rw [LRR_len] at h2; exact h2)) (fun z => by rw [LRR_len] at h2; have hh1 : s.heap.size + 194 ≤ q := h1; have hh2 : q < s.heap.size + 194 + 9 := h2; rcases z with z | z; have h5 := z.2; omega; have h5 : q = s.heap.size + 203 := z; omega))
  refine lv_istore (lv' := (5, .int (plc 3 9 (f_X6_save M (xs (i + 1))).1)) :: lwV s b i) hx hb dL_law_1428 hl (by decide) rfl (fun ls hl => ?_)
  refine lv_aload_n hx hb dL_law_1430 rfl (lv_at hl 3 rfl) ?_
  refine lv_aload_n hx hb dL_law_1431 rfl (lv_at hl 1 rfl) ?_
  refine lv_iload hx hb dL_law_1432 (lv_at hl 5 rfl) ?_
  refine lv_iconst (v := 1) hx hb dL_law_1434 (by decide) ?_
  refine w_iaddN (i := i) (j := 1) hx hb rfl dL_law_1435 ?_
  refine w_sld hx hb hX hbl hS hL (show i + 1 < L by omega) dL_law_1436 ?_
  refine w_mI (b_runV (As := [.int (xs (i + 1))]) (rest := []) ⟨hx, hb, hml, hown, hts⟩ (c_X7_save l D E (oB s) R (xs (i + 1))) (cwV 1 hts gL_law_X7_save rfl rfl rfl (by decide +kernel) ⟨Nat.le_trans (by decide) hRm.1, Nat.le_trans (by decide) hRm.2⟩) hKX.1 (bk_recv hKX.1.1 hR lay_m0 rfl) hR rfl hl rfl (Nat.le_of_ble_eq_true rfl) dL_law_1437 ⟨by have := hf.1; omega, by have := hf.2; omega⟩) hS rB_0 (fun r R1 hr H2 locs hR hq2 hz2 hS => ?_)
  obtain ⟨hr1, hr2⟩ := hr
  have hr1 := hr1.symm
  have hr2 := hr2.symm
  subst hr1
  subst hr2
  have hB := bk_kept hB (fun q h1 h2 => hq2 q (fun z => by rw [LRM_len] at h2; have h5 : s.heap.size + 194 ≤ q := z.1; omega))
  have hP := va_at.kept hP (hq2 (oW s) (fun z => by have h5 : s.heap.size + 203 < s.heap.size + 194 + 9 := z.2; omega))
  refine lv_istore (lv' := (6, .int (f_X7_save R (xs (i + 1))).1) :: (5, .int (plc 3 9 (f_X6_save M (xs (i + 1))).1)) :: lwV s b i) hx hb dL_law_1440 hl (by decide) rfl (fun ls hl => ?_)
  refine lv_aload_n hx hb dL_law_1442 rfl (lv_at hl 4 rfl) ?_
  refine w_pI (b_runV (As := []) (rest := []) ⟨hx, hb, hml, hown, hts⟩ (c_X7_thrown l D E (oB s) (f_X7_save R (xs (i + 1))).2) (cwV 0 hts gL_law_X7_thrown rfl rfl rfl (by decide +kernel) ⟨Nat.le_trans (by decide) hRm.1, Nat.le_trans (by decide) hRm.2⟩) hKX.1 (bk_recv hKX.1.1 hR lay_m0 rfl) hR rfl hl rfl (Nat.le_of_ble_eq_true rfl) dL_law_1443 ⟨by have := hf.1; omega, by have := hf.2; omega⟩) hS (fun r hr locs hS => ?_)
  rw [u_f_X7_thrown, hok.1] at hr
  have hr := hr.symm
  subst hr
  refine lv_iload hx hb dL_law_1446 (lv_at hl 1 rfl) ?_
  refine lv_icmp_eq (tgt := 1453) hx hb dL_law_1448 (by decide) (fun _ => ?_) (fun z => absurd rfl z)
  have hI : lwI s D E H2 locs (f_X6_save M (xs (i + 1))).2.2 (f_X7_save R (xs (i + 1))).2 f1 (V + 1) := ⟨hB, hR, hP, hS, hok.2.2.2, gb_save hg⟩
  have hl0 : lv_has ls 7 (lwV s b i) := lv_sub hl [2, 3, 4, 5, 6] rfl
  refine lv_iload hx hb dL_law_1453 (lv_at hl 1 rfl) ?_
  refine lv_if_ne (tgt := 1470) hx hb dL_law_1455 (by decide) (fun _ => ?_) (fun z => ?_)
  · exact lv_goto (tgt := 1529) hx hb dL_law_1470 (by decide) (kk _ _ _ _ _ _ hI hl0)
  · have h0 := plc_0 z
    refine lv_aload_n hx hb dL_law_1458 rfl (lv_at hl 5 rfl) ?_
    refine lv_iconst (v := 0) hx hb dL_law_1459 (by decide) ?_
    refine w_lald hx hb hKX.1.1 hP dL_law_1460 ?_
    refine lv_iload hx hb dL_law_1461 (lv_at hl 0 rfl) ?_
    refine lv_i2l (v := (f_X7_save R (xs (i + 1))).1.toInt64) hx hb dL_law_1463 rfl ?_
    refine W.lcmp hx hb dL_law_1464 ?_
    refine lv_if_eq (tgt := 1470) hx hb dL_law_1465 (by decide) (fun _ => ?_) (fun z => absurd ((cmp_z _ _).mpr ((hf1 h0).trans (by rw [hok.2.2.1 h0]))) z)
    exact lv_goto (tgt := 1529) hx hb dL_law_1470 (by decide) (kk _ _ _ _ _ _ hI hl0)
theorem l_restore {p : Program} {l : Launch} {e : Env} {Rm : Room} {s : State} {m : MethodId} {args : Array Value} {below : List Frame} {meth : Method} {c : Code} {b L : Nat} {xs : Nat → Int32} {D : va_G} {E : Nat → ClassId} (C0 : lwC p l s m args meth c b L xs D E) (hRm : 12 ≤ Rm.frames ∧ 400 ≤ Rm.locals) {Q : State → Prop} {H : Heap} {locs : List Loc} {cells slots : Nat} {ls : Array Slot} {M R : bM} {f : Nat → Int64} {i V : Nat} (hV : 121 ≤ V) (hV8 : V + 8 < 2 ^ 20) (I : lwI s D E H locs M R f V) (hl : lv_has ls 7 (lwV s b i)) (hi : i + 3 < L) (hf : cells + 1 ≤ Rm.cells ∧ slots + 6 ≤ Rm.slots)
    (kk : ∀ (M1 R1 : bM) (f1 : Nat → Int64) (H1 : Heap) (locs1 : List Loc) (ls1 : Array Slot), lwI s D E H1 locs1 M1 R1 f1 (V + 1) → lv_has ls1 7 (lwV s b i) → W p l e Rm s m args below meth c H1 locs1 (cells + 1) (slots + 6) Q (F0 m 1529 ls1 [])) : W p l e Rm s m args below meth c H locs cells slots Q (F0 m 1473 ls []) := by
  obtain ⟨hx, hb, hml, hown, hts, hX, hbl, hKX, hZ, hNc, hst, hL⟩ := C0
  obtain ⟨hB, hR, hP, hS, hs, hg⟩ := I
  have hok := ok_restore (M := M) (R := R) (x1 := (xs (i + 1))) hs
  refine lv_aload_n hx hb dL_law_1473 rfl (lv_at hl 1 rfl) ?_
  refine lv_aload_n hx hb dL_law_1474 rfl (lv_at hl 0 rfl) ?_
  refine lv_iload hx hb dL_law_1475 (lv_at hl 4 rfl) ?_
  refine lv_iconst (v := 1) hx hb dL_law_1477 (by decide) ?_
  refine w_iaddN (i := i) (j := 1) hx hb rfl dL_law_1478 ?_
  refine w_sld hx hb hX hbl hS hL (show i + 1 < L by omega) dL_law_1479 ?_
  refine lv_aload_n hx hb dL_law_1480 rfl (lv_at hl 3 rfl) ?_
  refine w_help (w_runS (As := [.ref (s.heap.size + 0), .int (xs (i + 1)), .ref (oW s)]) (rest := []) ⟨hx, hb, hml, hown, hts⟩ (h_restore l hst D E s.heap.size (oW s) f M (xs (i + 1)) rA_w (okF_2 hok)) (vx_cwSW 3 hts gL_law_L_restore rfl rfl rfl (by decide +kernel) ⟨Nat.le_trans (by decide) hRm.1, Nat.le_trans (by decide) hRm.2⟩) hB hP hKX (bZ_at hZ hS) hNc rfl hl rfl (Nat.le_of_ble_eq_true rfl) dL_law_1481 hf) hS hA_0 (fun H1 locs f1 hB hP hf1 hq hz hS => ?_)
  have hR := bk_kept hR (fun q h1 h2 => hq q (bk_size hR LRR_len q h1 (by rw [LRR_len] at h2; exact h2)) (fun z => by rw [LRR_len] at h2; have hh1 : s.heap.size + 194 ≤ q := h1; have hh2 : q < s.heap.size + 194 + 9 := h2; rcases z with z | z; have h5 := z.2; omega; have h5 : q = s.heap.size + 203 := z; omega))
  refine lv_istore (lv' := (5, .int (plc 3 2 (f_X6_restore M (xs (i + 1))).1)) :: lwV s b i) hx hb dL_law_1484 hl (by decide) rfl (fun ls hl => ?_)
  refine lv_aload_n hx hb dL_law_1486 rfl (lv_at hl 3 rfl) ?_
  refine lv_aload_n hx hb dL_law_1487 rfl (lv_at hl 1 rfl) ?_
  refine lv_iload hx hb dL_law_1488 (lv_at hl 5 rfl) ?_
  refine lv_iconst (v := 1) hx hb dL_law_1490 (by decide) ?_
  refine w_iaddN (i := i) (j := 1) hx hb rfl dL_law_1491 ?_
  refine w_sld hx hb hX hbl hS hL (show i + 1 < L by omega) dL_law_1492 ?_
  refine w_mI (b_runV (As := [.int (xs (i + 1))]) (rest := []) ⟨hx, hb, hml, hown, hts⟩ (c_X7_restore l D E (oB s) R (xs (i + 1))) (cwV 1 hts gL_law_X7_restore rfl rfl rfl (by decide +kernel) ⟨Nat.le_trans (by decide) hRm.1, Nat.le_trans (by decide) hRm.2⟩) hKX.1 (bk_recv hKX.1.1 hR lay_m0 rfl) hR rfl hl rfl (Nat.le_of_ble_eq_true rfl) dL_law_1493 ⟨by have := hf.1; omega, by have := hf.2; omega⟩) hS rB_0 (fun r R1 hr H2 locs hR hq2 hz2 hS => ?_)
  obtain ⟨hr1, hr2⟩ := hr
  have hr1 := hr1.symm
  have hr2 := hr2.symm
  subst hr1
  subst hr2
  have hB := bk_kept hB (fun q h1 h2 => hq2 q (fun z => by rw [LRM_len] at h2; have h5 : s.heap.size + 194 ≤ q := z.1; omega))
  have hP := va_at.kept hP (hq2 (oW s) (fun z => by have h5 : s.heap.size + 203 < s.heap.size + 194 + 9 := z.2; omega))
  refine lv_istore (lv' := (6, .int (f_X7_restore R (xs (i + 1))).1) :: (5, .int (plc 3 2 (f_X6_restore M (xs (i + 1))).1)) :: lwV s b i) hx hb dL_law_1496 hl (by decide) rfl (fun ls hl => ?_)
  refine lv_aload_n hx hb dL_law_1498 rfl (lv_at hl 4 rfl) ?_
  refine w_pI (b_runV (As := []) (rest := []) ⟨hx, hb, hml, hown, hts⟩ (c_X7_thrown l D E (oB s) (f_X7_restore R (xs (i + 1))).2) (cwV 0 hts gL_law_X7_thrown rfl rfl rfl (by decide +kernel) ⟨Nat.le_trans (by decide) hRm.1, Nat.le_trans (by decide) hRm.2⟩) hKX.1 (bk_recv hKX.1.1 hR lay_m0 rfl) hR rfl hl rfl (Nat.le_of_ble_eq_true rfl) dL_law_1499 ⟨by have := hf.1; omega, by have := hf.2; omega⟩) hS (fun r hr locs hS => ?_)
  rw [u_f_X7_thrown, hok.1] at hr
  have hr := hr.symm
  subst hr
  refine lv_iload hx hb dL_law_1502 (lv_at hl 1 rfl) ?_
  refine lv_icmp_eq (tgt := 1509) hx hb dL_law_1504 (by decide) (fun _ => ?_) (fun z => absurd rfl z)
  have hI : lwI s D E H2 locs (f_X6_restore M (xs (i + 1))).2.2 (f_X7_restore R (xs (i + 1))).2 f1 (V + 1) := ⟨hB, hR, hP, hS, hok.2.2.2, gb_restore hg⟩
  have hl0 : lv_has ls 7 (lwV s b i) := lv_sub hl [2, 3, 4, 5, 6] rfl
  refine lv_iload hx hb dL_law_1509 (lv_at hl 1 rfl) ?_
  refine lv_if_ne (tgt := 1526) hx hb dL_law_1511 (by decide) (fun _ => ?_) (fun z => ?_)
  · exact lv_goto (tgt := 1529) hx hb dL_law_1526 (by decide) (kk _ _ _ _ _ _ hI hl0)
  · have h0 := plc_0 z
    refine lv_aload_n hx hb dL_law_1514 rfl (lv_at hl 5 rfl) ?_
    refine lv_iconst (v := 0) hx hb dL_law_1515 (by decide) ?_
    refine w_lald hx hb hKX.1.1 hP dL_law_1516 ?_
    refine lv_iload hx hb dL_law_1517 (lv_at hl 0 rfl) ?_
    refine lv_i2l (v := (f_X7_restore R (xs (i + 1))).1.toInt64) hx hb dL_law_1519 rfl ?_
    refine W.lcmp hx hb dL_law_1520 ?_
    refine lv_if_eq (tgt := 1526) hx hb dL_law_1521 (by decide) (fun _ => ?_) (fun z => absurd ((cmp_z _ _).mpr ((hf1 h0).trans (by rw [hok.2.2.1 h0]))) z)
    exact lv_goto (tgt := 1529) hx hb dL_law_1526 (by decide) (kk _ _ _ _ _ _ hI hl0)
