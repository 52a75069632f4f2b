/-! THE LAW'S alike, its pieces -/
set_option maxHeartbeats 40000000 in
set_option maxRecDepth 100000 in
theorem al_loop_b {p : Program} {l : Launch} {e : Env} {s : State} {m : MethodId} {args : Array Value} {below : List Frame} {meth : Method} {co : Code} {D : va_G} {E : Nat → ClassId} {o : Nat} {q : Nat} {S : aT} {Q : State → Prop} {H : Heap} {locs : List Loc} {ls : Array Slot} {X : Nat} {i : Nat} (K : lK p l s m args co D E (rAA o q) cL_alike 5 wsL_alike) (hd : djo o q) (hO : Ob D E o S H) (hQ : Ob D E q S H) (hS : va_S (rAA o q) s.heap H locs) (hl : lv_has ls 5 [(0, .ref o), (1, .ref q), (2, .int (nI (X))), (3, .int 1), (4, .int (nI (i)))]) (hi : i < 9) (hX : X < 5000)
    (kk : ∀ (H : Heap) (locs : List Loc) (ls : Array Slot), Ob D E o S H → Ob D E q S H → va_S (rAA o q) s.heap H locs → lv_has ls 5 [(0, .ref o), (1, .ref q), (2, .int (nI (X))), (3, .int 1), (4, .int (nI (i + 1)))] → W p l e (lRm 9 100 600) s m args below meth co H locs (10 * i + 12) (6 * (10 * i + 12)) Q (F0 m 58 ls [])) : W p l e (lRm 9 100 600) s m args below meth co H locs (10 * i + 2) (6 * (10 * i + 2)) Q (F0 m 58 ls []) := by
  obtain ⟨hx, hb, hml, hown, hts, hKX, hZ, hNc, hst⟩ := K
  refine lv_iload hx hb dL_alike_58 (lv_at hl 4 rfl) ?_
  refine lv_bipush (v := 9) hx hb dL_alike_60 (by decide) ?_
  refine lv_icmp_ge (tgt := 226) hx hb dL_alike_62 (by decide) (fun z => absurd z (nI_ge (a := i) (b := 9) hi (by decide))) (fun _ => ?_)
  refine lv_iload_n hx hb dL_alike_65 rfl (lv_at hl 3 rfl) ?_
  refine lv_if_eq (tgt := 226) hx hb dL_alike_66 (by decide) (fun z => absurd z (show ¬ (1 : Int32) = 0 by decide)) (fun _ => ?_)
  refine lv_aload_n hx hb dL_alike_69 rfl (lv_at hl 0 rfl) ?_
  refine lv_iconst (v := 2) hx hb dL_alike_70 (by decide) ?_
  refine lv_iload hx hb dL_alike_71 (lv_at hl 4 rfl) ?_
  refine lv_iconst (v := 0) hx hb dL_alike_73 (by decide) ?_
  refine lv_iconst (v := 0) hx hb dL_alike_74 (by decide) ?_
  refine l_go (cells' := 10 * i + 3) (slots' := 6 * (10 * i + 3)) (l_runS (P := Ob D E o S) (As := [.ref o, .int 2, .int (nI (i)), .int 0, .int 0]) (rest := []) ⟨hx, hb, hml, hown, hts⟩ (c_call_2 l hst D E o S (nI (i)) 0 0) (va_cwS 5 hts gL_alike_L_call rfl rfl rfl (by decide +kernel) ⟨Nat.le_of_ble_eq_true rfl, Nat.le_of_ble_eq_true rfl⟩) hO hKX (l_Z hZ hS (fun _ h => Or.inl h)) hNc rfl hl rfl (Nat.le_of_ble_eq_true rfl) dL_alike_75 ⟨by show 10 * i + 2 + 1 ≤ 100; omega, by show 6 * (10 * i + 2) + 6 ≤ 600; omega⟩) hS (fun _ h => Or.inl h) ⟨by omega, by omega⟩ (fun r75 H locs hp hq hz hS => ?_)
  obtain ⟨h75, hO⟩ := hp
  have hO : Ob D E o S H := hO
  have hQ := hQ.kept hq (dj_1 hd)
  refine lv_aload_n hx hb dL_alike_78 rfl (lv_at hl 1 rfl) ?_
  refine lv_iconst (v := 2) hx hb dL_alike_79 (by decide) ?_
  refine lv_iload hx hb dL_alike_80 (lv_at hl 4 rfl) ?_
  refine lv_iconst (v := 0) hx hb dL_alike_82 (by decide) ?_
  refine lv_iconst (v := 0) hx hb dL_alike_83 (by decide) ?_
  refine l_go (cells' := 10 * i + 4) (slots' := 6 * (10 * i + 4)) (l_runS (P := Ob D E q S) (As := [.ref q, .int 2, .int (nI (i)), .int 0, .int 0]) (rest := [.int r75]) ⟨hx, hb, hml, hown, hts⟩ (c_call_2 l hst D E q S (nI (i)) 0 0) (va_cwS 5 hts gL_alike_L_call rfl rfl rfl (by decide +kernel) ⟨Nat.le_of_ble_eq_true rfl, Nat.le_of_ble_eq_true rfl⟩) hQ hKX (l_Z hZ hS (fun _ h => Or.inr h)) hNc rfl hl rfl (Nat.le_of_ble_eq_true rfl) dL_alike_84 ⟨by show 10 * i + 3 + 1 ≤ 100; omega, by show 6 * (10 * i + 3) + 6 ≤ 600; omega⟩) hS (fun _ h => Or.inr h) ⟨by omega, by omega⟩ (fun r84 H locs hp hq hz hS => ?_)
  obtain ⟨h84, hQ⟩ := hp
  have hQ : Ob D E q S H := hQ
  have hO := hO.kept hq (dj_2 hd)
  refine lv_icmp_ne (tgt := 218) hx hb dL_alike_87 (by decide) (fun z => absurd (h75.trans h84.symm) z) (fun _ => ?_)
  refine lv_aload_n hx hb dL_alike_90 rfl (lv_at hl 0 rfl) ?_
  refine lv_iconst (v := 3) hx hb dL_alike_91 (by decide) ?_
  refine lv_iload hx hb dL_alike_92 (lv_at hl 4 rfl) ?_
  refine lv_iconst (v := 2) hx hb dL_alike_94 (by decide) ?_
  refine w_rem (a := i) (d := 2) hx hb rfl (by omega) (by decide) (by decide) dL_alike_95 ?_
  refine lv_iload hx hb dL_alike_96 (lv_at hl 4 rfl) ?_
  refine lv_iconst (v := 2) hx hb dL_alike_98 (by decide) ?_
  refine w_div (a := i) (d := 2) hx hb rfl (by omega) (by decide) (by decide) dL_alike_99 ?_
  refine lv_iconst (v := 0) hx hb dL_alike_100 (by decide) ?_
  refine l_go (cells' := 10 * i + 5) (slots' := 6 * (10 * i + 5)) (l_runS (P := Ob D E o S) (As := [.ref o, .int 3, .int (nI ((i) % 2)), .int (nI ((i) / 2)), .int 0]) (rest := []) ⟨hx, hb, hml, hown, hts⟩ (c_call_3 l hst D E o S (nI ((i) % 2)) (nI ((i) / 2)) 0) (va_cwS 5 hts gL_alike_L_call rfl rfl rfl (by decide +kernel) ⟨Nat.le_of_ble_eq_true rfl, Nat.le_of_ble_eq_true rfl⟩) hO hKX (l_Z hZ hS (fun _ h => Or.inl h)) hNc rfl hl rfl (Nat.le_of_ble_eq_true rfl) dL_alike_101 ⟨by show 10 * i + 4 + 1 ≤ 100; omega, by show 6 * (10 * i + 4) + 6 ≤ 600; omega⟩) hS (fun _ h => Or.inl h) ⟨by omega, by omega⟩ (fun r101 H locs hp hq hz hS => ?_)
  obtain ⟨h101, hO⟩ := hp
  have hO : Ob D E o S H := hO
  have hQ := hQ.kept hq (dj_1 hd)
  refine lv_aload_n hx hb dL_alike_104 rfl (lv_at hl 1 rfl) ?_
  refine lv_iconst (v := 3) hx hb dL_alike_105 (by decide) ?_
  refine lv_iload hx hb dL_alike_106 (lv_at hl 4 rfl) ?_
  refine lv_iconst (v := 2) hx hb dL_alike_108 (by decide) ?_
  refine w_rem (a := i) (d := 2) hx hb rfl (by omega) (by decide) (by decide) dL_alike_109 ?_
  refine lv_iload hx hb dL_alike_110 (lv_at hl 4 rfl) ?_
  refine lv_iconst (v := 2) hx hb dL_alike_112 (by decide) ?_
  refine w_div (a := i) (d := 2) hx hb rfl (by omega) (by decide) (by decide) dL_alike_113 ?_
  refine lv_iconst (v := 0) hx hb dL_alike_114 (by decide) ?_
  refine l_go (cells' := 10 * i + 6) (slots' := 6 * (10 * i + 6)) (l_runS (P := Ob D E q S) (As := [.ref q, .int 3, .int (nI ((i) % 2)), .int (nI ((i) / 2)), .int 0]) (rest := [.int r101]) ⟨hx, hb, hml, hown, hts⟩ (c_call_3 l hst D E q S (nI ((i) % 2)) (nI ((i) / 2)) 0) (va_cwS 5 hts gL_alike_L_call rfl rfl rfl (by decide +kernel) ⟨Nat.le_of_ble_eq_true rfl, Nat.le_of_ble_eq_true rfl⟩) hQ hKX (l_Z hZ hS (fun _ h => Or.inr h)) hNc rfl hl rfl (Nat.le_of_ble_eq_true rfl) dL_alike_115 ⟨by show 10 * i + 5 + 1 ≤ 100; omega, by show 6 * (10 * i + 5) + 6 ≤ 600; omega⟩) hS (fun _ h => Or.inr h) ⟨by omega, by omega⟩ (fun r115 H locs hp hq hz hS => ?_)
  obtain ⟨h115, hQ⟩ := hp
  have hQ : Ob D E q S H := hQ
  have hO := hO.kept hq (dj_2 hd)
  refine lv_icmp_ne (tgt := 218) hx hb dL_alike_118 (by decide) (fun z => absurd (h101.trans h115.symm) z) (fun _ => ?_)
  refine lv_aload_n hx hb dL_alike_121 rfl (lv_at hl 0 rfl) ?_
  refine lv_iconst (v := 4) hx hb dL_alike_122 (by decide) ?_
  refine lv_iload hx hb dL_alike_123 (lv_at hl 4 rfl) ?_
  refine lv_iload_n hx hb dL_alike_125 rfl (lv_at hl 2 rfl) ?_
  refine lv_bipush (v := 8) hx hb dL_alike_126 (by decide) ?_
  refine w_rem (a := X) (d := 8) hx hb rfl (by omega) (by decide) (by decide) dL_alike_128 ?_
  refine lv_iconst (v := 2) hx hb dL_alike_129 (by decide) ?_
  refine l_go (cells' := 10 * i + 7) (slots' := 6 * (10 * i + 7)) (l_runS (P := Ob D E o S) (As := [.ref o, .int 4, .int (nI (i)), .int (nI ((X) % 8)), .int 2]) (rest := []) ⟨hx, hb, hml, hown, hts⟩ (c_call_4 l hst D E o S (nI (i)) (nI ((X) % 8)) 2) (va_cwS 5 hts gL_alike_L_call rfl rfl rfl (by decide +kernel) ⟨Nat.le_of_ble_eq_true rfl, Nat.le_of_ble_eq_true rfl⟩) hO hKX (l_Z hZ hS (fun _ h => Or.inl h)) hNc rfl hl rfl (Nat.le_of_ble_eq_true rfl) dL_alike_130 ⟨by show 10 * i + 6 + 1 ≤ 100; omega, by show 6 * (10 * i + 6) + 6 ≤ 600; omega⟩) hS (fun _ h => Or.inl h) ⟨by omega, by omega⟩ (fun r130 H locs hp hq hz hS => ?_)
  obtain ⟨h130, hO⟩ := hp
  have hO : Ob D E o S H := hO
  have hQ := hQ.kept hq (dj_1 hd)
  refine lv_aload_n hx hb dL_alike_133 rfl (lv_at hl 1 rfl) ?_
  refine lv_iconst (v := 4) hx hb dL_alike_134 (by decide) ?_
  refine lv_iload hx hb dL_alike_135 (lv_at hl 4 rfl) ?_
  refine lv_iload_n hx hb dL_alike_137 rfl (lv_at hl 2 rfl) ?_
  refine lv_bipush (v := 8) hx hb dL_alike_138 (by decide) ?_
  refine w_rem (a := X) (d := 8) hx hb rfl (by omega) (by decide) (by decide) dL_alike_140 ?_
  refine lv_iconst (v := 2) hx hb dL_alike_141 (by decide) ?_
  refine l_go (cells' := 10 * i + 8) (slots' := 6 * (10 * i + 8)) (l_runS (P := Ob D E q S) (As := [.ref q, .int 4, .int (nI (i)), .int (nI ((X) % 8)), .int 2]) (rest := [.int r130]) ⟨hx, hb, hml, hown, hts⟩ (c_call_4 l hst D E q S (nI (i)) (nI ((X) % 8)) 2) (va_cwS 5 hts gL_alike_L_call rfl rfl rfl (by decide +kernel) ⟨Nat.le_of_ble_eq_true rfl, Nat.le_of_ble_eq_true rfl⟩) hQ hKX (l_Z hZ hS (fun _ h => Or.inr h)) hNc rfl hl rfl (Nat.le_of_ble_eq_true rfl) dL_alike_142 ⟨by show 10 * i + 7 + 1 ≤ 100; omega, by show 6 * (10 * i + 7) + 6 ≤ 600; omega⟩) hS (fun _ h => Or.inr h) ⟨by omega, by omega⟩ (fun r142 H locs hp hq hz hS => ?_)
  obtain ⟨h142, hQ⟩ := hp
  have hQ : Ob D E q S H := hQ
  have hO := hO.kept hq (dj_2 hd)
  refine lv_icmp_ne (tgt := 218) hx hb dL_alike_145 (by decide) (fun z => absurd (h130.trans h142.symm) z) (fun _ => ?_)
  refine lv_aload_n hx hb dL_alike_148 rfl (lv_at hl 0 rfl) ?_
  refine lv_iconst (v := 4) hx hb dL_alike_149 (by decide) ?_
  refine lv_iload_n hx hb dL_alike_150 rfl (lv_at hl 2 rfl) ?_
  refine lv_bipush (v := 8) hx hb dL_alike_151 (by decide) ?_
  refine w_rem (a := X) (d := 8) hx hb rfl (by omega) (by decide) (by decide) dL_alike_153 ?_
  refine lv_iload hx hb dL_alike_154 (lv_at hl 4 rfl) ?_
  refine lv_iload_n hx hb dL_alike_156 rfl (lv_at hl 2 rfl) ?_
  refine lv_iconst (v := 4) hx hb dL_alike_157 (by decide) ?_
  refine w_rem (a := X) (d := 4) hx hb rfl (by omega) (by decide) (by decide) dL_alike_158 ?_
  refine l_go (cells' := 10 * i + 9) (slots' := 6 * (10 * i + 9)) (l_runS (P := Ob D E o S) (As := [.ref o, .int 4, .int (nI ((X) % 8)), .int (nI (i)), .int (nI ((X) % 4))]) (rest := []) ⟨hx, hb, hml, hown, hts⟩ (c_call_4 l hst D E o S (nI ((X) % 8)) (nI (i)) (nI ((X) % 4))) (va_cwS 5 hts gL_alike_L_call rfl rfl rfl (by decide +kernel) ⟨Nat.le_of_ble_eq_true rfl, Nat.le_of_ble_eq_true rfl⟩) hO hKX (l_Z hZ hS (fun _ h => Or.inl h)) hNc rfl hl rfl (Nat.le_of_ble_eq_true rfl) dL_alike_159 ⟨by show 10 * i + 8 + 1 ≤ 100; omega, by show 6 * (10 * i + 8) + 6 ≤ 600; omega⟩) hS (fun _ h => Or.inl h) ⟨by omega, by omega⟩ (fun r159 H locs hp hq hz hS => ?_)
  obtain ⟨h159, hO⟩ := hp
  have hO : Ob D E o S H := hO
  have hQ := hQ.kept hq (dj_1 hd)
  refine lv_aload_n hx hb dL_alike_162 rfl (lv_at hl 1 rfl) ?_
  refine lv_iconst (v := 4) hx hb dL_alike_163 (by decide) ?_
  refine lv_iload_n hx hb dL_alike_164 rfl (lv_at hl 2 rfl) ?_
  refine lv_bipush (v := 8) hx hb dL_alike_165 (by decide) ?_
  refine w_rem (a := X) (d := 8) hx hb rfl (by omega) (by decide) (by decide) dL_alike_167 ?_
  refine lv_iload hx hb dL_alike_168 (lv_at hl 4 rfl) ?_
  refine lv_iload_n hx hb dL_alike_170 rfl (lv_at hl 2 rfl) ?_
  refine lv_iconst (v := 4) hx hb dL_alike_171 (by decide) ?_
  refine w_rem (a := X) (d := 4) hx hb rfl (by omega) (by decide) (by decide) dL_alike_172 ?_
  refine l_go (cells' := 10 * i + 10) (slots' := 6 * (10 * i + 10)) (l_runS (P := Ob D E q S) (As := [.ref q, .int 4, .int (nI ((X) % 8)), .int (nI (i)), .int (nI ((X) % 4))]) (rest := [.int r159]) ⟨hx, hb, hml, hown, hts⟩ (c_call_4 l hst D E q S (nI ((X) % 8)) (nI (i)) (nI ((X) % 4))) (va_cwS 5 hts gL_alike_L_call rfl rfl rfl (by decide +kernel) ⟨Nat.le_of_ble_eq_true rfl, Nat.le_of_ble_eq_true rfl⟩) hQ hKX (l_Z hZ hS (fun _ h => Or.inr h)) hNc rfl hl rfl (Nat.le_of_ble_eq_true rfl) dL_alike_173 ⟨by show 10 * i + 9 + 1 ≤ 100; omega, by show 6 * (10 * i + 9) + 6 ≤ 600; omega⟩) hS (fun _ h => Or.inr h) ⟨by omega, by omega⟩ (fun r173 H locs hp hq hz hS => ?_)
  obtain ⟨h173, hQ⟩ := hp
  have hQ : Ob D E q S H := hQ
  have hO := hO.kept hq (dj_2 hd)
  refine lv_icmp_ne (tgt := 218) hx hb dL_alike_176 (by decide) (fun z => absurd (h159.trans h173.symm) z) (fun _ => ?_)
  refine lv_aload_n hx hb dL_alike_179 rfl (lv_at hl 0 rfl) ?_
  refine lv_bipush (v := 13) hx hb dL_alike_180 (by decide) ?_
  refine lv_iload hx hb dL_alike_182 (lv_at hl 4 rfl) ?_
  refine lv_iload_n hx hb dL_alike_184 rfl (lv_at hl 2 rfl) ?_
  refine lv_bipush (v := 8) hx hb dL_alike_185 (by decide) ?_
  refine w_div (a := X) (d := 8) hx hb rfl (by omega) (by decide) (by decide) dL_alike_187 ?_
  refine lv_bipush (v := 8) hx hb dL_alike_188 (by decide) ?_
  refine w_rem (a := (X) / 8) (d := 8) hx hb rfl (by omega) (by decide) (by decide) dL_alike_190 ?_
  refine lv_iconst (v := 0) hx hb dL_alike_191 (by decide) ?_
  refine l_go (cells' := 10 * i + 11) (slots' := 6 * (10 * i + 11)) (l_runS (P := Ob D E o S) (As := [.ref o, .int 13, .int (nI (i)), .int (nI (((X) / 8) % 8)), .int 0]) (rest := []) ⟨hx, hb, hml, hown, hts⟩ (c_call_13 l hst D E o S (nI (i)) (nI (((X) / 8) % 8)) 0) (va_cwS 5 hts gL_alike_L_call rfl rfl rfl (by decide +kernel) ⟨Nat.le_of_ble_eq_true rfl, Nat.le_of_ble_eq_true rfl⟩) hO hKX (l_Z hZ hS (fun _ h => Or.inl h)) hNc rfl hl rfl (Nat.le_of_ble_eq_true rfl) dL_alike_192 ⟨by show 10 * i + 10 + 1 ≤ 100; omega, by show 6 * (10 * i + 10) + 6 ≤ 600; omega⟩) hS (fun _ h => Or.inl h) ⟨by omega, by omega⟩ (fun r192 H locs hp hq hz hS => ?_)
  obtain ⟨h192, hO⟩ := hp
  have hO : Ob D E o S H := hO
  have hQ := hQ.kept hq (dj_1 hd)
  refine lv_aload_n hx hb dL_alike_195 rfl (lv_at hl 1 rfl) ?_
  refine lv_bipush (v := 13) hx hb dL_alike_196 (by decide) ?_
  refine lv_iload hx hb dL_alike_198 (lv_at hl 4 rfl) ?_
  refine lv_iload_n hx hb dL_alike_200 rfl (lv_at hl 2 rfl) ?_
  refine lv_bipush (v := 8) hx hb dL_alike_201 (by decide) ?_
  refine w_div (a := X) (d := 8) hx hb rfl (by omega) (by decide) (by decide) dL_alike_203 ?_
  refine lv_bipush (v := 8) hx hb dL_alike_204 (by decide) ?_
  refine w_rem (a := (X) / 8) (d := 8) hx hb rfl (by omega) (by decide) (by decide) dL_alike_206 ?_
  refine lv_iconst (v := 0) hx hb dL_alike_207 (by decide) ?_
  refine l_go (cells' := 10 * i + 12) (slots' := 6 * (10 * i + 12)) (l_runS (P := Ob D E q S) (As := [.ref q, .int 13, .int (nI (i)), .int (nI (((X) / 8) % 8)), .int 0]) (rest := [.int r192]) ⟨hx, hb, hml, hown, hts⟩ (c_call_13 l hst D E q S (nI (i)) (nI (((X) / 8) % 8)) 0) (va_cwS 5 hts gL_alike_L_call rfl rfl rfl (by decide +kernel) ⟨Nat.le_of_ble_eq_true rfl, Nat.le_of_ble_eq_true rfl⟩) hQ hKX (l_Z hZ hS (fun _ h => Or.inr h)) hNc rfl hl rfl (Nat.le_of_ble_eq_true rfl) dL_alike_208 ⟨by show 10 * i + 11 + 1 ≤ 100; omega, by show 6 * (10 * i + 11) + 6 ≤ 600; omega⟩) hS (fun _ h => Or.inr h) ⟨by omega, by omega⟩ (fun r208 H locs hp hq hz hS => ?_)
  obtain ⟨h208, hQ⟩ := hp
  have hQ : Ob D E q S H := hQ
  have hO := hO.kept hq (dj_2 hd)
  refine lv_icmp_ne (tgt := 218) hx hb dL_alike_211 (by decide) (fun z => absurd (h192.trans h208.symm) z) (fun _ => ?_)
  refine lv_iconst (v := 1) hx hb dL_alike_214 (by decide) ?_
  refine lv_goto (tgt := 219) hx hb dL_alike_215 (by decide) ?_
  refine lv_istore_n (lv' := [(3, .int 1), (0, .ref o), (1, .ref q), (2, .int (nI (X))), (4, .int (nI (i)))]) hx hb dL_alike_219 rfl hl (by decide) rfl (fun ls hl => ?_)
  refine lv_iinc (v := (nI (i + 1))) (lv' := [(4, .int (nI (i + 1))), (3, .int 1), (0, .ref o), (1, .ref q), (2, .int (nI (X)))]) hx hb dL_alike_220 hl (k := 4) rfl (nI_1 _) (by decide) rfl (fun ls hl => ?_)
  refine lv_goto (tgt := 58) hx hb dL_alike_223 (by decide) ?_
  have hl : lv_has ls 5 [(0, .ref o), (1, .ref q), (2, .int (nI (X))), (3, .int 1), (4, .int (nI (i + 1)))] := lv_sub hl [2, 3, 4, 1, 0] rfl
  exact kk _ _ _ hO hQ hS hl
set_option maxRecDepth 100000 in
theorem al_loop {p : Program} {l : Launch} {e : Env} {s : State} {m : MethodId} {args : Array Value} {below : List Frame} {meth : Method} {co : Code} {D : va_G} {E : Nat → ClassId} {o : Nat} {q : Nat} {S : aT} {Q : State → Prop} {X : Nat} (K : lK p l s m args co D E (rAA o q) cL_alike 5 wsL_alike) (hd : djo o q) (hX : X < 5000)
    (kk : ∀ (H : Heap) (locs : List Loc) (ls : Array Slot), Ob D E o S H → Ob D E q S H → va_S (rAA o q) s.heap H locs → lv_has ls 5 [(0, .ref o), (1, .ref q), (2, .int (nI (X))), (3, .int 1), (4, .int (nI (9)))] → W p l e (lRm 9 100 600) s m args below meth co H locs (10 * (9) + 2) (6 * (10 * (9) + 2)) Q (F0 m 58 ls [])) : ∀ (n i : Nat), i + n = 9 → ∀ {H : Heap} {locs : List Loc} {ls : Array Slot}, Ob D E o S H → Ob D E q S H → va_S (rAA o q) s.heap H locs → lv_has ls 5 [(0, .ref o), (1, .ref q), (2, .int (nI (X))), (3, .int 1), (4, .int (nI (i)))] → W p l e (lRm 9 100 600) s m args below meth co H locs (10 * i + 2) (6 * (10 * i + 2)) Q (F0 m 58 ls [])
  | 0, i, h, _, _, _, hO, hQ, hS, hl => by
    have e : i = 9 := by omega
    subst e
    exact kk _ _ _ hO hQ hS hl
  | n + 1, i, h, _, _, _, hO, hQ, hS, hl => al_loop_b K hd hO hQ hS hl (by omega) hX (fun H locs ls hO hQ hS hl => W.widen (k := 10 * (i + 1) + 2) (n := 6 * (10 * (i + 1) + 2)) (by omega) (by omega) (al_loop K hd hX kk n (i + 1) (by omega) hO hQ hS hl))
theorem c_alike (l : Launch) (hst : l.stackTraces = false) (D : va_G) (E : Nat → ClassId) (o q : Nat) (hd : djo o q) (S : aT) (X : Nat) (hX : X < 5000) : Met l yL_alike wsL_alike (lRm 9 100 600) (lP D E [.ref o, .ref q, .int (nI X)] (fun H => Ob D E o S H ∧ Ob D E q S H) (rAA o q)) (lQ (fun r H => r = 1 ∧ Ob D E o S H ∧ Ob D E q S H) (rAA o q)) 100 600 (rAA o q) := by
  refine Met.ofW (cc := cL_alike) (maxL := 5) (ret := (some .boolean)) (by decide) rfl ?_
  intro p e s m args below meth co s₁ B hml hv
  obtain ⟨rfl, ⟨hO, hQ⟩, hKX, hZ, hNc⟩ := hv
  have hx := B.exec
  have hb := B.bytes
  have hr := B.returns
  have hts := atoms_spec (ws := wsL_alike) B.pre
  have hown : s.vm.findClass RL = some m.cls := findClass_of_methodNamed B.named
  have hlocks := B.notSynchronized
  have hS : va_S (rAA o q) s.heap s.heap [] := ⟨Nat.le_refl _, fun _ _ _ => rfl, fun _ h => by cases h⟩
  have hl := lv_entry ([.ref o, .ref q, .int (nI X)]) (n := 5) (Nat.le_of_ble_eq_true rfl)
  rw [lg_entry_eq]
  generalize (lg_sl ([.ref o, .ref q, .int (nI X)]) ++ List.replicate (5 - (lg_sl ([.ref o, .ref q, .int (nI X)])).length) Slot.unset).toArray = ls at hl ⊢
  have hl : lv_has ls 5 [(0, .ref o), (1, .ref q), (2, .int (nI (X)))] := hl
  have K : lK p l s m _ co D E (rAA o q) cL_alike 5 wsL_alike := ⟨hx, hb, hml, hown, hts, hKX, hZ, hNc, hst⟩
  refine lv_aload_n hx hb dL_alike_0 rfl (lv_at hl 0 rfl) ?_
  refine lv_iload_n hx hb dL_alike_1 rfl (lv_at hl 2 rfl) ?_
  refine lv_i2l (v := ((nI (X)) : Int32).toInt64) hx hb dL_alike_2 rfl ?_
  refine lv_iconst (v := 1) hx hb dL_alike_3 (by decide) ?_
  refine lv_iload_n hx hb dL_alike_4 rfl (lv_at hl 2 rfl) ?_
  refine lv_bipush (v := 60) hx hb dL_alike_5 (by decide) ?_
  refine w_rem (a := X) (d := 60) hx hb rfl (by omega) (by decide) (by decide) dL_alike_7 ?_
  refine w_add (i := 1) (j := (X) % 60) hx hb rfl rfl dL_alike_8 ?_
  obtain ⟨M, hM, hB⟩ := hO
  refine l_goX (cells' := 1) (slots' := 6) (l_runSX (P := fun H => bk D E LRM o M H) (As := [.ref o, .long ((nI (X)) : Int32).toInt64, .int (nI (1 + (X) % 60))]) (rest := []) ⟨hx, hb, hml, hown, hts⟩ (t_doSimulate l hst D E o M ((nI (X)) : Int32).toInt64 (nI (1 + (X) % 60)) (okF_1 (ok_simulate (x1 := ((nI (X)) : Int32).toInt64) (x2 := (nI (1 + (X) % 60))) hM.1) n9_simulate)) (vx_cwSW 3 hts gL_alike_L_doSimulate rfl rfl rfl (by decide +kernel) ⟨Nat.le_of_ble_eq_true rfl, Nat.le_of_ble_eq_true rfl⟩) hB hKX (l_Z hZ hS (fun _ h => Or.inl h)) hNc rfl hl rfl (Nat.le_of_ble_eq_true rfl) dL_alike_9 ⟨Nat.le_of_ble_eq_true rfl, Nat.le_of_ble_eq_true rfl⟩) hS (fun _ h => Or.inl h) ⟨Nat.le_of_ble_eq_true rfl, Nat.le_of_ble_eq_true rfl⟩ (fun r9 H locs hp hq hz hS => ?_)
  obtain ⟨h9, hB⟩ := hp
  have hcl := sim_cl (x := ((nI (X)) : Int32).toInt64) (m := (nI (1 + (X) % 60))) hM
  have h9 := h9.trans hcl.1
  have hO : Ob D E o S H := ⟨_, hcl.2, hB⟩
  have hQ := hQ.kept hq (dj_1 hd)
  refine lv_aload_n hx hb dL_alike_12 rfl (lv_at hl 1 rfl) ?_
  refine lv_iload_n hx hb dL_alike_13 rfl (lv_at hl 2 rfl) ?_
  refine lv_i2l (v := ((nI (X)) : Int32).toInt64) hx hb dL_alike_14 rfl ?_
  refine lv_iconst (v := 1) hx hb dL_alike_15 (by decide) ?_
  refine lv_iload_n hx hb dL_alike_16 rfl (lv_at hl 2 rfl) ?_
  refine lv_bipush (v := 60) hx hb dL_alike_17 (by decide) ?_
  refine w_rem (a := X) (d := 60) hx hb rfl (by omega) (by decide) (by decide) dL_alike_19 ?_
  refine w_add (i := 1) (j := (X) % 60) hx hb rfl rfl dL_alike_20 ?_
  obtain ⟨M, hM, hB⟩ := hQ
  refine l_goX (cells' := 2) (slots' := 12) (l_runSX (P := fun H => bk D E LRM q M H) (As := [.ref q, .long ((nI (X)) : Int32).toInt64, .int (nI (1 + (X) % 60))]) (rest := [.int r9]) ⟨hx, hb, hml, hown, hts⟩ (t_doSimulate l hst D E q M ((nI (X)) : Int32).toInt64 (nI (1 + (X) % 60)) (okF_1 (ok_simulate (x1 := ((nI (X)) : Int32).toInt64) (x2 := (nI (1 + (X) % 60))) hM.1) n9_simulate)) (vx_cwSW 3 hts gL_alike_L_doSimulate rfl rfl rfl (by decide +kernel) ⟨Nat.le_of_ble_eq_true rfl, Nat.le_of_ble_eq_true rfl⟩) hB hKX (l_Z hZ hS (fun _ h => Or.inr h)) hNc rfl hl rfl (Nat.le_of_ble_eq_true rfl) dL_alike_21 ⟨Nat.le_of_ble_eq_true rfl, Nat.le_of_ble_eq_true rfl⟩) hS (fun _ h => Or.inr h) ⟨Nat.le_of_ble_eq_true rfl, Nat.le_of_ble_eq_true rfl⟩ (fun r21 H locs hp hq hz hS => ?_)
  obtain ⟨h21, hB⟩ := hp
  have hcl := sim_cl (x := ((nI (X)) : Int32).toInt64) (m := (nI (1 + (X) % 60))) hM
  have h21 := h21.trans hcl.1
  have hQ : Ob D E q S H := ⟨_, hcl.2, hB⟩
  have hO := hO.kept hq (dj_2 hd)
  refine lv_icmp_ne (tgt := 53) hx hb dL_alike_24 (by decide) (fun z => absurd (h9.trans h21.symm) z) (fun _ => ?_)
  refine lv_aload_n hx hb dL_alike_27 rfl (lv_at hl 0 rfl) ?_
  obtain ⟨M, hM, hB⟩ := hO
  refine w_mI (b_runV (As := []) (rest := []) ⟨hx, hb, hml, hown, hts⟩ (c_X6_best l D E o M) (cwV 0 hts gL_alike_X6_best rfl rfl rfl (by decide +kernel) ⟨Nat.le_of_ble_eq_true rfl, Nat.le_of_ble_eq_true rfl⟩) hKX.1 (bk_recv hKX.1.1 hB lay_0 rfl) hB rfl hl rfl (Nat.le_of_ble_eq_true rfl) dL_alike_28 ⟨Nat.le_of_ble_eq_true rfl, Nat.le_of_ble_eq_true rfl⟩) hS (fun _ h => Or.inl h) (fun r28 M1 hr H locs hB hq hz hS => ?_)
  obtain ⟨h28, hr2⟩ := hr
  have hcl := best_cl hM
  rw [← hr2] at hcl
  have h28 := h28.trans hcl.1
  have hO : Ob D E o S H := ⟨M1, hcl.2, hB⟩
  have hQ := hQ.kept (fun x _ h => hq x h) (dj_1 hd)
  refine lv_aload_n hx hb dL_alike_31 rfl (lv_at hl 1 rfl) ?_
  obtain ⟨M, hM, hB⟩ := hQ
  refine w_mI (b_runV (As := []) (rest := [.int r28]) ⟨hx, hb, hml, hown, hts⟩ (c_X6_best l D E q M) (cwV 0 hts gL_alike_X6_best rfl rfl rfl (by decide +kernel) ⟨Nat.le_of_ble_eq_true rfl, Nat.le_of_ble_eq_true rfl⟩) hKX.1 (bk_recv hKX.1.1 hB lay_0 rfl) hB rfl hl rfl (Nat.le_of_ble_eq_true rfl) dL_alike_32 ⟨Nat.le_of_ble_eq_true rfl, Nat.le_of_ble_eq_true rfl⟩) hS (fun _ h => Or.inr h) (fun r32 M1 hr H locs hB hq hz hS => ?_)
  obtain ⟨h32, hr2⟩ := hr
  have hcl := best_cl hM
  rw [← hr2] at hcl
  have h32 := h32.trans hcl.1
  have hQ : Ob D E q S H := ⟨M1, hcl.2, hB⟩
  have hO := hO.kept (fun x _ h => hq x h) (dj_2 hd)
  refine lv_icmp_ne (tgt := 53) hx hb dL_alike_35 (by decide) (fun z => absurd (h28.trans h32.symm) z) (fun _ => ?_)
  refine lv_aload_n hx hb dL_alike_38 rfl (lv_at hl 0 rfl) ?_
  obtain ⟨M, hM, hB⟩ := hO
  refine w_mI (b_runV (As := []) (rest := []) ⟨hx, hb, hml, hown, hts⟩ (c_X6_leastWished l D E o M) (cwV 0 hts gL_alike_X6_leastWished rfl rfl rfl (by decide +kernel) ⟨Nat.le_of_ble_eq_true rfl, Nat.le_of_ble_eq_true rfl⟩) hKX.1 (bk_recv hKX.1.1 hB lay_0 rfl) hB rfl hl rfl (Nat.le_of_ble_eq_true rfl) dL_alike_39 ⟨Nat.le_of_ble_eq_true rfl, Nat.le_of_ble_eq_true rfl⟩) hS (fun _ h => Or.inl h) (fun r39 M1 hr H locs hB hq hz hS => ?_)
  obtain ⟨h39, hr2⟩ := hr
  have hcl := least_cl hM
  rw [← hr2] at hcl
  have h39 := h39.trans hcl.1
  have hO : Ob D E o S H := ⟨M1, hcl.2, hB⟩
  have hQ := hQ.kept (fun x _ h => hq x h) (dj_1 hd)
  refine lv_aload_n hx hb dL_alike_42 rfl (lv_at hl 1 rfl) ?_
  obtain ⟨M, hM, hB⟩ := hQ
  refine w_mI (b_runV (As := []) (rest := [.int r39]) ⟨hx, hb, hml, hown, hts⟩ (c_X6_leastWished l D E q M) (cwV 0 hts gL_alike_X6_leastWished rfl rfl rfl (by decide +kernel) ⟨Nat.le_of_ble_eq_true rfl, Nat.le_of_ble_eq_true rfl⟩) hKX.1 (bk_recv hKX.1.1 hB lay_0 rfl) hB rfl hl rfl (Nat.le_of_ble_eq_true rfl) dL_alike_43 ⟨Nat.le_of_ble_eq_true rfl, Nat.le_of_ble_eq_true rfl⟩) hS (fun _ h => Or.inr h) (fun r43 M1 hr H locs hB hq hz hS => ?_)
  obtain ⟨h43, hr2⟩ := hr
  have hcl := least_cl hM
  rw [← hr2] at hcl
  have h43 := h43.trans hcl.1
  have hQ : Ob D E q S H := ⟨M1, hcl.2, hB⟩
  have hO := hO.kept (fun x _ h => hq x h) (dj_2 hd)
  refine lv_icmp_ne (tgt := 53) hx hb dL_alike_46 (by decide) (fun z => absurd (h39.trans h43.symm) z) (fun _ => ?_)
  refine lv_iconst (v := 1) hx hb dL_alike_49 (by decide) ?_
  refine lv_goto (tgt := 54) hx hb dL_alike_50 (by decide) ?_
  refine lv_istore_n (lv' := [(3, .int 1), (0, .ref o), (1, .ref q), (2, .int (nI (X)))]) hx hb dL_alike_54 rfl hl (by decide) rfl (fun ls hl => ?_)
  refine lv_iconst (v := 0) hx hb dL_alike_55 (by decide) ?_
  refine lv_istore (lv' := [(4, .int 0), (3, .int 1), (0, .ref o), (1, .ref q), (2, .int (nI (X)))]) hx hb dL_alike_56 hl (by decide) rfl (fun ls hl => ?_)
  have hl : lv_has ls 5 [(0, .ref o), (1, .ref q), (2, .int (nI (X))), (3, .int 1), (4, .int 0)] := lv_sub hl [2, 3, 4, 1, 0] rfl
  refine W.widen (k := 10 * (0) + 2) (n := 6 * (10 * (0) + 2)) (by omega) (by omega) ?_
  refine al_loop K hd hX (fun H locs ls hO hQ hS hl => ?_) (9 - 0) 0 (by omega) hO hQ hS hl
  refine lv_iload hx hb dL_alike_58 (lv_at hl 4 rfl) ?_
  refine lv_bipush (v := 9) hx hb dL_alike_60 (by decide) ?_
  refine lv_icmp_ge (tgt := 226) hx hb dL_alike_62 (by decide) (fun _ => ?_) (fun z => absurd (nI_le (a := 9) (b := 9) (Nat.le_refl _) (by decide)) z)
  refine lv_iload_n hx hb dL_alike_226 rfl (lv_at hl 3 rfl) ?_
  exact l_zret hx hb hr (Or.inr rfl) hlocks hS ⟨rfl, hO, hQ⟩ ⟨by omega, by omega⟩ dL_alike_227
