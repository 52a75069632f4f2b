/-! THE LAW'S refuses, its pieces -/
set_option maxHeartbeats 40000000 in
set_option maxRecDepth 100000 in
theorem rf_1 {p : Program} {l : Launch} {e : Env} {s : State} {m : MethodId} {args : Array Value} {below : List Frame} {meth : Method} {co : Code} {D : va_G} {E : Nat → ClassId} {o : Nat} {S : aT} {Q : State → Prop} {H : Heap} {locs : List Loc} {ls : Array Slot} {w1 w2 r50 : Int32} {X : Nat} {a b : Nat} (K : lK p l s m args co D E (rA o) cL_refuses 7 wsL_refuses) (hO : Ob D E o S H) (hS : va_S (rA o) s.heap H locs) (hl : lv_has ls 7 [(4, .int r50), (3, .int w2), (2, .int w1), (0, .ref o), (1, .int (nI (X)))]) (hX : X < 100000) (n1 : ¬ vp_in w1 2) (n2 : ¬ vp_in w2 8) (e14 : S.1 14 = nI (a + 1)) (ha : a < 64) (e19 : S.1 19 = nI (b + 1)) (hb6 : b < 64)
    (kk : ∀ (H : Heap) (locs : List Loc) (ls : Array Slot), Ob D E o S H → va_S (rA o) s.heap H locs → lv_has ls 7 [(4, .int r50), (3, .int w2), (2, .int w1), (0, .ref o), (1, .int (nI (X)))] → W p l e (lRm 9 40 240) s m args below meth co H locs (8) (48) Q (F0 m 188 ls [])) : W p l e (lRm 9 40 240) s m args below meth co H locs (1) (6) Q (F0 m 55 ls []) := by
  obtain ⟨hx, hb, hml, hown, hts, hKX, hZ, hNc, hst⟩ := K
  refine lv_aload_n hx hb dL_refuses_55 rfl (lv_at hl 3 rfl) ?_
  refine lv_iconst (v := 0) hx hb dL_refuses_56 (by decide) ?_
  refine lv_iload_n hx hb dL_refuses_57 rfl (lv_at hl 4 rfl) ?_
  refine lv_iconst (v := 2) hx hb dL_refuses_58 (by decide) ?_
  refine w_rem (a := X) (d := 2) hx hb rfl (by omega) (by decide) (by decide) dL_refuses_59 ?_
  refine w_joinB (J := 80) (rest := [.int 0, .ref o]) (P0 := fun v => ¬ vp_in v 256) (fun kk => ?_) (fun w3 n3 => ?_)
  · refine lv_if_ne (tgt := 72) hx hb dL_refuses_60 (by decide) (fun c9 => ?_) (fun c9 => ?_)
    · refine lv_sipush (v := 256) hx hb dL_refuses_72 (by decide) ?_
      refine lv_iload_n hx hb dL_refuses_75 rfl (lv_at hl 4 rfl) ?_
      refine lv_bipush (v := 9) hx hb dL_refuses_76 (by decide) ?_
      refine w_rem (a := X) (d := 9) hx hb rfl (by omega) (by decide) (by decide) dL_refuses_78 ?_
      refine w_add (i := 256) (j := (X) % 9) hx hb rfl rfl dL_refuses_79 ?_
      exact kk _ (big_out (by omega) (by omega))
    · refine lv_iconst (v := (-1)) hx hb dL_refuses_63 (by decide) ?_
      refine lv_iload_n hx hb dL_refuses_64 rfl (lv_at hl 4 rfl) ?_
      refine lv_bipush (v := 9) hx hb dL_refuses_65 (by decide) ?_
      refine w_rem (a := X) (d := 9) hx hb rfl (by omega) (by decide) (by decide) dL_refuses_67 ?_
      refine lv_isub hx hb dL_refuses_68 ?_
      refine lv_goto (tgt := 80) hx hb dL_refuses_69 (by decide) ?_
      exact kk _ (neg_out (by omega))
  refine lv_iconst (v := 0) hx hb dL_refuses_80 (by decide) ?_
  refine lv_iconst (v := 0) hx hb dL_refuses_81 (by decide) ?_
  refine l_go (cells' := 2) (slots' := 12) (l_runS (P := Ob D E o S) (As := [.ref o, .int 0, .int w3, .int 0, .int 0]) (rest := []) ⟨hx, hb, hml, hown, hts⟩ (c_call_0 l hst D E o S w3 0 0 (n3)) (va_cwS 5 hts gL_refuses_L_call rfl rfl rfl (by decide +kernel) ⟨Nat.le_of_ble_eq_true rfl, Nat.le_of_ble_eq_true rfl⟩) hO hKX (l_Z hZ hS (fun _ h => h)) hNc rfl hl rfl (Nat.le_of_ble_eq_true rfl) dL_refuses_82 ⟨Nat.le_of_ble_eq_true rfl, Nat.le_of_ble_eq_true rfl⟩) hS (fun _ h => h) ⟨Nat.le_of_ble_eq_true rfl, Nat.le_of_ble_eq_true rfl⟩ (fun r82 H locs hp hq hz hS => ?_)
  obtain ⟨h82, hO⟩ := hp
  have hO : Ob D E o S H := hO
  refine lv_ldc (v := (-9999002)) hx hb hown (hts (.constant RL 15 (-9999002)) (List.mem_of_getElem? (i := 1) (by decide +kernel))) dL_refuses_85 ?_
  refine lv_icmp_ne (tgt := 578) hx hb dL_refuses_87 (by decide) (fun z => absurd (h82.trans (rfl)) z) (fun _ => ?_)
  refine lv_aload_n hx hb dL_refuses_90 rfl (lv_at hl 3 rfl) ?_
  refine lv_iconst (v := 2) hx hb dL_refuses_91 (by decide) ?_
  refine lv_bipush (v := 9) hx hb dL_refuses_92 (by decide) ?_
  refine lv_iload_n hx hb dL_refuses_94 rfl (lv_at hl 4 rfl) ?_
  refine lv_bipush (v := 50) hx hb dL_refuses_95 (by decide) ?_
  refine w_rem (a := X) (d := 50) hx hb rfl (by omega) (by decide) (by decide) dL_refuses_97 ?_
  refine w_add (i := 9) (j := (X) % 50) hx hb rfl rfl dL_refuses_98 ?_
  refine lv_iconst (v := 0) hx hb dL_refuses_99 (by decide) ?_
  refine lv_iconst (v := 0) hx hb dL_refuses_100 (by decide) ?_
  refine l_go (cells' := 3) (slots' := 18) (l_runS (P := Ob D E o S) (As := [.ref o, .int 2, .int (nI (9 + (X) % 50)), .int 0, .int 0]) (rest := []) ⟨hx, hb, hml, hown, hts⟩ (c_call_2 l hst D E o S (nI (9 + (X) % 50)) 0 0) (va_cwS 5 hts gL_refuses_L_call rfl rfl rfl (by decide +kernel) ⟨Nat.le_of_ble_eq_true rfl, Nat.le_of_ble_eq_true rfl⟩) hO hKX (l_Z hZ hS (fun _ h => h)) hNc rfl hl rfl (Nat.le_of_ble_eq_true rfl) dL_refuses_101 ⟨Nat.le_of_ble_eq_true rfl, Nat.le_of_ble_eq_true rfl⟩) hS (fun _ h => h) ⟨Nat.le_of_ble_eq_true rfl, Nat.le_of_ble_eq_true rfl⟩ (fun r101 H locs hp hq hz hS => ?_)
  obtain ⟨h101, hO⟩ := hp
  have hO : Ob D E o S H := hO
  refine lv_ldc (v := (-9999002)) hx hb hown (hts (.constant RL 15 (-9999002)) (List.mem_of_getElem? (i := 1) (by decide +kernel))) dL_refuses_104 ?_
  refine lv_icmp_ne (tgt := 578) hx hb dL_refuses_106 (by decide) (fun z => absurd (h101.trans (a_abX (big_out (by omega) (by omega)))) z) (fun _ => ?_)
  refine lv_aload_n hx hb dL_refuses_109 rfl (lv_at hl 3 rfl) ?_
  refine lv_iconst (v := 3) hx hb dL_refuses_110 (by decide) ?_
  refine lv_iload_n hx hb dL_refuses_111 rfl (lv_at hl 2 rfl) ?_
  refine lv_bipush (v := 99) hx hb dL_refuses_112 (by decide) ?_
  refine lv_iconst (v := 0) hx hb dL_refuses_114 (by decide) ?_
  refine l_go (cells' := 4) (slots' := 24) (l_runS (P := Ob D E o S) (As := [.ref o, .int 3, .int w1, .int 99, .int 0]) (rest := []) ⟨hx, hb, hml, hown, hts⟩ (c_call_3 l hst D E o S w1 99 0) (va_cwS 5 hts gL_refuses_L_call rfl rfl rfl (by decide +kernel) ⟨Nat.le_of_ble_eq_true rfl, Nat.le_of_ble_eq_true rfl⟩) hO hKX (l_Z hZ hS (fun _ h => h)) hNc rfl hl rfl (Nat.le_of_ble_eq_true rfl) dL_refuses_115 ⟨Nat.le_of_ble_eq_true rfl, Nat.le_of_ble_eq_true rfl⟩) hS (fun _ h => h) ⟨Nat.le_of_ble_eq_true rfl, Nat.le_of_ble_eq_true rfl⟩ (fun r115 H locs hp hq hz hS => ?_)
  obtain ⟨h115, hO⟩ := hp
  have hO : Ob D E o S H := hO
  refine lv_ldc (v := (-9999001)) hx hb hown (hts (.constant RL 40 (-9999001)) (List.mem_of_getElem? (i := 2) (by decide +kernel))) dL_refuses_118 ?_
  refine lv_icmp_ne (tgt := 578) hx hb dL_refuses_120 (by decide) (fun z => absurd (h115.trans (a_plX n1)) z) (fun _ => ?_)
  refine lv_aload_n hx hb dL_refuses_123 rfl (lv_at hl 3 rfl) ?_
  refine lv_iconst (v := 3) hx hb dL_refuses_124 (by decide) ?_
  refine lv_iconst (v := 0) hx hb dL_refuses_125 (by decide) ?_
  refine lv_bipush (v := 6) hx hb dL_refuses_126 (by decide) ?_
  refine lv_iload_n hx hb dL_refuses_128 rfl (lv_at hl 4 rfl) ?_
  refine lv_bipush (v := 9) hx hb dL_refuses_129 (by decide) ?_
  refine w_rem (a := X) (d := 9) hx hb rfl (by omega) (by decide) (by decide) dL_refuses_131 ?_
  refine w_add (i := 6) (j := (X) % 9) hx hb rfl rfl dL_refuses_132 ?_
  refine lv_iconst (v := 0) hx hb dL_refuses_133 (by decide) ?_
  refine l_go (cells' := 5) (slots' := 30) (l_runS (P := Ob D E o S) (As := [.ref o, .int 3, .int 0, .int (nI (6 + (X) % 9)), .int 0]) (rest := []) ⟨hx, hb, hml, hown, hts⟩ (c_call_3 l hst D E o S 0 (nI (6 + (X) % 9)) 0) (va_cwS 5 hts gL_refuses_L_call rfl rfl rfl (by decide +kernel) ⟨Nat.le_of_ble_eq_true rfl, Nat.le_of_ble_eq_true rfl⟩) hO hKX (l_Z hZ hS (fun _ h => h)) hNc rfl hl rfl (Nat.le_of_ble_eq_true rfl) dL_refuses_134 ⟨Nat.le_of_ble_eq_true rfl, Nat.le_of_ble_eq_true rfl⟩) hS (fun _ h => h) ⟨Nat.le_of_ble_eq_true rfl, Nat.le_of_ble_eq_true rfl⟩ (fun r134 H locs hp hq hz hS => ?_)
  obtain ⟨h134, hO⟩ := hp
  have hO : Ob D E o S H := hO
  refine lv_ldc (v := (-9999002)) hx hb hown (hts (.constant RL 15 (-9999002)) (List.mem_of_getElem? (i := 1) (by decide +kernel))) dL_refuses_137 ?_
  refine lv_icmp_ne (tgt := 578) hx hb dL_refuses_139 (by decide) (fun z => absurd (h134.trans (a_plY (p := 0) (by decide) (big_out (by omega) (by omega)))) z) (fun _ => ?_)
  refine lv_aload_n hx hb dL_refuses_142 rfl (lv_at hl 3 rfl) ?_
  refine lv_iconst (v := 4) hx hb dL_refuses_143 (by decide) ?_
  refine lv_iload_n hx hb dL_refuses_144 rfl (lv_at hl 1 rfl) ?_
  refine lv_iconst (v := 0) hx hb dL_refuses_145 (by decide) ?_
  refine lv_bipush (v := 99) hx hb dL_refuses_146 (by decide) ?_
  refine l_go (cells' := 6) (slots' := 36) (l_runS (P := Ob D E o S) (As := [.ref o, .int 4, .int w2, .int 0, .int 99]) (rest := []) ⟨hx, hb, hml, hown, hts⟩ (c_call_4 l hst D E o S w2 0 99) (va_cwS 5 hts gL_refuses_L_call rfl rfl rfl (by decide +kernel) ⟨Nat.le_of_ble_eq_true rfl, Nat.le_of_ble_eq_true rfl⟩) hO hKX (l_Z hZ hS (fun _ h => h)) hNc rfl hl rfl (Nat.le_of_ble_eq_true rfl) dL_refuses_148 ⟨Nat.le_of_ble_eq_true rfl, Nat.le_of_ble_eq_true rfl⟩) hS (fun _ h => h) ⟨Nat.le_of_ble_eq_true rfl, Nat.le_of_ble_eq_true rfl⟩ (fun r148 H locs hp hq hz hS => ?_)
  obtain ⟨h148, hO⟩ := hp
  have hO : Ob D E o S H := hO
  refine lv_ldc (v := (-9999001)) hx hb hown (hts (.constant RL 40 (-9999001)) (List.mem_of_getElem? (i := 2) (by decide +kernel))) dL_refuses_151 ?_
  refine lv_icmp_ne (tgt := 578) hx hb dL_refuses_153 (by decide) (fun z => absurd (h148.trans (a_ceX (Or.inl n2))) z) (fun _ => ?_)
  refine lv_aload_n hx hb dL_refuses_156 rfl (lv_at hl 3 rfl) ?_
  refine lv_iconst (v := 4) hx hb dL_refuses_157 (by decide) ?_
  refine lv_iconst (v := 0) hx hb dL_refuses_158 (by decide) ?_
  refine lv_iload_n hx hb dL_refuses_159 rfl (lv_at hl 1 rfl) ?_
  refine lv_bipush (v := 99) hx hb dL_refuses_160 (by decide) ?_
  refine l_go (cells' := 7) (slots' := 42) (l_runS (P := Ob D E o S) (As := [.ref o, .int 4, .int 0, .int w2, .int 99]) (rest := []) ⟨hx, hb, hml, hown, hts⟩ (c_call_4 l hst D E o S 0 w2 99) (va_cwS 5 hts gL_refuses_L_call rfl rfl rfl (by decide +kernel) ⟨Nat.le_of_ble_eq_true rfl, Nat.le_of_ble_eq_true rfl⟩) hO hKX (l_Z hZ hS (fun _ h => h)) hNc rfl hl rfl (Nat.le_of_ble_eq_true rfl) dL_refuses_162 ⟨Nat.le_of_ble_eq_true rfl, Nat.le_of_ble_eq_true rfl⟩) hS (fun _ h => h) ⟨Nat.le_of_ble_eq_true rfl, Nat.le_of_ble_eq_true rfl⟩ (fun r162 H locs hp hq hz hS => ?_)
  obtain ⟨h162, hO⟩ := hp
  have hO : Ob D E o S H := hO
  refine lv_ldc (v := (-9999001)) hx hb hown (hts (.constant RL 40 (-9999001)) (List.mem_of_getElem? (i := 2) (by decide +kernel))) dL_refuses_165 ?_
  refine lv_icmp_ne (tgt := 578) hx hb dL_refuses_167 (by decide) (fun z => absurd (h162.trans (a_ceX (Or.inr n2))) z) (fun _ => ?_)
  refine lv_aload_n hx hb dL_refuses_170 rfl (lv_at hl 3 rfl) ?_
  refine lv_iconst (v := 4) hx hb dL_refuses_171 (by decide) ?_
  refine lv_iconst (v := 0) hx hb dL_refuses_172 (by decide) ?_
  refine lv_iconst (v := 0) hx hb dL_refuses_173 (by decide) ?_
  refine lv_iconst (v := 4) hx hb dL_refuses_174 (by decide) ?_
  refine lv_iload_n hx hb dL_refuses_175 rfl (lv_at hl 4 rfl) ?_
  refine lv_bipush (v := 9) hx hb dL_refuses_176 (by decide) ?_
  refine w_rem (a := X) (d := 9) hx hb rfl (by omega) (by decide) (by decide) dL_refuses_178 ?_
  refine w_add (i := 4) (j := (X) % 9) hx hb rfl rfl dL_refuses_179 ?_
  refine l_go (cells' := 8) (slots' := 48) (l_runS (P := Ob D E o S) (As := [.ref o, .int 4, .int 0, .int 0, .int (nI (4 + (X) % 9))]) (rest := []) ⟨hx, hb, hml, hown, hts⟩ (c_call_4 l hst D E o S 0 0 (nI (4 + (X) % 9))) (va_cwS 5 hts gL_refuses_L_call rfl rfl rfl (by decide +kernel) ⟨Nat.le_of_ble_eq_true rfl, Nat.le_of_ble_eq_true rfl⟩) hO hKX (l_Z hZ hS (fun _ h => h)) hNc rfl hl rfl (Nat.le_of_ble_eq_true rfl) dL_refuses_180 ⟨Nat.le_of_ble_eq_true rfl, Nat.le_of_ble_eq_true rfl⟩) hS (fun _ h => h) ⟨Nat.le_of_ble_eq_true rfl, Nat.le_of_ble_eq_true rfl⟩ (fun r180 H locs hp hq hz hS => ?_)
  obtain ⟨h180, hO⟩ := hp
  have hO : Ob D E o S H := hO
  refine lv_ldc (v := (-9999002)) hx hb hown (hts (.constant RL 15 (-9999002)) (List.mem_of_getElem? (i := 1) (by decide +kernel))) dL_refuses_183 ?_
  refine lv_icmp_ne (tgt := 578) hx hb dL_refuses_185 (by decide) (fun z => absurd (h180.trans (a_ceY (x := 0) (y := 0) (by decide) (by decide) (big_out (by omega) (by omega)))) z) (fun _ => ?_)
  exact kk _ _ _ hO hS hl
set_option maxHeartbeats 40000000 in
set_option maxRecDepth 100000 in
theorem rf_2 {p : Program} {l : Launch} {e : Env} {s : State} {m : MethodId} {args : Array Value} {below : List Frame} {meth : Method} {co : Code} {D : va_G} {E : Nat → ClassId} {o : Nat} {S : aT} {Q : State → Prop} {H : Heap} {locs : List Loc} {ls : Array Slot} {w1 w2 r50 : Int32} {X : Nat} {a b : Nat} (K : lK p l s m args co D E (rA o) cL_refuses 7 wsL_refuses) (hO : Ob D E o S H) (hS : va_S (rA o) s.heap H locs) (hl : lv_has ls 7 [(4, .int r50), (3, .int w2), (2, .int w1), (0, .ref o), (1, .int (nI (X)))]) (hX : X < 100000) (n1 : ¬ vp_in w1 2) (n2 : ¬ vp_in w2 8) (e14 : S.1 14 = nI (a + 1)) (ha : a < 64) (e19 : S.1 19 = nI (b + 1)) (hb6 : b < 64)
    (kk : ∀ (H : Heap) (locs : List Loc) (ls : Array Slot), Ob D E o S H → va_S (rA o) s.heap H locs → lv_has ls 7 [(4, .int r50), (3, .int w2), (2, .int w1), (0, .ref o), (1, .int (nI (X)))] → W p l e (lRm 9 40 240) s m args below meth co H locs (15) (90) Q (F0 m 306 ls [])) : W p l e (lRm 9 40 240) s m args below meth co H locs (8) (48) Q (F0 m 188 ls []) := by
  obtain ⟨hx, hb, hml, hown, hts, hKX, hZ, hNc, hst⟩ := K
  refine lv_aload_n hx hb dL_refuses_188 rfl (lv_at hl 3 rfl) ?_
  refine lv_iconst (v := 5) hx hb dL_refuses_189 (by decide) ?_
  refine lv_iload_n hx hb dL_refuses_190 rfl (lv_at hl 2 rfl) ?_
  refine lv_iconst (v := 0) hx hb dL_refuses_191 (by decide) ?_
  refine lv_iconst (v := 0) hx hb dL_refuses_192 (by decide) ?_
  refine l_go (cells' := 9) (slots' := 54) (l_runS (P := Ob D E o S) (As := [.ref o, .int 5, .int w1, .int 0, .int 0]) (rest := []) ⟨hx, hb, hml, hown, hts⟩ (c_call_5 l hst D E o S w1 0 0) (va_cwS 5 hts gL_refuses_L_call rfl rfl rfl (by decide +kernel) ⟨Nat.le_of_ble_eq_true rfl, Nat.le_of_ble_eq_true rfl⟩) hO hKX (l_Z hZ hS (fun _ h => h)) hNc rfl hl rfl (Nat.le_of_ble_eq_true rfl) dL_refuses_193 ⟨Nat.le_of_ble_eq_true rfl, Nat.le_of_ble_eq_true rfl⟩) hS (fun _ h => h) ⟨Nat.le_of_ble_eq_true rfl, Nat.le_of_ble_eq_true rfl⟩ (fun r193 H locs hp hq hz hS => ?_)
  obtain ⟨h193, hO⟩ := hp
  have hO : Ob D E o S H := hO
  refine lv_ldc (v := (-9999001)) hx hb hown (hts (.constant RL 40 (-9999001)) (List.mem_of_getElem? (i := 2) (by decide +kernel))) dL_refuses_196 ?_
  refine lv_icmp_ne (tgt := 578) hx hb dL_refuses_198 (by decide) (fun z => absurd (h193.trans (a_coX n1)) z) (fun _ => ?_)
  refine lv_aload_n hx hb dL_refuses_201 rfl (lv_at hl 3 rfl) ?_
  refine lv_iconst (v := 5) hx hb dL_refuses_202 (by decide) ?_
  refine lv_iconst (v := 0) hx hb dL_refuses_203 (by decide) ?_
  refine lv_iconst (v := (-1)) hx hb dL_refuses_204 (by decide) ?_
  refine lv_iload_n hx hb dL_refuses_205 rfl (lv_at hl 4 rfl) ?_
  refine lv_bipush (v := 9) hx hb dL_refuses_206 (by decide) ?_
  refine w_rem (a := X) (d := 9) hx hb rfl (by omega) (by decide) (by decide) dL_refuses_208 ?_
  refine lv_isub hx hb dL_refuses_209 ?_
  refine lv_iconst (v := 0) hx hb dL_refuses_210 (by decide) ?_
  refine l_go (cells' := 10) (slots' := 60) (l_runS (P := Ob D E o S) (As := [.ref o, .int 5, .int 0, .int (((-1) : Int32) - (nI ((X) % 9))), .int 0]) (rest := []) ⟨hx, hb, hml, hown, hts⟩ (c_call_5 l hst D E o S 0 (((-1) : Int32) - (nI ((X) % 9))) 0) (va_cwS 5 hts gL_refuses_L_call rfl rfl rfl (by decide +kernel) ⟨Nat.le_of_ble_eq_true rfl, Nat.le_of_ble_eq_true rfl⟩) hO hKX (l_Z hZ hS (fun _ h => h)) hNc rfl hl rfl (Nat.le_of_ble_eq_true rfl) dL_refuses_211 ⟨Nat.le_of_ble_eq_true rfl, Nat.le_of_ble_eq_true rfl⟩) hS (fun _ h => h) ⟨Nat.le_of_ble_eq_true rfl, Nat.le_of_ble_eq_true rfl⟩ (fun r211 H locs hp hq hz hS => ?_)
  obtain ⟨h211, hO⟩ := hp
  have hO : Ob D E o S H := hO
  refine lv_ldc (v := (-9999001)) hx hb hown (hts (.constant RL 40 (-9999001)) (List.mem_of_getElem? (i := 2) (by decide +kernel))) dL_refuses_214 ?_
  refine lv_icmp_ne (tgt := 578) hx hb dL_refuses_216 (by decide) (fun z => absurd (h211.trans (a_coY (p := 0) (by decide) e14 ha (neg_out (by omega)))) z) (fun _ => ?_)
  refine lv_aload_n hx hb dL_refuses_219 rfl (lv_at hl 3 rfl) ?_
  refine lv_iconst (v := 5) hx hb dL_refuses_220 (by decide) ?_
  refine lv_iconst (v := 1) hx hb dL_refuses_221 (by decide) ?_
  refine lv_aload_n hx hb dL_refuses_222 rfl (lv_at hl 3 rfl) ?_
  refine lv_iconst (v := 3) hx hb dL_refuses_223 (by decide) ?_
  refine lv_iconst (v := 1) hx hb dL_refuses_224 (by decide) ?_
  refine lv_iconst (v := 0) hx hb dL_refuses_225 (by decide) ?_
  refine lv_iconst (v := 0) hx hb dL_refuses_226 (by decide) ?_
  refine l_go (cells' := 11) (slots' := 66) (l_runS (P := Ob D E o S) (As := [.ref o, .int 3, .int 1, .int 0, .int 0]) (rest := [.int 1, .int 5, .ref o]) ⟨hx, hb, hml, hown, hts⟩ (c_call_3 l hst D E o S 1 0 0) (va_cwS 5 hts gL_refuses_L_call rfl rfl rfl (by decide +kernel) ⟨Nat.le_of_ble_eq_true rfl, Nat.le_of_ble_eq_true rfl⟩) hO hKX (l_Z hZ hS (fun _ h => h)) hNc rfl hl rfl (Nat.le_of_ble_eq_true rfl) dL_refuses_227 ⟨Nat.le_of_ble_eq_true rfl, Nat.le_of_ble_eq_true rfl⟩) hS (fun _ h => h) ⟨Nat.le_of_ble_eq_true rfl, Nat.le_of_ble_eq_true rfl⟩ (fun r227 H locs hp hq hz hS => ?_)
  obtain ⟨h227, hO⟩ := hp
  have hO : Ob D E o S H := hO
  refine w_eqI (h227.trans ((a_pl0 (p := 1) (by decide)).trans e19)) ?_
  refine lv_iload_n hx hb dL_refuses_230 rfl (lv_at hl 4 rfl) ?_
  refine lv_bipush (v := 9) hx hb dL_refuses_231 (by decide) ?_
  refine w_rem (a := X) (d := 9) hx hb rfl (by omega) (by decide) (by decide) dL_refuses_233 ?_
  refine w_add (i := b + 1) (j := (X) % 9) hx hb rfl rfl dL_refuses_234 ?_
  refine lv_iconst (v := 0) hx hb dL_refuses_235 (by decide) ?_
  refine l_go (cells' := 12) (slots' := 72) (l_runS (P := Ob D E o S) (As := [.ref o, .int 5, .int 1, .int (nI (b + 1 + (X) % 9)), .int 0]) (rest := []) ⟨hx, hb, hml, hown, hts⟩ (c_call_5 l hst D E o S 1 (nI (b + 1 + (X) % 9)) 0) (va_cwS 5 hts gL_refuses_L_call rfl rfl rfl (by decide +kernel) ⟨Nat.le_of_ble_eq_true rfl, Nat.le_of_ble_eq_true rfl⟩) hO hKX (l_Z hZ hS (fun _ h => h)) hNc rfl hl rfl (Nat.le_of_ble_eq_true rfl) dL_refuses_236 ⟨Nat.le_of_ble_eq_true rfl, Nat.le_of_ble_eq_true rfl⟩) hS (fun _ h => h) ⟨Nat.le_of_ble_eq_true rfl, Nat.le_of_ble_eq_true rfl⟩ (fun r236 H locs hp hq hz hS => ?_)
  obtain ⟨h236, hO⟩ := hp
  have hO : Ob D E o S H := hO
  refine lv_ldc (v := (-9999001)) hx hb hown (hts (.constant RL 40 (-9999001)) (List.mem_of_getElem? (i := 2) (by decide +kernel))) dL_refuses_239 ?_
  refine lv_icmp_ne (tgt := 578) hx hb dL_refuses_241 (by decide) (fun z => absurd (h236.trans (a_coY (p := 1) (by decide) e19 hb6 (big_out (by omega) (by omega)))) z) (fun _ => ?_)
  refine lv_aload_n hx hb dL_refuses_244 rfl (lv_at hl 3 rfl) ?_
  refine lv_bipush (v := 6) hx hb dL_refuses_245 (by decide) ?_
  refine lv_iconst (v := 2) hx hb dL_refuses_247 (by decide) ?_
  refine lv_iload_n hx hb dL_refuses_248 rfl (lv_at hl 4 rfl) ?_
  refine lv_bipush (v := 9) hx hb dL_refuses_249 (by decide) ?_
  refine w_rem (a := X) (d := 9) hx hb rfl (by omega) (by decide) (by decide) dL_refuses_251 ?_
  refine w_add (i := 2) (j := (X) % 9) hx hb rfl rfl dL_refuses_252 ?_
  refine lv_iconst (v := 0) hx hb dL_refuses_253 (by decide) ?_
  refine lv_iconst (v := 0) hx hb dL_refuses_254 (by decide) ?_
  refine l_go (cells' := 13) (slots' := 78) (l_runS (P := Ob D E o S) (As := [.ref o, .int 6, .int (nI (2 + (X) % 9)), .int 0, .int 0]) (rest := []) ⟨hx, hb, hml, hown, hts⟩ (c_call_6 l hst D E o S (nI (2 + (X) % 9)) 0 0) (va_cwS 5 hts gL_refuses_L_call rfl rfl rfl (by decide +kernel) ⟨Nat.le_of_ble_eq_true rfl, Nat.le_of_ble_eq_true rfl⟩) hO hKX (l_Z hZ hS (fun _ h => h)) hNc rfl hl rfl (Nat.le_of_ble_eq_true rfl) dL_refuses_255 ⟨Nat.le_of_ble_eq_true rfl, Nat.le_of_ble_eq_true rfl⟩) hS (fun _ h => h) ⟨Nat.le_of_ble_eq_true rfl, Nat.le_of_ble_eq_true rfl⟩ (fun r255 H locs hp hq hz hS => ?_)
  obtain ⟨h255, hO⟩ := hp
  have hO : Ob D E o S H := hO
  refine lv_ldc (v := (-9999002)) hx hb hown (hts (.constant RL 15 (-9999002)) (List.mem_of_getElem? (i := 1) (by decide +kernel))) dL_refuses_258 ?_
  refine lv_icmp_ne (tgt := 578) hx hb dL_refuses_260 (by decide) (fun z => absurd (h255.trans (a_seX (big_out (by omega) (by omega)))) z) (fun _ => ?_)
  refine lv_aload_n hx hb dL_refuses_263 rfl (lv_at hl 3 rfl) ?_
  refine lv_bipush (v := 7) hx hb dL_refuses_264 (by decide) ?_
  refine lv_iload_n hx hb dL_refuses_266 rfl (lv_at hl 4 rfl) ?_
  refine lv_iconst (v := 2) hx hb dL_refuses_267 (by decide) ?_
  refine w_rem (a := X) (d := 2) hx hb rfl (by omega) (by decide) (by decide) dL_refuses_268 ?_
  refine w_joinB (J := 282) (rest := [.int 7, .ref o]) (P0 := fun v => ¬ vp_in v 3) (fun kk => ?_) (fun w4 n4 => ?_)
  · refine lv_if_ne (tgt := 276) hx hb dL_refuses_269 (by decide) (fun c9 => ?_) (fun c9 => ?_)
    · refine lv_iconst (v := 3) hx hb dL_refuses_276 (by decide) ?_
      refine lv_iload_n hx hb dL_refuses_277 rfl (lv_at hl 4 rfl) ?_
      refine lv_bipush (v := 9) hx hb dL_refuses_278 (by decide) ?_
      refine w_rem (a := X) (d := 9) hx hb rfl (by omega) (by decide) (by decide) dL_refuses_280 ?_
      refine w_add (i := 3) (j := (X) % 9) hx hb rfl rfl dL_refuses_281 ?_
      exact kk _ (big_out (by omega) (by omega))
    · refine lv_iconst (v := (-1)) hx hb dL_refuses_272 (by decide) ?_
      refine lv_goto (tgt := 282) hx hb dL_refuses_273 (by decide) ?_
      exact kk _ (m1_out)
  refine lv_iconst (v := 0) hx hb dL_refuses_282 (by decide) ?_
  refine lv_iconst (v := 0) hx hb dL_refuses_283 (by decide) ?_
  refine l_go (cells' := 14) (slots' := 84) (l_runS (P := Ob D E o S) (As := [.ref o, .int 7, .int w4, .int 0, .int 0]) (rest := []) ⟨hx, hb, hml, hown, hts⟩ (c_call_7 l hst D E o S w4 0 0) (va_cwS 5 hts gL_refuses_L_call rfl rfl rfl (by decide +kernel) ⟨Nat.le_of_ble_eq_true rfl, Nat.le_of_ble_eq_true rfl⟩) hO hKX (l_Z hZ hS (fun _ h => h)) hNc rfl hl rfl (Nat.le_of_ble_eq_true rfl) dL_refuses_284 ⟨Nat.le_of_ble_eq_true rfl, Nat.le_of_ble_eq_true rfl⟩) hS (fun _ h => h) ⟨Nat.le_of_ble_eq_true rfl, Nat.le_of_ble_eq_true rfl⟩ (fun r284 H locs hp hq hz hS => ?_)
  obtain ⟨h284, hO⟩ := hp
  rw [(a_stX (b := 0) (c := 0) n4).2] at hO
  refine lv_ldc (v := (-9999002)) hx hb hown (hts (.constant RL 15 (-9999002)) (List.mem_of_getElem? (i := 1) (by decide +kernel))) dL_refuses_287 ?_
  refine lv_icmp_ne (tgt := 578) hx hb dL_refuses_289 (by decide) (fun z => absurd (h284.trans ((a_stX n4).1)) z) (fun _ => ?_)
  refine lv_aload_n hx hb dL_refuses_292 rfl (lv_at hl 3 rfl) ?_
  refine lv_bipush (v := 8) hx hb dL_refuses_293 (by decide) ?_
  refine lv_iload_n hx hb dL_refuses_295 rfl (lv_at hl 1 rfl) ?_
  refine lv_iconst (v := 0) hx hb dL_refuses_296 (by decide) ?_
  refine lv_iconst (v := 0) hx hb dL_refuses_297 (by decide) ?_
  refine l_go (cells' := 15) (slots' := 90) (l_runS (P := Ob D E o S) (As := [.ref o, .int 8, .int w2, .int 0, .int 0]) (rest := []) ⟨hx, hb, hml, hown, hts⟩ (c_call_8 l hst D E o S w2 0 0) (va_cwS 5 hts gL_refuses_L_call rfl rfl rfl (by decide +kernel) ⟨Nat.le_of_ble_eq_true rfl, Nat.le_of_ble_eq_true rfl⟩) hO hKX (l_Z hZ hS (fun _ h => h)) hNc rfl hl rfl (Nat.le_of_ble_eq_true rfl) dL_refuses_298 ⟨Nat.le_of_ble_eq_true rfl, Nat.le_of_ble_eq_true rfl⟩) hS (fun _ h => h) ⟨Nat.le_of_ble_eq_true rfl, Nat.le_of_ble_eq_true rfl⟩ (fun r298 H locs hp hq hz hS => ?_)
  obtain ⟨h298, hO⟩ := hp
  rw [(a_daX (c := 0) (Or.inl n2)).2] at hO
  refine lv_ldc (v := (-9999001)) hx hb hown (hts (.constant RL 40 (-9999001)) (List.mem_of_getElem? (i := 2) (by decide +kernel))) dL_refuses_301 ?_
  refine lv_icmp_ne (tgt := 578) hx hb dL_refuses_303 (by decide) (fun z => absurd (h298.trans ((a_daX (Or.inl n2)).1)) z) (fun _ => ?_)
  exact kk _ _ _ hO hS hl
set_option maxHeartbeats 40000000 in
set_option maxRecDepth 100000 in
theorem rf_3 {p : Program} {l : Launch} {e : Env} {s : State} {m : MethodId} {args : Array Value} {below : List Frame} {meth : Method} {co : Code} {D : va_G} {E : Nat → ClassId} {o : Nat} {S : aT} {Q : State → Prop} {H : Heap} {locs : List Loc} {ls : Array Slot} {w1 w2 r50 : Int32} {X : Nat} {a b : Nat} (K : lK p l s m args co D E (rA o) cL_refuses 7 wsL_refuses) (hO : Ob D E o S H) (hS : va_S (rA o) s.heap H locs) (hl : lv_has ls 7 [(4, .int r50), (3, .int w2), (2, .int w1), (0, .ref o), (1, .int (nI (X)))]) (hX : X < 100000) (n1 : ¬ vp_in w1 2) (n2 : ¬ vp_in w2 8) (e14 : S.1 14 = nI (a + 1)) (ha : a < 64) (e19 : S.1 19 = nI (b + 1)) (hb6 : b < 64)
    (kk : ∀ (H : Heap) (locs : List Loc) (ls : Array Slot), Ob D E o S H → va_S (rA o) s.heap H locs → lv_has ls 7 [(4, .int r50), (3, .int w2), (2, .int w1), (0, .ref o), (1, .int (nI (X)))] → W p l e (lRm 9 40 240) s m args below meth co H locs (22) (132) Q (F0 m 457 ls [])) : W p l e (lRm 9 40 240) s m args below meth co H locs (15) (90) Q (F0 m 306 ls []) := by
  obtain ⟨hx, hb, hml, hown, hts, hKX, hZ, hNc, hst⟩ := K
  refine lv_aload_n hx hb dL_refuses_306 rfl (lv_at hl 3 rfl) ?_
  refine lv_bipush (v := 8) hx hb dL_refuses_307 (by decide) ?_
  refine lv_iconst (v := 0) hx hb dL_refuses_309 (by decide) ?_
  refine lv_iload_n hx hb dL_refuses_310 rfl (lv_at hl 1 rfl) ?_
  refine lv_iconst (v := 0) hx hb dL_refuses_311 (by decide) ?_
  refine l_go (cells' := 16) (slots' := 96) (l_runS (P := Ob D E o S) (As := [.ref o, .int 8, .int 0, .int w2, .int 0]) (rest := []) ⟨hx, hb, hml, hown, hts⟩ (c_call_8 l hst D E o S 0 w2 0) (va_cwS 5 hts gL_refuses_L_call rfl rfl rfl (by decide +kernel) ⟨Nat.le_of_ble_eq_true rfl, Nat.le_of_ble_eq_true rfl⟩) hO hKX (l_Z hZ hS (fun _ h => h)) hNc rfl hl rfl (Nat.le_of_ble_eq_true rfl) dL_refuses_312 ⟨Nat.le_of_ble_eq_true rfl, Nat.le_of_ble_eq_true rfl⟩) hS (fun _ h => h) ⟨Nat.le_of_ble_eq_true rfl, Nat.le_of_ble_eq_true rfl⟩ (fun r312 H locs hp hq hz hS => ?_)
  obtain ⟨h312, hO⟩ := hp
  rw [(a_daX (c := 0) (Or.inr n2)).2] at hO
  refine lv_ldc (v := (-9999001)) hx hb hown (hts (.constant RL 40 (-9999001)) (List.mem_of_getElem? (i := 2) (by decide +kernel))) dL_refuses_315 ?_
  refine lv_icmp_ne (tgt := 578) hx hb dL_refuses_317 (by decide) (fun z => absurd (h312.trans ((a_daX (Or.inr n2)).1)) z) (fun _ => ?_)
  refine lv_aload_n hx hb dL_refuses_320 rfl (lv_at hl 3 rfl) ?_
  refine lv_bipush (v := 10) hx hb dL_refuses_321 (by decide) ?_
  refine lv_iconst (v := 0) hx hb dL_refuses_323 (by decide) ?_
  refine lv_iload_n hx hb dL_refuses_324 rfl (lv_at hl 4 rfl) ?_
  refine lv_iconst (v := 2) hx hb dL_refuses_325 (by decide) ?_
  refine w_rem (a := X) (d := 2) hx hb rfl (by omega) (by decide) (by decide) dL_refuses_326 ?_
  refine w_joinB (J := 341) (rest := [.int 0, .int 10, .ref o]) (P0 := fun v => f_X7_isSetting 0 v = 0) (fun kk => ?_) (fun w5 n5 => ?_)
  · refine lv_if_ne (tgt := 334) hx hb dL_refuses_327 (by decide) (fun c9 => ?_) (fun c9 => ?_)
    · refine lv_bipush (v := 41) hx hb dL_refuses_334 (by decide) ?_
      refine lv_iload_n hx hb dL_refuses_336 rfl (lv_at hl 4 rfl) ?_
      refine lv_bipush (v := 9) hx hb dL_refuses_337 (by decide) ?_
      refine w_rem (a := X) (d := 9) hx hb rfl (by omega) (by decide) (by decide) dL_refuses_339 ?_
      refine w_add (i := 41) (j := (X) % 9) hx hb rfl rfl dL_refuses_340 ?_
      exact kk _ (set_out0 (by omega) (by omega))
    · refine lv_iconst (v := 0) hx hb dL_refuses_330 (by decide) ?_
      refine lv_goto (tgt := 341) hx hb dL_refuses_331 (by decide) ?_
      exact kk _ (by decide +kernel)
  refine lv_iconst (v := 0) hx hb dL_refuses_341 (by decide) ?_
  refine l_go (cells' := 17) (slots' := 102) (l_runS (P := Ob D E o S) (As := [.ref o, .int 10, .int 0, .int w5, .int 0]) (rest := []) ⟨hx, hb, hml, hown, hts⟩ (c_call_10 l hst D E o S 0 w5 0) (va_cwS 5 hts gL_refuses_L_call rfl rfl rfl (by decide +kernel) ⟨Nat.le_of_ble_eq_true rfl, Nat.le_of_ble_eq_true rfl⟩) hO hKX (l_Z hZ hS (fun _ h => h)) hNc rfl hl rfl (Nat.le_of_ble_eq_true rfl) dL_refuses_342 ⟨Nat.le_of_ble_eq_true rfl, Nat.le_of_ble_eq_true rfl⟩) hS (fun _ h => h) ⟨Nat.le_of_ble_eq_true rfl, Nat.le_of_ble_eq_true rfl⟩ (fun r342 H locs hp hq hz hS => ?_)
  obtain ⟨h342, hO⟩ := hp
  rw [(a_ltX (c := 0) n5).2] at hO
  refine lv_ldc (v := (-9999002)) hx hb hown (hts (.constant RL 15 (-9999002)) (List.mem_of_getElem? (i := 1) (by decide +kernel))) dL_refuses_345 ?_
  refine lv_icmp_ne (tgt := 578) hx hb dL_refuses_347 (by decide) (fun z => absurd (h342.trans ((a_ltX n5).1)) z) (fun _ => ?_)
  refine lv_aload_n hx hb dL_refuses_350 rfl (lv_at hl 3 rfl) ?_
  refine lv_bipush (v := 10) hx hb dL_refuses_351 (by decide) ?_
  refine lv_iconst (v := 1) hx hb dL_refuses_353 (by decide) ?_
  refine lv_iload_n hx hb dL_refuses_354 rfl (lv_at hl 4 rfl) ?_
  refine lv_iconst (v := 2) hx hb dL_refuses_355 (by decide) ?_
  refine w_rem (a := X) (d := 2) hx hb rfl (by omega) (by decide) (by decide) dL_refuses_356 ?_
  refine w_joinB (J := 371) (rest := [.int 1, .int 10, .ref o]) (P0 := fun v => f_X7_isSetting 1 v = 0) (fun kk => ?_) (fun w6 n6 => ?_)
  · refine lv_if_ne (tgt := 364) hx hb dL_refuses_357 (by decide) (fun c9 => ?_) (fun c9 => ?_)
    · refine lv_bipush (v := 10) hx hb dL_refuses_364 (by decide) ?_
      refine lv_iload_n hx hb dL_refuses_366 rfl (lv_at hl 4 rfl) ?_
      refine lv_bipush (v := 9) hx hb dL_refuses_367 (by decide) ?_
      refine w_rem (a := X) (d := 9) hx hb rfl (by omega) (by decide) (by decide) dL_refuses_369 ?_
      refine w_add (i := 10) (j := (X) % 9) hx hb rfl rfl dL_refuses_370 ?_
      exact kk _ (set_out1 (by omega) (by omega))
    · refine lv_iconst (v := 0) hx hb dL_refuses_360 (by decide) ?_
      refine lv_goto (tgt := 371) hx hb dL_refuses_361 (by decide) ?_
      exact kk _ (by decide +kernel)
  refine lv_iconst (v := 0) hx hb dL_refuses_371 (by decide) ?_
  refine l_go (cells' := 18) (slots' := 108) (l_runS (P := Ob D E o S) (As := [.ref o, .int 10, .int 1, .int w6, .int 0]) (rest := []) ⟨hx, hb, hml, hown, hts⟩ (c_call_10 l hst D E o S 1 w6 0) (va_cwS 5 hts gL_refuses_L_call rfl rfl rfl (by decide +kernel) ⟨Nat.le_of_ble_eq_true rfl, Nat.le_of_ble_eq_true rfl⟩) hO hKX (l_Z hZ hS (fun _ h => h)) hNc rfl hl rfl (Nat.le_of_ble_eq_true rfl) dL_refuses_372 ⟨Nat.le_of_ble_eq_true rfl, Nat.le_of_ble_eq_true rfl⟩) hS (fun _ h => h) ⟨Nat.le_of_ble_eq_true rfl, Nat.le_of_ble_eq_true rfl⟩ (fun r372 H locs hp hq hz hS => ?_)
  obtain ⟨h372, hO⟩ := hp
  rw [(a_ltX (c := 0) n6).2] at hO
  refine lv_ldc (v := (-9999002)) hx hb hown (hts (.constant RL 15 (-9999002)) (List.mem_of_getElem? (i := 1) (by decide +kernel))) dL_refuses_375 ?_
  refine lv_icmp_ne (tgt := 578) hx hb dL_refuses_377 (by decide) (fun z => absurd (h372.trans ((a_ltX n6).1)) z) (fun _ => ?_)
  refine lv_aload_n hx hb dL_refuses_380 rfl (lv_at hl 3 rfl) ?_
  refine lv_bipush (v := 10) hx hb dL_refuses_381 (by decide) ?_
  refine lv_iconst (v := 2) hx hb dL_refuses_383 (by decide) ?_
  refine lv_iload_n hx hb dL_refuses_384 rfl (lv_at hl 4 rfl) ?_
  refine lv_bipush (v := 9) hx hb dL_refuses_385 (by decide) ?_
  refine w_rem (a := X) (d := 9) hx hb rfl (by omega) (by decide) (by decide) dL_refuses_387 ?_
  refine w_add (i := 2) (j := (X) % 9) hx hb rfl rfl dL_refuses_388 ?_
  refine lv_iconst (v := 5) hx hb dL_refuses_389 (by decide) ?_
  refine lv_iconst (v := 0) hx hb dL_refuses_390 (by decide) ?_
  refine l_go (cells' := 19) (slots' := 114) (l_runS (P := Ob D E o S) (As := [.ref o, .int 10, .int (nI (2 + (X) % 9)), .int 5, .int 0]) (rest := []) ⟨hx, hb, hml, hown, hts⟩ (c_call_10 l hst D E o S (nI (2 + (X) % 9)) 5 0) (va_cwS 5 hts gL_refuses_L_call rfl rfl rfl (by decide +kernel) ⟨Nat.le_of_ble_eq_true rfl, Nat.le_of_ble_eq_true rfl⟩) hO hKX (l_Z hZ hS (fun _ h => h)) hNc rfl hl rfl (Nat.le_of_ble_eq_true rfl) dL_refuses_391 ⟨Nat.le_of_ble_eq_true rfl, Nat.le_of_ble_eq_true rfl⟩) hS (fun _ h => h) ⟨Nat.le_of_ble_eq_true rfl, Nat.le_of_ble_eq_true rfl⟩ (fun r391 H locs hp hq hz hS => ?_)
  obtain ⟨h391, hO⟩ := hp
  rw [(a_ltX (c := 0) (set_out2 (by omega) (by omega))).2] at hO
  refine lv_ldc (v := (-9999002)) hx hb hown (hts (.constant RL 15 (-9999002)) (List.mem_of_getElem? (i := 1) (by decide +kernel))) dL_refuses_394 ?_
  refine lv_icmp_ne (tgt := 578) hx hb dL_refuses_396 (by decide) (fun z => absurd (h391.trans ((a_ltX (set_out2 (by omega) (by omega))).1)) z) (fun _ => ?_)
  refine lv_aload_n hx hb dL_refuses_399 rfl (lv_at hl 3 rfl) ?_
  refine lv_bipush (v := 12) hx hb dL_refuses_400 (by decide) ?_
  refine lv_iload_n hx hb dL_refuses_402 rfl (lv_at hl 4 rfl) ?_
  refine lv_iconst (v := 2) hx hb dL_refuses_403 (by decide) ?_
  refine w_rem (a := X) (d := 2) hx hb rfl (by omega) (by decide) (by decide) dL_refuses_404 ?_
  refine w_joinB (J := 418) (rest := [.int 12, .ref o]) (P0 := fun v => ¬ vp_in v 3) (fun kk => ?_) (fun w7 n7 => ?_)
  · refine lv_if_ne (tgt := 412) hx hb dL_refuses_405 (by decide) (fun c9 => ?_) (fun c9 => ?_)
    · refine lv_iconst (v := 3) hx hb dL_refuses_412 (by decide) ?_
      refine lv_iload_n hx hb dL_refuses_413 rfl (lv_at hl 4 rfl) ?_
      refine lv_bipush (v := 9) hx hb dL_refuses_414 (by decide) ?_
      refine w_rem (a := X) (d := 9) hx hb rfl (by omega) (by decide) (by decide) dL_refuses_416 ?_
      refine w_add (i := 3) (j := (X) % 9) hx hb rfl rfl dL_refuses_417 ?_
      exact kk _ (big_out (by omega) (by omega))
    · refine lv_iconst (v := (-1)) hx hb dL_refuses_408 (by decide) ?_
      refine lv_goto (tgt := 418) hx hb dL_refuses_409 (by decide) ?_
      exact kk _ (m1_out)
  refine lv_iconst (v := 0) hx hb dL_refuses_418 (by decide) ?_
  refine lv_iconst (v := 0) hx hb dL_refuses_419 (by decide) ?_
  refine l_go (cells' := 20) (slots' := 120) (l_runS (P := Ob D E o S) (As := [.ref o, .int 12, .int w7, .int 0, .int 0]) (rest := []) ⟨hx, hb, hml, hown, hts⟩ (c_call_12 l hst D E o S w7 0 0) (va_cwS 5 hts gL_refuses_L_call rfl rfl rfl (by decide +kernel) ⟨Nat.le_of_ble_eq_true rfl, Nat.le_of_ble_eq_true rfl⟩) hO hKX (l_Z hZ hS (fun _ h => h)) hNc rfl hl rfl (Nat.le_of_ble_eq_true rfl) dL_refuses_420 ⟨Nat.le_of_ble_eq_true rfl, Nat.le_of_ble_eq_true rfl⟩) hS (fun _ h => h) ⟨Nat.le_of_ble_eq_true rfl, Nat.le_of_ble_eq_true rfl⟩ (fun r420 H locs hp hq hz hS => ?_)
  obtain ⟨h420, hO⟩ := hp
  have hO : Ob D E o S H := hO
  refine lv_ldc (v := (-9999002)) hx hb hown (hts (.constant RL 15 (-9999002)) (List.mem_of_getElem? (i := 1) (by decide +kernel))) dL_refuses_423 ?_
  refine lv_icmp_ne (tgt := 578) hx hb dL_refuses_425 (by decide) (fun z => absurd (h420.trans (a_whyX n7)) z) (fun _ => ?_)
  refine lv_aload_n hx hb dL_refuses_428 rfl (lv_at hl 3 rfl) ?_
  refine lv_bipush (v := 13) hx hb dL_refuses_429 (by decide) ?_
  refine lv_iload_n hx hb dL_refuses_431 rfl (lv_at hl 1 rfl) ?_
  refine lv_iconst (v := 0) hx hb dL_refuses_432 (by decide) ?_
  refine lv_iconst (v := 0) hx hb dL_refuses_433 (by decide) ?_
  refine l_go (cells' := 21) (slots' := 126) (l_runS (P := Ob D E o S) (As := [.ref o, .int 13, .int w2, .int 0, .int 0]) (rest := []) ⟨hx, hb, hml, hown, hts⟩ (c_call_13 l hst D E o S w2 0 0) (va_cwS 5 hts gL_refuses_L_call rfl rfl rfl (by decide +kernel) ⟨Nat.le_of_ble_eq_true rfl, Nat.le_of_ble_eq_true rfl⟩) hO hKX (l_Z hZ hS (fun _ h => h)) hNc rfl hl rfl (Nat.le_of_ble_eq_true rfl) dL_refuses_434 ⟨Nat.le_of_ble_eq_true rfl, Nat.le_of_ble_eq_true rfl⟩) hS (fun _ h => h) ⟨Nat.le_of_ble_eq_true rfl, Nat.le_of_ble_eq_true rfl⟩ (fun r434 H locs hp hq hz hS => ?_)
  obtain ⟨h434, hO⟩ := hp
  have hO : Ob D E o S H := hO
  refine lv_ldc (v := (-9999001)) hx hb hown (hts (.constant RL 40 (-9999001)) (List.mem_of_getElem? (i := 2) (by decide +kernel))) dL_refuses_437 ?_
  refine lv_icmp_ne (tgt := 578) hx hb dL_refuses_439 (by decide) (fun z => absurd (h434.trans (a_wdX (Or.inl n2))) z) (fun _ => ?_)
  refine lv_aload_n hx hb dL_refuses_442 rfl (lv_at hl 3 rfl) ?_
  refine lv_bipush (v := 14) hx hb dL_refuses_443 (by decide) ?_
  refine lv_iload_n hx hb dL_refuses_445 rfl (lv_at hl 2 rfl) ?_
  refine lv_bipush (v := 9) hx hb dL_refuses_446 (by decide) ?_
  refine lv_iconst (v := 0) hx hb dL_refuses_448 (by decide) ?_
  refine l_go (cells' := 22) (slots' := 132) (l_runS (P := Ob D E o S) (As := [.ref o, .int 14, .int w1, .int 9, .int 0]) (rest := []) ⟨hx, hb, hml, hown, hts⟩ (c_call_14 l hst D E o S w1 9 0) (va_cwS 5 hts gL_refuses_L_call rfl rfl rfl (by decide +kernel) ⟨Nat.le_of_ble_eq_true rfl, Nat.le_of_ble_eq_true rfl⟩) hO hKX (l_Z hZ hS (fun _ h => h)) hNc rfl hl rfl (Nat.le_of_ble_eq_true rfl) dL_refuses_449 ⟨Nat.le_of_ble_eq_true rfl, Nat.le_of_ble_eq_true rfl⟩) hS (fun _ h => h) ⟨Nat.le_of_ble_eq_true rfl, Nat.le_of_ble_eq_true rfl⟩ (fun r449 H locs hp hq hz hS => ?_)
  obtain ⟨h449, hO⟩ := hp
  have hO : Ob D E o S H := hO
  refine lv_ldc (v := (-9999001)) hx hb hown (hts (.constant RL 40 (-9999001)) (List.mem_of_getElem? (i := 2) (by decide +kernel))) dL_refuses_452 ?_
  refine lv_icmp_ne (tgt := 578) hx hb dL_refuses_454 (by decide) (fun z => absurd (h449.trans (a_chX n1)) z) (fun _ => ?_)
  exact kk _ _ _ hO hS hl
set_option maxHeartbeats 40000000 in
set_option maxRecDepth 100000 in
theorem rf_4 {p : Program} {l : Launch} {e : Env} {s : State} {m : MethodId} {args : Array Value} {below : List Frame} {meth : Method} {co : Code} {D : va_G} {E : Nat → ClassId} {o : Nat} {S : aT} {Q : State → Prop} {H : Heap} {locs : List Loc} {ls : Array Slot} {w1 w2 r50 : Int32} {X : Nat} {a b : Nat} (K : lK p l s m args co D E (rA o) cL_refuses 7 wsL_refuses) (hO : Ob D E o S H) (hS : va_S (rA o) s.heap H locs) (hl : lv_has ls 7 [(4, .int r50), (3, .int w2), (2, .int w1), (0, .ref o), (1, .int (nI (X)))]) (hX : X < 100000) (n1 : ¬ vp_in w1 2) (n2 : ¬ vp_in w2 8) (e14 : S.1 14 = nI (a + 1)) (ha : a < 64) (e19 : S.1 19 = nI (b + 1)) (hb6 : b < 64)
    (kk : ∀ (H : Heap) (locs : List Loc) (ls : Array Slot) (r582 : Int32), Ob D E o S H → va_S (rA o) s.heap H locs → lv_has ls 7 [(5, .int 1), (4, .int r50), (3, .int w2), (2, .int w1), (0, .ref o), (1, .int (nI (X)))] → (r582 = aB S) → W p l e (lRm 9 40 240) s m args below meth co H locs (29) (174) Q (F0 m 585 ls [.int r582])) : W p l e (lRm 9 40 240) s m args below meth co H locs (22) (132) Q (F0 m 457 ls []) := by
  obtain ⟨hx, hb, hml, hown, hts, hKX, hZ, hNc, hst⟩ := K
  refine lv_aload_n hx hb dL_refuses_457 rfl (lv_at hl 3 rfl) ?_
  refine lv_bipush (v := 14) hx hb dL_refuses_458 (by decide) ?_
  refine lv_iconst (v := 0) hx hb dL_refuses_460 (by decide) ?_
  refine lv_iconst (v := 2) hx hb dL_refuses_461 (by decide) ?_
  refine lv_iload_n hx hb dL_refuses_462 rfl (lv_at hl 4 rfl) ?_
  refine lv_bipush (v := 9) hx hb dL_refuses_463 (by decide) ?_
  refine w_rem (a := X) (d := 9) hx hb rfl (by omega) (by decide) (by decide) dL_refuses_465 ?_
  refine w_add (i := 2) (j := (X) % 9) hx hb rfl rfl dL_refuses_466 ?_
  refine lv_iconst (v := 0) hx hb dL_refuses_467 (by decide) ?_
  refine l_go (cells' := 23) (slots' := 138) (l_runS (P := Ob D E o S) (As := [.ref o, .int 14, .int 0, .int (nI (2 + (X) % 9)), .int 0]) (rest := []) ⟨hx, hb, hml, hown, hts⟩ (c_call_14 l hst D E o S 0 (nI (2 + (X) % 9)) 0) (va_cwS 5 hts gL_refuses_L_call rfl rfl rfl (by decide +kernel) ⟨Nat.le_of_ble_eq_true rfl, Nat.le_of_ble_eq_true rfl⟩) hO hKX (l_Z hZ hS (fun _ h => h)) hNc rfl hl rfl (Nat.le_of_ble_eq_true rfl) dL_refuses_468 ⟨Nat.le_of_ble_eq_true rfl, Nat.le_of_ble_eq_true rfl⟩) hS (fun _ h => h) ⟨Nat.le_of_ble_eq_true rfl, Nat.le_of_ble_eq_true rfl⟩ (fun r468 H locs hp hq hz hS => ?_)
  obtain ⟨h468, hO⟩ := hp
  have hO : Ob D E o S H := hO
  refine lv_ldc (v := (-9999002)) hx hb hown (hts (.constant RL 15 (-9999002)) (List.mem_of_getElem? (i := 1) (by decide +kernel))) dL_refuses_471 ?_
  refine lv_icmp_ne (tgt := 578) hx hb dL_refuses_473 (by decide) (fun z => absurd (h468.trans (a_chY (p := 0) (by decide) (big_out (by omega) (by omega)))) z) (fun _ => ?_)
  refine lv_aload_n hx hb dL_refuses_476 rfl (lv_at hl 3 rfl) ?_
  refine lv_bipush (v := 15) hx hb dL_refuses_477 (by decide) ?_
  refine lv_iload_n hx hb dL_refuses_479 rfl (lv_at hl 2 rfl) ?_
  refine lv_iconst (v := 0) hx hb dL_refuses_480 (by decide) ?_
  refine lv_iconst (v := 0) hx hb dL_refuses_481 (by decide) ?_
  refine l_go (cells' := 24) (slots' := 144) (l_runS (P := Ob D E o S) (As := [.ref o, .int 15, .int w1, .int 0, .int 0]) (rest := []) ⟨hx, hb, hml, hown, hts⟩ (c_call_15 l hst D E o S w1 0 0) (va_cwS 5 hts gL_refuses_L_call rfl rfl rfl (by decide +kernel) ⟨Nat.le_of_ble_eq_true rfl, Nat.le_of_ble_eq_true rfl⟩) hO hKX (l_Z hZ hS (fun _ h => h)) hNc rfl hl rfl (Nat.le_of_ble_eq_true rfl) dL_refuses_482 ⟨Nat.le_of_ble_eq_true rfl, Nat.le_of_ble_eq_true rfl⟩) hS (fun _ h => h) ⟨Nat.le_of_ble_eq_true rfl, Nat.le_of_ble_eq_true rfl⟩ (fun r482 H locs hp hq hz hS => ?_)
  obtain ⟨h482, hO⟩ := hp
  have hO : Ob D E o S H := hO
  refine lv_ldc (v := (-9999001)) hx hb hown (hts (.constant RL 40 (-9999001)) (List.mem_of_getElem? (i := 2) (by decide +kernel))) dL_refuses_485 ?_
  refine lv_icmp_ne (tgt := 578) hx hb dL_refuses_487 (by decide) (fun z => absurd (h482.trans (a_meX n1)) z) (fun _ => ?_)
  refine lv_aload_n hx hb dL_refuses_490 rfl (lv_at hl 3 rfl) ?_
  refine lv_bipush (v := 16) hx hb dL_refuses_491 (by decide) ?_
  refine lv_iconst (v := 2) hx hb dL_refuses_493 (by decide) ?_
  refine lv_iload_n hx hb dL_refuses_494 rfl (lv_at hl 4 rfl) ?_
  refine lv_bipush (v := 50) hx hb dL_refuses_495 (by decide) ?_
  refine w_rem (a := X) (d := 50) hx hb rfl (by omega) (by decide) (by decide) dL_refuses_497 ?_
  refine w_add (i := 2) (j := (X) % 50) hx hb rfl rfl dL_refuses_498 ?_
  refine lv_iconst (v := 0) hx hb dL_refuses_499 (by decide) ?_
  refine lv_iconst (v := 0) hx hb dL_refuses_500 (by decide) ?_
  refine l_go (cells' := 25) (slots' := 150) (l_runS (P := Ob D E o S) (As := [.ref o, .int 16, .int (nI (2 + (X) % 50)), .int 0, .int 0]) (rest := []) ⟨hx, hb, hml, hown, hts⟩ (c_call_16 l hst D E o S (nI (2 + (X) % 50)) 0 0) (va_cwS 5 hts gL_refuses_L_call rfl rfl rfl (by decide +kernel) ⟨Nat.le_of_ble_eq_true rfl, Nat.le_of_ble_eq_true rfl⟩) hO hKX (l_Z hZ hS (fun _ h => h)) hNc rfl hl rfl (Nat.le_of_ble_eq_true rfl) dL_refuses_501 ⟨Nat.le_of_ble_eq_true rfl, Nat.le_of_ble_eq_true rfl⟩) hS (fun _ h => h) ⟨Nat.le_of_ble_eq_true rfl, Nat.le_of_ble_eq_true rfl⟩ (fun r501 H locs hp hq hz hS => ?_)
  obtain ⟨h501, hO⟩ := hp
  rw [(a_saX (b := 0) (c := 0) (big_out (by omega) (by omega))).2] at hO
  refine lv_ldc (v := (-9999001)) hx hb hown (hts (.constant RL 40 (-9999001)) (List.mem_of_getElem? (i := 2) (by decide +kernel))) dL_refuses_504 ?_
  refine lv_icmp_ne (tgt := 578) hx hb dL_refuses_506 (by decide) (fun z => absurd (h501.trans ((a_saX (big_out (by omega) (by omega))).1)) z) (fun _ => ?_)
  refine lv_aload_n hx hb dL_refuses_509 rfl (lv_at hl 3 rfl) ?_
  refine lv_bipush (v := 17) hx hb dL_refuses_510 (by decide) ?_
  refine lv_iconst (v := (-1)) hx hb dL_refuses_512 (by decide) ?_
  refine lv_iload_n hx hb dL_refuses_513 rfl (lv_at hl 4 rfl) ?_
  refine lv_bipush (v := 9) hx hb dL_refuses_514 (by decide) ?_
  refine w_rem (a := X) (d := 9) hx hb rfl (by omega) (by decide) (by decide) dL_refuses_516 ?_
  refine lv_isub hx hb dL_refuses_517 ?_
  refine lv_iconst (v := 0) hx hb dL_refuses_518 (by decide) ?_
  refine lv_iconst (v := 0) hx hb dL_refuses_519 (by decide) ?_
  refine l_go (cells' := 26) (slots' := 156) (l_runS (P := Ob D E o S) (As := [.ref o, .int 17, .int (((-1) : Int32) - (nI ((X) % 9))), .int 0, .int 0]) (rest := []) ⟨hx, hb, hml, hown, hts⟩ (c_call_17 l hst D E o S (((-1) : Int32) - (nI ((X) % 9))) 0 0) (va_cwS 5 hts gL_refuses_L_call rfl rfl rfl (by decide +kernel) ⟨Nat.le_of_ble_eq_true rfl, Nat.le_of_ble_eq_true rfl⟩) hO hKX (l_Z hZ hS (fun _ h => h)) hNc rfl hl rfl (Nat.le_of_ble_eq_true rfl) dL_refuses_520 ⟨Nat.le_of_ble_eq_true rfl, Nat.le_of_ble_eq_true rfl⟩) hS (fun _ h => h) ⟨Nat.le_of_ble_eq_true rfl, Nat.le_of_ble_eq_true rfl⟩ (fun r520 H locs hp hq hz hS => ?_)
  obtain ⟨h520, hO⟩ := hp
  rw [(a_reX (b := 0) (c := 0) (neg_out (by omega))).2] at hO
  refine lv_ldc (v := (-9999001)) hx hb hown (hts (.constant RL 40 (-9999001)) (List.mem_of_getElem? (i := 2) (by decide +kernel))) dL_refuses_523 ?_
  refine lv_icmp_ne (tgt := 578) hx hb dL_refuses_525 (by decide) (fun z => absurd (h520.trans ((a_reX (neg_out (by omega))).1)) z) (fun _ => ?_)
  refine lv_aload_n hx hb dL_refuses_528 rfl (lv_at hl 3 rfl) ?_
  refine lv_iconst (v := 0) hx hb dL_refuses_529 (by decide) ?_
  refine lv_lconst (v := 0) hx hb dL_refuses_530 (by decide) ?_
  obtain ⟨M, hM, hB⟩ := hO
  refine l_goX (cells' := 27) (slots' := 162) (l_runSX (P := fun H => bk D E LRM o M H) (As := [.ref o, .int 0, .long 0]) (rest := []) ⟨hx, hb, hml, hown, hts⟩ (t_doScript l hst D E o M 0 0 (by rw [scr_0]; exact Or.inr rfl)) (vx_cwSW 3 hts gL_refuses_L_doScript rfl rfl rfl (by decide +kernel) ⟨Nat.le_of_ble_eq_true rfl, Nat.le_of_ble_eq_true rfl⟩) hB hKX (l_Z hZ hS (fun _ h => h)) hNc rfl hl rfl (Nat.le_of_ble_eq_true rfl) dL_refuses_531 ⟨Nat.le_of_ble_eq_true rfl, Nat.le_of_ble_eq_true rfl⟩) hS (fun _ h => h) ⟨Nat.le_of_ble_eq_true rfl, Nat.le_of_ble_eq_true rfl⟩ (fun r531 H locs hp hq hz hS => ?_)
  obtain ⟨h531, hB⟩ := hp
  rw [scr_0] at h531 hB
  have hO : Ob D E o S H := ⟨M, hM, hB⟩
  have h531 : r531 = -9999002 := h531
  refine lv_ldc (v := (-9999002)) hx hb hown (hts (.constant RL 15 (-9999002)) (List.mem_of_getElem? (i := 1) (by decide +kernel))) dL_refuses_534 ?_
  refine lv_icmp_ne (tgt := 578) hx hb dL_refuses_536 (by decide) (fun z => absurd (h531) z) (fun _ => ?_)
  refine lv_aload_n hx hb dL_refuses_539 rfl (lv_at hl 3 rfl) ?_
  refine lv_iconst (v := 1) hx hb dL_refuses_540 (by decide) ?_
  refine lv_ldc2 (v := (10000)) hx hb hown (hts (.constantLong RL 154 (10000)) (List.mem_of_getElem? (i := 3) (by decide +kernel))) dL_refuses_541 ?_
  refine lv_iload_n hx hb dL_refuses_544 rfl (lv_at hl 4 rfl) ?_
  refine lv_i2l (v := ((nI (X)) : Int32).toInt64) hx hb dL_refuses_545 rfl ?_
  refine lv_ladd hx hb dL_refuses_546 ?_
  obtain ⟨M, hM, hB⟩ := hO
  refine l_goX (cells' := 28) (slots' := 168) (l_runSX (P := fun H => bk D E LRM o M H) (As := [.ref o, .int 1, .long (((10000) : Int64) + ((nI (X)) : Int32).toInt64)]) (rest := []) ⟨hx, hb, hml, hown, hts⟩ (t_doScript l hst D E o M 1 (((10000) : Int64) + ((nI (X)) : Int32).toInt64) (by rw [(scr_1 (long_add (X := X) (by omega)) (by omega))]; exact Or.inr rfl)) (vx_cwSW 3 hts gL_refuses_L_doScript rfl rfl rfl (by decide +kernel) ⟨Nat.le_of_ble_eq_true rfl, Nat.le_of_ble_eq_true rfl⟩) hB hKX (l_Z hZ hS (fun _ h => h)) hNc rfl hl rfl (Nat.le_of_ble_eq_true rfl) dL_refuses_547 ⟨Nat.le_of_ble_eq_true rfl, Nat.le_of_ble_eq_true rfl⟩) hS (fun _ h => h) ⟨Nat.le_of_ble_eq_true rfl, Nat.le_of_ble_eq_true rfl⟩ (fun r547 H locs hp hq hz hS => ?_)
  obtain ⟨h547, hB⟩ := hp
  rw [(scr_1 (long_add (X := X) (by omega)) (by omega))] at h547 hB
  have hO : Ob D E o S H := ⟨M, hM, hB⟩
  have h547 : r547 = -9999002 := h547
  refine lv_ldc (v := (-9999002)) hx hb hown (hts (.constant RL 15 (-9999002)) (List.mem_of_getElem? (i := 1) (by decide +kernel))) dL_refuses_550 ?_
  refine lv_icmp_ne (tgt := 578) hx hb dL_refuses_552 (by decide) (fun z => absurd (h547) z) (fun _ => ?_)
  refine lv_aload_n hx hb dL_refuses_555 rfl (lv_at hl 3 rfl) ?_
  refine lv_iload_n hx hb dL_refuses_556 rfl (lv_at hl 4 rfl) ?_
  refine lv_i2l (v := ((nI (X)) : Int32).toInt64) hx hb dL_refuses_557 rfl ?_
  refine lv_sipush (v := 201) hx hb dL_refuses_558 (by decide) ?_
  refine lv_iload_n hx hb dL_refuses_561 rfl (lv_at hl 4 rfl) ?_
  refine lv_bipush (v := 9) hx hb dL_refuses_562 (by decide) ?_
  refine w_rem (a := X) (d := 9) hx hb rfl (by omega) (by decide) (by decide) dL_refuses_564 ?_
  refine w_add (i := 201) (j := (X) % 9) hx hb rfl rfl dL_refuses_565 ?_
  obtain ⟨M, hM, hB⟩ := hO
  refine l_goX (cells' := 29) (slots' := 174) (l_runSX (P := fun H => bk D E LRM o M H) (As := [.ref o, .long ((nI (X)) : Int32).toInt64, .int (nI (201 + (X) % 9))]) (rest := []) ⟨hx, hb, hml, hown, hts⟩ (t_doSimulate l hst D E o M ((nI (X)) : Int32).toInt64 (nI (201 + (X) % 9)) (okF_1 (ok_simulate (x1 := ((nI (X)) : Int32).toInt64) (x2 := (nI (201 + (X) % 9))) hM.1) n9_simulate)) (vx_cwSW 3 hts gL_refuses_L_doSimulate rfl rfl rfl (by decide +kernel) ⟨Nat.le_of_ble_eq_true rfl, Nat.le_of_ble_eq_true rfl⟩) hB hKX (l_Z hZ hS (fun _ h => h)) hNc rfl hl rfl (Nat.le_of_ble_eq_true rfl) dL_refuses_566 ⟨Nat.le_of_ble_eq_true rfl, Nat.le_of_ble_eq_true rfl⟩) hS (fun _ h => h) ⟨Nat.le_of_ble_eq_true rfl, Nat.le_of_ble_eq_true rfl⟩ (fun r566 H locs hp hq hz hS => ?_)
  obtain ⟨h566, hB⟩ := hp
  have hcl := sim_cl (x := ((nI (X)) : Int32).toInt64) (m := (nI (201 + (X) % 9))) hM
  have h566 := h566.trans hcl.1
  have hO : Ob D E o S H := ⟨_, hcl.2, hB⟩
  refine lv_ldc (v := (-9999002)) hx hb hown (hts (.constant RL 15 (-9999002)) (List.mem_of_getElem? (i := 1) (by decide +kernel))) dL_refuses_569 ?_
  refine lv_icmp_ne (tgt := 578) hx hb dL_refuses_571 (by decide) (fun z => absurd (h566.trans (a_ziX (by rw [nI_toInt (by omega)]; omega))) z) (fun _ => ?_)
  refine lv_iconst (v := 1) hx hb dL_refuses_574 (by decide) ?_
  refine lv_goto (tgt := 579) hx hb dL_refuses_575 (by decide) ?_
  refine lv_istore (lv' := [(5, .int 1), (4, .int r50), (3, .int w2), (2, .int w1), (0, .ref o), (1, .int (nI (X)))]) hx hb dL_refuses_579 hl (by decide) rfl (fun ls hl => ?_)
  refine lv_aload_n hx hb dL_refuses_581 rfl (lv_at hl 4 rfl) ?_
  obtain ⟨M, hM, hB⟩ := hO
  refine w_mI (b_runV (As := []) (rest := []) ⟨hx, hb, hml, hown, hts⟩ (c_X6_best l D E o M) (cwV 0 hts gL_refuses_X6_best rfl rfl rfl (by decide +kernel) ⟨Nat.le_of_ble_eq_true rfl, Nat.le_of_ble_eq_true rfl⟩) hKX.1 (bk_recv hKX.1.1 hB lay_0 rfl) hB rfl hl rfl (Nat.le_of_ble_eq_true rfl) dL_refuses_582 ⟨Nat.le_of_ble_eq_true rfl, Nat.le_of_ble_eq_true rfl⟩) hS (fun _ h => h) (fun r582 M1 hr H locs hB hq hz hS => ?_)
  obtain ⟨h582, hr2⟩ := hr
  have hcl := best_cl hM
  rw [← hr2] at hcl
  have h582 := h582.trans hcl.1
  have hO : Ob D E o S H := ⟨M1, hcl.2, hB⟩
  exact kk _ _ _ r582 hO hS hl h582
