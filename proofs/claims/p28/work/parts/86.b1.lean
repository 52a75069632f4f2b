/-! THE LAW'S holds, its pieces -/
set_option maxHeartbeats 8000000 in
set_option maxRecDepth 100000 in
theorem ho_A {p : Program} {l : Launch} {e : Env} {s : State} {m : MethodId} {args : Array Value} {below : List Frame} {meth : Method} {co : Code} {D : va_G} {E : Nat → ClassId} {o : Nat} {S : aT} {Q : State → Prop} {H : Heap} {locs : List Loc} {ls : Array Slot} {X : Nat} (K : lK p l s m args co D E (rA o) cL_holds 14 wsL_holds) (hO : Ob D E o S H) (hS : va_S (rA o) s.heap H locs) (hl : lv_has ls 14 [(0, .ref o), (1, .int (nI (X)))]) (FA : hoA S)
    (kk : ∀ (H : Heap) (locs : List Loc) (ls : Array Slot) (r5 : Int32) (r14 : Int32) (r24 : Int32) (r35 : Int32), Ob D E o S H → va_S (rA o) s.heap H locs → lv_has ls 14 [(9, .int 0), (8, .int 1), (7, .int 0), (6, .int 0), (5, .int r35), (4, .int r24), (3, .int r14), (2, .int r5), (0, .ref o), (1, .int (nI (X)))] → (r5 = S.1 1) → (r14 = S.1 4) → (r24 = S.1 5) → (r35 = S.1 8) → W p l e (lRm 9 620 3720) s m args below meth co H locs (7) (42) Q (F0 m 160 ls [])) : W p l e (lRm 9 620 3720) s m args below meth co H locs (0) (0) Q (F0 m 0 ls []) := by
  obtain ⟨hx, hb, hml, hown, hts, hKX, hZ, hNc, hst⟩ := id K
  obtain ⟨f1, f2, f3, f4, f5, f6, f7, f8⟩ := FA
  refine lv_aload_n hx hb dL_holds_0 rfl (lv_at hl 0 rfl) ?_
  refine lv_iconst (v := 2) hx hb dL_holds_1 (by decide) ?_
  refine lv_iconst (v := 1) hx hb dL_holds_2 (by decide) ?_
  refine lv_iconst (v := 0) hx hb dL_holds_3 (by decide) ?_
  refine lv_iconst (v := 0) hx hb dL_holds_4 (by decide) ?_
  refine l_go (cells' := 1) (slots' := 6) (l_runS (P := Ob D E o S) (As := [.ref o, .int 2, .int 1, .int 0, .int 0]) (rest := []) ⟨hx, hb, hml, hown, hts⟩ (c_call_2 l hst D E o S 1 0 0) (va_cwS 5 hts gL_holds_L_call rfl rfl rfl (by decide +kernel) ⟨Nat.le_of_ble_eq_true rfl, Nat.le_of_ble_eq_true rfl⟩) hO hKX (l_Z hZ hS (fun _ h => h)) hNc rfl hl rfl (Nat.le_of_ble_eq_true rfl) dL_holds_5 ⟨Nat.le_of_ble_eq_true rfl, Nat.le_of_ble_eq_true rfl⟩) hS (fun _ h => h) ⟨Nat.le_of_ble_eq_true rfl, Nat.le_of_ble_eq_true rfl⟩ (fun r5 H locs hp hq hz hS => ?_)
  obtain ⟨h5, hO⟩ := hp
  have hO : Ob D E o S H := hO
  have h5 := h5.trans a_ab1
  refine lv_istore_n (lv' := [(2, .int r5), (0, .ref o), (1, .int (nI (X)))]) hx hb dL_holds_8 rfl hl (by decide) rfl (fun ls hl => ?_)
  refine lv_aload_n hx hb dL_holds_9 rfl (lv_at hl 1 rfl) ?_
  refine lv_iconst (v := 2) hx hb dL_holds_10 (by decide) ?_
  refine lv_iconst (v := 5) hx hb dL_holds_11 (by decide) ?_
  refine lv_iconst (v := 0) hx hb dL_holds_12 (by decide) ?_
  refine lv_iconst (v := 0) hx hb dL_holds_13 (by decide) ?_
  refine l_go (cells' := 2) (slots' := 12) (l_runS (P := Ob D E o S) (As := [.ref o, .int 2, .int 5, .int 0, .int 0]) (rest := []) ⟨hx, hb, hml, hown, hts⟩ (c_call_2 l hst D E o S 5 0 0) (va_cwS 5 hts gL_holds_L_call rfl rfl rfl (by decide +kernel) ⟨Nat.le_of_ble_eq_true rfl, Nat.le_of_ble_eq_true rfl⟩) hO hKX (l_Z hZ hS (fun _ h => h)) hNc rfl hl rfl (Nat.le_of_ble_eq_true rfl) dL_holds_14 ⟨Nat.le_of_ble_eq_true rfl, Nat.le_of_ble_eq_true rfl⟩) hS (fun _ h => h) ⟨Nat.le_of_ble_eq_true rfl, Nat.le_of_ble_eq_true rfl⟩ (fun r14 H locs hp hq hz hS => ?_)
  obtain ⟨h14, hO⟩ := hp
  have hO : Ob D E o S H := hO
  have h14 := h14.trans a_ab5
  refine lv_istore_n (lv' := [(3, .int r14), (2, .int r5), (0, .ref o), (1, .int (nI (X)))]) hx hb dL_holds_17 rfl hl (by decide) rfl (fun ls hl => ?_)
  refine lv_aload_n hx hb dL_holds_18 rfl (lv_at hl 2 rfl) ?_
  refine lv_iconst (v := 2) hx hb dL_holds_19 (by decide) ?_
  refine lv_bipush (v := 6) hx hb dL_holds_20 (by decide) ?_
  refine lv_iconst (v := 0) hx hb dL_holds_22 (by decide) ?_
  refine lv_iconst (v := 0) hx hb dL_holds_23 (by decide) ?_
  refine l_go (cells' := 3) (slots' := 18) (l_runS (P := Ob D E o S) (As := [.ref o, .int 2, .int 6, .int 0, .int 0]) (rest := []) ⟨hx, hb, hml, hown, hts⟩ (c_call_2 l hst D E o S 6 0 0) (va_cwS 5 hts gL_holds_L_call rfl rfl rfl (by decide +kernel) ⟨Nat.le_of_ble_eq_true rfl, Nat.le_of_ble_eq_true rfl⟩) hO hKX (l_Z hZ hS (fun _ h => h)) hNc rfl hl rfl (Nat.le_of_ble_eq_true rfl) dL_holds_24 ⟨Nat.le_of_ble_eq_true rfl, Nat.le_of_ble_eq_true rfl⟩) hS (fun _ h => h) ⟨Nat.le_of_ble_eq_true rfl, Nat.le_of_ble_eq_true rfl⟩ (fun r24 H locs hp hq hz hS => ?_)
  obtain ⟨h24, hO⟩ := hp
  have hO : Ob D E o S H := hO
  have h24 := h24.trans a_ab6
  refine lv_istore (lv' := [(4, .int r24), (3, .int r14), (2, .int r5), (0, .ref o), (1, .int (nI (X)))]) hx hb dL_holds_27 hl (by decide) rfl (fun ls hl => ?_)
  refine lv_aload_n hx hb dL_holds_29 rfl (lv_at hl 3 rfl) ?_
  refine lv_bipush (v := 6) hx hb dL_holds_30 (by decide) ?_
  refine lv_iconst (v := 0) hx hb dL_holds_32 (by decide) ?_
  refine lv_iconst (v := 0) hx hb dL_holds_33 (by decide) ?_
  refine lv_iconst (v := 0) hx hb dL_holds_34 (by decide) ?_
  refine l_go (cells' := 4) (slots' := 24) (l_runS (P := Ob D E o S) (As := [.ref o, .int 6, .int 0, .int 0, .int 0]) (rest := []) ⟨hx, hb, hml, hown, hts⟩ (c_call_6 l hst D E o S 0 0 0) (va_cwS 5 hts gL_holds_L_call rfl rfl rfl (by decide +kernel) ⟨Nat.le_of_ble_eq_true rfl, Nat.le_of_ble_eq_true rfl⟩) hO hKX (l_Z hZ hS (fun _ h => h)) hNc rfl hl rfl (Nat.le_of_ble_eq_true rfl) dL_holds_35 ⟨Nat.le_of_ble_eq_true rfl, Nat.le_of_ble_eq_true rfl⟩) hS (fun _ h => h) ⟨Nat.le_of_ble_eq_true rfl, Nat.le_of_ble_eq_true rfl⟩ (fun r35 H locs hp hq hz hS => ?_)
  obtain ⟨h35, hO⟩ := hp
  have hO : Ob D E o S H := hO
  have h35 := h35.trans (a_se (p := 0) (by decide))
  refine lv_istore (lv' := [(5, .int r35), (4, .int r24), (3, .int r14), (2, .int r5), (0, .ref o), (1, .int (nI (X)))]) hx hb dL_holds_38 hl (by decide) rfl (fun ls hl => ?_)
  refine lv_iconst (v := 0) hx hb dL_holds_40 (by decide) ?_
  refine lv_istore (lv' := [(6, .int 0), (5, .int r35), (4, .int r24), (3, .int r14), (2, .int r5), (0, .ref o), (1, .int (nI (X)))]) hx hb dL_holds_41 hl (by decide) rfl (fun ls hl => ?_)
  refine lv_iconst (v := 0) hx hb dL_holds_43 (by decide) ?_
  refine lv_istore (lv' := [(7, .int 0), (6, .int 0), (5, .int r35), (4, .int r24), (3, .int r14), (2, .int r5), (0, .ref o), (1, .int (nI (X)))]) hx hb dL_holds_44 hl (by decide) rfl (fun ls hl => ?_)
  refine lv_iload_n hx hb dL_holds_46 rfl (lv_at hl 5 rfl) ?_
  refine lv_if_le (tgt := 154) hx hb dL_holds_47 (by decide) (fun z => absurd z (by rw [h5]; exact f1)) (fun _ => ?_)
  refine lv_iload_n hx hb dL_holds_50 rfl (lv_at hl 5 rfl) ?_
  refine lv_iconst (v := 4) hx hb dL_holds_51 (by decide) ?_
  refine lv_icmp_ge (tgt := 154) hx hb dL_holds_52 (by decide) (fun z => absurd z (by rw [h5]; exact f2)) (fun _ => ?_)
  refine lv_iload_n hx hb dL_holds_55 rfl (lv_at hl 4 rfl) ?_
  refine lv_iconst (v := (-1)) hx hb dL_holds_56 (by decide) ?_
  refine w_joinB (J := 65) (rest := []) (P0 := fun v => v = if S.1 4 = -1 then 0 else 1) (fun kk => ?_) (fun w1 n1 => ?_)
  · refine lv_icmp_eq (tgt := 64) hx hb dL_holds_57 (by decide) (fun c9 => ?_) (fun c9 => ?_)
    · refine lv_iconst (v := 0) hx hb dL_holds_64 (by decide) ?_
      exact kk _ (by rw [h14] at c9; rw [if_pos c9])
    · refine lv_iconst (v := 1) hx hb dL_holds_60 (by decide) ?_
      refine lv_goto (tgt := 65) hx hb dL_holds_61 (by decide) ?_
      exact kk _ (by rw [h14] at c9; rw [if_neg c9])
  refine lv_iload_n hx hb dL_holds_65 rfl (lv_at hl 5 rfl) ?_
  refine lv_iconst (v := 2) hx hb dL_holds_66 (by decide) ?_
  refine w_joinB (J := 75) (rest := [.int w1]) (P0 := fun v => v = if S.1 1 = 2 then 1 else 0) (fun kk => ?_) (fun w2 n2 => ?_)
  · refine lv_icmp_ne (tgt := 74) hx hb dL_holds_67 (by decide) (fun c9 => ?_) (fun c9 => ?_)
    · refine lv_iconst (v := 0) hx hb dL_holds_74 (by decide) ?_
      exact kk _ (by rw [h5] at c9; rw [if_neg c9])
    · refine lv_iconst (v := 1) hx hb dL_holds_70 (by decide) ?_
      refine lv_goto (tgt := 75) hx hb dL_holds_71 (by decide) ?_
      exact kk _ (by rw [h5] at c9; rw [if_pos c9])
  refine lv_icmp_ne (tgt := 154) hx hb dL_holds_75 (by decide) (fun z => absurd (n1.trans ((bool_ne f3).symm.trans n2.symm)) z) (fun _ => ?_)
  refine lv_iload_n hx hb dL_holds_78 rfl (lv_at hl 5 rfl) ?_
  refine lv_iconst (v := 2) hx hb dL_holds_79 (by decide) ?_
  refine w_cutP (J := 89) (rest := []) (P0 := True) (fun kk => ?_) (fun _ => ?_)
  · refine lv_icmp_eq (tgt := 89) hx hb dL_holds_80 (by decide) (fun c2 => ?_) (fun c2 => ?_)
    · exact kk trivial
    · refine lv_iload hx hb dL_holds_83 (lv_at hl 3 rfl) ?_
      refine lv_iconst (v := (-1)) hx hb dL_holds_85 (by decide) ?_
      refine lv_icmp_ne (tgt := 154) hx hb dL_holds_86 (by decide) (fun z => absurd (h24.trans (f4 (fun q => c2 (h5.trans q)))) z) (fun _ => ?_)
      exact kk trivial
  refine lv_aload_n hx hb dL_holds_89 rfl (lv_at hl 6 rfl) ?_
  refine lv_iconst (v := 2) hx hb dL_holds_90 (by decide) ?_
  refine lv_iconst (v := 2) hx hb dL_holds_91 (by decide) ?_
  refine lv_iconst (v := 0) hx hb dL_holds_92 (by decide) ?_
  refine lv_iconst (v := 0) hx hb dL_holds_93 (by decide) ?_
  refine l_go (cells' := 5) (slots' := 30) (l_runS (P := Ob D E o S) (As := [.ref o, .int 2, .int 2, .int 0, .int 0]) (rest := []) ⟨hx, hb, hml, hown, hts⟩ (c_call_2 l hst D E o S 2 0 0) (va_cwS 5 hts gL_holds_L_call rfl rfl rfl (by decide +kernel) ⟨Nat.le_of_ble_eq_true rfl, Nat.le_of_ble_eq_true rfl⟩) hO hKX (l_Z hZ hS (fun _ h => h)) hNc rfl hl rfl (Nat.le_of_ble_eq_true rfl) dL_holds_94 ⟨Nat.le_of_ble_eq_true rfl, Nat.le_of_ble_eq_true rfl⟩) hS (fun _ h => h) ⟨Nat.le_of_ble_eq_true rfl, Nat.le_of_ble_eq_true rfl⟩ (fun r94 H locs hp hq hz hS => ?_)
  obtain ⟨h94, hO⟩ := hp
  have hO : Ob D E o S H := hO
  have h94 := h94.trans a_ab2
  refine lv_iconst (v := (-1)) hx hb dL_holds_97 (by decide) ?_
  refine w_joinB (J := 106) (rest := []) (P0 := fun v => v = if S.1 1 = 1 then 0 else 1) (fun kk => ?_) (fun w3 n3 => ?_)
  · refine lv_icmp_ne (tgt := 105) hx hb dL_holds_98 (by decide) (fun c9 => ?_) (fun c9 => ?_)
    · refine lv_iconst (v := 0) hx hb dL_holds_105 (by decide) ?_
      exact kk _ (h94a h94 c9)
    · refine lv_iconst (v := 1) hx hb dL_holds_101 (by decide) ?_
      refine lv_goto (tgt := 106) hx hb dL_holds_102 (by decide) ?_
      exact kk _ (h94b h94 f5 c9)
  refine lv_iload_n hx hb dL_holds_106 rfl (lv_at hl 5 rfl) ?_
  refine lv_iconst (v := 1) hx hb dL_holds_107 (by decide) ?_
  refine w_joinB (J := 116) (rest := [.int w3]) (P0 := fun v => v = if S.1 1 = 1 then 0 else 1) (fun kk => ?_) (fun w4 n4 => ?_)
  · refine lv_icmp_eq (tgt := 115) hx hb dL_holds_108 (by decide) (fun c9 => ?_) (fun c9 => ?_)
    · refine lv_iconst (v := 0) hx hb dL_holds_115 (by decide) ?_
      exact kk _ (by rw [h5] at c9; rw [if_pos c9])
    · refine lv_iconst (v := 1) hx hb dL_holds_111 (by decide) ?_
      refine lv_goto (tgt := 116) hx hb dL_holds_112 (by decide) ?_
      exact kk _ (by rw [h5] at c9; rw [if_neg c9])
  refine lv_icmp_ne (tgt := 154) hx hb dL_holds_116 (by decide) (fun z => absurd (n3.trans n4.symm) z) (fun _ => ?_)
  refine lv_aload_n hx hb dL_holds_119 rfl (lv_at hl 6 rfl) ?_
  refine lv_iconst (v := 2) hx hb dL_holds_120 (by decide) ?_
  refine lv_iconst (v := 3) hx hb dL_holds_121 (by decide) ?_
  refine lv_iconst (v := 0) hx hb dL_holds_122 (by decide) ?_
  refine lv_iconst (v := 0) hx hb dL_holds_123 (by decide) ?_
  refine l_go (cells' := 6) (slots' := 36) (l_runS (P := Ob D E o S) (As := [.ref o, .int 2, .int 3, .int 0, .int 0]) (rest := []) ⟨hx, hb, hml, hown, hts⟩ (c_call_2 l hst D E o S 3 0 0) (va_cwS 5 hts gL_holds_L_call rfl rfl rfl (by decide +kernel) ⟨Nat.le_of_ble_eq_true rfl, Nat.le_of_ble_eq_true rfl⟩) hO hKX (l_Z hZ hS (fun _ h => h)) hNc rfl hl rfl (Nat.le_of_ble_eq_true rfl) dL_holds_124 ⟨Nat.le_of_ble_eq_true rfl, Nat.le_of_ble_eq_true rfl⟩) hS (fun _ h => h) ⟨Nat.le_of_ble_eq_true rfl, Nat.le_of_ble_eq_true rfl⟩ (fun r124 H locs hp hq hz hS => ?_)
  obtain ⟨h124, hO⟩ := hp
  have hO : Ob D E o S H := hO
  have h124 := h124.trans a_ab3
  refine lv_bipush (v := 80) hx hb dL_holds_127 (by decide) ?_
  refine lv_icmp_gt (tgt := 154) hx hb dL_holds_129 (by decide) (fun z => absurd z (by rw [h124]; exact f6)) (fun _ => ?_)
  refine lv_iload_n hx hb dL_holds_132 rfl (lv_at hl 5 rfl) ?_
  refine lv_iconst (v := 3) hx hb dL_holds_133 (by decide) ?_
  refine lv_icmp_ne (tgt := 150) hx hb dL_holds_134 (by decide) (fun c3 => ?_) (fun c3 => ?_)
  · refine lv_iconst (v := 1) hx hb dL_holds_150 (by decide) ?_
    refine lv_goto (tgt := 155) hx hb dL_holds_151 (by decide) ?_
    refine lv_istore (lv' := [(8, .int 1), (7, .int 0), (6, .int 0), (5, .int r35), (4, .int r24), (3, .int r14), (2, .int r5), (0, .ref o), (1, .int (nI (X)))]) hx hb dL_holds_155 hl (by decide) rfl (fun ls hl => ?_)
    refine lv_iconst (v := 0) hx hb dL_holds_157 (by decide) ?_
    refine lv_istore (lv' := [(9, .int 0), (8, .int 1), (7, .int 0), (6, .int 0), (5, .int r35), (4, .int r24), (3, .int r14), (2, .int r5), (0, .ref o), (1, .int (nI (X)))]) hx hb dL_holds_158 hl (by decide) rfl (fun ls hl => ?_)
    refine W.widen (k := 7) (n := 42) (Nat.le_of_ble_eq_true rfl) (Nat.le_of_ble_eq_true rfl) ?_
    exact kk _ _ _ r5 r14 r24 r35 hO hS hl h5 h14 h24 h35
  · refine lv_aload_n hx hb dL_holds_137 rfl (lv_at hl 6 rfl) ?_
    refine lv_iconst (v := 2) hx hb dL_holds_138 (by decide) ?_
    refine lv_iconst (v := 3) hx hb dL_holds_139 (by decide) ?_
    refine lv_iconst (v := 0) hx hb dL_holds_140 (by decide) ?_
    refine lv_iconst (v := 0) hx hb dL_holds_141 (by decide) ?_
    refine l_go (cells' := 7) (slots' := 42) (l_runS (P := Ob D E o S) (As := [.ref o, .int 2, .int 3, .int 0, .int 0]) (rest := []) ⟨hx, hb, hml, hown, hts⟩ (c_call_2 l hst D E o S 3 0 0) (va_cwS 5 hts gL_holds_L_call rfl rfl rfl (by decide +kernel) ⟨Nat.le_of_ble_eq_true rfl, Nat.le_of_ble_eq_true rfl⟩) hO hKX (l_Z hZ hS (fun _ h => h)) hNc rfl hl rfl (Nat.le_of_ble_eq_true rfl) dL_holds_142 ⟨Nat.le_of_ble_eq_true rfl, Nat.le_of_ble_eq_true rfl⟩) hS (fun _ h => h) ⟨Nat.le_of_ble_eq_true rfl, Nat.le_of_ble_eq_true rfl⟩ (fun r142 H locs hp hq hz hS => ?_)
    obtain ⟨h142, hO⟩ := hp
    have hO : Ob D E o S H := hO
    have h142 := h142.trans a_ab3
    refine lv_bipush (v := 80) hx hb dL_holds_145 (by decide) ?_
    refine lv_icmp_ne (tgt := 154) hx hb dL_holds_147 (by decide) (fun z => absurd (h142.trans (f7 (h5.symm.trans c3))) z) (fun _ => ?_)
    refine lv_iconst (v := 1) hx hb dL_holds_150 (by decide) ?_
    refine lv_goto (tgt := 155) hx hb dL_holds_151 (by decide) ?_
    refine lv_istore (lv' := [(8, .int 1), (7, .int 0), (6, .int 0), (5, .int r35), (4, .int r24), (3, .int r14), (2, .int r5), (0, .ref o), (1, .int (nI (X)))]) hx hb dL_holds_155 hl (by decide) rfl (fun ls hl => ?_)
    refine lv_iconst (v := 0) hx hb dL_holds_157 (by decide) ?_
    refine lv_istore (lv' := [(9, .int 0), (8, .int 1), (7, .int 0), (6, .int 0), (5, .int r35), (4, .int r24), (3, .int r14), (2, .int r5), (0, .ref o), (1, .int (nI (X)))]) hx hb dL_holds_158 hl (by decide) rfl (fun ls hl => ?_)
    refine W.widen (k := 7) (n := 42) (Nat.le_of_ble_eq_true rfl) (Nat.le_of_ble_eq_true rfl) ?_
    exact kk _ _ _ r5 r14 r24 r35 hO hS hl h5 h14 h24 h35
set_option maxHeartbeats 8000000 in
set_option maxRecDepth 100000 in
theorem ho_B_b {p : Program} {l : Launch} {e : Env} {s : State} {m : MethodId} {args : Array Value} {below : List Frame} {meth : Method} {co : Code} {D : va_G} {E : Nat → ClassId} {o : Nat} {S : aT} {Q : State → Prop} {H : Heap} {locs : List Loc} {ls : Array Slot} {X : Nat} {r5 r14 r24 r35 : Int32} {i : Nat} (K : lK p l s m args co D E (rA o) cL_holds 14 wsL_holds) (hO : Ob D E o S H) (hS : va_S (rA o) s.heap H locs) (hl : lv_has ls 14 [(9, .int (nI (i))), (8, .int 1), (7, .int (nI (cnt (damB S.1) (i)))), (6, .int (nI (sumN (pcR S.1) (i)))), (5, .int r35), (4, .int r24), (3, .int r14), (2, .int r5), (0, .ref o), (1, .int (nI (X)))]) (hi : i < 64) (h5 : r5 = S.1 1) (h14 : r14 = S.1 4) (h24 : r24 = S.1 5) (h35 : r35 = S.1 8) (FB : hoB S i)
    (kk : ∀ (H : Heap) (locs : List Loc) (ls : Array Slot), Ob D E o S H → va_S (rA o) s.heap H locs → lv_has ls 14 [(9, .int (nI (i + 1))), (8, .int 1), (7, .int (nI (cnt (damB S.1) (i + 1)))), (6, .int (nI (sumN (pcR S.1) (i + 1)))), (5, .int r35), (4, .int r24), (3, .int r14), (2, .int r5), (0, .ref o), (1, .int (nI (X)))] → W p l e (lRm 9 620 3720) s m args below meth co H locs (4 * i + 11) (6 * (4 * i + 11)) Q (F0 m 160 ls [])) : W p l e (lRm 9 620 3720) s m args below meth co H locs (4 * i + 7) (6 * (4 * i + 7)) Q (F0 m 160 ls []) := by
  obtain ⟨hx, hb, hml, hown, hts, hKX, hZ, hNc, hst⟩ := id K
  obtain ⟨l1, l2, l3, l4, l5, l6⟩ := FB
  refine lv_iload hx hb dL_holds_160 (lv_at hl 0 rfl) ?_
  refine lv_bipush (v := 64) hx hb dL_holds_162 (by decide) ?_
  refine lv_icmp_ge (tgt := 368) hx hb dL_holds_164 (by decide) (fun z => absurd z (nI_ge (a := i) (b := 64) hi (by decide))) (fun _ => ?_)
  refine lv_iload hx hb dL_holds_167 (lv_at hl 1 rfl) ?_
  refine lv_if_eq (tgt := 368) hx hb dL_holds_169 (by decide) (fun z => absurd z (show ¬ (1 : Int32) = 0 by decide)) (fun _ => ?_)
  refine lv_aload_n hx hb dL_holds_172 rfl (lv_at hl 8 rfl) ?_
  refine lv_iconst (v := 4) hx hb dL_holds_173 (by decide) ?_
  refine lv_iload hx hb dL_holds_174 (lv_at hl 0 rfl) ?_
  refine lv_bipush (v := 8) hx hb dL_holds_176 (by decide) ?_
  refine w_rem (a := i) (d := 8) hx hb rfl (by omega) (by decide) (by decide) dL_holds_178 ?_
  refine lv_iload hx hb dL_holds_179 (lv_at hl 0 rfl) ?_
  refine lv_bipush (v := 8) hx hb dL_holds_181 (by decide) ?_
  refine w_div (a := i) (d := 8) hx hb rfl (by omega) (by decide) (by decide) dL_holds_183 ?_
  refine lv_iconst (v := 2) hx hb dL_holds_184 (by decide) ?_
  refine l_go (cells' := 4 * i + 8) (slots' := 6 * (4 * i + 8)) (l_runS (P := Ob D E o S) (As := [.ref o, .int 4, .int (nI ((i) % 8)), .int (nI ((i) / 8)), .int 2]) (rest := []) ⟨hx, hb, hml, hown, hts⟩ (c_call_4 l hst D E o S (nI ((i) % 8)) (nI ((i) / 8)) 2) (va_cwS 5 hts gL_holds_L_call rfl rfl rfl (by decide +kernel) ⟨Nat.le_of_ble_eq_true rfl, Nat.le_of_ble_eq_true rfl⟩) hO hKX (l_Z hZ hS (fun _ h => h)) hNc rfl hl rfl (Nat.le_of_ble_eq_true rfl) dL_holds_185 ⟨by show 4 * i + 7 + 1 ≤ 620; omega, by show 6 * (4 * i + 7) + 6 ≤ 3720; omega⟩) hS (fun _ h => h) ⟨by omega, by omega⟩ (fun r185 H locs hp hq hz hS => ?_)
  obtain ⟨h185, hO⟩ := hp
  have hO : Ob D E o S H := hO
  have h185 := h185.trans (a_ct hi)
  refine lv_istore (lv' := [(10, .int r185), (9, .int (nI (i))), (8, .int 1), (7, .int (nI (cnt (damB S.1) (i)))), (6, .int (nI (sumN (pcR S.1) (i)))), (5, .int r35), (4, .int r24), (3, .int r14), (2, .int r5), (0, .ref o), (1, .int (nI (X)))]) hx hb dL_holds_188 hl (by decide) rfl (fun ls hl => ?_)
  refine lv_aload_n hx hb dL_holds_190 rfl (lv_at hl 9 rfl) ?_
  refine lv_iconst (v := 4) hx hb dL_holds_191 (by decide) ?_
  refine lv_iload hx hb dL_holds_192 (lv_at hl 1 rfl) ?_
  refine lv_bipush (v := 8) hx hb dL_holds_194 (by decide) ?_
  refine w_rem (a := i) (d := 8) hx hb rfl (by omega) (by decide) (by decide) dL_holds_196 ?_
  refine lv_iload hx hb dL_holds_197 (lv_at hl 1 rfl) ?_
  refine lv_bipush (v := 8) hx hb dL_holds_199 (by decide) ?_
  refine w_div (a := i) (d := 8) hx hb rfl (by omega) (by decide) (by decide) dL_holds_201 ?_
  refine lv_iconst (v := 3) hx hb dL_holds_202 (by decide) ?_
  refine l_go (cells' := 4 * i + 9) (slots' := 6 * (4 * i + 9)) (l_runS (P := Ob D E o S) (As := [.ref o, .int 4, .int (nI ((i) % 8)), .int (nI ((i) / 8)), .int 3]) (rest := []) ⟨hx, hb, hml, hown, hts⟩ (c_call_4 l hst D E o S (nI ((i) % 8)) (nI ((i) / 8)) 3) (va_cwS 5 hts gL_holds_L_call rfl rfl rfl (by decide +kernel) ⟨Nat.le_of_ble_eq_true rfl, Nat.le_of_ble_eq_true rfl⟩) hO hKX (l_Z hZ hS (fun _ h => h)) hNc rfl hl rfl (Nat.le_of_ble_eq_true rfl) dL_holds_203 ⟨by show 4 * i + 8 + 1 ≤ 620; omega, by show 6 * (4 * i + 8) + 6 ≤ 3720; omega⟩) hS (fun _ h => h) ⟨by omega, by omega⟩ (fun r203 H locs hp hq hz hS => ?_)
  obtain ⟨h203, hO⟩ := hp
  have hO : Ob D E o S H := hO
  have h203 := h203.trans (a_sd hi)
  refine lv_istore (lv' := [(11, .int r203), (10, .int r185), (9, .int (nI (i))), (8, .int 1), (7, .int (nI (cnt (damB S.1) (i)))), (6, .int (nI (sumN (pcR S.1) (i)))), (5, .int r35), (4, .int r24), (3, .int r14), (2, .int r5), (0, .ref o), (1, .int (nI (X)))]) hx hb dL_holds_206 hl (by decide) rfl (fun ls hl => ?_)
  refine lv_iload hx hb dL_holds_208 (lv_at hl 5 rfl) ?_
  refine lv_iload hx hb dL_holds_210 (lv_at hl 1 rfl) ?_
  refine lv_iconst (v := 3) hx hb dL_holds_212 (by decide) ?_
  refine w_joinB (J := 237) (rest := [.int (nI (sumN (pcR S.1) (i)))]) (P0 := fun v => v = nI (popC r185)) (fun kk => ?_) (fun w5 n5 => ?_)
  · refine lv_icmp_ne (tgt := 220) hx hb dL_holds_213 (by decide) (fun c1 => ?_) (fun c1 => ?_)
    · refine lv_iload hx hb dL_holds_220 (lv_at hl 1 rfl) ?_
      refine lv_iconst (v := 1) hx hb dL_holds_222 (by decide) ?_
      refine lv_icmp_eq (tgt := 232) hx hb dL_holds_223 (by decide) (fun c2 => ?_) (fun c2 => ?_)
      · refine lv_iconst (v := 1) hx hb dL_holds_232 (by decide) ?_
        refine lv_goto (tgt := 237) hx hb dL_holds_233 (by decide) ?_
        exact kk _ (by unfold popC; rw [if_neg c1, if_pos c2]; try rfl)
      · refine lv_iload hx hb dL_holds_226 (lv_at hl 1 rfl) ?_
        refine lv_iconst (v := 2) hx hb dL_holds_228 (by decide) ?_
        refine lv_icmp_ne (tgt := 236) hx hb dL_holds_229 (by decide) (fun c4 => ?_) (fun c4 => ?_)
        · refine lv_iconst (v := 0) hx hb dL_holds_236 (by decide) ?_
          exact kk _ (by unfold popC; rw [if_neg c1, if_neg c2, if_neg c4]; try rfl)
        · refine lv_iconst (v := 1) hx hb dL_holds_232 (by decide) ?_
          refine lv_goto (tgt := 237) hx hb dL_holds_233 (by decide) ?_
          exact kk _ (by unfold popC; rw [if_neg c1, if_neg c2, if_pos c4]; try rfl)
    · refine lv_iconst (v := 2) hx hb dL_holds_216 (by decide) ?_
      refine lv_goto (tgt := 237) hx hb dL_holds_217 (by decide) ?_
      exact kk _ (by unfold popC; rw [if_pos c1]; try rfl)
  refine w_eqI (n5.trans (by rw [h185])) ?_
  refine w_add (i := sumN (pcR S.1) (i)) (j := pcR S.1 i) hx hb rfl rfl dL_holds_237 ?_
  refine w_eqI ((rfl : nI (sumN (pcR S.1) i + pcR S.1 i) = nI (sumN (pcR S.1) (i + 1)))) ?_
  refine lv_istore (lv' := [(6, .int (nI (sumN (pcR S.1) (i + 1)))), (11, .int r203), (10, .int r185), (9, .int (nI (i))), (8, .int 1), (7, .int (nI (cnt (damB S.1) (i)))), (5, .int r35), (4, .int r24), (3, .int r14), (2, .int r5), (0, .ref o), (1, .int (nI (X)))]) hx hb dL_holds_238 hl (by decide) rfl (fun ls hl => ?_)
  refine lv_iload hx hb dL_holds_240 (lv_at hl 5 rfl) ?_
  refine lv_iload hx hb dL_holds_242 (lv_at hl 2 rfl) ?_
  refine lv_iconst (v := 4) hx hb dL_holds_244 (by decide) ?_
  refine w_joinB (J := 253) (rest := [.int (nI (cnt (damB S.1) (i)))]) (P0 := fun v => v = nI (if damB S.1 i = true then 1 else 0)) (fun kk => ?_) (fun w6 n6 => ?_)
  · refine lv_icmp_ne (tgt := 252) hx hb dL_holds_245 (by decide) (fun c9 => ?_) (fun c9 => ?_)
    · refine lv_iconst (v := 0) hx hb dL_holds_252 (by decide) ?_
      exact kk _ (by rw [h185] at c9; rw [if_neg (fun q => c9 (l3.mpr (of_decide_eq_true q)))]; try rfl)
    · refine lv_iconst (v := 1) hx hb dL_holds_248 (by decide) ?_
      refine lv_goto (tgt := 253) hx hb dL_holds_249 (by decide) ?_
      exact kk _ (by rw [h185] at c9; rw [if_pos (decide_eq_true (l3.mp c9))]; try rfl)
  refine w_eqI (n6) ?_
  refine w_add (i := cnt (damB S.1) (i)) (j := (if damB S.1 i = true then 1 else 0)) hx hb rfl rfl dL_holds_253 ?_
  refine w_eqI ((rfl : nI (cnt (damB S.1) i + (if damB S.1 i = true then 1 else 0)) = nI (cnt (damB S.1) (i + 1)))) ?_
  refine lv_istore (lv' := [(7, .int (nI (cnt (damB S.1) (i + 1)))), (6, .int (nI (sumN (pcR S.1) (i + 1)))), (11, .int r203), (10, .int r185), (9, .int (nI (i))), (8, .int 1), (5, .int r35), (4, .int r24), (3, .int r14), (2, .int r5), (0, .ref o), (1, .int (nI (X)))]) hx hb dL_holds_254 hl (by decide) rfl (fun ls hl => ?_)
  refine lv_iload hx hb dL_holds_256 (lv_at hl 3 rfl) ?_
  refine lv_if_lt (tgt := 359) hx hb dL_holds_258 (by decide) (fun z => absurd z (by rw [h185]; exact l1)) (fun _ => ?_)
  refine lv_iload hx hb dL_holds_261 (lv_at hl 3 rfl) ?_
  refine lv_iconst (v := 5) hx hb dL_holds_263 (by decide) ?_
  refine lv_icmp_ge (tgt := 359) hx hb dL_holds_264 (by decide) (fun z => absurd z (by rw [h185]; exact l2)) (fun _ => ?_)
  refine lv_iload hx hb dL_holds_267 (lv_at hl 2 rfl) ?_
  refine lv_iconst (v := (-1)) hx hb dL_holds_269 (by decide) ?_
  refine w_joinB (J := 278) (rest := []) (P0 := fun v => v = if S.1 (148 + i) = -1 then 1 else 0) (fun kk => ?_) (fun w7 n7 => ?_)
  · refine lv_icmp_ne (tgt := 277) hx hb dL_holds_270 (by decide) (fun c9 => ?_) (fun c9 => ?_)
    · refine lv_iconst (v := 0) hx hb dL_holds_277 (by decide) ?_
      exact kk _ (by rw [h203] at c9; rw [if_neg c9])
    · refine lv_iconst (v := 1) hx hb dL_holds_273 (by decide) ?_
      refine lv_goto (tgt := 278) hx hb dL_holds_274 (by decide) ?_
      exact kk _ (by rw [h203] at c9; rw [if_pos c9])
  refine lv_iload hx hb dL_holds_278 (lv_at hl 3 rfl) ?_
  refine lv_iconst (v := 4) hx hb dL_holds_280 (by decide) ?_
  refine w_joinB (J := 289) (rest := [.int w7]) (P0 := fun v => v = if ctR S.1 i = 4 then 0 else 1) (fun kk => ?_) (fun w8 n8 => ?_)
  · refine lv_icmp_eq (tgt := 288) hx hb dL_holds_281 (by decide) (fun c9 => ?_) (fun c9 => ?_)
    · refine lv_iconst (v := 0) hx hb dL_holds_288 (by decide) ?_
      exact kk _ (by rw [h185] at c9; rw [if_pos c9])
    · refine lv_iconst (v := 1) hx hb dL_holds_284 (by decide) ?_
      refine lv_goto (tgt := 289) hx hb dL_holds_285 (by decide) ?_
      exact kk _ (by rw [h185] at c9; rw [if_neg c9])
  refine lv_icmp_ne (tgt := 359) hx hb dL_holds_289 (by decide) (fun z => absurd (n7.trans ((bool_ne ⟨fun q z => l3.mp z q, fun q => Classical.byContradiction (fun z => q (l3.mpr z))⟩).trans n8.symm)) z) (fun _ => ?_)
  refine lv_iload hx hb dL_holds_292 (lv_at hl 2 rfl) ?_
  refine lv_bipush (v := 39) hx hb dL_holds_294 (by decide) ?_
  refine lv_icmp_gt (tgt := 359) hx hb dL_holds_296 (by decide) (fun z => absurd z (by rw [h203]; exact l4)) (fun _ => ?_)
  refine lv_iload hx hb dL_holds_299 (lv_at hl 3 rfl) ?_
  refine lv_iconst (v := 3) hx hb dL_holds_301 (by decide) ?_
  refine w_joinB (J := 310) (rest := []) (P0 := fun v => v = if ctR S.1 i = 3 then 1 else 0) (fun kk => ?_) (fun w9 n9 => ?_)
  · refine lv_icmp_ne (tgt := 309) hx hb dL_holds_302 (by decide) (fun c9 => ?_) (fun c9 => ?_)
    · refine lv_iconst (v := 0) hx hb dL_holds_309 (by decide) ?_
      exact kk _ (by rw [h185] at c9; rw [if_neg c9])
    · refine lv_iconst (v := 1) hx hb dL_holds_305 (by decide) ?_
      refine lv_goto (tgt := 310) hx hb dL_holds_306 (by decide) ?_
      exact kk _ (by rw [h185] at c9; rw [if_pos c9])
  refine lv_iload hx hb dL_holds_310 (lv_at hl 4 rfl) ?_
  refine lv_iload_n hx hb dL_holds_312 rfl (lv_at hl 8 rfl) ?_
  refine w_joinB (J := 321) (rest := [.int w9]) (P0 := fun v => v = if nI i = S.1 4 then 1 else 0) (fun kk => ?_) (fun w10 n10 => ?_)
  · refine lv_icmp_ne (tgt := 320) hx hb dL_holds_313 (by decide) (fun c9 => ?_) (fun c9 => ?_)
    · refine lv_iconst (v := 0) hx hb dL_holds_320 (by decide) ?_
      exact kk _ (by rw [h14] at c9; rw [if_neg c9])
    · refine lv_iconst (v := 1) hx hb dL_holds_316 (by decide) ?_
      refine lv_goto (tgt := 321) hx hb dL_holds_317 (by decide) ?_
      exact kk _ (by rw [h14] at c9; rw [if_pos c9])
  refine lv_icmp_ne (tgt := 359) hx hb dL_holds_321 (by decide) (fun z => absurd (n9.trans ((bool_eq l5).trans n10.symm)) z) (fun _ => ?_)
  refine lv_iload_n hx hb dL_holds_324 rfl (lv_at hl 9 rfl) ?_
  refine lv_iconst (v := 1) hx hb dL_holds_325 (by decide) ?_
  refine lv_icmp_ne (tgt := 355) hx hb dL_holds_326 (by decide) (fun c5 => ?_) (fun c5 => ?_)
  · refine lv_iconst (v := 1) hx hb dL_holds_355 (by decide) ?_
    refine lv_goto (tgt := 360) hx hb dL_holds_356 (by decide) ?_
    refine lv_istore (lv' := [(8, .int 1), (7, .int (nI (cnt (damB S.1) (i + 1)))), (6, .int (nI (sumN (pcR S.1) (i + 1)))), (11, .int r203), (10, .int r185), (9, .int (nI (i))), (5, .int r35), (4, .int r24), (3, .int r14), (2, .int r5), (0, .ref o), (1, .int (nI (X)))]) hx hb dL_holds_360 hl (by decide) rfl (fun ls hl => ?_)
    refine lv_iinc (v := (nI (i + 1))) (lv' := [(9, .int (nI (i + 1))), (8, .int 1), (7, .int (nI (cnt (damB S.1) (i + 1)))), (6, .int (nI (sumN (pcR S.1) (i + 1)))), (11, .int r203), (10, .int r185), (5, .int r35), (4, .int r24), (3, .int r14), (2, .int r5), (0, .ref o), (1, .int (nI (X)))]) hx hb dL_holds_362 hl (k := 5) rfl (nI_1 _) (by decide) rfl (fun ls hl => ?_)
    refine lv_goto (tgt := 160) hx hb dL_holds_365 (by decide) ?_
    have hl : lv_has ls 14 [(9, .int (nI (i + 1))), (8, .int 1), (7, .int (nI (cnt (damB S.1) (i + 1)))), (6, .int (nI (sumN (pcR S.1) (i + 1)))), (5, .int r35), (4, .int r24), (3, .int r14), (2, .int r5), (0, .ref o), (1, .int (nI (X)))] := lv_sub hl [0, 1, 2, 3, 6, 7, 8, 9, 10, 11] rfl
    refine W.widen (k := 4 * i + 11) (n := 6 * (4 * i + 11)) (by omega) (by omega) ?_
    exact kk _ _ _ hO hS hl
  · refine lv_iload hx hb dL_holds_329 (lv_at hl 3 rfl) ?_
    refine lv_if_eq (tgt := 355) hx hb dL_holds_331 (by decide) (fun c7 => ?_) (fun c7 => ?_)
    · refine lv_iconst (v := 1) hx hb dL_holds_355 (by decide) ?_
      refine lv_goto (tgt := 360) hx hb dL_holds_356 (by decide) ?_
      refine lv_istore (lv' := [(8, .int 1), (7, .int (nI (cnt (damB S.1) (i + 1)))), (6, .int (nI (sumN (pcR S.1) (i + 1)))), (11, .int r203), (10, .int r185), (9, .int (nI (i))), (5, .int r35), (4, .int r24), (3, .int r14), (2, .int r5), (0, .ref o), (1, .int (nI (X)))]) hx hb dL_holds_360 hl (by decide) rfl (fun ls hl => ?_)
      refine lv_iinc (v := (nI (i + 1))) (lv' := [(9, .int (nI (i + 1))), (8, .int 1), (7, .int (nI (cnt (damB S.1) (i + 1)))), (6, .int (nI (sumN (pcR S.1) (i + 1)))), (11, .int r203), (10, .int r185), (5, .int r35), (4, .int r24), (3, .int r14), (2, .int r5), (0, .ref o), (1, .int (nI (X)))]) hx hb dL_holds_362 hl (k := 5) rfl (nI_1 _) (by decide) rfl (fun ls hl => ?_)
      refine lv_goto (tgt := 160) hx hb dL_holds_365 (by decide) ?_
      have hl : lv_has ls 14 [(9, .int (nI (i + 1))), (8, .int 1), (7, .int (nI (cnt (damB S.1) (i + 1)))), (6, .int (nI (sumN (pcR S.1) (i + 1)))), (5, .int r35), (4, .int r24), (3, .int r14), (2, .int r5), (0, .ref o), (1, .int (nI (X)))] := lv_sub hl [0, 1, 2, 3, 6, 7, 8, 9, 10, 11] rfl
      refine W.widen (k := 4 * i + 11) (n := 6 * (4 * i + 11)) (by omega) (by omega) ?_
      exact kk _ _ _ hO hS hl
    · refine lv_aload_n hx hb dL_holds_334 rfl (lv_at hl 10 rfl) ?_
      refine lv_bipush (v := 13) hx hb dL_holds_335 (by decide) ?_
      refine lv_iload hx hb dL_holds_337 (lv_at hl 4 rfl) ?_
      refine lv_bipush (v := 8) hx hb dL_holds_339 (by decide) ?_
      refine w_rem (a := i) (d := 8) hx hb rfl (by omega) (by decide) (by decide) dL_holds_341 ?_
      refine lv_iload hx hb dL_holds_342 (lv_at hl 4 rfl) ?_
      refine lv_bipush (v := 8) hx hb dL_holds_344 (by decide) ?_
      refine w_div (a := i) (d := 8) hx hb rfl (by omega) (by decide) (by decide) dL_holds_346 ?_
      refine lv_iconst (v := 0) hx hb dL_holds_347 (by decide) ?_
      refine l_go (cells' := 4 * i + 10) (slots' := 6 * (4 * i + 10)) (l_runS (P := Ob D E o S) (As := [.ref o, .int 13, .int (nI ((i) % 8)), .int (nI ((i) / 8)), .int 0]) (rest := []) ⟨hx, hb, hml, hown, hts⟩ (c_call_13 l hst D E o S (nI ((i) % 8)) (nI ((i) / 8)) 0) (va_cwS 5 hts gL_holds_L_call rfl rfl rfl (by decide +kernel) ⟨Nat.le_of_ble_eq_true rfl, Nat.le_of_ble_eq_true rfl⟩) hO hKX (l_Z hZ hS (fun _ h => h)) hNc rfl hl rfl (Nat.le_of_ble_eq_true rfl) dL_holds_348 ⟨by show 4 * i + 9 + 1 ≤ 620; omega, by show 6 * (4 * i + 9) + 6 ≤ 3720; omega⟩) hS (fun _ h => h) ⟨by omega, by omega⟩ (fun r348 H locs hp hq hz hS => ?_)
      obtain ⟨h348, hO⟩ := hp
      have hO : Ob D E o S H := hO
      refine lv_iconst (v := 1) hx hb dL_holds_351 (by decide) ?_
      refine lv_icmp_ne (tgt := 359) hx hb dL_holds_352 (by decide) (fun z => absurd (h348.trans (l6 (h5.symm.trans c5) (fun q => c7 (h185.trans q)))) z) (fun _ => ?_)
      refine lv_iconst (v := 1) hx hb dL_holds_355 (by decide) ?_
      refine lv_goto (tgt := 360) hx hb dL_holds_356 (by decide) ?_
      refine lv_istore (lv' := [(8, .int 1), (7, .int (nI (cnt (damB S.1) (i + 1)))), (6, .int (nI (sumN (pcR S.1) (i + 1)))), (11, .int r203), (10, .int r185), (9, .int (nI (i))), (5, .int r35), (4, .int r24), (3, .int r14), (2, .int r5), (0, .ref o), (1, .int (nI (X)))]) hx hb dL_holds_360 hl (by decide) rfl (fun ls hl => ?_)
      refine lv_iinc (v := (nI (i + 1))) (lv' := [(9, .int (nI (i + 1))), (8, .int 1), (7, .int (nI (cnt (damB S.1) (i + 1)))), (6, .int (nI (sumN (pcR S.1) (i + 1)))), (11, .int r203), (10, .int r185), (5, .int r35), (4, .int r24), (3, .int r14), (2, .int r5), (0, .ref o), (1, .int (nI (X)))]) hx hb dL_holds_362 hl (k := 5) rfl (nI_1 _) (by decide) rfl (fun ls hl => ?_)
      refine lv_goto (tgt := 160) hx hb dL_holds_365 (by decide) ?_
      have hl : lv_has ls 14 [(9, .int (nI (i + 1))), (8, .int 1), (7, .int (nI (cnt (damB S.1) (i + 1)))), (6, .int (nI (sumN (pcR S.1) (i + 1)))), (5, .int r35), (4, .int r24), (3, .int r14), (2, .int r5), (0, .ref o), (1, .int (nI (X)))] := lv_sub hl [0, 1, 2, 3, 6, 7, 8, 9, 10, 11] rfl
      refine W.widen (k := 4 * i + 11) (n := 6 * (4 * i + 11)) (by omega) (by omega) ?_
      exact kk _ _ _ hO hS hl
set_option maxRecDepth 100000 in
theorem ho_B {p : Program} {l : Launch} {e : Env} {s : State} {m : MethodId} {args : Array Value} {below : List Frame} {meth : Method} {co : Code} {D : va_G} {E : Nat → ClassId} {o : Nat} {S : aT} {Q : State → Prop} {X : Nat} {r5 r14 r24 r35 : Int32} (K : lK p l s m args co D E (rA o) cL_holds 14 wsL_holds) (h5 : r5 = S.1 1) (h14 : r14 = S.1 4) (h24 : r24 = S.1 5) (h35 : r35 = S.1 8) (FB : ∀ i, i < 64 → hoB S i)
    (kk : ∀ (H : Heap) (locs : List Loc) (ls : Array Slot), Ob D E o S H → va_S (rA o) s.heap H locs → lv_has ls 14 [(9, .int (nI (64))), (8, .int 1), (7, .int (nI (cnt (damB S.1) (64)))), (6, .int (nI (sumN (pcR S.1) (64)))), (5, .int r35), (4, .int r24), (3, .int r14), (2, .int r5), (0, .ref o), (1, .int (nI (X)))] → W p l e (lRm 9 620 3720) s m args below meth co H locs (4 * (64) + 7) (6 * (4 * (64) + 7)) Q (F0 m 160 ls [])) : ∀ (n i : Nat), i + n = 64 → ∀ {H : Heap} {locs : List Loc} {ls : Array Slot}, Ob D E o S H → va_S (rA o) s.heap H locs → lv_has ls 14 [(9, .int (nI (i))), (8, .int 1), (7, .int (nI (cnt (damB S.1) (i)))), (6, .int (nI (sumN (pcR S.1) (i)))), (5, .int r35), (4, .int r24), (3, .int r14), (2, .int r5), (0, .ref o), (1, .int (nI (X)))] → W p l e (lRm 9 620 3720) s m args below meth co H locs (4 * i + 7) (6 * (4 * i + 7)) Q (F0 m 160 ls [])
  | 0, i, h, _, _, _, hO, hS, hl => by
    have e : i = 64 := by omega
    subst e
    exact kk _ _ _ hO hS hl
  | n + 1, i, h, _, _, _, hO, hS, hl => ho_B_b K hO hS hl (by omega) h5 h14 h24 h35 (FB i (by omega)) (fun H locs ls hO hS hl => W.widen (k := 4 * (i + 1) + 7) (n := 6 * (4 * (i + 1) + 7)) (by omega) (by omega) (ho_B K h5 h14 h24 h35 FB kk n (i + 1) (by omega) hO hS hl))
set_option maxHeartbeats 8000000 in
set_option maxRecDepth 100000 in
theorem ho_C1 {p : Program} {l : Launch} {e : Env} {s : State} {m : MethodId} {args : Array Value} {below : List Frame} {meth : Method} {co : Code} {D : va_G} {E : Nat → ClassId} {o : Nat} {S : aT} {Q : State → Prop} {H : Heap} {locs : List Loc} {ls : Array Slot} {X P a cz : Nat} {r5 r14 r24 r35 : Int32} (K : lK p l s m args co D E (rA o) cL_holds 14 wsL_holds) (hO : Ob D E o S H) (hS : va_S (rA o) s.heap H locs) (hl : lv_has ls 14 [(9, .int (nI (P))), (8, .int 1), (7, .int (nI (cnt (damB S.1) (64)))), (6, .int (nI (cz))), (5, .int r35), (4, .int r24), (3, .int r14), (2, .int r5), (0, .ref o), (1, .int (nI (X)))]) (hP : P < 2) (FC : hoC S P a)
    (kk : ∀ (H : Heap) (locs : List Loc) (ls : Array Slot), Ob D E o S H → va_S (rA o) s.heap H locs → lv_has ls 14 [(11, .int 1), (10, .int (nI (a + 1))), (9, .int (nI (P))), (8, .int 1), (7, .int (nI (cnt (damB S.1) (64)))), (6, .int (nI (cz))), (5, .int r35), (4, .int r24), (3, .int r14), (2, .int r5), (0, .ref o), (1, .int (nI (X)))] → W p l e (lRm 9 620 3720) s m args below meth co H locs (4 * (64) + 150 * (P) + 14) (6 * (4 * (64) + 150 * (P) + 14)) Q (F0 m 484 ls [])) : W p l e (lRm 9 620 3720) s m args below meth co H locs (4 * (64) + 150 * (P) + 7) (6 * (4 * (64) + 150 * (P) + 7)) Q (F0 m 371 ls []) := by
  obtain ⟨hx, hb, hml, hown, hts, hKX, hZ, hNc, hst⟩ := id K
  obtain ⟨m1, m2, m3, m4, m5, m6, m7, m8⟩ := FC
  refine lv_iload hx hb dL_holds_371 (lv_at hl 0 rfl) ?_
  refine lv_iconst (v := 2) hx hb dL_holds_373 (by decide) ?_
  refine lv_icmp_ge (tgt := 670) hx hb dL_holds_374 (by decide) (fun z => absurd z (nI_ge (a := P) (b := 2) hP (by decide))) (fun _ => ?_)
  refine lv_iload hx hb dL_holds_377 (lv_at hl 1 rfl) ?_
  refine lv_if_eq (tgt := 670) hx hb dL_holds_379 (by decide) (fun z => absurd z (show ¬ (1 : Int32) = 0 by decide)) (fun _ => ?_)
  refine lv_aload_n hx hb dL_holds_382 rfl (lv_at hl 8 rfl) ?_
  refine lv_iconst (v := 3) hx hb dL_holds_383 (by decide) ?_
  refine lv_iload hx hb dL_holds_384 (lv_at hl 0 rfl) ?_
  refine lv_iconst (v := 0) hx hb dL_holds_386 (by decide) ?_
  refine lv_iconst (v := 0) hx hb dL_holds_387 (by decide) ?_
  refine l_go (cells' := 4 * (64) + 150 * (P) + 8) (slots' := 6 * (4 * (64) + 150 * (P) + 8)) (l_runS (P := Ob D E o S) (As := [.ref o, .int 3, .int (nI (P)), .int 0, .int 0]) (rest := []) ⟨hx, hb, hml, hown, hts⟩ (c_call_3 l hst D E o S (nI (P)) 0 0) (va_cwS 5 hts gL_holds_L_call rfl rfl rfl (by decide +kernel) ⟨Nat.le_of_ble_eq_true rfl, Nat.le_of_ble_eq_true rfl⟩) hO hKX (l_Z hZ hS (fun _ h => h)) hNc rfl hl rfl (Nat.le_of_ble_eq_true rfl) dL_holds_388 ⟨by show 4 * (64) + 150 * (P) + 7 + 1 ≤ 620; omega, by show 6 * (4 * (64) + 150 * (P) + 7) + 6 ≤ 3720; omega⟩) hS (fun _ h => h) ⟨by omega, by omega⟩ (fun r388 H locs hp hq hz hS => ?_)
  obtain ⟨h388, hO⟩ := hp
  have hO : Ob D E o S H := hO
  refine w_eqI (h388.trans ((a_pl0 hP).trans m1)) ?_
  refine lv_istore (lv' := [(10, .int (nI (a + 1))), (9, .int (nI (P))), (8, .int 1), (7, .int (nI (cnt (damB S.1) (64)))), (6, .int (nI (cz))), (5, .int r35), (4, .int r24), (3, .int r14), (2, .int r5), (0, .ref o), (1, .int (nI (X)))]) hx hb dL_holds_391 hl (by decide) rfl (fun ls hl => ?_)
  refine lv_aload_n hx hb dL_holds_393 rfl (lv_at hl 9 rfl) ?_
  refine lv_iconst (v := 5) hx hb dL_holds_394 (by decide) ?_
  refine lv_iload hx hb dL_holds_395 (lv_at hl 1 rfl) ?_
  refine lv_iconst (v := 0) hx hb dL_holds_397 (by decide) ?_
  refine lv_iconst (v := 0) hx hb dL_holds_398 (by decide) ?_
  refine l_go (cells' := 4 * (64) + 150 * (P) + 9) (slots' := 6 * (4 * (64) + 150 * (P) + 9)) (l_runS (P := Ob D E o S) (As := [.ref o, .int 5, .int (nI (P)), .int 0, .int 0]) (rest := []) ⟨hx, hb, hml, hown, hts⟩ (c_call_5 l hst D E o S (nI (P)) 0 0) (va_cwS 5 hts gL_holds_L_call rfl rfl rfl (by decide +kernel) ⟨Nat.le_of_ble_eq_true rfl, Nat.le_of_ble_eq_true rfl⟩) hO hKX (l_Z hZ hS (fun _ h => h)) hNc rfl hl rfl (Nat.le_of_ble_eq_true rfl) dL_holds_399 ⟨by show 4 * (64) + 150 * (P) + 8 + 1 ≤ 620; omega, by show 6 * (4 * (64) + 150 * (P) + 8) + 6 ≤ 3720; omega⟩) hS (fun _ h => h) ⟨by omega, by omega⟩ (fun r399 H locs hp hq hz hS => ?_)
  obtain ⟨h399, hO⟩ := hp
  have hO : Ob D E o S H := hO
  refine lv_iload hx hb dL_holds_402 (lv_at hl 1 rfl) ?_
  refine w_joinB (J := 413) (rest := [.int r399]) (P0 := fun v => v = nI (1 + 5 * P)) (fun kk => ?_) (fun w1 n1 => ?_)
  · refine lv_if_ne (tgt := 411) hx hb dL_holds_404 (by decide) (fun c9 => ?_) (fun c9 => ?_)
    · refine lv_bipush (v := 6) hx hb dL_holds_411 (by decide) ?_
      exact kk _ (by have h1 : P = 1 := (by omega : P = 0 ∨ P = 1).elim (fun z => absurd (by rw [z]; rfl) c9) id; rw [h1]; try rfl)
    · refine lv_iconst (v := 1) hx hb dL_holds_407 (by decide) ?_
      refine lv_goto (tgt := 413) hx hb dL_holds_408 (by decide) ?_
      exact kk _ (by have h1 : P = 0 := nI_inj (a := P) (b := 0) (by omega) (by decide) c9; rw [h1]; try rfl)
  refine lv_icmp_ne (tgt := 478) hx hb dL_holds_413 (by decide) (fun z => absurd (h399.trans ((a_co (k := 0) hP m1 m2 (Nat.zero_le _)).trans (m3.trans n1.symm))) z) (fun _ => ?_)
  refine lv_aload_n hx hb dL_holds_416 rfl (lv_at hl 9 rfl) ?_
  refine lv_iconst (v := 5) hx hb dL_holds_417 (by decide) ?_
  refine lv_iload hx hb dL_holds_418 (lv_at hl 1 rfl) ?_
  refine lv_iload hx hb dL_holds_420 (lv_at hl 0 rfl) ?_
  refine lv_iconst (v := 1) hx hb dL_holds_422 (by decide) ?_
  refine w_sub (i := a + 1) (j := 1) hx hb rfl rfl (by omega) dL_holds_423 ?_
  refine w_eqI (congrArg nI (Nat.add_sub_cancel a 1)) ?_
  refine lv_iconst (v := 0) hx hb dL_holds_424 (by decide) ?_
  refine l_go (cells' := 4 * (64) + 150 * (P) + 10) (slots' := 6 * (4 * (64) + 150 * (P) + 10)) (l_runS (P := Ob D E o S) (As := [.ref o, .int 5, .int (nI (P)), .int (nI (a)), .int 0]) (rest := []) ⟨hx, hb, hml, hown, hts⟩ (c_call_5 l hst D E o S (nI (P)) (nI (a)) 0) (va_cwS 5 hts gL_holds_L_call rfl rfl rfl (by decide +kernel) ⟨Nat.le_of_ble_eq_true rfl, Nat.le_of_ble_eq_true rfl⟩) hO hKX (l_Z hZ hS (fun _ h => h)) hNc rfl hl rfl (Nat.le_of_ble_eq_true rfl) dL_holds_425 ⟨by show 4 * (64) + 150 * (P) + 9 + 1 ≤ 620; omega, by show 6 * (4 * (64) + 150 * (P) + 9) + 6 ≤ 3720; omega⟩) hS (fun _ h => h) ⟨by omega, by omega⟩ (fun r425 H locs hp hq hz hS => ?_)
  obtain ⟨h425, hO⟩ := hp
  have hO : Ob D E o S H := hO
  refine lv_aload_n hx hb dL_holds_428 rfl (lv_at hl 9 rfl) ?_
  refine lv_iconst (v := 3) hx hb dL_holds_429 (by decide) ?_
  refine lv_iload hx hb dL_holds_430 (lv_at hl 1 rfl) ?_
  refine lv_iconst (v := 1) hx hb dL_holds_432 (by decide) ?_
  refine lv_iconst (v := 0) hx hb dL_holds_433 (by decide) ?_
  refine l_go (cells' := 4 * (64) + 150 * (P) + 11) (slots' := 6 * (4 * (64) + 150 * (P) + 11)) (l_runS (P := Ob D E o S) (As := [.ref o, .int 3, .int (nI (P)), .int 1, .int 0]) (rest := [.int r425]) ⟨hx, hb, hml, hown, hts⟩ (c_call_3 l hst D E o S (nI (P)) 1 0) (va_cwS 5 hts gL_holds_L_call rfl rfl rfl (by decide +kernel) ⟨Nat.le_of_ble_eq_true rfl, Nat.le_of_ble_eq_true rfl⟩) hO hKX (l_Z hZ hS (fun _ h => h)) hNc rfl hl rfl (Nat.le_of_ble_eq_true rfl) dL_holds_434 ⟨by show 4 * (64) + 150 * (P) + 10 + 1 ≤ 620; omega, by show 6 * (4 * (64) + 150 * (P) + 10) + 6 ≤ 3720; omega⟩) hS (fun _ h => h) ⟨by omega, by omega⟩ (fun r434 H locs hp hq hz hS => ?_)
  obtain ⟨h434, hO⟩ := hp
  have hO : Ob D E o S H := hO
  refine lv_icmp_ne (tgt := 478) hx hb dL_holds_437 (by decide) (fun z => absurd (h425.trans ((a_co hP m1 m2 (Nat.le_refl _)).trans ((a_pl1 hP m1 m2).symm.trans h434.symm))) z) (fun _ => ?_)
  refine lv_aload_n hx hb dL_holds_440 rfl (lv_at hl 9 rfl) ?_
  refine lv_iconst (v := 3) hx hb dL_holds_441 (by decide) ?_
  refine lv_iload hx hb dL_holds_442 (lv_at hl 1 rfl) ?_
  refine lv_iconst (v := 3) hx hb dL_holds_444 (by decide) ?_
  refine lv_iconst (v := 0) hx hb dL_holds_445 (by decide) ?_
  refine l_go (cells' := 4 * (64) + 150 * (P) + 12) (slots' := 6 * (4 * (64) + 150 * (P) + 12)) (l_runS (P := Ob D E o S) (As := [.ref o, .int 3, .int (nI (P)), .int 3, .int 0]) (rest := []) ⟨hx, hb, hml, hown, hts⟩ (c_call_3 l hst D E o S (nI (P)) 3 0) (va_cwS 5 hts gL_holds_L_call rfl rfl rfl (by decide +kernel) ⟨Nat.le_of_ble_eq_true rfl, Nat.le_of_ble_eq_true rfl⟩) hO hKX (l_Z hZ hS (fun _ h => h)) hNc rfl hl rfl (Nat.le_of_ble_eq_true rfl) dL_holds_446 ⟨by show 4 * (64) + 150 * (P) + 11 + 1 ≤ 620; omega, by show 6 * (4 * (64) + 150 * (P) + 11) + 6 ≤ 3720; omega⟩) hS (fun _ h => h) ⟨by omega, by omega⟩ (fun r446 H locs hp hq hz hS => ?_)
  obtain ⟨h446, hO⟩ := hp
  have hO : Ob D E o S H := hO
  refine lv_iconst (v := 3) hx hb dL_holds_449 (by decide) ?_
  refine lv_icmp_gt (tgt := 478) hx hb dL_holds_450 (by decide) (fun z => absurd z (by rw [h446, a_pl3 hP]; exact m4)) (fun _ => ?_)
  refine lv_aload_n hx hb dL_holds_453 rfl (lv_at hl 9 rfl) ?_
  refine lv_iconst (v := 3) hx hb dL_holds_454 (by decide) ?_
  refine lv_iload hx hb dL_holds_455 (lv_at hl 1 rfl) ?_
  refine lv_iconst (v := 5) hx hb dL_holds_457 (by decide) ?_
  refine lv_iconst (v := 0) hx hb dL_holds_458 (by decide) ?_
  refine l_go (cells' := 4 * (64) + 150 * (P) + 13) (slots' := 6 * (4 * (64) + 150 * (P) + 13)) (l_runS (P := Ob D E o S) (As := [.ref o, .int 3, .int (nI (P)), .int 5, .int 0]) (rest := []) ⟨hx, hb, hml, hown, hts⟩ (c_call_3 l hst D E o S (nI (P)) 5 0) (va_cwS 5 hts gL_holds_L_call rfl rfl rfl (by decide +kernel) ⟨Nat.le_of_ble_eq_true rfl, Nat.le_of_ble_eq_true rfl⟩) hO hKX (l_Z hZ hS (fun _ h => h)) hNc rfl hl rfl (Nat.le_of_ble_eq_true rfl) dL_holds_459 ⟨by show 4 * (64) + 150 * (P) + 12 + 1 ≤ 620; omega, by show 6 * (4 * (64) + 150 * (P) + 12) + 6 ≤ 3720; omega⟩) hS (fun _ h => h) ⟨by omega, by omega⟩ (fun r459 H locs hp hq hz hS => ?_)
  obtain ⟨h459, hO⟩ := hp
  have hO : Ob D E o S H := hO
  refine lv_aload_n hx hb dL_holds_462 rfl (lv_at hl 9 rfl) ?_
  refine lv_iconst (v := 3) hx hb dL_holds_463 (by decide) ?_
  refine lv_iload hx hb dL_holds_464 (lv_at hl 1 rfl) ?_
  refine lv_iconst (v := 2) hx hb dL_holds_466 (by decide) ?_
  refine lv_iconst (v := 0) hx hb dL_holds_467 (by decide) ?_
  refine l_go (cells' := 4 * (64) + 150 * (P) + 14) (slots' := 6 * (4 * (64) + 150 * (P) + 14)) (l_runS (P := Ob D E o S) (As := [.ref o, .int 3, .int (nI (P)), .int 2, .int 0]) (rest := [.int r459]) ⟨hx, hb, hml, hown, hts⟩ (c_call_3 l hst D E o S (nI (P)) 2 0) (va_cwS 5 hts gL_holds_L_call rfl rfl rfl (by decide +kernel) ⟨Nat.le_of_ble_eq_true rfl, Nat.le_of_ble_eq_true rfl⟩) hO hKX (l_Z hZ hS (fun _ h => h)) hNc rfl hl rfl (Nat.le_of_ble_eq_true rfl) dL_holds_468 ⟨by show 4 * (64) + 150 * (P) + 13 + 1 ≤ 620; omega, by show 6 * (4 * (64) + 150 * (P) + 13) + 6 ≤ 3720; omega⟩) hS (fun _ h => h) ⟨by omega, by omega⟩ (fun r468 H locs hp hq hz hS => ?_)
  obtain ⟨h468, hO⟩ := hp
  have hO : Ob D E o S H := hO
  refine lv_icmp_lt (tgt := 478) hx hb dL_holds_471 (by decide) (fun z => absurd z (by rw [h459, h468, a_pl5 hP, a_pl2 hP]; exact m5)) (fun _ => ?_)
  refine lv_iconst (v := 1) hx hb dL_holds_474 (by decide) ?_
  refine lv_goto (tgt := 479) hx hb dL_holds_475 (by decide) ?_
  refine lv_istore (lv' := [(8, .int 1), (10, .int (nI (a + 1))), (9, .int (nI (P))), (7, .int (nI (cnt (damB S.1) (64)))), (6, .int (nI (cz))), (5, .int r35), (4, .int r24), (3, .int r14), (2, .int r5), (0, .ref o), (1, .int (nI (X)))]) hx hb dL_holds_479 hl (by decide) rfl (fun ls hl => ?_)
  refine lv_iconst (v := 1) hx hb dL_holds_481 (by decide) ?_
  refine lv_istore (lv' := [(11, .int 1), (8, .int 1), (10, .int (nI (a + 1))), (9, .int (nI (P))), (7, .int (nI (cnt (damB S.1) (64)))), (6, .int (nI (cz))), (5, .int r35), (4, .int r24), (3, .int r14), (2, .int r5), (0, .ref o), (1, .int (nI (X)))]) hx hb dL_holds_482 hl (by decide) rfl (fun ls hl => ?_)
  have hl : lv_has ls 14 [(11, .int 1), (10, .int (nI (a + 1))), (9, .int (nI (P))), (8, .int 1), (7, .int (nI (cnt (damB S.1) (64)))), (6, .int (nI (cz))), (5, .int r35), (4, .int r24), (3, .int r14), (2, .int r5), (0, .ref o), (1, .int (nI (X)))] := lv_sub hl [0, 2, 3, 1, 4, 5, 6, 7, 8, 9, 10, 11] rfl
  exact kk _ _ _ hO hS hl
set_option maxHeartbeats 8000000 in
set_option maxRecDepth 100000 in
theorem ho_C2_b {p : Program} {l : Launch} {e : Env} {s : State} {m : MethodId} {args : Array Value} {below : List Frame} {meth : Method} {co : Code} {D : va_G} {E : Nat → ClassId} {o : Nat} {S : aT} {Q : State → Prop} {H : Heap} {locs : List Loc} {ls : Array Slot} {X P a cz : Nat} {r5 r14 r24 r35 : Int32} {i : Nat} (K : lK p l s m args co D E (rA o) cL_holds 14 wsL_holds) (hO : Ob D E o S H) (hS : va_S (rA o) s.heap H locs) (hl : lv_has ls 14 [(11, .int (nI (i + 1))), (10, .int (nI (a + 1))), (9, .int (nI (P))), (8, .int 1), (7, .int (nI (cnt (damB S.1) (64)))), (6, .int (nI (cz))), (5, .int r35), (4, .int r24), (3, .int r14), (2, .int r5), (0, .ref o), (1, .int (nI (X)))]) (hi : i < a) (hP : P < 2) (FC : hoC S P a) (hkk : a < 64)
    (kk : ∀ (H : Heap) (locs : List Loc) (ls : Array Slot), Ob D E o S H → va_S (rA o) s.heap H locs → lv_has ls 14 [(11, .int (nI (i + 1 + 1))), (10, .int (nI (a + 1))), (9, .int (nI (P))), (8, .int 1), (7, .int (nI (cnt (damB S.1) (64)))), (6, .int (nI (cz))), (5, .int r35), (4, .int r24), (3, .int r14), (2, .int r5), (0, .ref o), (1, .int (nI (X)))] → W p l e (lRm 9 620 3720) s m args below meth co H locs (4 * (64) + 150 * (P) + 2 * i + 16) (6 * (4 * (64) + 150 * (P) + 2 * i + 16)) Q (F0 m 484 ls [])) : W p l e (lRm 9 620 3720) s m args below meth co H locs (4 * (64) + 150 * (P) + 2 * i + 14) (6 * (4 * (64) + 150 * (P) + 2 * i + 14)) Q (F0 m 484 ls []) := by
  obtain ⟨hx, hb, hml, hown, hts, hKX, hZ, hNc, hst⟩ := id K
  obtain ⟨m1, m2, m3, m4, m5, m6, m7, m8⟩ := FC
  refine lv_iload hx hb dL_holds_484 (lv_at hl 0 rfl) ?_
  refine lv_iload hx hb dL_holds_486 (lv_at hl 1 rfl) ?_
  refine lv_icmp_ge (tgt := 568) hx hb dL_holds_488 (by decide) (fun z => absurd z (nI_ge (a := i + 1) (b := a + 1) (by omega) (by omega))) (fun _ => ?_)
  refine lv_iload hx hb dL_holds_491 (lv_at hl 3 rfl) ?_
  refine lv_if_eq (tgt := 568) hx hb dL_holds_493 (by decide) (fun z => absurd z (show ¬ (1 : Int32) = 0 by decide)) (fun _ => ?_)
  refine lv_aload_n hx hb dL_holds_496 rfl (lv_at hl 10 rfl) ?_
  refine lv_iconst (v := 5) hx hb dL_holds_497 (by decide) ?_
  refine lv_iload hx hb dL_holds_498 (lv_at hl 2 rfl) ?_
  refine lv_iload hx hb dL_holds_500 (lv_at hl 0 rfl) ?_
  refine lv_iconst (v := 1) hx hb dL_holds_502 (by decide) ?_
  refine w_sub (i := i + 1) (j := 1) hx hb rfl rfl (by omega) dL_holds_503 ?_
  refine lv_iconst (v := 0) hx hb dL_holds_504 (by decide) ?_
  refine l_go (cells' := 4 * (64) + 150 * (P) + 2 * i + 15) (slots' := 6 * (4 * (64) + 150 * (P) + 2 * i + 15)) (l_runS (P := Ob D E o S) (As := [.ref o, .int 5, .int (nI (P)), .int (nI (i + 1 - 1)), .int 0]) (rest := []) ⟨hx, hb, hml, hown, hts⟩ (c_call_5 l hst D E o S (nI (P)) (nI (i + 1 - 1)) 0) (va_cwS 5 hts gL_holds_L_call rfl rfl rfl (by decide +kernel) ⟨Nat.le_of_ble_eq_true rfl, Nat.le_of_ble_eq_true rfl⟩) hO hKX (l_Z hZ hS (fun _ h => h)) hNc rfl hl rfl (Nat.le_of_ble_eq_true rfl) dL_holds_505 ⟨by show 4 * (64) + 150 * (P) + 2 * i + 14 + 1 ≤ 620; omega, by show 6 * (4 * (64) + 150 * (P) + 2 * i + 14) + 6 ≤ 3720; omega⟩) hS (fun _ h => h) ⟨by omega, by omega⟩ (fun r505 H locs hp hq hz hS => ?_)
  obtain ⟨h505, hO⟩ := hp
  have hO : Ob D E o S H := hO
  refine lv_istore (lv' := [(12, .int r505), (11, .int (nI (i + 1))), (10, .int (nI (a + 1))), (9, .int (nI (P))), (8, .int 1), (7, .int (nI (cnt (damB S.1) (64)))), (6, .int (nI (cz))), (5, .int r35), (4, .int r24), (3, .int r14), (2, .int r5), (0, .ref o), (1, .int (nI (X)))]) hx hb dL_holds_508 hl (by decide) rfl (fun ls hl => ?_)
  refine lv_aload_n hx hb dL_holds_510 rfl (lv_at hl 11 rfl) ?_
  refine lv_iconst (v := 5) hx hb dL_holds_511 (by decide) ?_
  refine lv_iload hx hb dL_holds_512 (lv_at hl 3 rfl) ?_
  refine lv_iload hx hb dL_holds_514 (lv_at hl 1 rfl) ?_
  refine lv_iconst (v := 0) hx hb dL_holds_516 (by decide) ?_
  refine l_go (cells' := 4 * (64) + 150 * (P) + 2 * i + 16) (slots' := 6 * (4 * (64) + 150 * (P) + 2 * i + 16)) (l_runS (P := Ob D E o S) (As := [.ref o, .int 5, .int (nI (P)), .int (nI (i + 1)), .int 0]) (rest := []) ⟨hx, hb, hml, hown, hts⟩ (c_call_5 l hst D E o S (nI (P)) (nI (i + 1)) 0) (va_cwS 5 hts gL_holds_L_call rfl rfl rfl (by decide +kernel) ⟨Nat.le_of_ble_eq_true rfl, Nat.le_of_ble_eq_true rfl⟩) hO hKX (l_Z hZ hS (fun _ h => h)) hNc rfl hl rfl (Nat.le_of_ble_eq_true rfl) dL_holds_517 ⟨by show 4 * (64) + 150 * (P) + 2 * i + 15 + 1 ≤ 620; omega, by show 6 * (4 * (64) + 150 * (P) + 2 * i + 15) + 6 ≤ 3720; omega⟩) hS (fun _ h => h) ⟨by omega, by omega⟩ (fun r517 H locs hp hq hz hS => ?_)
  obtain ⟨h517, hO⟩ := hp
  have hO : Ob D E o S H := hO
  have e1 := h505.trans (a_co hP m1 m2 (by omega))
  have e2 := h517.trans (a_co hP m1 m2 (by omega))
  obtain ⟨j, hj, ej⟩ := m6 (i + 1) (by omega) (by omega)
  refine lv_istore (lv' := [(13, .int r517), (12, .int r505), (11, .int (nI (i + 1))), (10, .int (nI (a + 1))), (9, .int (nI (P))), (8, .int 1), (7, .int (nI (cnt (damB S.1) (64)))), (6, .int (nI (cz))), (5, .int r35), (4, .int r24), (3, .int r14), (2, .int r5), (0, .ref o), (1, .int (nI (X)))]) hx hb dL_holds_520 hl (by decide) rfl (fun ls hl => ?_)
  refine lv_iload hx hb dL_holds_522 (lv_at hl 0 rfl) ?_
  refine lv_iload hx hb dL_holds_524 (lv_at hl 1 rfl) ?_
  refine lv_iconst (v := 0) hx hb dL_holds_526 (by decide) ?_
  refine l_go (cells' := 4 * (64) + 150 * (P) + 2 * i + 16) (slots' := 6 * (4 * (64) + 150 * (P) + 2 * i + 16)) (l_runS (A1 := bNo) (P := (fun _ => True)) (As := [.int r505, .int 0]) (rest := [.int r517]) ⟨hx, hb, hml, hown, hts⟩ (c_to l D E r505 0) (va_cwS 2 hts gL_holds_L_to rfl rfl rfl (by decide +kernel) ⟨Nat.le_of_ble_eq_true rfl, Nat.le_of_ble_eq_true rfl⟩) trivial hKX (l_Z hZ hS (fun _ h => h.elim)) hNc rfl hl rfl (Nat.le_of_ble_eq_true rfl) dL_holds_527 ⟨by show 4 * (64) + 150 * (P) + 2 * i + 16 + 0 ≤ 620; omega, by show 6 * (4 * (64) + 150 * (P) + 2 * i + 16) + 0 ≤ 3720; omega⟩) hS (fun _ h => h.elim) ⟨by omega, by omega⟩ (fun r527 H locs h527 hq hz hS => ?_)
  have hO := hO.kept hq (fun _ _ _ h => h)
  refine lv_icmp_eq (tgt := 555) hx hb dL_holds_530 (by decide) (fun d1 => ?_) (fun d1 => ?_)
  · refine lv_iconst (v := 1) hx hb dL_holds_555 (by decide) ?_
    refine lv_goto (tgt := 560) hx hb dL_holds_556 (by decide) ?_
    refine lv_istore (lv' := [(8, .int 1), (13, .int r517), (12, .int r505), (11, .int (nI (i + 1))), (10, .int (nI (a + 1))), (9, .int (nI (P))), (7, .int (nI (cnt (damB S.1) (64)))), (6, .int (nI (cz))), (5, .int r35), (4, .int r24), (3, .int r14), (2, .int r5), (0, .ref o), (1, .int (nI (X)))]) hx hb dL_holds_560 hl (by decide) rfl (fun ls hl => ?_)
    refine lv_iinc (v := (nI (i + 1 + 1))) (lv' := [(11, .int (nI (i + 1 + 1))), (8, .int 1), (13, .int r517), (12, .int r505), (10, .int (nI (a + 1))), (9, .int (nI (P))), (7, .int (nI (cnt (damB S.1) (64)))), (6, .int (nI (cz))), (5, .int r35), (4, .int r24), (3, .int r14), (2, .int r5), (0, .ref o), (1, .int (nI (X)))]) hx hb dL_holds_562 hl (k := 3) rfl (nI_1 _) (by decide) rfl (fun ls hl => ?_)
    refine lv_goto (tgt := 484) hx hb dL_holds_565 (by decide) ?_
    have hl : lv_has ls 14 [(11, .int (nI (i + 1 + 1))), (10, .int (nI (a + 1))), (9, .int (nI (P))), (8, .int 1), (7, .int (nI (cnt (damB S.1) (64)))), (6, .int (nI (cz))), (5, .int r35), (4, .int r24), (3, .int r14), (2, .int r5), (0, .ref o), (1, .int (nI (X)))] := lv_sub hl [0, 4, 5, 1, 6, 7, 8, 9, 10, 11, 12, 13] rfl
    refine W.widen (k := 4 * (64) + 150 * (P) + 2 * i + 16) (n := 6 * (4 * (64) + 150 * (P) + 2 * i + 16)) (by omega) (by omega) ?_
    exact kk _ _ _ hO hS hl
  · refine lv_iload hx hb dL_holds_533 (lv_at hl 0 rfl) ?_
    refine lv_iload hx hb dL_holds_535 (lv_at hl 1 rfl) ?_
    refine lv_iconst (v := 1) hx hb dL_holds_537 (by decide) ?_
    refine l_go (cells' := 4 * (64) + 150 * (P) + 2 * i + 16) (slots' := 6 * (4 * (64) + 150 * (P) + 2 * i + 16)) (l_runS (A1 := bNo) (P := (fun _ => True)) (As := [.int r505, .int 1]) (rest := [.int r517]) ⟨hx, hb, hml, hown, hts⟩ (c_to l D E r505 1) (va_cwS 2 hts gL_holds_L_to rfl rfl rfl (by decide +kernel) ⟨Nat.le_of_ble_eq_true rfl, Nat.le_of_ble_eq_true rfl⟩) trivial hKX (l_Z hZ hS (fun _ h => h.elim)) hNc rfl hl rfl (Nat.le_of_ble_eq_true rfl) dL_holds_538 ⟨by show 4 * (64) + 150 * (P) + 2 * i + 16 + 0 ≤ 620; omega, by show 6 * (4 * (64) + 150 * (P) + 2 * i + 16) + 0 ≤ 3720; omega⟩) hS (fun _ h => h.elim) ⟨by omega, by omega⟩ (fun r538 H locs h538 hq hz hS => ?_)
    have hO := hO.kept hq (fun _ _ _ h => h)
    refine lv_icmp_eq (tgt := 555) hx hb dL_holds_541 (by decide) (fun d2 => ?_) (fun d2 => ?_)
    · refine lv_iconst (v := 1) hx hb dL_holds_555 (by decide) ?_
      refine lv_goto (tgt := 560) hx hb dL_holds_556 (by decide) ?_
      refine lv_istore (lv' := [(8, .int 1), (13, .int r517), (12, .int r505), (11, .int (nI (i + 1))), (10, .int (nI (a + 1))), (9, .int (nI (P))), (7, .int (nI (cnt (damB S.1) (64)))), (6, .int (nI (cz))), (5, .int r35), (4, .int r24), (3, .int r14), (2, .int r5), (0, .ref o), (1, .int (nI (X)))]) hx hb dL_holds_560 hl (by decide) rfl (fun ls hl => ?_)
      refine lv_iinc (v := (nI (i + 1 + 1))) (lv' := [(11, .int (nI (i + 1 + 1))), (8, .int 1), (13, .int r517), (12, .int r505), (10, .int (nI (a + 1))), (9, .int (nI (P))), (7, .int (nI (cnt (damB S.1) (64)))), (6, .int (nI (cz))), (5, .int r35), (4, .int r24), (3, .int r14), (2, .int r5), (0, .ref o), (1, .int (nI (X)))]) hx hb dL_holds_562 hl (k := 3) rfl (nI_1 _) (by decide) rfl (fun ls hl => ?_)
      refine lv_goto (tgt := 484) hx hb dL_holds_565 (by decide) ?_
      have hl : lv_has ls 14 [(11, .int (nI (i + 1 + 1))), (10, .int (nI (a + 1))), (9, .int (nI (P))), (8, .int 1), (7, .int (nI (cnt (damB S.1) (64)))), (6, .int (nI (cz))), (5, .int r35), (4, .int r24), (3, .int r14), (2, .int r5), (0, .ref o), (1, .int (nI (X)))] := lv_sub hl [0, 4, 5, 1, 6, 7, 8, 9, 10, 11, 12, 13] rfl
      refine W.widen (k := 4 * (64) + 150 * (P) + 2 * i + 16) (n := 6 * (4 * (64) + 150 * (P) + 2 * i + 16)) (by omega) (by omega) ?_
      exact kk _ _ _ hO hS hl
    · refine lv_iload hx hb dL_holds_544 (lv_at hl 0 rfl) ?_
      refine lv_iload hx hb dL_holds_546 (lv_at hl 1 rfl) ?_
      refine lv_iconst (v := 2) hx hb dL_holds_548 (by decide) ?_
      refine l_go (cells' := 4 * (64) + 150 * (P) + 2 * i + 16) (slots' := 6 * (4 * (64) + 150 * (P) + 2 * i + 16)) (l_runS (A1 := bNo) (P := (fun _ => True)) (As := [.int r505, .int 2]) (rest := [.int r517]) ⟨hx, hb, hml, hown, hts⟩ (c_to l D E r505 2) (va_cwS 2 hts gL_holds_L_to rfl rfl rfl (by decide +kernel) ⟨Nat.le_of_ble_eq_true rfl, Nat.le_of_ble_eq_true rfl⟩) trivial hKX (l_Z hZ hS (fun _ h => h.elim)) hNc rfl hl rfl (Nat.le_of_ble_eq_true rfl) dL_holds_549 ⟨by show 4 * (64) + 150 * (P) + 2 * i + 16 + 0 ≤ 620; omega, by show 6 * (4 * (64) + 150 * (P) + 2 * i + 16) + 0 ≤ 3720; omega⟩) hS (fun _ h => h.elim) ⟨by omega, by omega⟩ (fun r549 H locs h549 hq hz hS => ?_)
      have hO := hO.kept hq (fun _ _ _ h => h)
      have hj2 : j = 2 := by
        rcases (by omega : j = 0 ∨ j = 1 ∨ j = 2) with z | z | z
        · subst z; exact absurd (by rw [h527, e1, e2]; exact ej) d1
        · subst z; exact absurd (by rw [h538, e1, e2]; exact ej) d2
        · exact z
      subst hj2
      refine lv_icmp_ne (tgt := 559) hx hb dL_holds_552 (by decide) (fun z => absurd (by rw [h549, e1, e2]; exact ej) z) (fun _ => ?_)
      refine lv_iconst (v := 1) hx hb dL_holds_555 (by decide) ?_
      refine lv_goto (tgt := 560) hx hb dL_holds_556 (by decide) ?_
      refine lv_istore (lv' := [(8, .int 1), (13, .int r517), (12, .int r505), (11, .int (nI (i + 1))), (10, .int (nI (a + 1))), (9, .int (nI (P))), (7, .int (nI (cnt (damB S.1) (64)))), (6, .int (nI (cz))), (5, .int r35), (4, .int r24), (3, .int r14), (2, .int r5), (0, .ref o), (1, .int (nI (X)))]) hx hb dL_holds_560 hl (by decide) rfl (fun ls hl => ?_)
      refine lv_iinc (v := (nI (i + 1 + 1))) (lv' := [(11, .int (nI (i + 1 + 1))), (8, .int 1), (13, .int r517), (12, .int r505), (10, .int (nI (a + 1))), (9, .int (nI (P))), (7, .int (nI (cnt (damB S.1) (64)))), (6, .int (nI (cz))), (5, .int r35), (4, .int r24), (3, .int r14), (2, .int r5), (0, .ref o), (1, .int (nI (X)))]) hx hb dL_holds_562 hl (k := 3) rfl (nI_1 _) (by decide) rfl (fun ls hl => ?_)
      refine lv_goto (tgt := 484) hx hb dL_holds_565 (by decide) ?_
      have hl : lv_has ls 14 [(11, .int (nI (i + 1 + 1))), (10, .int (nI (a + 1))), (9, .int (nI (P))), (8, .int 1), (7, .int (nI (cnt (damB S.1) (64)))), (6, .int (nI (cz))), (5, .int r35), (4, .int r24), (3, .int r14), (2, .int r5), (0, .ref o), (1, .int (nI (X)))] := lv_sub hl [0, 4, 5, 1, 6, 7, 8, 9, 10, 11, 12, 13] rfl
      refine W.widen (k := 4 * (64) + 150 * (P) + 2 * i + 16) (n := 6 * (4 * (64) + 150 * (P) + 2 * i + 16)) (by omega) (by omega) ?_
      exact kk _ _ _ hO hS hl
set_option maxRecDepth 100000 in
theorem ho_C2 {p : Program} {l : Launch} {e : Env} {s : State} {m : MethodId} {args : Array Value} {below : List Frame} {meth : Method} {co : Code} {D : va_G} {E : Nat → ClassId} {o : Nat} {S : aT} {Q : State → Prop} {X P a cz : Nat} {r5 r14 r24 r35 : Int32} (K : lK p l s m args co D E (rA o) cL_holds 14 wsL_holds) (hP : P < 2) (FC : hoC S P a) (hkk : a < 64)
    (kk : ∀ (H : Heap) (locs : List Loc) (ls : Array Slot), Ob D E o S H → va_S (rA o) s.heap H locs → lv_has ls 14 [(11, .int (nI (a + 1))), (10, .int (nI (a + 1))), (9, .int (nI (P))), (8, .int 1), (7, .int (nI (cnt (damB S.1) (64)))), (6, .int (nI (cz))), (5, .int r35), (4, .int r24), (3, .int r14), (2, .int r5), (0, .ref o), (1, .int (nI (X)))] → W p l e (lRm 9 620 3720) s m args below meth co H locs (4 * (64) + 150 * (P) + 2 * (a) + 14) (6 * (4 * (64) + 150 * (P) + 2 * (a) + 14)) Q (F0 m 484 ls [])) : ∀ (n i : Nat), i + n = a → ∀ {H : Heap} {locs : List Loc} {ls : Array Slot}, Ob D E o S H → va_S (rA o) s.heap H locs → lv_has ls 14 [(11, .int (nI (i + 1))), (10, .int (nI (a + 1))), (9, .int (nI (P))), (8, .int 1), (7, .int (nI (cnt (damB S.1) (64)))), (6, .int (nI (cz))), (5, .int r35), (4, .int r24), (3, .int r14), (2, .int r5), (0, .ref o), (1, .int (nI (X)))] → W p l e (lRm 9 620 3720) s m args below meth co H locs (4 * (64) + 150 * (P) + 2 * i + 14) (6 * (4 * (64) + 150 * (P) + 2 * i + 14)) Q (F0 m 484 ls [])
  | 0, i, h, _, _, _, hO, hS, hl => by
    have e : i = a := by omega
    subst e
    exact kk _ _ _ hO hS hl
  | n + 1, i, h, _, _, _, hO, hS, hl => ho_C2_b K hO hS hl (by omega) hP FC hkk (fun H locs ls hO hS hl => W.widen (k := 4 * (64) + 150 * (P) + 2 * (i + 1) + 14) (n := 6 * (4 * (64) + 150 * (P) + 2 * (i + 1) + 14)) (by omega) (by omega) (ho_C2 K hP FC hkk kk n (i + 1) (by omega) hO hS hl))
set_option maxHeartbeats 8000000 in
set_option maxRecDepth 100000 in
theorem ho_C3 {p : Program} {l : Launch} {e : Env} {s : State} {m : MethodId} {args : Array Value} {below : List Frame} {meth : Method} {co : Code} {D : va_G} {E : Nat → ClassId} {o : Nat} {S : aT} {Q : State → Prop} {H : Heap} {locs : List Loc} {ls : Array Slot} {X P a cz : Nat} {r5 r14 r24 r35 : Int32} (K : lK p l s m args co D E (rA o) cL_holds 14 wsL_holds) (hO : Ob D E o S H) (hS : va_S (rA o) s.heap H locs) (hl : lv_has ls 14 [(11, .int (nI (a + 1))), (10, .int (nI (a + 1))), (9, .int (nI (P))), (8, .int 1), (7, .int (nI (cnt (damB S.1) (64)))), (6, .int (nI (cz))), (5, .int r35), (4, .int r24), (3, .int r14), (2, .int r5), (0, .ref o), (1, .int (nI (X)))]) (hP : P < 2) (FC : hoC S P a) (hcz : a + 1 ≤ cz) (h5 : r5 = S.1 1)
    (kk : ∀ (H : Heap) (locs : List Loc) (ls : Array Slot), Ob D E o S H → va_S (rA o) s.heap H locs → lv_has ls 14 [(9, .int (nI (P + 1))), (8, .int 1), (7, .int (nI (cnt (damB S.1) (64)))), (6, .int (nI (cz - (a + 1)))), (5, .int r35), (4, .int r24), (3, .int r14), (2, .int r5), (0, .ref o), (1, .int (nI (X)))] → W p l e (lRm 9 620 3720) s m args below meth co H locs (4 * (64) + 150 * (P) + 2 * (a) + 18) (6 * (4 * (64) + 150 * (P) + 2 * (a) + 18)) Q (F0 m 371 ls [])) : W p l e (lRm 9 620 3720) s m args below meth co H locs (4 * (64) + 150 * (P) + 2 * (a) + 14) (6 * (4 * (64) + 150 * (P) + 2 * (a) + 14)) Q (F0 m 484 ls []) := by
  obtain ⟨hx, hb, hml, hown, hts, hKX, hZ, hNc, hst⟩ := id K
  obtain ⟨m1, m2, m3, m4, m5, m6, m7, m8⟩ := FC
  refine lv_iload hx hb dL_holds_484 (lv_at hl 0 rfl) ?_
  refine lv_iload hx hb dL_holds_486 (lv_at hl 1 rfl) ?_
  refine lv_icmp_ge (tgt := 568) hx hb dL_holds_488 (by decide) (fun _ => ?_) (fun z => absurd (nI_le (Nat.le_refl _) (by omega)) z)
  refine lv_iload hx hb dL_holds_568 (lv_at hl 5 rfl) ?_
  refine lv_iload hx hb dL_holds_570 (lv_at hl 1 rfl) ?_
  refine w_sub (i := cz) (j := a + 1) hx hb rfl rfl (by omega) dL_holds_572 ?_
  refine lv_istore (lv' := [(6, .int (nI (cz - (a + 1)))), (11, .int (nI (a + 1))), (10, .int (nI (a + 1))), (9, .int (nI (P))), (8, .int 1), (7, .int (nI (cnt (damB S.1) (64)))), (5, .int r35), (4, .int r24), (3, .int r14), (2, .int r5), (0, .ref o), (1, .int (nI (X)))]) hx hb dL_holds_573 hl (by decide) rfl (fun ls hl => ?_)
  refine lv_aload_n hx hb dL_holds_575 rfl (lv_at hl 10 rfl) ?_
  refine lv_bipush (v := 14) hx hb dL_holds_576 (by decide) ?_
  refine lv_iload hx hb dL_holds_578 (lv_at hl 3 rfl) ?_
  refine lv_iconst (v := 0) hx hb dL_holds_580 (by decide) ?_
  refine lv_iconst (v := 0) hx hb dL_holds_581 (by decide) ?_
  refine l_go (cells' := 4 * (64) + 150 * (P) + 2 * (a) + 15) (slots' := 6 * (4 * (64) + 150 * (P) + 2 * (a) + 15)) (l_runS (P := Ob D E o S) (As := [.ref o, .int 14, .int (nI (P)), .int 0, .int 0]) (rest := []) ⟨hx, hb, hml, hown, hts⟩ (c_call_14 l hst D E o S (nI (P)) 0 0) (va_cwS 5 hts gL_holds_L_call rfl rfl rfl (by decide +kernel) ⟨Nat.le_of_ble_eq_true rfl, Nat.le_of_ble_eq_true rfl⟩) hO hKX (l_Z hZ hS (fun _ h => h)) hNc rfl hl rfl (Nat.le_of_ble_eq_true rfl) dL_holds_582 ⟨by show 4 * (64) + 150 * (P) + 2 * (a) + 14 + 1 ≤ 620; omega, by show 6 * (4 * (64) + 150 * (P) + 2 * (a) + 14) + 6 ≤ 3720; omega⟩) hS (fun _ h => h) ⟨by omega, by omega⟩ (fun r582 H locs hp hq hz hS => ?_)
  obtain ⟨h582, hO⟩ := hp
  have hO : Ob D E o S H := hO
  refine lv_istore (lv' := [(11, .int r582), (6, .int (nI (cz - (a + 1)))), (10, .int (nI (a + 1))), (9, .int (nI (P))), (8, .int 1), (7, .int (nI (cnt (damB S.1) (64)))), (5, .int r35), (4, .int r24), (3, .int r14), (2, .int r5), (0, .ref o), (1, .int (nI (X)))]) hx hb dL_holds_585 hl (by decide) rfl (fun ls hl => ?_)
  refine lv_iload hx hb dL_holds_587 (lv_at hl 4 rfl) ?_
  refine lv_if_eq (tgt := 661) hx hb dL_holds_589 (by decide) (fun z => absurd z (show ¬ (1 : Int32) = 0 by decide)) (fun _ => ?_)
  refine lv_iload hx hb dL_holds_592 (lv_at hl 0 rfl) ?_
  refine lv_aload_n hx hb dL_holds_594 rfl (lv_at hl 10 rfl) ?_
  refine lv_bipush (v := 14) hx hb dL_holds_595 (by decide) ?_
  refine lv_iload hx hb dL_holds_597 (lv_at hl 3 rfl) ?_
  refine lv_iconst (v := 1) hx hb dL_holds_599 (by decide) ?_
  refine lv_iconst (v := 0) hx hb dL_holds_600 (by decide) ?_
  refine l_go (cells' := 4 * (64) + 150 * (P) + 2 * (a) + 16) (slots' := 6 * (4 * (64) + 150 * (P) + 2 * (a) + 16)) (l_runS (P := Ob D E o S) (As := [.ref o, .int 14, .int (nI (P)), .int 1, .int 0]) (rest := [.int r582]) ⟨hx, hb, hml, hown, hts⟩ (c_call_14 l hst D E o S (nI (P)) 1 0) (va_cwS 5 hts gL_holds_L_call rfl rfl rfl (by decide +kernel) ⟨Nat.le_of_ble_eq_true rfl, Nat.le_of_ble_eq_true rfl⟩) hO hKX (l_Z hZ hS (fun _ h => h)) hNc rfl hl rfl (Nat.le_of_ble_eq_true rfl) dL_holds_601 ⟨by show 4 * (64) + 150 * (P) + 2 * (a) + 15 + 1 ≤ 620; omega, by show 6 * (4 * (64) + 150 * (P) + 2 * (a) + 15) + 6 ≤ 3720; omega⟩) hS (fun _ h => h) ⟨by omega, by omega⟩ (fun r601 H locs hp hq hz hS => ?_)
  obtain ⟨h601, hO⟩ := hp
  have hO : Ob D E o S H := hO
  refine lv_icmp_ne (tgt := 661) hx hb dL_holds_604 (by decide) (fun z => absurd (h582.trans ((a_ch01 hP).trans h601.symm)) z) (fun _ => ?_)
  refine lv_aload_n hx hb dL_holds_607 rfl (lv_at hl 10 rfl) ?_
  refine lv_iconst (v := 3) hx hb dL_holds_608 (by decide) ?_
  refine lv_iload hx hb dL_holds_609 (lv_at hl 3 rfl) ?_
  refine lv_iconst (v := 1) hx hb dL_holds_611 (by decide) ?_
  refine lv_iconst (v := 0) hx hb dL_holds_612 (by decide) ?_
  refine l_go (cells' := 4 * (64) + 150 * (P) + 2 * (a) + 17) (slots' := 6 * (4 * (64) + 150 * (P) + 2 * (a) + 17)) (l_runS (P := Ob D E o S) (As := [.ref o, .int 3, .int (nI (P)), .int 1, .int 0]) (rest := []) ⟨hx, hb, hml, hown, hts⟩ (c_call_3 l hst D E o S (nI (P)) 1 0) (va_cwS 5 hts gL_holds_L_call rfl rfl rfl (by decide +kernel) ⟨Nat.le_of_ble_eq_true rfl, Nat.le_of_ble_eq_true rfl⟩) hO hKX (l_Z hZ hS (fun _ h => h)) hNc rfl hl rfl (Nat.le_of_ble_eq_true rfl) dL_holds_613 ⟨by show 4 * (64) + 150 * (P) + 2 * (a) + 16 + 1 ≤ 620; omega, by show 6 * (4 * (64) + 150 * (P) + 2 * (a) + 16) + 6 ≤ 3720; omega⟩) hS (fun _ h => h) ⟨by omega, by omega⟩ (fun r613 H locs hp hq hz hS => ?_)
  obtain ⟨h613, hO⟩ := hp
  have hO : Ob D E o S H := hO
  refine lv_bipush (v := 56) hx hb dL_holds_616 (by decide) ?_
  refine w_cutP (J := 626) (rest := []) (P0 := True) (fun kk => ?_) (fun _ => ?_)
  · refine lv_icmp_lt (tgt := 626) hx hb dL_holds_618 (by decide) (fun c1 => ?_) (fun c1 => ?_)
    · exact kk trivial
    · refine lv_iload hx hb dL_holds_621 (lv_at hl 0 rfl) ?_
      refine lv_if_ne (tgt := 661) hx hb dL_holds_623 (by decide) (fun z => absurd (h582.trans (m7 (fun q => c1 (by rw [h613, a_pl1 hP m1 m2]; exact q)))) z) (fun _ => ?_)
      exact kk trivial
  refine lv_iload_n hx hb dL_holds_626 rfl (lv_at hl 9 rfl) ?_
  refine lv_iconst (v := 2) hx hb dL_holds_627 (by decide) ?_
  refine w_joinB (J := 636) (rest := []) (P0 := fun v => v = if S.1 1 = 2 then 1 else 0) (fun kk => ?_) (fun w1 n1 => ?_)
  · refine lv_icmp_ne (tgt := 635) hx hb dL_holds_628 (by decide) (fun c9 => ?_) (fun c9 => ?_)
    · refine lv_iconst (v := 0) hx hb dL_holds_635 (by decide) ?_
      exact kk _ (by rw [h5] at c9; rw [if_neg c9])
    · refine lv_iconst (v := 1) hx hb dL_holds_631 (by decide) ?_
      refine lv_goto (tgt := 636) hx hb dL_holds_632 (by decide) ?_
      exact kk _ (by rw [h5] at c9; rw [if_pos c9])
  refine lv_aload_n hx hb dL_holds_636 rfl (lv_at hl 10 rfl) ?_
  refine lv_bipush (v := 15) hx hb dL_holds_637 (by decide) ?_
  refine lv_iload hx hb dL_holds_639 (lv_at hl 3 rfl) ?_
  refine lv_iconst (v := 0) hx hb dL_holds_641 (by decide) ?_
  refine lv_iconst (v := 0) hx hb dL_holds_642 (by decide) ?_
  refine l_go (cells' := 4 * (64) + 150 * (P) + 2 * (a) + 18) (slots' := 6 * (4 * (64) + 150 * (P) + 2 * (a) + 18)) (l_runS (P := Ob D E o S) (As := [.ref o, .int 15, .int (nI (P)), .int 0, .int 0]) (rest := [.int w1]) ⟨hx, hb, hml, hown, hts⟩ (c_call_15 l hst D E o S (nI (P)) 0 0) (va_cwS 5 hts gL_holds_L_call rfl rfl rfl (by decide +kernel) ⟨Nat.le_of_ble_eq_true rfl, Nat.le_of_ble_eq_true rfl⟩) hO hKX (l_Z hZ hS (fun _ h => h)) hNc rfl hl rfl (Nat.le_of_ble_eq_true rfl) dL_holds_643 ⟨by show 4 * (64) + 150 * (P) + 2 * (a) + 17 + 1 ≤ 620; omega, by show 6 * (4 * (64) + 150 * (P) + 2 * (a) + 17) + 6 ≤ 3720; omega⟩) hS (fun _ h => h) ⟨by omega, by omega⟩ (fun r643 H locs hp hq hz hS => ?_)
  obtain ⟨h643, hO⟩ := hp
  have hO : Ob D E o S H := hO
  refine w_joinB (J := 654) (rest := [.int w1]) (P0 := fun v => v = if aF 15 S (nI P) 0 0 = 0 then 1 else 0) (fun kk => ?_) (fun w2 n2 => ?_)
  · refine lv_if_ne (tgt := 653) hx hb dL_holds_646 (by decide) (fun c9 => ?_) (fun c9 => ?_)
    · refine lv_iconst (v := 0) hx hb dL_holds_653 (by decide) ?_
      exact kk _ (by rw [h643] at c9; rw [if_neg c9])
    · refine lv_iconst (v := 1) hx hb dL_holds_649 (by decide) ?_
      refine lv_goto (tgt := 654) hx hb dL_holds_650 (by decide) ?_
      exact kk _ (by rw [h643] at c9; rw [if_pos c9])
  refine lv_icmp_ne (tgt := 661) hx hb dL_holds_654 (by decide) (fun z => absurd (n1.trans ((bool_eq m8).trans n2.symm)) z) (fun _ => ?_)
  refine lv_iconst (v := 1) hx hb dL_holds_657 (by decide) ?_
  refine lv_goto (tgt := 662) hx hb dL_holds_658 (by decide) ?_
  refine lv_istore (lv' := [(8, .int 1), (11, .int r582), (6, .int (nI (cz - (a + 1)))), (10, .int (nI (a + 1))), (9, .int (nI (P))), (7, .int (nI (cnt (damB S.1) (64)))), (5, .int r35), (4, .int r24), (3, .int r14), (2, .int r5), (0, .ref o), (1, .int (nI (X)))]) hx hb dL_holds_662 hl (by decide) rfl (fun ls hl => ?_)
  refine lv_iinc (v := (nI (P + 1))) (lv' := [(9, .int (nI (P + 1))), (8, .int 1), (11, .int r582), (6, .int (nI (cz - (a + 1)))), (10, .int (nI (a + 1))), (7, .int (nI (cnt (damB S.1) (64)))), (5, .int r35), (4, .int r24), (3, .int r14), (2, .int r5), (0, .ref o), (1, .int (nI (X)))]) hx hb dL_holds_664 hl (k := 4) rfl (nI_1 _) (by decide) rfl (fun ls hl => ?_)
  refine lv_goto (tgt := 371) hx hb dL_holds_667 (by decide) ?_
  have hl : lv_has ls 14 [(9, .int (nI (P + 1))), (8, .int 1), (7, .int (nI (cnt (damB S.1) (64)))), (6, .int (nI (cz - (a + 1)))), (5, .int r35), (4, .int r24), (3, .int r14), (2, .int r5), (0, .ref o), (1, .int (nI (X)))] := lv_sub hl [0, 1, 5, 3, 6, 7, 8, 9, 10, 11] rfl
  exact kk _ _ _ hO hS hl
set_option maxHeartbeats 8000000 in
set_option maxRecDepth 100000 in
theorem ho_C {p : Program} {l : Launch} {e : Env} {s : State} {m : MethodId} {args : Array Value} {below : List Frame} {meth : Method} {co : Code} {D : va_G} {E : Nat → ClassId} {o : Nat} {S : aT} {Q : State → Prop} {H : Heap} {locs : List Loc} {ls : Array Slot} {X P a cz : Nat} {r5 r14 r24 r35 : Int32} (K : lK p l s m args co D E (rA o) cL_holds 14 wsL_holds) (hO : Ob D E o S H) (hS : va_S (rA o) s.heap H locs) (hl : lv_has ls 14 [(9, .int (nI (P))), (8, .int 1), (7, .int (nI (cnt (damB S.1) (64)))), (6, .int (nI (cz))), (5, .int r35), (4, .int r24), (3, .int r14), (2, .int r5), (0, .ref o), (1, .int (nI (X)))]) (hP : P < 2) (FC : hoC S P a) (hcz : a + 1 ≤ cz) (h5 : r5 = S.1 1)
    (kk : ∀ (H : Heap) (locs : List Loc) (ls : Array Slot), Ob D E o S H → va_S (rA o) s.heap H locs → lv_has ls 14 [(9, .int (nI (P + 1))), (8, .int 1), (7, .int (nI (cnt (damB S.1) (64)))), (6, .int (nI (cz - (a + 1)))), (5, .int r35), (4, .int r24), (3, .int r14), (2, .int r5), (0, .ref o), (1, .int (nI (X)))] → W p l e (lRm 9 620 3720) s m args below meth co H locs (4 * (64) + 150 * (P + 1) + 7) (6 * (4 * (64) + 150 * (P + 1) + 7)) Q (F0 m 371 ls [])) : W p l e (lRm 9 620 3720) s m args below meth co H locs (4 * (64) + 150 * (P) + 7) (6 * (4 * (64) + 150 * (P) + 7)) Q (F0 m 371 ls []) := by
  obtain ⟨hx, hb, hml, hown, hts, hKX, hZ, hNc, hst⟩ := id K
  have hkk := FC.2.1
  refine ho_C1 K hO hS hl hP FC (fun H locs ls hO hS hl => ?_)
  have hl : lv_has ls 14 [(11, .int 1), (10, .int (nI (a + 1))), (9, .int (nI (P))), (8, .int 1), (7, .int (nI (cnt (damB S.1) (64)))), (6, .int (nI (cz))), (5, .int r35), (4, .int r24), (3, .int r14), (2, .int r5), (0, .ref o), (1, .int (nI (X)))] := lv_sub hl [0, 1, 2, 3, 4, 5, 6, 7, 8, 9, 10, 11] rfl
  refine W.widen (k := 4 * (64) + 150 * (P) + 2 * (0) + 14) (n := 6 * (4 * (64) + 150 * (P) + 2 * (0) + 14)) (by omega) (by omega) ?_
  refine ho_C2 K hP FC hkk (fun H locs ls hO hS hl => ?_) (a - 0) 0 (by omega) hO hS hl
  refine ho_C3 K hO hS hl hP FC hcz h5 (fun H locs ls hO hS hl => ?_)
  refine W.widen (k := 4 * (64) + 150 * (P + 1) + 7) (n := 6 * (4 * (64) + 150 * (P + 1) + 7)) (by omega) (by omega) ?_
  exact kk _ _ _ hO hS hl
set_option maxHeartbeats 8000000 in
set_option maxRecDepth 100000 in
theorem ho_D2 {p : Program} {l : Launch} {e : Env} {s : State} {m : MethodId} {args : Array Value} {below : List Frame} {meth : Method} {co : Code} {D : va_G} {E : Nat → ClassId} {o : Nat} {S : aT} {Q : State → Prop} {H : Heap} {locs : List Loc} {ls : Array Slot} {X : Nat} {r5 r14 r24 r35 r671 r677 : Int32} (K : lK p l s m args co D E (rA o) cL_holds 14 wsL_holds) (hO : Ob D E o S H) (hS : va_S (rA o) s.heap H locs) (hl : lv_has ls 14 [(11, .int (nI ((X) % 64))), (10, .int r677), (9, .int r671), (5, .int r35), (4, .int r24), (3, .int r14), (2, .int r5), (0, .ref o), (1, .int (nI (X)))]) (h671 : r671 = aW S) (FD : hoD S)
    (kk : ∀ (H : Heap) (locs : List Loc) (ls : Array Slot), Ob D E o S H → va_S (rA o) s.heap H locs → lv_has ls 14 [(11, .int (nI ((X) % 64))), (10, .int r677), (9, .int r671), (5, .int r35), (4, .int r24), (3, .int r14), (2, .int r5), (0, .ref o), (1, .int (nI (X)))] → W p l e (lRm 9 620 3720) s m args below meth co H locs (565) (3390) Q (F0 m 741 ls [])) : W p l e (lRm 9 620 3720) s m args below meth co H locs (564) (3384) Q (F0 m 716 ls []) := by
  obtain ⟨hx, hb, hml, hown, hts, hKX, hZ, hNc, hst⟩ := id K
  obtain ⟨d1, d2, d3, d4⟩ := FD
  refine lv_iload hx hb dL_holds_716 (lv_at hl 2 rfl) ?_
  refine lv_iconst (v := (-1)) hx hb dL_holds_718 (by decide) ?_
  refine lv_icmp_eq (tgt := 741) hx hb dL_holds_719 (by decide) (fun c1 => ?_) (fun c1 => ?_)
  · refine W.widen (k := 565) (n := 3390) (Nat.le_of_ble_eq_true rfl) (Nat.le_of_ble_eq_true rfl) ?_
    exact kk _ _ _ hO hS hl
  · obtain ⟨w, hw, ew, hc⟩ := d1 (fun q => c1 (h671.trans q))
    have ez : nI w = r671 := (h671.trans ew).symm
    subst ez
    refine lv_aload_n hx hb dL_holds_722 rfl (lv_at hl 7 rfl) ?_
    refine lv_iconst (v := 4) hx hb dL_holds_723 (by decide) ?_
    refine lv_iload hx hb dL_holds_724 (lv_at hl 2 rfl) ?_
    refine lv_bipush (v := 8) hx hb dL_holds_726 (by decide) ?_
    refine w_rem (a := w) (d := 8) hx hb rfl (by omega) (by decide) (by decide) dL_holds_728 ?_
    refine lv_iload hx hb dL_holds_729 (lv_at hl 2 rfl) ?_
    refine lv_bipush (v := 8) hx hb dL_holds_731 (by decide) ?_
    refine w_div (a := w) (d := 8) hx hb rfl (by omega) (by decide) (by decide) dL_holds_733 ?_
    refine lv_iconst (v := 2) hx hb dL_holds_734 (by decide) ?_
    refine l_go (cells' := 565) (slots' := 3390) (l_runS (P := Ob D E o S) (As := [.ref o, .int 4, .int (nI ((w) % 8)), .int (nI ((w) / 8)), .int 2]) (rest := []) ⟨hx, hb, hml, hown, hts⟩ (c_call_4 l hst D E o S (nI ((w) % 8)) (nI ((w) / 8)) 2) (va_cwS 5 hts gL_holds_L_call rfl rfl rfl (by decide +kernel) ⟨Nat.le_of_ble_eq_true rfl, Nat.le_of_ble_eq_true rfl⟩) hO hKX (l_Z hZ hS (fun _ h => h)) hNc rfl hl rfl (Nat.le_of_ble_eq_true rfl) dL_holds_735 ⟨Nat.le_of_ble_eq_true rfl, Nat.le_of_ble_eq_true rfl⟩) hS (fun _ h => h) ⟨Nat.le_of_ble_eq_true rfl, Nat.le_of_ble_eq_true rfl⟩ (fun r735 H locs hp hq hz hS => ?_)
    obtain ⟨h735, hO⟩ := hp
    have hO : Ob D E o S H := hO
    refine lv_if_ne (tgt := 863) hx hb dL_holds_738 (by decide) (fun z => absurd ((h735.trans (a_ct hw)).trans hc) z) (fun _ => ?_)
    refine W.widen (k := 565) (n := 3390) (Nat.le_of_ble_eq_true rfl) (Nat.le_of_ble_eq_true rfl) ?_
    exact kk _ _ _ hO hS hl
set_option maxHeartbeats 8000000 in
set_option maxRecDepth 100000 in
theorem ho_D3 {p : Program} {l : Launch} {e : Env} {s : State} {m : MethodId} {args : Array Value} {below : List Frame} {meth : Method} {co : Code} {D : va_G} {E : Nat → ClassId} {o : Nat} {S : aT} {Q : State → Prop} {H : Heap} {locs : List Loc} {ls : Array Slot} {X : Nat} {r5 r14 r24 r35 r671 r677 : Int32} (K : lK p l s m args co D E (rA o) cL_holds 14 wsL_holds) (hO : Ob D E o S H) (hS : va_S (rA o) s.heap H locs) (hl : lv_has ls 14 [(11, .int (nI ((X) % 64))), (10, .int r677), (9, .int r671), (5, .int r35), (4, .int r24), (3, .int r14), (2, .int r5), (0, .ref o), (1, .int (nI (X)))]) (h677 : r677 = aB S) (FD : hoD S)
    (kk : ∀ (H : Heap) (locs : List Loc) (ls : Array Slot), Ob D E o S H → va_S (rA o) s.heap H locs → lv_has ls 14 [(11, .int (nI ((X) % 64))), (10, .int r677), (9, .int r671), (5, .int r35), (4, .int r24), (3, .int r14), (2, .int r5), (0, .ref o), (1, .int (nI (X)))] → W p l e (lRm 9 620 3720) s m args below meth co H locs (566) (3396) Q (F0 m 760 ls [])) : W p l e (lRm 9 620 3720) s m args below meth co H locs (565) (3390) Q (F0 m 741 ls []) := by
  obtain ⟨hx, hb, hml, hown, hts, hKX, hZ, hNc, hst⟩ := id K
  obtain ⟨d1, d2, d3, d4⟩ := FD
  refine lv_iload hx hb dL_holds_741 (lv_at hl 1 rfl) ?_
  refine lv_iconst (v := (-1)) hx hb dL_holds_743 (by decide) ?_
  refine lv_icmp_eq (tgt := 760) hx hb dL_holds_744 (by decide) (fun c1 => ?_) (fun c1 => ?_)
  · refine W.widen (k := 566) (n := 3396) (Nat.le_of_ble_eq_true rfl) (Nat.le_of_ble_eq_true rfl) ?_
    exact kk _ _ _ hO hS hl
  · refine lv_aload_n hx hb dL_holds_747 rfl (lv_at hl 7 rfl) ?_
    refine lv_bipush (v := 12) hx hb dL_holds_748 (by decide) ?_
    refine lv_iload hx hb dL_holds_750 (lv_at hl 1 rfl) ?_
    refine lv_iconst (v := 0) hx hb dL_holds_752 (by decide) ?_
    refine lv_iconst (v := 0) hx hb dL_holds_753 (by decide) ?_
    refine l_go (cells' := 566) (slots' := 3396) (l_runS (P := Ob D E o S) (As := [.ref o, .int 12, .int r677, .int 0, .int 0]) (rest := []) ⟨hx, hb, hml, hown, hts⟩ (c_call_12 l hst D E o S r677 0 0) (va_cwS 5 hts gL_holds_L_call rfl rfl rfl (by decide +kernel) ⟨Nat.le_of_ble_eq_true rfl, Nat.le_of_ble_eq_true rfl⟩) hO hKX (l_Z hZ hS (fun _ h => h)) hNc rfl hl rfl (Nat.le_of_ble_eq_true rfl) dL_holds_754 ⟨Nat.le_of_ble_eq_true rfl, Nat.le_of_ble_eq_true rfl⟩) hS (fun _ h => h) ⟨Nat.le_of_ble_eq_true rfl, Nat.le_of_ble_eq_true rfl⟩ (fun r754 H locs hp hq hz hS => ?_)
    obtain ⟨h754, hO⟩ := hp
    have hO : Ob D E o S H := hO
    refine lv_if_ne (tgt := 863) hx hb dL_holds_757 (by decide) (fun z => absurd (by rw [h754, h677]; exact d2 (fun q => c1 (h677.trans q))) z) (fun _ => ?_)
    refine W.widen (k := 566) (n := 3396) (Nat.le_of_ble_eq_true rfl) (Nat.le_of_ble_eq_true rfl) ?_
    exact kk _ _ _ hO hS hl
set_option maxHeartbeats 8000000 in
set_option maxRecDepth 100000 in
theorem ho_D4 {p : Program} {l : Launch} {e : Env} {s : State} {m : MethodId} {args : Array Value} {below : List Frame} {meth : Method} {co : Code} {D : va_G} {E : Nat → ClassId} {o : Nat} {S : aT} {Q : State → Prop} {H : Heap} {locs : List Loc} {ls : Array Slot} {X : Nat} {r5 r14 r24 r35 r671 r677 : Int32} (K : lK p l s m args co D E (rA o) cL_holds 14 wsL_holds) (hO : Ob D E o S H) (hS : va_S (rA o) s.heap H locs) (hl : lv_has ls 14 [(11, .int (nI ((X) % 64))), (10, .int r677), (9, .int r671), (5, .int r35), (4, .int r24), (3, .int r14), (2, .int r5), (0, .ref o), (1, .int (nI (X)))]) (h5 : r5 = S.1 1) (h24 : r24 = S.1 5) (FD : hoD S)
    (kk : ∀ (H : Heap) (locs : List Loc) (ls : Array Slot), Ob D E o S H → va_S (rA o) s.heap H locs → lv_has ls 14 [(11, .int (nI ((X) % 64))), (10, .int r677), (9, .int r671), (5, .int r35), (4, .int r24), (3, .int r14), (2, .int r5), (0, .ref o), (1, .int (nI (X)))] → W p l e (lRm 9 620 3720) s m args below meth co H locs (570) (3420) Q (F0 m 817 ls [])) : W p l e (lRm 9 620 3720) s m args below meth co H locs (566) (3396) Q (F0 m 760 ls []) := by
  obtain ⟨hx, hb, hml, hown, hts, hKX, hZ, hNc, hst⟩ := id K
  obtain ⟨d1, d2, d3, d4⟩ := FD
  refine lv_iload_n hx hb dL_holds_760 rfl (lv_at hl 6 rfl) ?_
  refine lv_iconst (v := 2) hx hb dL_holds_761 (by decide) ?_
  refine lv_icmp_ne (tgt := 817) hx hb dL_holds_762 (by decide) (fun c1 => ?_) (fun c1 => ?_)
  · refine W.widen (k := 570) (n := 3420) (Nat.le_of_ble_eq_true rfl) (Nat.le_of_ble_eq_true rfl) ?_
    exact kk _ _ _ hO hS hl
  · have d3 := d3 (h5.symm.trans c1)
    refine lv_iload hx hb dL_holds_765 (lv_at hl 4 rfl) ?_
    refine lv_aload_n hx hb dL_holds_767 rfl (lv_at hl 7 rfl) ?_
    refine lv_iconst (v := 3) hx hb dL_holds_768 (by decide) ?_
    refine lv_iconst (v := 0) hx hb dL_holds_769 (by decide) ?_
    refine lv_iconst (v := 2) hx hb dL_holds_770 (by decide) ?_
    refine lv_iconst (v := 0) hx hb dL_holds_771 (by decide) ?_
    refine l_go (cells' := 567) (slots' := 3402) (l_runS (P := Ob D E o S) (As := [.ref o, .int 3, .int 0, .int 2, .int 0]) (rest := [.int r24]) ⟨hx, hb, hml, hown, hts⟩ (c_call_3 l hst D E o S 0 2 0) (va_cwS 5 hts gL_holds_L_call rfl rfl rfl (by decide +kernel) ⟨Nat.le_of_ble_eq_true rfl, Nat.le_of_ble_eq_true rfl⟩) hO hKX (l_Z hZ hS (fun _ h => h)) hNc rfl hl rfl (Nat.le_of_ble_eq_true rfl) dL_holds_772 ⟨Nat.le_of_ble_eq_true rfl, Nat.le_of_ble_eq_true rfl⟩) hS (fun _ h => h) ⟨Nat.le_of_ble_eq_true rfl, Nat.le_of_ble_eq_true rfl⟩ (fun r772 H locs hp hq hz hS => ?_)
    obtain ⟨h772, hO⟩ := hp
    have hO : Ob D E o S H := hO
    refine lv_aload_n hx hb dL_holds_775 rfl (lv_at hl 7 rfl) ?_
    refine lv_iconst (v := 3) hx hb dL_holds_776 (by decide) ?_
    refine lv_iconst (v := 1) hx hb dL_holds_777 (by decide) ?_
    refine lv_iconst (v := 2) hx hb dL_holds_778 (by decide) ?_
    refine lv_iconst (v := 0) hx hb dL_holds_779 (by decide) ?_
    refine l_go (cells' := 568) (slots' := 3408) (l_runS (P := Ob D E o S) (As := [.ref o, .int 3, .int 1, .int 2, .int 0]) (rest := [.int r772, .int r24]) ⟨hx, hb, hml, hown, hts⟩ (c_call_3 l hst D E o S 1 2 0) (va_cwS 5 hts gL_holds_L_call rfl rfl rfl (by decide +kernel) ⟨Nat.le_of_ble_eq_true rfl, Nat.le_of_ble_eq_true rfl⟩) hO hKX (l_Z hZ hS (fun _ h => h)) hNc rfl hl rfl (Nat.le_of_ble_eq_true rfl) dL_holds_780 ⟨Nat.le_of_ble_eq_true rfl, Nat.le_of_ble_eq_true rfl⟩) hS (fun _ h => h) ⟨Nat.le_of_ble_eq_true rfl, Nat.le_of_ble_eq_true rfl⟩ (fun r780 H locs hp hq hz hS => ?_)
    obtain ⟨h780, hO⟩ := hp
    have hO : Ob D E o S H := hO
    have e1 : r772 = S.1 10 := h772.trans (a_pl2 (p := 0) (by decide))
    have e2 : r780 = S.1 15 := h780.trans (a_pl2 (p := 1) (by decide))
    rw [← e1, ← e2] at d3
    refine lv_icmp_ge (tgt := 790) hx hb dL_holds_783 (by decide) (fun c2 => ?_) (fun c2 => ?_)
    · refine lv_aload_n hx hb dL_holds_790 rfl (lv_at hl 7 rfl) ?_
      refine lv_iconst (v := 3) hx hb dL_holds_791 (by decide) ?_
      refine lv_iconst (v := 0) hx hb dL_holds_792 (by decide) ?_
      refine lv_iconst (v := 2) hx hb dL_holds_793 (by decide) ?_
      refine lv_iconst (v := 0) hx hb dL_holds_794 (by decide) ?_
      refine l_go (cells' := 569) (slots' := 3414) (l_runS (P := Ob D E o S) (As := [.ref o, .int 3, .int 0, .int 2, .int 0]) (rest := [.int r24]) ⟨hx, hb, hml, hown, hts⟩ (c_call_3 l hst D E o S 0 2 0) (va_cwS 5 hts gL_holds_L_call rfl rfl rfl (by decide +kernel) ⟨Nat.le_of_ble_eq_true rfl, Nat.le_of_ble_eq_true rfl⟩) hO hKX (l_Z hZ hS (fun _ h => h)) hNc rfl hl rfl (Nat.le_of_ble_eq_true rfl) dL_holds_795 ⟨Nat.le_of_ble_eq_true rfl, Nat.le_of_ble_eq_true rfl⟩) hS (fun _ h => h) ⟨Nat.le_of_ble_eq_true rfl, Nat.le_of_ble_eq_true rfl⟩ (fun r795 H locs hp hq hz hS => ?_)
      obtain ⟨h795, hO⟩ := hp
      have hO : Ob D E o S H := hO
      refine lv_aload_n hx hb dL_holds_798 rfl (lv_at hl 7 rfl) ?_
      refine lv_iconst (v := 3) hx hb dL_holds_799 (by decide) ?_
      refine lv_iconst (v := 1) hx hb dL_holds_800 (by decide) ?_
      refine lv_iconst (v := 2) hx hb dL_holds_801 (by decide) ?_
      refine lv_iconst (v := 0) hx hb dL_holds_802 (by decide) ?_
      refine l_go (cells' := 570) (slots' := 3420) (l_runS (P := Ob D E o S) (As := [.ref o, .int 3, .int 1, .int 2, .int 0]) (rest := [.int r795, .int r24]) ⟨hx, hb, hml, hown, hts⟩ (c_call_3 l hst D E o S 1 2 0) (va_cwS 5 hts gL_holds_L_call rfl rfl rfl (by decide +kernel) ⟨Nat.le_of_ble_eq_true rfl, Nat.le_of_ble_eq_true rfl⟩) hO hKX (l_Z hZ hS (fun _ h => h)) hNc rfl hl rfl (Nat.le_of_ble_eq_true rfl) dL_holds_803 ⟨Nat.le_of_ble_eq_true rfl, Nat.le_of_ble_eq_true rfl⟩) hS (fun _ h => h) ⟨Nat.le_of_ble_eq_true rfl, Nat.le_of_ble_eq_true rfl⟩ (fun r803 H locs hp hq hz hS => ?_)
      obtain ⟨h803, hO⟩ := hp
      have hO : Ob D E o S H := hO
      have e3 : r795 = r772 := (h795.trans (a_pl2 (p := 0) (by decide))).trans e1.symm
      have e4 : r803 = r780 := (h803.trans (a_pl2 (p := 1) (by decide))).trans e2.symm
      refine lv_icmp_le (tgt := 813) hx hb dL_holds_806 (by decide) (fun c3 => ?_) (fun c3 => ?_)
      · refine lv_iconst (v := (-1)) hx hb dL_holds_813 (by decide) ?_
        refine lv_icmp_ne (tgt := 863) hx hb dL_holds_814 (by decide) (fun z => absurd (h24.trans (d3.trans (by rw [if_neg (i32_nlt.mpr c2), if_neg (i32_nlt.mpr (by rw [← e3, ← e4]; exact c3))]))) z) (fun _ => ?_)
        refine W.widen (k := 570) (n := 3420) (Nat.le_of_ble_eq_true rfl) (Nat.le_of_ble_eq_true rfl) ?_
        exact kk _ _ _ hO hS hl
      · refine lv_iconst (v := 1) hx hb dL_holds_809 (by decide) ?_
        refine lv_goto (tgt := 814) hx hb dL_holds_810 (by decide) ?_
        refine lv_icmp_ne (tgt := 863) hx hb dL_holds_814 (by decide) (fun z => absurd (h24.trans (d3.trans (by rw [if_neg (i32_nlt.mpr c2), if_pos (i32_nle.mp (by rw [← e3, ← e4]; exact c3))]))) z) (fun _ => ?_)
        refine W.widen (k := 570) (n := 3420) (Nat.le_of_ble_eq_true rfl) (Nat.le_of_ble_eq_true rfl) ?_
        exact kk _ _ _ hO hS hl
    · refine lv_iconst (v := 0) hx hb dL_holds_786 (by decide) ?_
      refine lv_goto (tgt := 814) hx hb dL_holds_787 (by decide) ?_
      refine lv_icmp_ne (tgt := 863) hx hb dL_holds_814 (by decide) (fun z => absurd (h24.trans (d3.trans (if_pos (i32_nle.mp c2)))) z) (fun _ => ?_)
      refine W.widen (k := 570) (n := 3420) (Nat.le_of_ble_eq_true rfl) (Nat.le_of_ble_eq_true rfl) ?_
      exact kk _ _ _ hO hS hl
set_option maxHeartbeats 8000000 in
set_option maxRecDepth 100000 in
theorem c_holds (l : Launch) (hst : l.stackTraces = false) (D : va_G) (E : Nat → ClassId) (o : Nat) (S : aT) (X : Nat) (hX : X < 2 ^ 31) (a0 a1 : Nat) (FA : hoA S) (FB : ∀ i, i < 64 → hoB S i) (FC0 : hoC S 0 a0) (FC1 : hoC S 1 a1) (FS : sumN (pcR S.1) 64 = (a0 + 1) + (a1 + 1)) (FD : hoD S) : Met l yL_holds wsL_holds (lRm 9 620 3720) (lP D E [.ref o, .int (nI X)] (Ob D E o S) (rA o)) (lQ (fun r H => r = 1 ∧ Ob D E o S H) (rA o)) 620 3720 (rA o) := by
  refine Met.ofW (cc := cL_holds) (maxL := 14) (ret := (some .boolean)) (by decide) rfl ?_
  intro p e s m args below meth co s₁ B hml hv
  obtain ⟨rfl, hO, hKX, hZ, hNc⟩ := hv
  have hx := B.exec
  have hb := B.bytes
  have hr := B.returns
  have hts := atoms_spec (ws := wsL_holds) B.pre
  have hown : s.vm.findClass RL = some m.cls := findClass_of_methodNamed B.named
  have hlocks := B.notSynchronized
  have hS : va_S (rA o) s.heap s.heap [] := ⟨Nat.le_refl _, fun _ _ _ => rfl, fun _ h => by cases h⟩
  have hl := lv_entry ([.ref o, .int (nI X)]) (n := 14) (Nat.le_of_ble_eq_true rfl)
  rw [lg_entry_eq]
  generalize (lg_sl ([.ref o, .int (nI X)]) ++ List.replicate (14 - (lg_sl ([.ref o, .int (nI X)])).length) Slot.unset).toArray = ls at hl ⊢
  have hl : lv_has ls 14 [(0, .ref o), (1, .int (nI (X)))] := hl
  have K : lK p l s m _ co D E (rA o) cL_holds 14 wsL_holds := ⟨hx, hb, hml, hown, hts, hKX, hZ, hNc, hst⟩
  refine ho_A K hO hS hl FA (fun H locs ls r5 r14 r24 r35 hO hS hl h5 h14 h24 h35 => ?_)
  have hl : lv_has ls 14 [(9, .int 0), (8, .int 1), (7, .int 0), (6, .int 0), (5, .int r35), (4, .int r24), (3, .int r14), (2, .int r5), (0, .ref o), (1, .int (nI (X)))] := lv_sub hl [0, 1, 2, 3, 4, 5, 6, 7, 8, 9] rfl
  refine W.widen (k := 4 * (0) + 7) (n := 6 * (4 * (0) + 7)) (by omega) (by omega) ?_
  refine ho_B K h5 h14 h24 h35 FB (fun H locs ls hO hS hl => ?_) (64 - 0) 0 (by omega) hO hS hl
  refine lv_iload hx hb dL_holds_160 (lv_at hl 0 rfl) ?_
  refine lv_bipush (v := 64) hx hb dL_holds_162 (by decide) ?_
  refine lv_icmp_ge (tgt := 368) hx hb dL_holds_164 (by decide) (fun _ => ?_) (fun z => absurd (nI_le (a := 64) (b := 64) (Nat.le_refl _) (by decide)) z)
  refine lv_iconst (v := 0) hx hb dL_holds_368 (by decide) ?_
  refine lv_istore (lv' := [(9, .int 0), (8, .int 1), (7, .int (nI (cnt (damB S.1) (64)))), (6, .int (nI (sumN (pcR S.1) (64)))), (5, .int r35), (4, .int r24), (3, .int r14), (2, .int r5), (0, .ref o), (1, .int (nI (X)))]) hx hb dL_holds_369 hl (by decide) rfl (fun ls hl => ?_)
  have hl : lv_has ls 14 [(9, .int 0), (8, .int 1), (7, .int (nI (cnt (damB S.1) (64)))), (6, .int (nI (sumN (pcR S.1) (64)))), (5, .int r35), (4, .int r24), (3, .int r14), (2, .int r5), (0, .ref o), (1, .int (nI (X)))] := lv_sub hl [0, 1, 2, 3, 4, 5, 6, 7, 8, 9] rfl
  refine ho_C (P := 0) (a := a0) (cz := sumN (pcR S.1) 64) K hO hS hl (by decide) FC0 (by omega) h5 (fun H locs ls hO hS hl => ?_)
  refine ho_C (P := 1) (a := a1) (cz := sumN (pcR S.1) 64 - (a0 + 1)) K hO hS hl (by decide) FC1 (by omega) h5 (fun H locs ls hO hS hl => ?_)
  refine W.widen (k := 563) (n := 3378) (Nat.le_of_ble_eq_true rfl) (Nat.le_of_ble_eq_true rfl) ?_
  obtain ⟨f1, f2, f3, f4, f5, f6, f7, f8⟩ := FA
  refine lv_iload hx hb dL_holds_371 (lv_at hl 0 rfl) ?_
  refine lv_iconst (v := 2) hx hb dL_holds_373 (by decide) ?_
  refine lv_icmp_ge (tgt := 670) hx hb dL_holds_374 (by decide) (fun _ => ?_) (fun z => absurd (nI_le (a := 2) (b := 1 + 1) (by decide) (by decide)) z)
  refine lv_aload_n hx hb dL_holds_670 rfl (lv_at hl 8 rfl) ?_
  obtain ⟨M, hM, hB⟩ := hO
  refine w_mI (b_runV (As := []) (rest := []) ⟨hx, hb, hml, hown, hts⟩ (c_X6_leastWished l D E o M) (cwV 0 hts gL_holds_X6_leastWished rfl rfl rfl (by decide +kernel) ⟨Nat.le_of_ble_eq_true rfl, Nat.le_of_ble_eq_true rfl⟩) hKX.1 (bk_recv hKX.1.1 hB lay_0 rfl) hB rfl hl rfl (Nat.le_of_ble_eq_true rfl) dL_holds_671 ⟨Nat.le_of_ble_eq_true rfl, Nat.le_of_ble_eq_true rfl⟩) hS (fun _ h => h) (fun r671 M1 hr H locs hB hq hz hS => ?_)
  obtain ⟨h671, hr2⟩ := hr
  have hcl := least_cl hM
  rw [← hr2] at hcl
  have h671 := h671.trans hcl.1
  have hO : Ob D E o S H := ⟨M1, hcl.2, hB⟩
  refine lv_istore (lv' := [(9, .int r671), (8, .int 1), (7, .int (nI (cnt (damB S.1) (64)))), (6, .int (nI (sumN (pcR S.1) 64 - (a0 + 1) - (a1 + 1)))), (5, .int r35), (4, .int r24), (3, .int r14), (2, .int r5), (0, .ref o), (1, .int (nI (X)))]) hx hb dL_holds_674 hl (by decide) rfl (fun ls hl => ?_)
  refine lv_aload_n hx hb dL_holds_676 rfl (lv_at hl 8 rfl) ?_
  obtain ⟨M, hM, hB⟩ := hO
  refine w_mI (b_runV (As := []) (rest := []) ⟨hx, hb, hml, hown, hts⟩ (c_X6_best l D E o M) (cwV 0 hts gL_holds_X6_best rfl rfl rfl (by decide +kernel) ⟨Nat.le_of_ble_eq_true rfl, Nat.le_of_ble_eq_true rfl⟩) hKX.1 (bk_recv hKX.1.1 hB lay_0 rfl) hB rfl hl rfl (Nat.le_of_ble_eq_true rfl) dL_holds_677 ⟨Nat.le_of_ble_eq_true rfl, Nat.le_of_ble_eq_true rfl⟩) hS (fun _ h => h) (fun r677 M1 hr H locs hB hq hz hS => ?_)
  obtain ⟨h677, hr2⟩ := hr
  have hcl := best_cl hM
  rw [← hr2] at hcl
  have h677 := h677.trans hcl.1
  have hO : Ob D E o S H := ⟨M1, hcl.2, hB⟩
  refine lv_istore (lv' := [(10, .int r677), (9, .int r671), (8, .int 1), (7, .int (nI (cnt (damB S.1) (64)))), (6, .int (nI (sumN (pcR S.1) 64 - (a0 + 1) - (a1 + 1)))), (5, .int r35), (4, .int r24), (3, .int r14), (2, .int r5), (0, .ref o), (1, .int (nI (X)))]) hx hb dL_holds_680 hl (by decide) rfl (fun ls hl => ?_)
  refine lv_iload_n hx hb dL_holds_682 rfl (lv_at hl 10 rfl) ?_
  refine lv_bipush (v := 64) hx hb dL_holds_683 (by decide) ?_
  refine w_rem (a := X) (d := 64) hx hb rfl (by omega) (by decide) (by decide) dL_holds_685 ?_
  refine lv_istore (lv' := [(11, .int (nI ((X) % 64))), (10, .int r677), (9, .int r671), (8, .int 1), (7, .int (nI (cnt (damB S.1) (64)))), (6, .int (nI (sumN (pcR S.1) 64 - (a0 + 1) - (a1 + 1)))), (5, .int r35), (4, .int r24), (3, .int r14), (2, .int r5), (0, .ref o), (1, .int (nI (X)))]) hx hb dL_holds_686 hl (by decide) rfl (fun ls hl => ?_)
  refine lv_iload hx hb dL_holds_688 (lv_at hl 3 rfl) ?_
  refine lv_if_eq (tgt := 863) hx hb dL_holds_690 (by decide) (fun z => absurd z (show ¬ (1 : Int32) = 0 by decide)) (fun _ => ?_)
  refine lv_iload hx hb dL_holds_693 (lv_at hl 5 rfl) ?_
  refine lv_if_ne (tgt := 863) hx hb dL_holds_695 (by decide) (fun z => absurd (congrArg nI (by omega : sumN (pcR S.1) 64 - (a0 + 1) - (a1 + 1) = 0)) z) (fun _ => ?_)
  refine lv_iload hx hb dL_holds_698 (lv_at hl 4 rfl) ?_
  refine lv_aload_n hx hb dL_holds_700 rfl (lv_at hl 10 rfl) ?_
  refine lv_iconst (v := 2) hx hb dL_holds_701 (by decide) ?_
  refine lv_iconst (v := 4) hx hb dL_holds_702 (by decide) ?_
  refine lv_iconst (v := 0) hx hb dL_holds_703 (by decide) ?_
  refine lv_iconst (v := 0) hx hb dL_holds_704 (by decide) ?_
  refine l_go (cells' := 564) (slots' := 3384) (l_runS (P := Ob D E o S) (As := [.ref o, .int 2, .int 4, .int 0, .int 0]) (rest := [.int (nI (cnt (damB S.1) (64)))]) ⟨hx, hb, hml, hown, hts⟩ (c_call_2 l hst D E o S 4 0 0) (va_cwS 5 hts gL_holds_L_call rfl rfl rfl (by decide +kernel) ⟨Nat.le_of_ble_eq_true rfl, Nat.le_of_ble_eq_true rfl⟩) hO hKX (l_Z hZ hS (fun _ h => h)) hNc rfl hl rfl (Nat.le_of_ble_eq_true rfl) dL_holds_705 ⟨Nat.le_of_ble_eq_true rfl, Nat.le_of_ble_eq_true rfl⟩) hS (fun _ h => h) ⟨Nat.le_of_ble_eq_true rfl, Nat.le_of_ble_eq_true rfl⟩ (fun r705 H locs hp hq hz hS => ?_)
  obtain ⟨h705, hO⟩ := hp
  have hO : Ob D E o S H := hO
  refine lv_icmp_ne (tgt := 863) hx hb dL_holds_708 (by decide) (fun z => absurd ((h705.trans a_ab4).symm) z) (fun _ => ?_)
  refine lv_iload hx hb dL_holds_711 (lv_at hl 6 rfl) ?_
  refine lv_if_le (tgt := 863) hx hb dL_holds_713 (by decide) (fun z => absurd z (by rw [h35]; exact f8)) (fun _ => ?_)
  have hl : lv_has ls 14 [(11, .int (nI ((X) % 64))), (10, .int r677), (9, .int r671), (5, .int r35), (4, .int r24), (3, .int r14), (2, .int r5), (0, .ref o), (1, .int (nI (X)))] := lv_sub hl [0, 1, 2, 6, 7, 8, 9, 10, 11] rfl
  refine ho_D2 K hO hS hl h671 FD (fun H locs ls hO hS hl => ?_)
  refine ho_D3 K hO hS hl h677 FD (fun H locs ls hO hS hl => ?_)
  refine ho_D4 K hO hS hl h5 h24 FD (fun H locs ls hO hS hl => ?_)
  have d4 := FD.2.2.2
  refine lv_aload_n hx hb dL_holds_817 rfl (lv_at hl 7 rfl) ?_
  refine lv_iconst (v := 4) hx hb dL_holds_818 (by decide) ?_
  refine lv_iload hx hb dL_holds_819 (lv_at hl 0 rfl) ?_
  refine lv_bipush (v := 8) hx hb dL_holds_821 (by decide) ?_
  refine w_rem (a := (X) % 64) (d := 8) hx hb rfl (by omega) (by decide) (by decide) dL_holds_823 ?_
  refine lv_iload hx hb dL_holds_824 (lv_at hl 0 rfl) ?_
  refine lv_bipush (v := 8) hx hb dL_holds_826 (by decide) ?_
  refine w_div (a := (X) % 64) (d := 8) hx hb rfl (by omega) (by decide) (by decide) dL_holds_828 ?_
  refine lv_iconst (v := 0) hx hb dL_holds_829 (by decide) ?_
  refine l_go (cells' := 571) (slots' := 3426) (l_runS (P := Ob D E o S) (As := [.ref o, .int 4, .int (nI (((X) % 64) % 8)), .int (nI (((X) % 64) / 8)), .int 0]) (rest := []) ⟨hx, hb, hml, hown, hts⟩ (c_call_4 l hst D E o S (nI (((X) % 64) % 8)) (nI (((X) % 64) / 8)) 0) (va_cwS 5 hts gL_holds_L_call rfl rfl rfl (by decide +kernel) ⟨Nat.le_of_ble_eq_true rfl, Nat.le_of_ble_eq_true rfl⟩) hO hKX (l_Z hZ hS (fun _ h => h)) hNc rfl hl rfl (Nat.le_of_ble_eq_true rfl) dL_holds_830 ⟨Nat.le_of_ble_eq_true rfl, Nat.le_of_ble_eq_true rfl⟩) hS (fun _ h => h) ⟨Nat.le_of_ble_eq_true rfl, Nat.le_of_ble_eq_true rfl⟩ (fun r830 H locs hp hq hz hS => ?_)
  obtain ⟨h830, hO⟩ := hp
  have hO : Ob D E o S H := hO
  have e830 : r830 = S.1 (20 + 64 * 0 + X % 64) := h830.trans (a_cost (c := X % 64) (p := 0) (by omega) (by decide))
  refine lv_bipush (v := 10) hx hb dL_holds_833 (by decide) ?_
  refine lv_icmp_ge (tgt := 863) hx hb dL_holds_835 (by decide) (fun z => absurd z (by rw [e830]; exact d4 _ 0 (by omega) (by decide))) (fun _ => ?_)
  refine lv_aload_n hx hb dL_holds_838 rfl (lv_at hl 7 rfl) ?_
  refine lv_iconst (v := 4) hx hb dL_holds_839 (by decide) ?_
  refine lv_iload hx hb dL_holds_840 (lv_at hl 0 rfl) ?_
  refine lv_bipush (v := 8) hx hb dL_holds_842 (by decide) ?_
  refine w_rem (a := (X) % 64) (d := 8) hx hb rfl (by omega) (by decide) (by decide) dL_holds_844 ?_
  refine lv_iload hx hb dL_holds_845 (lv_at hl 0 rfl) ?_
  refine lv_bipush (v := 8) hx hb dL_holds_847 (by decide) ?_
  refine w_div (a := (X) % 64) (d := 8) hx hb rfl (by omega) (by decide) (by decide) dL_holds_849 ?_
  refine lv_iconst (v := 1) hx hb dL_holds_850 (by decide) ?_
  refine l_go (cells' := 572) (slots' := 3432) (l_runS (P := Ob D E o S) (As := [.ref o, .int 4, .int (nI (((X) % 64) % 8)), .int (nI (((X) % 64) / 8)), .int 1]) (rest := []) ⟨hx, hb, hml, hown, hts⟩ (c_call_4 l hst D E o S (nI (((X) % 64) % 8)) (nI (((X) % 64) / 8)) 1) (va_cwS 5 hts gL_holds_L_call rfl rfl rfl (by decide +kernel) ⟨Nat.le_of_ble_eq_true rfl, Nat.le_of_ble_eq_true rfl⟩) hO hKX (l_Z hZ hS (fun _ h => h)) hNc rfl hl rfl (Nat.le_of_ble_eq_true rfl) dL_holds_851 ⟨Nat.le_of_ble_eq_true rfl, Nat.le_of_ble_eq_true rfl⟩) hS (fun _ h => h) ⟨Nat.le_of_ble_eq_true rfl, Nat.le_of_ble_eq_true rfl⟩ (fun r851 H locs hp hq hz hS => ?_)
  obtain ⟨h851, hO⟩ := hp
  have hO : Ob D E o S H := hO
  have e851 : r851 = S.1 (20 + 64 * 1 + X % 64) := h851.trans (a_cost (c := X % 64) (p := 1) (by omega) (by decide))
  refine lv_bipush (v := 10) hx hb dL_holds_854 (by decide) ?_
  refine lv_icmp_ge (tgt := 863) hx hb dL_holds_856 (by decide) (fun z => absurd z (by rw [e851]; exact d4 _ 1 (by omega) (by decide))) (fun _ => ?_)
  refine lv_iconst (v := 1) hx hb dL_holds_859 (by decide) ?_
  refine lv_goto (tgt := 864) hx hb dL_holds_860 (by decide) ?_
  exact l_zret hx hb hr (Or.inr rfl) hlocks hS ⟨rfl, hO⟩ ⟨Nat.le_of_ble_eq_true rfl, Nat.le_of_ble_eq_true rfl⟩ dL_holds_864
