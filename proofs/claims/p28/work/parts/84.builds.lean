/-! THE LAW'S builds -/
set_option maxHeartbeats 8000000 in
set_option maxRecDepth 100000 in
theorem bd_1 {p : Program} {l : Launch} {e : Env} {s : State} {m : MethodId} {args : Array Value} {below : List Frame} {meth : Method} {co : Code} {D : va_G} {E : Nat → ClassId} {o : Nat} {q : Nat} {S : aT} {Q : State → Prop} {H : Heap} {locs : List Loc} {ls : Array Slot} {X P : Nat} (K : lK p l s m args co D E (rAA o q) cL_builds 12 wsL_builds) (hd : djo o q) (hO : Ob D E o S H) (hQ : Ob D E q S H) (hS : va_S (rAA o q) s.heap H locs) (hl : lv_has ls 12 [(0, .ref o), (1, .ref q), (2, .int (nI (X)))]) (hX : X < 2 ^ 31) (hP : P < 2) (e2 : S.1 2 = nI P) (hph : S.1 1 = 1) (F : bdF S P (nI (X % 8)) (nI (X / 8 % 8)))
    (kk : ∀ (H : Heap) (locs : List Loc) (ls : Array Slot) (r46 : Int32) (r56 : Int32) (r67 : Int32) (r79 : Int32) (r90 : Int32), Ob D E o S H → Ob D E q S H → va_S (rAA o q) s.heap H locs → lv_has ls 12 [(10, .int r90), (9, .int r79), (8, .int r67), (7, .int r56), (6, .int r46), (5, .int (nI (((X) / 8) % 8))), (4, .int (nI ((X) % 8))), (3, .int (nI (P))), (0, .ref o), (1, .ref q), (2, .int (nI (X)))] → (r46 = aF 13 S (nI ((X) % 8)) (nI (((X) / 8) % 8)) 0) → (r56 = aF 3 S (nI P) 3 0) → (r67 = aF 2 S 7 0 0) → (r79 = aF 4 S (nI ((X) % 8)) (nI (((X) / 8) % 8)) 2) → (r90 = aF 6 S 0 0 0) → W p l e (lRm 9 30 180) s m args below meth co H locs (7) (42) Q (F0 m 95 ls [])) : W p l e (lRm 9 30 180) s m args below meth co H locs (1) (6) Q (F0 m 14 ls []) := by
  obtain ⟨hx, hb, hml, hown, hts, hKX, hZ, hNc, hst⟩ := K
  refine lv_aload_n hx hb dL_builds_14 rfl (lv_at hl 0 rfl) ?_
  refine lv_iconst (v := 2) hx hb dL_builds_15 (by decide) ?_
  refine lv_iconst (v := 2) hx hb dL_builds_16 (by decide) ?_
  refine lv_iconst (v := 0) hx hb dL_builds_17 (by decide) ?_
  refine lv_iconst (v := 0) hx hb dL_builds_18 (by decide) ?_
  refine l_go (cells' := 2) (slots' := 12) (l_runS (P := Ob D E o S) (As := [.ref o, .int 2, .int 2, .int 0, .int 0]) (rest := []) ⟨hx, hb, hml, hown, hts⟩ (c_call_2 l hst D E o S 2 0 0) (va_cwS 5 hts gL_builds_L_call rfl rfl rfl (by decide +kernel) ⟨Nat.le_of_ble_eq_true rfl, Nat.le_of_ble_eq_true rfl⟩) hO hKX (l_Z hZ hS (fun _ h => Or.inl h)) hNc rfl hl rfl (Nat.le_of_ble_eq_true rfl) dL_builds_19 ⟨Nat.le_of_ble_eq_true rfl, Nat.le_of_ble_eq_true rfl⟩) hS (fun _ h => Or.inl h) ⟨Nat.le_of_ble_eq_true rfl, Nat.le_of_ble_eq_true rfl⟩ (fun r19 H locs hp hq hz hS => ?_)
  obtain ⟨h19, hO⟩ := hp
  have hO : Ob D E o S H := hO
  have hQ := hQ.kept hq (dj_1 hd)
  refine w_eqI (h19.trans (a_ab2.trans ((if_pos hph).trans e2))) ?_
  refine lv_istore_n (lv' := [(3, .int (nI (P))), (0, .ref o), (1, .ref q), (2, .int (nI (X)))]) hx hb dL_builds_22 rfl hl (by decide) rfl (fun ls hl => ?_)
  refine lv_iload_n hx hb dL_builds_23 rfl (lv_at hl 3 rfl) ?_
  refine lv_bipush (v := 8) hx hb dL_builds_24 (by decide) ?_
  refine w_rem (a := X) (d := 8) hx hb rfl (by omega) (by decide) (by decide) dL_builds_26 ?_
  refine lv_istore (lv' := [(4, .int (nI ((X) % 8))), (3, .int (nI (P))), (0, .ref o), (1, .ref q), (2, .int (nI (X)))]) hx hb dL_builds_27 hl (by decide) rfl (fun ls hl => ?_)
  refine lv_iload_n hx hb dL_builds_29 rfl (lv_at hl 4 rfl) ?_
  refine lv_bipush (v := 8) hx hb dL_builds_30 (by decide) ?_
  refine w_div (a := X) (d := 8) hx hb rfl (by omega) (by decide) (by decide) dL_builds_32 ?_
  refine lv_bipush (v := 8) hx hb dL_builds_33 (by decide) ?_
  refine w_rem (a := (X) / 8) (d := 8) hx hb rfl (by omega) (by decide) (by decide) dL_builds_35 ?_
  refine lv_istore (lv' := [(5, .int (nI (((X) / 8) % 8))), (4, .int (nI ((X) % 8))), (3, .int (nI (P))), (0, .ref o), (1, .ref q), (2, .int (nI (X)))]) hx hb dL_builds_36 hl (by decide) rfl (fun ls hl => ?_)
  refine lv_aload_n hx hb dL_builds_38 rfl (lv_at hl 3 rfl) ?_
  refine lv_bipush (v := 13) hx hb dL_builds_39 (by decide) ?_
  refine lv_iload hx hb dL_builds_41 (lv_at hl 1 rfl) ?_
  refine lv_iload hx hb dL_builds_43 (lv_at hl 0 rfl) ?_
  refine lv_iconst (v := 0) hx hb dL_builds_45 (by decide) ?_
  refine l_go (cells' := 3) (slots' := 18) (l_runS (P := Ob D E o S) (As := [.ref o, .int 13, .int (nI ((X) % 8)), .int (nI (((X) / 8) % 8)), .int 0]) (rest := []) ⟨hx, hb, hml, hown, hts⟩ (c_call_13 l hst D E o S (nI ((X) % 8)) (nI (((X) / 8) % 8)) 0) (va_cwS 5 hts gL_builds_L_call rfl rfl rfl (by decide +kernel) ⟨Nat.le_of_ble_eq_true rfl, Nat.le_of_ble_eq_true rfl⟩) hO hKX (l_Z hZ hS (fun _ h => Or.inl h)) hNc rfl hl rfl (Nat.le_of_ble_eq_true rfl) dL_builds_46 ⟨Nat.le_of_ble_eq_true rfl, Nat.le_of_ble_eq_true rfl⟩) hS (fun _ h => Or.inl h) ⟨Nat.le_of_ble_eq_true rfl, Nat.le_of_ble_eq_true rfl⟩ (fun r46 H locs hp hq hz hS => ?_)
  obtain ⟨h46, hO⟩ := hp
  have hO : Ob D E o S H := hO
  have hQ := hQ.kept hq (dj_1 hd)
  refine lv_istore (lv' := [(6, .int r46), (5, .int (nI (((X) / 8) % 8))), (4, .int (nI ((X) % 8))), (3, .int (nI (P))), (0, .ref o), (1, .ref q), (2, .int (nI (X)))]) hx hb dL_builds_49 hl (by decide) rfl (fun ls hl => ?_)
  refine lv_aload_n hx hb dL_builds_51 rfl (lv_at hl 4 rfl) ?_
  refine lv_iconst (v := 3) hx hb dL_builds_52 (by decide) ?_
  refine lv_iload_n hx hb dL_builds_53 rfl (lv_at hl 3 rfl) ?_
  refine lv_iconst (v := 3) hx hb dL_builds_54 (by decide) ?_
  refine lv_iconst (v := 0) hx hb dL_builds_55 (by decide) ?_
  refine l_go (cells' := 4) (slots' := 24) (l_runS (P := Ob D E o S) (As := [.ref o, .int 3, .int (nI (P)), .int 3, .int 0]) (rest := []) ⟨hx, hb, hml, hown, hts⟩ (c_call_3 l hst D E o S (nI (P)) 3 0) (va_cwS 5 hts gL_builds_L_call rfl rfl rfl (by decide +kernel) ⟨Nat.le_of_ble_eq_true rfl, Nat.le_of_ble_eq_true rfl⟩) hO hKX (l_Z hZ hS (fun _ h => Or.inl h)) hNc rfl hl rfl (Nat.le_of_ble_eq_true rfl) dL_builds_56 ⟨Nat.le_of_ble_eq_true rfl, Nat.le_of_ble_eq_true rfl⟩) hS (fun _ h => Or.inl h) ⟨Nat.le_of_ble_eq_true rfl, Nat.le_of_ble_eq_true rfl⟩ (fun r56 H locs hp hq hz hS => ?_)
  obtain ⟨h56, hO⟩ := hp
  have hO : Ob D E o S H := hO
  have hQ := hQ.kept hq (dj_1 hd)
  refine lv_istore (lv' := [(7, .int r56), (6, .int r46), (5, .int (nI (((X) / 8) % 8))), (4, .int (nI ((X) % 8))), (3, .int (nI (P))), (0, .ref o), (1, .ref q), (2, .int (nI (X)))]) hx hb dL_builds_59 hl (by decide) rfl (fun ls hl => ?_)
  refine lv_aload_n hx hb dL_builds_61 rfl (lv_at hl 5 rfl) ?_
  refine lv_iconst (v := 2) hx hb dL_builds_62 (by decide) ?_
  refine lv_bipush (v := 7) hx hb dL_builds_63 (by decide) ?_
  refine lv_iconst (v := 0) hx hb dL_builds_65 (by decide) ?_
  refine lv_iconst (v := 0) hx hb dL_builds_66 (by decide) ?_
  refine l_go (cells' := 5) (slots' := 30) (l_runS (P := Ob D E o S) (As := [.ref o, .int 2, .int 7, .int 0, .int 0]) (rest := []) ⟨hx, hb, hml, hown, hts⟩ (c_call_2 l hst D E o S 7 0 0) (va_cwS 5 hts gL_builds_L_call rfl rfl rfl (by decide +kernel) ⟨Nat.le_of_ble_eq_true rfl, Nat.le_of_ble_eq_true rfl⟩) hO hKX (l_Z hZ hS (fun _ h => Or.inl h)) hNc rfl hl rfl (Nat.le_of_ble_eq_true rfl) dL_builds_67 ⟨Nat.le_of_ble_eq_true rfl, Nat.le_of_ble_eq_true rfl⟩) hS (fun _ h => Or.inl h) ⟨Nat.le_of_ble_eq_true rfl, Nat.le_of_ble_eq_true rfl⟩ (fun r67 H locs hp hq hz hS => ?_)
  obtain ⟨h67, hO⟩ := hp
  have hO : Ob D E o S H := hO
  have hQ := hQ.kept hq (dj_1 hd)
  refine lv_istore (lv' := [(8, .int r67), (7, .int r56), (6, .int r46), (5, .int (nI (((X) / 8) % 8))), (4, .int (nI ((X) % 8))), (3, .int (nI (P))), (0, .ref o), (1, .ref q), (2, .int (nI (X)))]) hx hb dL_builds_70 hl (by decide) rfl (fun ls hl => ?_)
  refine lv_aload_n hx hb dL_builds_72 rfl (lv_at hl 6 rfl) ?_
  refine lv_iconst (v := 4) hx hb dL_builds_73 (by decide) ?_
  refine lv_iload hx hb dL_builds_74 (lv_at hl 4 rfl) ?_
  refine lv_iload hx hb dL_builds_76 (lv_at hl 3 rfl) ?_
  refine lv_iconst (v := 2) hx hb dL_builds_78 (by decide) ?_
  refine l_go (cells' := 6) (slots' := 36) (l_runS (P := Ob D E o S) (As := [.ref o, .int 4, .int (nI ((X) % 8)), .int (nI (((X) / 8) % 8)), .int 2]) (rest := []) ⟨hx, hb, hml, hown, hts⟩ (c_call_4 l hst D E o S (nI ((X) % 8)) (nI (((X) / 8) % 8)) 2) (va_cwS 5 hts gL_builds_L_call rfl rfl rfl (by decide +kernel) ⟨Nat.le_of_ble_eq_true rfl, Nat.le_of_ble_eq_true rfl⟩) hO hKX (l_Z hZ hS (fun _ h => Or.inl h)) hNc rfl hl rfl (Nat.le_of_ble_eq_true rfl) dL_builds_79 ⟨Nat.le_of_ble_eq_true rfl, Nat.le_of_ble_eq_true rfl⟩) hS (fun _ h => Or.inl h) ⟨Nat.le_of_ble_eq_true rfl, Nat.le_of_ble_eq_true rfl⟩ (fun r79 H locs hp hq hz hS => ?_)
  obtain ⟨h79, hO⟩ := hp
  have hO : Ob D E o S H := hO
  have hQ := hQ.kept hq (dj_1 hd)
  refine lv_istore (lv' := [(9, .int r79), (8, .int r67), (7, .int r56), (6, .int r46), (5, .int (nI (((X) / 8) % 8))), (4, .int (nI ((X) % 8))), (3, .int (nI (P))), (0, .ref o), (1, .ref q), (2, .int (nI (X)))]) hx hb dL_builds_82 hl (by decide) rfl (fun ls hl => ?_)
  refine lv_aload_n hx hb dL_builds_84 rfl (lv_at hl 7 rfl) ?_
  refine lv_bipush (v := 6) hx hb dL_builds_85 (by decide) ?_
  refine lv_iconst (v := 0) hx hb dL_builds_87 (by decide) ?_
  refine lv_iconst (v := 0) hx hb dL_builds_88 (by decide) ?_
  refine lv_iconst (v := 0) hx hb dL_builds_89 (by decide) ?_
  refine l_go (cells' := 7) (slots' := 42) (l_runS (P := Ob D E o S) (As := [.ref o, .int 6, .int 0, .int 0, .int 0]) (rest := []) ⟨hx, hb, hml, hown, hts⟩ (c_call_6 l hst D E o S 0 0 0) (va_cwS 5 hts gL_builds_L_call rfl rfl rfl (by decide +kernel) ⟨Nat.le_of_ble_eq_true rfl, Nat.le_of_ble_eq_true rfl⟩) hO hKX (l_Z hZ hS (fun _ h => Or.inl h)) hNc rfl hl rfl (Nat.le_of_ble_eq_true rfl) dL_builds_90 ⟨Nat.le_of_ble_eq_true rfl, Nat.le_of_ble_eq_true rfl⟩) hS (fun _ h => Or.inl h) ⟨Nat.le_of_ble_eq_true rfl, Nat.le_of_ble_eq_true rfl⟩ (fun r90 H locs hp hq hz hS => ?_)
  obtain ⟨h90, hO⟩ := hp
  have hO : Ob D E o S H := hO
  have hQ := hQ.kept hq (dj_1 hd)
  refine lv_istore (lv' := [(10, .int r90), (9, .int r79), (8, .int r67), (7, .int r56), (6, .int r46), (5, .int (nI (((X) / 8) % 8))), (4, .int (nI ((X) % 8))), (3, .int (nI (P))), (0, .ref o), (1, .ref q), (2, .int (nI (X)))]) hx hb dL_builds_93 hl (by decide) rfl (fun ls hl => ?_)
  exact kk _ _ _ r46 r56 r67 r79 r90 hO hQ hS hl h46 h56 h67 h79 h90
set_option maxHeartbeats 8000000 in
set_option maxRecDepth 100000 in
theorem bd_2 {p : Program} {l : Launch} {e : Env} {s : State} {m : MethodId} {args : Array Value} {below : List Frame} {meth : Method} {co : Code} {D : va_G} {E : Nat → ClassId} {o : Nat} {q : Nat} {S : aT} {Q : State → Prop} {H : Heap} {locs : List Loc} {ls : Array Slot} {X P : Nat} {r46 r56 r67 r79 r90 : Int32} (K : lK p l s m args co D E (rAA o q) cL_builds 12 wsL_builds) (hd : djo o q) (hO : Ob D E o S H) (hQ : Ob D E q S H) (hS : va_S (rAA o q) s.heap H locs) (hl : lv_has ls 12 [(10, .int r90), (9, .int r79), (8, .int r67), (7, .int r56), (6, .int r46), (5, .int (nI (((X) / 8) % 8))), (4, .int (nI ((X) % 8))), (3, .int (nI (P))), (0, .ref o), (1, .ref q), (2, .int (nI (X)))]) (hX : X < 2 ^ 31) (hP : P < 2) (e2 : S.1 2 = nI P) (hph : S.1 1 = 1) (F : bdF S P (nI (X % 8)) (nI (X / 8 % 8))) (h46 : r46 = aF 13 S (nI ((X) % 8)) (nI (((X) / 8) % 8)) 0) (h56 : r56 = aF 3 S (nI P) 3 0) (h67 : r67 = aF 2 S 7 0 0) (h79 : r79 = aF 4 S (nI ((X) % 8)) (nI (((X) / 8) % 8)) 2) (h90 : r90 = aF 6 S 0 0 0)
    (kk : ∀ (H : Heap) (locs : List Loc) (ls : Array Slot), Ob D E o (tF 8 S (nI ((X) % 8)) (nI (((X) / 8) % 8))) H → Ob D E q (tF 8 S (nI ((X) % 8)) (nI (((X) / 8) % 8))) H → va_S (rAA o q) s.heap H locs → lv_has ls 12 [(10, .int r90), (9, .int r79), (8, .int r67), (7, .int r56), (6, .int r46), (5, .int (nI (((X) / 8) % 8))), (4, .int (nI ((X) % 8))), (3, .int (nI (P))), (0, .ref o), (1, .ref q), (2, .int (nI (X)))] → W p l e (lRm 9 30 180) s m args below meth co H locs (11) (66) Q (F0 m 212 ls [])) : W p l e (lRm 9 30 180) s m args below meth co H locs (7) (42) Q (F0 m 95 ls []) := by
  obtain ⟨hx, hb, hml, hown, hts, hKX, hZ, hNc, hst⟩ := K
  obtain ⟨f1, f2, f3, f4, f5, f6, f7, f8⟩ := F
  refine lv_iload hx hb dL_builds_95 (lv_at hl 4 rfl) ?_
  refine lv_iconst (v := 1) hx hb dL_builds_97 (by decide) ?_
  refine w_joinB (J := 106) (rest := []) (P0 := fun v => v = if aF 13 S (nI ((X) % 8)) (nI (((X) / 8) % 8)) 0 = 1 then 1 else 0) (fun kk => ?_) (fun w1 n1 => ?_)
  · refine lv_icmp_ne (tgt := 105) hx hb dL_builds_98 (by decide) (fun c9 => ?_) (fun c9 => ?_)
    · refine lv_iconst (v := 0) hx hb dL_builds_105 (by decide) ?_
      exact kk _ (by rw [← h46, if_neg c9])
    · refine lv_iconst (v := 1) hx hb dL_builds_101 (by decide) ?_
      refine lv_goto (tgt := 106) hx hb dL_builds_102 (by decide) ?_
      exact kk _ (by rw [← h46, if_pos c9])
  refine lv_iload hx hb dL_builds_106 (lv_at hl 1 rfl) ?_
  refine w_joinB (J := 116) (rest := [.int w1]) (P0 := fun v => v = if aF 4 S (nI ((X) % 8)) (nI (((X) / 8) % 8)) 2 = 0 then 0 else 1) (fun kk => ?_) (fun w2 n2 => ?_)
  · refine lv_if_eq (tgt := 115) hx hb dL_builds_108 (by decide) (fun c9 => ?_) (fun c9 => ?_)
    · refine lv_iconst (v := 0) hx hb dL_builds_115 (by decide) ?_
      exact kk _ (by rw [← h79, if_pos c9])
    · refine lv_iconst (v := 1) hx hb dL_builds_111 (by decide) ?_
      refine lv_goto (tgt := 116) hx hb dL_builds_112 (by decide) ?_
      exact kk _ (by rw [← h79, if_neg c9])
  refine lv_icmp_ne (tgt := 245) hx hb dL_builds_116 (by decide) (fun z => absurd (n1.trans ((bool_ne f1).trans n2.symm)) z) (fun _ => ?_)
  refine lv_iload hx hb dL_builds_119 (lv_at hl 4 rfl) ?_
  refine lv_iconst (v := 2) hx hb dL_builds_121 (by decide) ?_
  refine w_cutP (J := 131) (rest := []) (P0 := True) (fun kk => ?_) (fun _ => ?_)
  · refine lv_icmp_ne (tgt := 131) hx hb dL_builds_122 (by decide) (fun c2 => ?_) (fun c2 => ?_)
    · exact kk trivial
    · refine lv_iload hx hb dL_builds_125 (lv_at hl 3 rfl) ?_
      refine lv_iconst (v := 3) hx hb dL_builds_127 (by decide) ?_
      refine lv_icmp_ne (tgt := 245) hx hb dL_builds_128 (by decide) (fun z => absurd (h56.trans (f2 (h46.symm.trans c2))) z) (fun _ => ?_)
      exact kk trivial
  refine lv_aload_n hx hb dL_builds_131 rfl (lv_at hl 8 rfl) ?_
  refine lv_bipush (v := 8) hx hb dL_builds_132 (by decide) ?_
  refine lv_iload hx hb dL_builds_134 (lv_at hl 6 rfl) ?_
  refine lv_iload hx hb dL_builds_136 (lv_at hl 5 rfl) ?_
  refine lv_iconst (v := 0) hx hb dL_builds_138 (by decide) ?_
  refine l_go (cells' := 8) (slots' := 48) (l_runS (P := Ob D E o S) (As := [.ref o, .int 8, .int (nI ((X) % 8)), .int (nI (((X) / 8) % 8)), .int 0]) (rest := []) ⟨hx, hb, hml, hown, hts⟩ (c_call_8 l hst D E o S (nI ((X) % 8)) (nI (((X) / 8) % 8)) 0) (va_cwS 5 hts gL_builds_L_call rfl rfl rfl (by decide +kernel) ⟨Nat.le_of_ble_eq_true rfl, Nat.le_of_ble_eq_true rfl⟩) hO hKX (l_Z hZ hS (fun _ h => Or.inl h)) hNc rfl hl rfl (Nat.le_of_ble_eq_true rfl) dL_builds_139 ⟨Nat.le_of_ble_eq_true rfl, Nat.le_of_ble_eq_true rfl⟩) hS (fun _ h => Or.inl h) ⟨Nat.le_of_ble_eq_true rfl, Nat.le_of_ble_eq_true rfl⟩ (fun r139 H locs hp hq hz hS => ?_)
  obtain ⟨h139, hO⟩ := hp
  have hQ := hQ.kept hq (dj_1 hd)
  refine lv_iload hx hb dL_builds_142 (lv_at hl 4 rfl) ?_
  refine lv_icmp_ne (tgt := 245) hx hb dL_builds_144 (by decide) (fun z => absurd (h139.trans (f3.trans h46.symm)) z) (fun _ => ?_)
  refine lv_aload_n hx hb dL_builds_147 rfl (lv_at hl 9 rfl) ?_
  refine lv_bipush (v := 8) hx hb dL_builds_148 (by decide) ?_
  refine lv_iload hx hb dL_builds_150 (lv_at hl 6 rfl) ?_
  refine lv_iload hx hb dL_builds_152 (lv_at hl 5 rfl) ?_
  refine lv_iconst (v := 0) hx hb dL_builds_154 (by decide) ?_
  refine l_go (cells' := 9) (slots' := 54) (l_runS (P := Ob D E q S) (As := [.ref q, .int 8, .int (nI ((X) % 8)), .int (nI (((X) / 8) % 8)), .int 0]) (rest := []) ⟨hx, hb, hml, hown, hts⟩ (c_call_8 l hst D E q S (nI ((X) % 8)) (nI (((X) / 8) % 8)) 0) (va_cwS 5 hts gL_builds_L_call rfl rfl rfl (by decide +kernel) ⟨Nat.le_of_ble_eq_true rfl, Nat.le_of_ble_eq_true rfl⟩) hQ hKX (l_Z hZ hS (fun _ h => Or.inr h)) hNc rfl hl rfl (Nat.le_of_ble_eq_true rfl) dL_builds_155 ⟨Nat.le_of_ble_eq_true rfl, Nat.le_of_ble_eq_true rfl⟩) hS (fun _ h => Or.inr h) ⟨Nat.le_of_ble_eq_true rfl, Nat.le_of_ble_eq_true rfl⟩ (fun r155 H locs hp hq hz hS => ?_)
  obtain ⟨h155, hQ⟩ := hp
  have hO := hO.kept hq (dj_2 hd)
  refine lv_iload hx hb dL_builds_158 (lv_at hl 4 rfl) ?_
  refine lv_icmp_ne (tgt := 245) hx hb dL_builds_160 (by decide) (fun z => absurd (h155.trans (f3.trans h46.symm)) z) (fun _ => ?_)
  refine lv_aload_n hx hb dL_builds_163 rfl (lv_at hl 8 rfl) ?_
  refine lv_iconst (v := 3) hx hb dL_builds_164 (by decide) ?_
  refine lv_iload_n hx hb dL_builds_165 rfl (lv_at hl 7 rfl) ?_
  refine lv_iconst (v := 3) hx hb dL_builds_166 (by decide) ?_
  refine lv_iconst (v := 0) hx hb dL_builds_167 (by decide) ?_
  refine l_go (cells' := 10) (slots' := 60) (l_runS (P := Ob D E o (tF 8 S (nI ((X) % 8)) (nI (((X) / 8) % 8)))) (As := [.ref o, .int 3, .int (nI (P)), .int 3, .int 0]) (rest := []) ⟨hx, hb, hml, hown, hts⟩ (c_call_3 l hst D E o (tF 8 S (nI ((X) % 8)) (nI (((X) / 8) % 8))) (nI (P)) 3 0) (va_cwS 5 hts gL_builds_L_call rfl rfl rfl (by decide +kernel) ⟨Nat.le_of_ble_eq_true rfl, Nat.le_of_ble_eq_true rfl⟩) hO hKX (l_Z hZ hS (fun _ h => Or.inl h)) hNc rfl hl rfl (Nat.le_of_ble_eq_true rfl) dL_builds_168 ⟨Nat.le_of_ble_eq_true rfl, Nat.le_of_ble_eq_true rfl⟩) hS (fun _ h => Or.inl h) ⟨Nat.le_of_ble_eq_true rfl, Nat.le_of_ble_eq_true rfl⟩ (fun r168 H locs hp hq hz hS => ?_)
  obtain ⟨h168, hO⟩ := hp
  rw [tF_3] at hO
  have hQ := hQ.kept hq (dj_1 hd)
  refine lv_iload hx hb dL_builds_171 (lv_at hl 3 rfl) ?_
  refine lv_iload hx hb dL_builds_173 (lv_at hl 4 rfl) ?_
  refine w_joinB (J := 183) (rest := [.int r56, .int r168]) (P0 := fun v => v = if aF 13 S (nI ((X) % 8)) (nI (((X) / 8) % 8)) 0 = 0 then 1 else 0) (fun kk => ?_) (fun w3 n3 => ?_)
  · refine lv_if_ne (tgt := 182) hx hb dL_builds_175 (by decide) (fun c9 => ?_) (fun c9 => ?_)
    · refine lv_iconst (v := 0) hx hb dL_builds_182 (by decide) ?_
      exact kk _ (by rw [← h46, if_neg c9])
    · refine lv_iconst (v := 1) hx hb dL_builds_178 (by decide) ?_
      refine lv_goto (tgt := 183) hx hb dL_builds_179 (by decide) ?_
      exact kk _ (by rw [← h46, if_pos c9])
  refine lv_iadd hx hb dL_builds_183 ?_
  refine lv_icmp_ne (tgt := 245) hx hb dL_builds_184 (by decide) (fun z => absurd (by rw [h168, h56, n3]; exact f4) z) (fun _ => ?_)
  refine lv_aload_n hx hb dL_builds_187 rfl (lv_at hl 8 rfl) ?_
  refine lv_iconst (v := 2) hx hb dL_builds_188 (by decide) ?_
  refine lv_bipush (v := 7) hx hb dL_builds_189 (by decide) ?_
  refine lv_iconst (v := 0) hx hb dL_builds_191 (by decide) ?_
  refine lv_iconst (v := 0) hx hb dL_builds_192 (by decide) ?_
  refine l_go (cells' := 11) (slots' := 66) (l_runS (P := Ob D E o (tF 8 S (nI ((X) % 8)) (nI (((X) / 8) % 8)))) (As := [.ref o, .int 2, .int 7, .int 0, .int 0]) (rest := []) ⟨hx, hb, hml, hown, hts⟩ (c_call_2 l hst D E o (tF 8 S (nI ((X) % 8)) (nI (((X) / 8) % 8))) 7 0 0) (va_cwS 5 hts gL_builds_L_call rfl rfl rfl (by decide +kernel) ⟨Nat.le_of_ble_eq_true rfl, Nat.le_of_ble_eq_true rfl⟩) hO hKX (l_Z hZ hS (fun _ h => Or.inl h)) hNc rfl hl rfl (Nat.le_of_ble_eq_true rfl) dL_builds_193 ⟨Nat.le_of_ble_eq_true rfl, Nat.le_of_ble_eq_true rfl⟩) hS (fun _ h => Or.inl h) ⟨Nat.le_of_ble_eq_true rfl, Nat.le_of_ble_eq_true rfl⟩ (fun r193 H locs hp hq hz hS => ?_)
  obtain ⟨h193, hO⟩ := hp
  rw [tF_2] at hO
  have hQ := hQ.kept hq (dj_1 hd)
  refine lv_iload hx hb dL_builds_196 (lv_at hl 2 rfl) ?_
  refine lv_iload hx hb dL_builds_198 (lv_at hl 4 rfl) ?_
  refine w_joinB (J := 208) (rest := [.int r67, .int r193]) (P0 := fun v => v = if aF 13 S (nI ((X) % 8)) (nI (((X) / 8) % 8)) 0 = 0 then 0 else 1) (fun kk => ?_) (fun w4 n4 => ?_)
  · refine lv_if_ne (tgt := 207) hx hb dL_builds_200 (by decide) (fun c9 => ?_) (fun c9 => ?_)
    · refine lv_iconst (v := 1) hx hb dL_builds_207 (by decide) ?_
      exact kk _ (by rw [← h46, if_neg c9])
    · refine lv_iconst (v := 0) hx hb dL_builds_203 (by decide) ?_
      refine lv_goto (tgt := 208) hx hb dL_builds_204 (by decide) ?_
      exact kk _ (by rw [← h46, if_pos c9])
  refine lv_iadd hx hb dL_builds_208 ?_
  refine lv_icmp_ne (tgt := 245) hx hb dL_builds_209 (by decide) (fun z => absurd (by rw [h193, h67, n4]; exact f5) z) (fun _ => ?_)
  exact kk _ _ _ hO hQ hS hl
set_option maxHeartbeats 8000000 in
set_option maxRecDepth 100000 in
theorem bd_3 {p : Program} {l : Launch} {e : Env} {s : State} {m : MethodId} {args : Array Value} {below : List Frame} {meth : Method} {co : Code} {D : va_G} {E : Nat → ClassId} {o : Nat} {q : Nat} {S : aT} {Q : State → Prop} {H : Heap} {locs : List Loc} {ls : Array Slot} {X P : Nat} {r46 r56 r67 r79 r90 : Int32} (K : lK p l s m args co D E (rAA o q) cL_builds 12 wsL_builds) (hd : djo o q) (hO : Ob D E o (tF 8 S (nI ((X) % 8)) (nI (((X) / 8) % 8))) H) (hQ : Ob D E q (tF 8 S (nI ((X) % 8)) (nI (((X) / 8) % 8))) H) (hS : va_S (rAA o q) s.heap H locs) (hl : lv_has ls 12 [(10, .int r90), (9, .int r79), (8, .int r67), (7, .int r56), (6, .int r46), (5, .int (nI (((X) / 8) % 8))), (4, .int (nI ((X) % 8))), (3, .int (nI (P))), (0, .ref o), (1, .ref q), (2, .int (nI (X)))]) (hX : X < 2 ^ 31) (hP : P < 2) (e2 : S.1 2 = nI P) (hph : S.1 1 = 1) (F : bdF S P (nI (X % 8)) (nI (X / 8 % 8))) (h46 : r46 = aF 13 S (nI ((X) % 8)) (nI (((X) / 8) % 8)) 0) (h56 : r56 = aF 3 S (nI P) 3 0) (h67 : r67 = aF 2 S 7 0 0) (h79 : r79 = aF 4 S (nI ((X) % 8)) (nI (((X) / 8) % 8)) 2) (h90 : r90 = aF 6 S 0 0 0)
    (kk : ∀ (H : Heap) (locs : List Loc) (ls : Array Slot), Ob D E o (cuS S 13) H → Ob D E q (cuS S 13) H → va_S (rAA o q) s.heap H locs → lv_has ls 12 [(11, .int 1), (10, .int r90), (9, .int r79), (8, .int r67), (7, .int r56), (6, .int r46), (5, .int (nI (((X) / 8) % 8))), (4, .int (nI ((X) % 8))), (3, .int (nI (P))), (0, .ref o), (1, .ref q), (2, .int (nI (X)))] → W p l e (lRm 9 30 180) s m args below meth co H locs (17) (102) Q (F0 m 328 ls [.int 1])) : W p l e (lRm 9 30 180) s m args below meth co H locs (12) (72) Q (F0 m 241 ls []) := by
  obtain ⟨hx, hb, hml, hown, hts, hKX, hZ, hNc, hst⟩ := K
  obtain ⟨f1, f2, f3, f4, f5, f6, f7, f8⟩ := F
  refine lv_iconst (v := 1) hx hb dL_builds_241 (by decide) ?_
  refine lv_goto (tgt := 246) hx hb dL_builds_242 (by decide) ?_
  refine lv_istore (lv' := [(11, .int 1), (10, .int r90), (9, .int r79), (8, .int r67), (7, .int r56), (6, .int r46), (5, .int (nI (((X) / 8) % 8))), (4, .int (nI ((X) % 8))), (3, .int (nI (P))), (0, .ref o), (1, .ref q), (2, .int (nI (X)))]) hx hb dL_builds_246 hl (by decide) rfl (fun ls hl => ?_)
  refine lv_iload hx hb dL_builds_248 (lv_at hl 0 rfl) ?_
  refine lv_if_eq (tgt := 327) hx hb dL_builds_250 (by decide) (fun z => absurd z (show ¬ (1 : Int32) = 0 by decide)) (fun _ => ?_)
  refine lv_aload_n hx hb dL_builds_253 rfl (lv_at hl 9 rfl) ?_
  refine lv_bipush (v := 11) hx hb dL_builds_254 (by decide) ?_
  refine lv_iconst (v := 0) hx hb dL_builds_256 (by decide) ?_
  refine lv_iconst (v := 0) hx hb dL_builds_257 (by decide) ?_
  refine lv_iconst (v := 0) hx hb dL_builds_258 (by decide) ?_
  refine l_go (cells' := 13) (slots' := 78) (l_runS (P := Ob D E o (tF 8 S (nI ((X) % 8)) (nI (((X) / 8) % 8)))) (As := [.ref o, .int 11, .int 0, .int 0, .int 0]) (rest := []) ⟨hx, hb, hml, hown, hts⟩ (c_call_11 l hst D E o (tF 8 S (nI ((X) % 8)) (nI (((X) / 8) % 8))) 0 0 0) (va_cwS 5 hts gL_builds_L_call rfl rfl rfl (by decide +kernel) ⟨Nat.le_of_ble_eq_true rfl, Nat.le_of_ble_eq_true rfl⟩) hO hKX (l_Z hZ hS (fun _ h => Or.inl h)) hNc rfl hl rfl (Nat.le_of_ble_eq_true rfl) dL_builds_259 ⟨Nat.le_of_ble_eq_true rfl, Nat.le_of_ble_eq_true rfl⟩) hS (fun _ h => Or.inl h) ⟨Nat.le_of_ble_eq_true rfl, Nat.le_of_ble_eq_true rfl⟩ (fun r259 H locs hp hq hz hS => ?_)
  obtain ⟨h259, hO⟩ := hp
  rw [f8] at hO
  have hQ := hQ.kept hq (dj_1 hd)
  refine l_go (cells' := 13) (slots' := 78) (l_runS (A1 := bNo) (P := (fun _ => True)) (As := [.int r259]) (rest := []) ⟨hx, hb, hml, hown, hts⟩ (c_thrown l D E r259 (by rw [h259]; exact f7)) (va_cwS 1 hts gL_builds_L_thrown rfl rfl rfl (by decide +kernel) ⟨Nat.le_of_ble_eq_true rfl, Nat.le_of_ble_eq_true rfl⟩) trivial hKX (l_Z hZ hS (fun _ h => h.elim)) hNc rfl hl rfl (Nat.le_of_ble_eq_true rfl) dL_builds_262 ⟨Nat.le_of_ble_eq_true rfl, Nat.le_of_ble_eq_true rfl⟩) hS (fun _ h => h.elim) ⟨Nat.le_of_ble_eq_true rfl, Nat.le_of_ble_eq_true rfl⟩ (fun r262 H locs h262 hq hz hS => ?_)
  have hO := hO.kept hq (fun _ _ _ h => h)
  have hQ := hQ.kept hq (fun _ _ _ h => h)
  refine lv_if_ne (tgt := 327) hx hb dL_builds_265 (by decide) (fun z => absurd (h262) z) (fun _ => ?_)
  refine lv_aload_n hx hb dL_builds_268 rfl (lv_at hl 10 rfl) ?_
  refine lv_bipush (v := 11) hx hb dL_builds_269 (by decide) ?_
  refine lv_iconst (v := 0) hx hb dL_builds_271 (by decide) ?_
  refine lv_iconst (v := 0) hx hb dL_builds_272 (by decide) ?_
  refine lv_iconst (v := 0) hx hb dL_builds_273 (by decide) ?_
  refine l_go (cells' := 14) (slots' := 84) (l_runS (P := Ob D E q (tF 8 S (nI ((X) % 8)) (nI (((X) / 8) % 8)))) (As := [.ref q, .int 11, .int 0, .int 0, .int 0]) (rest := []) ⟨hx, hb, hml, hown, hts⟩ (c_call_11 l hst D E q (tF 8 S (nI ((X) % 8)) (nI (((X) / 8) % 8))) 0 0 0) (va_cwS 5 hts gL_builds_L_call rfl rfl rfl (by decide +kernel) ⟨Nat.le_of_ble_eq_true rfl, Nat.le_of_ble_eq_true rfl⟩) hQ hKX (l_Z hZ hS (fun _ h => Or.inr h)) hNc rfl hl rfl (Nat.le_of_ble_eq_true rfl) dL_builds_274 ⟨Nat.le_of_ble_eq_true rfl, Nat.le_of_ble_eq_true rfl⟩) hS (fun _ h => Or.inr h) ⟨Nat.le_of_ble_eq_true rfl, Nat.le_of_ble_eq_true rfl⟩ (fun r274 H locs hp hq hz hS => ?_)
  obtain ⟨h274, hQ⟩ := hp
  rw [f8] at hQ
  have hO := hO.kept hq (dj_2 hd)
  refine l_go (cells' := 14) (slots' := 84) (l_runS (A1 := bNo) (P := (fun _ => True)) (As := [.int r274]) (rest := []) ⟨hx, hb, hml, hown, hts⟩ (c_thrown l D E r274 (by rw [h274]; exact f7)) (va_cwS 1 hts gL_builds_L_thrown rfl rfl rfl (by decide +kernel) ⟨Nat.le_of_ble_eq_true rfl, Nat.le_of_ble_eq_true rfl⟩) trivial hKX (l_Z hZ hS (fun _ h => h.elim)) hNc rfl hl rfl (Nat.le_of_ble_eq_true rfl) dL_builds_277 ⟨Nat.le_of_ble_eq_true rfl, Nat.le_of_ble_eq_true rfl⟩) hS (fun _ h => h.elim) ⟨Nat.le_of_ble_eq_true rfl, Nat.le_of_ble_eq_true rfl⟩ (fun r277 H locs h277 hq hz hS => ?_)
  have hO := hO.kept hq (fun _ _ _ h => h)
  have hQ := hQ.kept hq (fun _ _ _ h => h)
  refine lv_if_ne (tgt := 327) hx hb dL_builds_280 (by decide) (fun z => absurd (h277) z) (fun _ => ?_)
  refine lv_aload_n hx hb dL_builds_283 rfl (lv_at hl 9 rfl) ?_
  refine lv_iconst (v := 4) hx hb dL_builds_284 (by decide) ?_
  refine lv_iload hx hb dL_builds_285 (lv_at hl 7 rfl) ?_
  refine lv_iload hx hb dL_builds_287 (lv_at hl 6 rfl) ?_
  refine lv_iconst (v := 2) hx hb dL_builds_289 (by decide) ?_
  refine l_go (cells' := 15) (slots' := 90) (l_runS (P := Ob D E o (cuS S 13)) (As := [.ref o, .int 4, .int (nI ((X) % 8)), .int (nI (((X) / 8) % 8)), .int 2]) (rest := []) ⟨hx, hb, hml, hown, hts⟩ (c_call_4 l hst D E o (cuS S 13) (nI ((X) % 8)) (nI (((X) / 8) % 8)) 2) (va_cwS 5 hts gL_builds_L_call rfl rfl rfl (by decide +kernel) ⟨Nat.le_of_ble_eq_true rfl, Nat.le_of_ble_eq_true rfl⟩) hO hKX (l_Z hZ hS (fun _ h => Or.inl h)) hNc rfl hl rfl (Nat.le_of_ble_eq_true rfl) dL_builds_290 ⟨Nat.le_of_ble_eq_true rfl, Nat.le_of_ble_eq_true rfl⟩) hS (fun _ h => Or.inl h) ⟨Nat.le_of_ble_eq_true rfl, Nat.le_of_ble_eq_true rfl⟩ (fun r290 H locs hp hq hz hS => ?_)
  obtain ⟨h290, hO⟩ := hp
  rw [tF_4] at hO
  have hQ := hQ.kept hq (dj_1 hd)
  refine lv_iload hx hb dL_builds_293 (lv_at hl 2 rfl) ?_
  refine lv_icmp_ne (tgt := 327) hx hb dL_builds_295 (by decide) (fun z => absurd (h290.trans ((a_ce2 (by omega) (by omega)).trans ((a_ce2 (S := S) (by omega) (by omega)).symm.trans h79.symm))) z) (fun _ => ?_)
  refine lv_aload_n hx hb dL_builds_298 rfl (lv_at hl 9 rfl) ?_
  refine lv_iconst (v := 3) hx hb dL_builds_299 (by decide) ?_
  refine lv_iload_n hx hb dL_builds_300 rfl (lv_at hl 8 rfl) ?_
  refine lv_iconst (v := 3) hx hb dL_builds_301 (by decide) ?_
  refine lv_iconst (v := 0) hx hb dL_builds_302 (by decide) ?_
  refine l_go (cells' := 16) (slots' := 96) (l_runS (P := Ob D E o (cuS S 13)) (As := [.ref o, .int 3, .int (nI (P)), .int 3, .int 0]) (rest := []) ⟨hx, hb, hml, hown, hts⟩ (c_call_3 l hst D E o (cuS S 13) (nI (P)) 3 0) (va_cwS 5 hts gL_builds_L_call rfl rfl rfl (by decide +kernel) ⟨Nat.le_of_ble_eq_true rfl, Nat.le_of_ble_eq_true rfl⟩) hO hKX (l_Z hZ hS (fun _ h => Or.inl h)) hNc rfl hl rfl (Nat.le_of_ble_eq_true rfl) dL_builds_303 ⟨Nat.le_of_ble_eq_true rfl, Nat.le_of_ble_eq_true rfl⟩) hS (fun _ h => Or.inl h) ⟨Nat.le_of_ble_eq_true rfl, Nat.le_of_ble_eq_true rfl⟩ (fun r303 H locs hp hq hz hS => ?_)
  obtain ⟨h303, hO⟩ := hp
  rw [tF_3] at hO
  have hQ := hQ.kept hq (dj_1 hd)
  refine lv_iload hx hb dL_builds_306 (lv_at hl 4 rfl) ?_
  refine lv_icmp_ne (tgt := 327) hx hb dL_builds_308 (by decide) (fun z => absurd (h303.trans ((a_pl3 hP).trans ((a_pl3 (S := S) hP).symm.trans h56.symm))) z) (fun _ => ?_)
  refine lv_aload_n hx hb dL_builds_311 rfl (lv_at hl 9 rfl) ?_
  refine lv_iconst (v := 2) hx hb dL_builds_312 (by decide) ?_
  refine lv_iconst (v := 2) hx hb dL_builds_313 (by decide) ?_
  refine lv_iconst (v := 0) hx hb dL_builds_314 (by decide) ?_
  refine lv_iconst (v := 0) hx hb dL_builds_315 (by decide) ?_
  refine l_go (cells' := 17) (slots' := 102) (l_runS (P := Ob D E o (cuS S 13)) (As := [.ref o, .int 2, .int 2, .int 0, .int 0]) (rest := []) ⟨hx, hb, hml, hown, hts⟩ (c_call_2 l hst D E o (cuS S 13) 2 0 0) (va_cwS 5 hts gL_builds_L_call rfl rfl rfl (by decide +kernel) ⟨Nat.le_of_ble_eq_true rfl, Nat.le_of_ble_eq_true rfl⟩) hO hKX (l_Z hZ hS (fun _ h => Or.inl h)) hNc rfl hl rfl (Nat.le_of_ble_eq_true rfl) dL_builds_316 ⟨Nat.le_of_ble_eq_true rfl, Nat.le_of_ble_eq_true rfl⟩) hS (fun _ h => Or.inl h) ⟨Nat.le_of_ble_eq_true rfl, Nat.le_of_ble_eq_true rfl⟩ (fun r316 H locs hp hq hz hS => ?_)
  obtain ⟨h316, hO⟩ := hp
  rw [tF_2] at hO
  have hQ := hQ.kept hq (dj_1 hd)
  refine lv_iload_n hx hb dL_builds_319 rfl (lv_at hl 8 rfl) ?_
  refine lv_icmp_ne (tgt := 327) hx hb dL_builds_320 (by decide) (fun z => absurd (h316.trans (a_ab2.trans ((if_pos hph).trans e2))) z) (fun _ => ?_)
  refine lv_iconst (v := 1) hx hb dL_builds_323 (by decide) ?_
  refine lv_goto (tgt := 328) hx hb dL_builds_324 (by decide) ?_
  exact kk _ _ _ hO hQ hS hl
set_option maxHeartbeats 8000000 in
set_option maxRecDepth 100000 in
theorem c_builds (l : Launch) (hst : l.stackTraces = false) (D : va_G) (E : Nat → ClassId) (o q : Nat) (hd : djo o q) (S : aT) (X : Nat) (hX : X < 2 ^ 31) (P : Nat) (hP : P < 2) (e2 : S.1 2 = nI P) (F : S.1 1 = 1 → bdF S P (nI (X % 8)) (nI (X / 8 % 8))) : Met l yL_builds wsL_builds (lRm 9 30 180) (lP D E [.ref o, .ref q, .int (nI X)] (fun H => Ob D E o S H ∧ Ob D E q S H) (rAA o q)) (lQ (fun r H => r = 1 ∧ ∃ n, Ob D E o (cuS S n) H ∧ Ob D E q (cuS S n) H) (rAA o q)) 30 180 (rAA o q) := by
  refine Met.ofW (cc := cL_builds) (maxL := 12) (ret := (some .boolean)) (by decide) rfl ?_
  intro p e s m args below meth co s₁ B hml hv
  obtain ⟨rfl, ⟨hO, hQ⟩, hKX, hZ, hNc⟩ := hv
  have hx := B.exec
  have hb := B.bytes
  have hr := B.returns
  have hts := atoms_spec (ws := wsL_builds) B.pre
  have hown : s.vm.findClass RL = some m.cls := findClass_of_methodNamed B.named
  have hlocks := B.notSynchronized
  have hS : va_S (rAA o q) s.heap s.heap [] := ⟨Nat.le_refl _, fun _ _ _ => rfl, fun _ h => by cases h⟩
  have hl := lv_entry ([.ref o, .ref q, .int (nI X)]) (n := 12) (Nat.le_of_ble_eq_true rfl)
  rw [lg_entry_eq]
  generalize (lg_sl ([.ref o, .ref q, .int (nI X)]) ++ List.replicate (12 - (lg_sl ([.ref o, .ref q, .int (nI X)])).length) Slot.unset).toArray = ls at hl ⊢
  have hl : lv_has ls 12 [(0, .ref o), (1, .ref q), (2, .int (nI (X)))] := hl
  have K : lK p l s m _ co D E (rAA o q) cL_builds 12 wsL_builds := ⟨hx, hb, hml, hown, hts, hKX, hZ, hNc, hst⟩
  refine lv_aload_n hx hb dL_builds_0 rfl (lv_at hl 0 rfl) ?_
  refine lv_iconst (v := 2) hx hb dL_builds_1 (by decide) ?_
  refine lv_iconst (v := 1) hx hb dL_builds_2 (by decide) ?_
  refine lv_iconst (v := 0) hx hb dL_builds_3 (by decide) ?_
  refine lv_iconst (v := 0) hx hb dL_builds_4 (by decide) ?_
  refine l_go (cells' := 1) (slots' := 6) (l_runS (P := Ob D E o S) (As := [.ref o, .int 2, .int 1, .int 0, .int 0]) (rest := []) ⟨hx, hb, hml, hown, hts⟩ (c_call_2 l hst D E o S 1 0 0) (va_cwS 5 hts gL_builds_L_call rfl rfl rfl (by decide +kernel) ⟨Nat.le_of_ble_eq_true rfl, Nat.le_of_ble_eq_true rfl⟩) hO hKX (l_Z hZ hS (fun _ h => Or.inl h)) hNc rfl hl rfl (Nat.le_of_ble_eq_true rfl) dL_builds_5 ⟨Nat.le_of_ble_eq_true rfl, Nat.le_of_ble_eq_true rfl⟩) hS (fun _ h => Or.inl h) ⟨Nat.le_of_ble_eq_true rfl, Nat.le_of_ble_eq_true rfl⟩ (fun r5 H locs hp hq hz hS => ?_)
  obtain ⟨h5, hO⟩ := hp
  have hO : Ob D E o S H := hO
  have hQ := hQ.kept hq (dj_1 hd)
  refine lv_iconst (v := 1) hx hb dL_builds_8 (by decide) ?_
  refine lv_icmp_eq (tgt := 14) hx hb dL_builds_9 (by decide) (fun cp => ?_) (fun cp => ?_)
  · have hph : S.1 1 = 1 := (h5.trans a_ab1).symm.trans cp
    have F := F hph
    refine bd_1 K hd hO hQ hS hl hX hP e2 hph F (fun H locs ls r46 r56 r67 r79 r90 hO hQ hS hl h46 h56 h67 h79 h90 => ?_)
    refine bd_2 K hd hO hQ hS hl hX hP e2 hph F h46 h56 h67 h79 h90 (fun H locs ls hO hQ hS hl => ?_)
    refine lv_iload hx hb dL_builds_212 (lv_at hl 4 rfl) ?_
    refine lv_if_gt (tgt := 241) hx hb dL_builds_214 (by decide) (fun cw => ?_) (fun cw => ?_)
    · refine W.widen (k := 12) (n := 72) (Nat.le_of_ble_eq_true rfl) (Nat.le_of_ble_eq_true rfl) ?_
      refine bd_3 K hd hO hQ hS hl hX hP e2 hph F h46 h56 h67 h79 h90 (fun H locs ls hO hQ hS hl => ?_)
      exact l_zret hx hb hr (Or.inr rfl) hlocks hS ⟨rfl, 13, hO, hQ⟩ ⟨Nat.le_of_ble_eq_true rfl, Nat.le_of_ble_eq_true rfl⟩ dL_builds_328
    · have f6 := F.2.2.2.2.2.1
      refine lv_aload_n hx hb dL_builds_217 rfl (lv_at hl 8 rfl) ?_
      refine lv_iconst (v := 4) hx hb dL_builds_218 (by decide) ?_
      refine lv_iload hx hb dL_builds_219 (lv_at hl 6 rfl) ?_
      refine lv_iload hx hb dL_builds_221 (lv_at hl 5 rfl) ?_
      refine lv_iconst (v := 3) hx hb dL_builds_223 (by decide) ?_
      refine l_go (cells' := 12) (slots' := 72) (l_runS (P := Ob D E o (tF 8 S (nI ((X) % 8)) (nI (((X) / 8) % 8)))) (As := [.ref o, .int 4, .int (nI ((X) % 8)), .int (nI (((X) / 8) % 8)), .int 3]) (rest := []) ⟨hx, hb, hml, hown, hts⟩ (c_call_4 l hst D E o (tF 8 S (nI ((X) % 8)) (nI (((X) / 8) % 8))) (nI ((X) % 8)) (nI (((X) / 8) % 8)) 3) (va_cwS 5 hts gL_builds_L_call rfl rfl rfl (by decide +kernel) ⟨Nat.le_of_ble_eq_true rfl, Nat.le_of_ble_eq_true rfl⟩) hO hKX (l_Z hZ hS (fun _ h => Or.inl h)) hNc rfl hl rfl (Nat.le_of_ble_eq_true rfl) dL_builds_224 ⟨Nat.le_of_ble_eq_true rfl, Nat.le_of_ble_eq_true rfl⟩) hS (fun _ h => Or.inl h) ⟨Nat.le_of_ble_eq_true rfl, Nat.le_of_ble_eq_true rfl⟩ (fun r224 H locs hp hq hz hS => ?_)
      obtain ⟨h224, hO⟩ := hp
      rw [tF_4] at hO
      have hQ := hQ.kept hq (dj_1 hd)
      refine lv_iload hx hb dL_builds_227 (lv_at hl 0 rfl) ?_
      refine lv_iconst (v := 1) hx hb dL_builds_229 (by decide) ?_
      refine w_joinB (J := 238) (rest := [.int r224]) (P0 := fun v => v = if aF 6 S 0 0 0 = 1 then -1 else 1) (fun kk => ?_) (fun w5 n5 => ?_)
      · refine lv_icmp_ne (tgt := 237) hx hb dL_builds_230 (by decide) (fun c9 => ?_) (fun c9 => ?_)
        · refine lv_iconst (v := 1) hx hb dL_builds_237 (by decide) ?_
          exact kk _ (by rw [← h90, if_neg c9])
        · refine lv_iconst (v := (-1)) hx hb dL_builds_233 (by decide) ?_
          refine lv_goto (tgt := 238) hx hb dL_builds_234 (by decide) ?_
          exact kk _ (by rw [← h90, if_pos c9])
      refine lv_icmp_ne (tgt := 245) hx hb dL_builds_238 (by decide) (fun z => absurd (h224.trans ((f6 (by rw [← h46]; exact cw)).trans n5.symm)) z) (fun _ => ?_)
      refine bd_3 K hd hO hQ hS hl hX hP e2 hph F h46 h56 h67 h79 h90 (fun H locs ls hO hQ hS hl => ?_)
      exact l_zret hx hb hr (Or.inr rfl) hlocks hS ⟨rfl, 13, hO, hQ⟩ ⟨Nat.le_of_ble_eq_true rfl, Nat.le_of_ble_eq_true rfl⟩ dL_builds_328
  · refine lv_iconst (v := 1) hx hb dL_builds_12 (by decide) ?_
    rw [← cuS_all (S := S)] at hO hQ
    exact l_zret hx hb hr (Or.inr rfl) hlocks hS ⟨rfl, _, hO, hQ⟩ ⟨Nat.le_of_ble_eq_true rfl, Nat.le_of_ble_eq_true rfl⟩ dL_builds_13
