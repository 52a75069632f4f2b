/-! THE LAW: one turn -/
set_option maxHeartbeats 8000000 in
set_option maxRecDepth 100000 in
theorem law_C {p : Program} {l : Launch} {e : Env} {s : State} {m : MethodId} {args : Array Value} {below : List Frame} {meth : Method} {co : Code} {D : va_G} {E : Nat → ClassId} {o q b L t : Nat} {xs : Nat → Int32} {Q : State → Prop} (K : lK p l s m args co D E (aL0 s) cL_law 8 wsL_law) (hd : djo o q) (hoA : s.heap.size ≤ o) (hqA : s.heap.size ≤ q) (hX : va_X b L xs s s.heap) (hbl : b < s.heap.size) (hL : L ≤ 260) (ht : t ≤ 40) {i X : Nat} (hi : i < t) (hX31 : X < 2 ^ 31) {a0 : Int32} {T : aT} {H : Heap} {locs : List Loc} {ls : Array Slot} (g1 : gI (81 * i + 81) T) (hO : Ob D E o T H) (hQ : Ob D E q T H) (hS : va_S (aL0 s) s.heap H locs) (hl : lv_has ls 8 [(7, .int a0), (6, .int (nI (X))), (0, .ref b), (1, .ref o), (2, .ref q), (3, .int (nI (t))), (4, .int 1), (5, .int (nI (i)))])
    (kk : ∀ (T : aT) (H : Heap) (locs : List Loc) (ls : Array Slot), gI (81 * i + 81) T → Ob D E o T H → Ob D E q T H → va_S (aL0 s) s.heap H locs → lv_has ls 8 [(0, .ref b), (1, .ref o), (2, .ref q), (3, .int (nI (t))), (4, .int 1), (5, .int (nI (i + 1)))] → W p l e room_1 s m args below meth co H locs (970 * (i + 1) + 3100) (6 * (970 * (i + 1) + 3100)) Q (F0 m 34 ls [])) : W p l e room_1 s m args below meth co H locs (970 * i + 3910) (6 * (970 * i + 3910)) Q (F0 m 145 ls []) := by
  obtain ⟨hx, hb, hml, hown, hts, hKX, hZ, hNc, hst⟩ := id K
  have hAo : ∀ x, rA o x → aL0 s x := fun x h => Nat.le_trans hoA h.1
  have hAq : ∀ x, rA q x → aL0 s x := fun x h => Nat.le_trans hqA h.1
  have hAA : ∀ x, rAA o q x → aL0 s x := fun x h => h.elim (hAo x) (hAq x)
  refine lv_aload_n hx hb dL_law_145 rfl (lv_at hl 3 rfl) ?_
  refine lv_aload_n hx hb dL_law_146 rfl (lv_at hl 4 rfl) ?_
  refine lv_iload hx hb dL_law_147 (lv_at hl 1 rfl) ?_
  refine lv_bipush (v := 7) hx hb dL_law_149 (by decide) ?_
  refine w_div (a := X) (d := 7) hx hb rfl (by omega) (by decide) (by decide) dL_law_151 ?_
  refine l_go (cells' := 970 * i + 4040) (slots' := 6 * (970 * i + 4040)) (l_runS (P := (fun H => Ob D E o T H ∧ Ob D E q T H)) (As := [.ref o, .ref q, .int (nI ((X) / 7))]) (rest := []) ⟨hx, hb, hml, hown, hts⟩ (i_steps l hst D E o q hd T (X / 7) g1) (va_cwS 3 hts gL_law_L_steps rfl rfl rfl (by decide +kernel) ⟨Nat.le_of_ble_eq_true rfl, Nat.le_of_ble_eq_true rfl⟩) ⟨hO, hQ⟩ hKX (l_Z hZ hS hAA) hNc rfl hl rfl (Nat.le_of_ble_eq_true rfl) dL_law_152 ⟨by show 970 * i + 3910 + 130 ≤ 600130; omega, by show 6 * (970 * i + 3910) + 780 ≤ 7301080; omega⟩) hS hAA ⟨by omega, by omega⟩ (fun r152 H locs hp hq hz hS => ?_)
  obtain ⟨h152, n1, hO, hQ⟩ := hp
  refine lv_if_eq (tgt := 175) hx hb dL_law_155 (by decide) (fun z => absurd z (by rw [h152]; decide)) (fun _ => ?_)
  have g2 : gI (81 * i + 81) (cuS T n1) := gI_cu g1
  obtain ⟨T2, hT2⟩ : ∃ U, U = cuS T n1 := ⟨_, rfl⟩
  rw [← hT2] at hO hQ g2
  obtain ⟨M2, hs2, _⟩ := ob_5 hO
  refine lv_aload_n hx hb dL_law_158 rfl (lv_at hl 3 rfl) ?_
  refine lv_aload_n hx hb dL_law_159 rfl (lv_at hl 4 rfl) ?_
  refine lv_iload hx hb dL_law_160 (lv_at hl 1 rfl) ?_
  refine lv_bipush (v := 11) hx hb dL_law_162 (by decide) ?_
  refine w_div (a := X) (d := 11) hx hb rfl (by omega) (by decide) (by decide) dL_law_164 ?_
  refine l_go (cells' := 970 * i + 4070) (slots' := 6 * (970 * i + 4070)) (l_runS (P := (fun H => Ob D E o T2 H ∧ Ob D E q T2 H)) (As := [.ref o, .ref q, .int (nI ((X) / 11))]) (rest := []) ⟨hx, hb, hml, hown, hts⟩ (i_builds l hst D E o q hd T2 (X / 11) (by omega) g2 hs2) (va_cwS 3 hts gL_law_L_builds rfl rfl rfl (by decide +kernel) ⟨Nat.le_of_ble_eq_true rfl, Nat.le_of_ble_eq_true rfl⟩) ⟨hO, hQ⟩ hKX (l_Z hZ hS hAA) hNc rfl hl rfl (Nat.le_of_ble_eq_true rfl) dL_law_165 ⟨by show 970 * i + 4040 + 30 ≤ 600130; omega, by show 6 * (970 * i + 4040) + 180 ≤ 7301080; omega⟩) hS hAA ⟨by omega, by omega⟩ (fun r165 H locs hp hq hz hS => ?_)
  obtain ⟨h165, n2, hO, hQ⟩ := hp
  refine lv_if_eq (tgt := 175) hx hb dL_law_168 (by decide) (fun z => absurd z (by rw [h165]; decide)) (fun _ => ?_)
  have g3 : gI (81 * i + 81) (cuS T2 n2) := gI_cu g2
  obtain ⟨T3, hT3⟩ : ∃ U, U = cuS T2 n2 := ⟨_, rfl⟩
  rw [← hT3] at hO hQ g3
  refine lv_iconst (v := 1) hx hb dL_law_171 (by decide) ?_
  refine lv_goto (tgt := 176) hx hb dL_law_172 (by decide) ?_
  refine lv_istore (lv' := [(4, .int 1), (7, .int a0), (6, .int (nI (X))), (0, .ref b), (1, .ref o), (2, .ref q), (3, .int (nI (t))), (5, .int (nI (i)))]) hx hb dL_law_176 hl (by decide) rfl (fun ls hl => ?_)
  refine lv_iinc (v := (nI (i + 1))) (lv' := [(5, .int (nI (i + 1))), (4, .int 1), (7, .int a0), (6, .int (nI (X))), (0, .ref b), (1, .ref o), (2, .ref q), (3, .int (nI (t)))]) hx hb dL_law_178 hl (k := 7) rfl (nI_1 _) (by decide) rfl (fun ls hl => ?_)
  refine lv_goto (tgt := 34) hx hb dL_law_181 (by decide) ?_
  have hl : lv_has ls 8 [(0, .ref b), (1, .ref o), (2, .ref q), (3, .int (nI (t))), (4, .int 1), (5, .int (nI (i + 1)))] := lv_sub hl [4, 5, 6, 7, 1, 0] rfl
  exact W.widen (k := 970 * (i + 1) + 3100) (n := 6 * (970 * (i + 1) + 3100)) (by omega) (by omega) (kk T3 H locs ls g3 hO hQ hS hl)
set_option maxHeartbeats 8000000 in
set_option maxRecDepth 100000 in
theorem law_B {p : Program} {l : Launch} {e : Env} {s : State} {m : MethodId} {args : Array Value} {below : List Frame} {meth : Method} {co : Code} {D : va_G} {E : Nat → ClassId} {o q b L t : Nat} {xs : Nat → Int32} {Q : State → Prop} (K : lK p l s m args co D E (aL0 s) cL_law 8 wsL_law) (hd : djo o q) (hoA : s.heap.size ≤ o) (hqA : s.heap.size ≤ q) (hX : va_X b L xs s s.heap) (hbl : b < s.heap.size) (hL : L ≤ 260) (ht : t ≤ 40) {i X : Nat} (hi : i < t) (hX31 : X < 2 ^ 31) {a0 : Int32} {T : aT} {H : Heap} {locs : List Loc} {ls : Array Slot} (g1 : gI (81 * i + 81) T) (hO : Ob D E o T H) (hQ : Ob D E q T H) (hS : va_S (aL0 s) s.heap H locs) (hl : lv_has ls 8 [(7, .int a0), (6, .int (nI (X))), (0, .ref b), (1, .ref o), (2, .ref q), (3, .int (nI (t))), (4, .int 1), (5, .int (nI (i)))])
    (kk : ∀ (T : aT) (H : Heap) (locs : List Loc) (ls : Array Slot), gI (81 * i + 81) T → Ob D E o T H → Ob D E q T H → va_S (aL0 s) s.heap H locs → lv_has ls 8 [(0, .ref b), (1, .ref o), (2, .ref q), (3, .int (nI (t))), (4, .int 1), (5, .int (nI (i + 1)))] → W p l e room_1 s m args below meth co H locs (970 * (i + 1) + 3100) (6 * (970 * (i + 1) + 3100)) Q (F0 m 34 ls [])) : W p l e room_1 s m args below meth co H locs (970 * i + 3150) (6 * (970 * i + 3150)) Q (F0 m 86 ls []) := by
  obtain ⟨hx, hb, hml, hown, hts, hKX, hZ, hNc, hst⟩ := id K
  have hAo : ∀ x, rA o x → aL0 s x := fun x h => Nat.le_trans hoA h.1
  have hAq : ∀ x, rA q x → aL0 s x := fun x h => Nat.le_trans hqA h.1
  have hAA : ∀ x, rAA o q x → aL0 s x := fun x h => h.elim (hAo x) (hAq x)
  refine lv_aload_n hx hb dL_law_86 rfl (lv_at hl 4 rfl) ?_
  refine lv_iload hx hb dL_law_87 (lv_at hl 1 rfl) ?_
  refine lv_sipush (v := 1000) hx hb dL_law_89 (by decide) ?_
  refine w_rem (a := X) (d := 1000) hx hb rfl (by omega) (by decide) (by decide) dL_law_92 ?_
  refine l_go (cells' := 970 * i + 3190) (slots' := 6 * (970 * i + 3190)) (l_runS (P := (Ob D E q T)) (As := [.ref q, .int (nI ((X) % 1000))]) (rest := []) ⟨hx, hb, hml, hown, hts⟩ (i_refuses l hst D E q T (X % 1000) (by omega) g1) (va_cwS 2 hts gL_law_L_refuses rfl rfl rfl (by decide +kernel) ⟨Nat.le_of_ble_eq_true rfl, Nat.le_of_ble_eq_true rfl⟩) hQ hKX (l_Z hZ hS hAq) hNc rfl hl rfl (Nat.le_of_ble_eq_true rfl) dL_law_93 ⟨by show 970 * i + 3150 + 40 ≤ 600130; omega, by show 6 * (970 * i + 3150) + 240 ≤ 7301080; omega⟩) hS hAq ⟨by omega, by omega⟩ (fun r93 H locs hp hq hz hS => ?_)
  obtain ⟨h93, hQ⟩ := hp
  have hO := hO.kept hq (dj_2 hd)
  have hQ : Ob D E q T H := hQ
  refine lv_if_eq (tgt := 175) hx hb dL_law_96 (by decide) (fun z => absurd z (by rw [h93]; decide)) (fun _ => ?_)
  refine lv_aload_n hx hb dL_law_99 rfl (lv_at hl 3 rfl) ?_
  refine lv_aload_n hx hb dL_law_100 rfl (lv_at hl 4 rfl) ?_
  refine lv_iload hx hb dL_law_101 (lv_at hl 1 rfl) ?_
  refine lv_sipush (v := 5000) hx hb dL_law_103 (by decide) ?_
  refine w_rem (a := X) (d := 5000) hx hb rfl (by omega) (by decide) (by decide) dL_law_106 ?_
  refine l_go (cells' := 970 * i + 3290) (slots' := 6 * (970 * i + 3290)) (l_runS (P := (fun H => Ob D E o T H ∧ Ob D E q T H)) (As := [.ref o, .ref q, .int (nI ((X) % 5000))]) (rest := []) ⟨hx, hb, hml, hown, hts⟩ (c_alike l hst D E o q hd T (X % 5000) (by omega)) (va_cwS 3 hts gL_law_L_alike rfl rfl rfl (by decide +kernel) ⟨Nat.le_of_ble_eq_true rfl, Nat.le_of_ble_eq_true rfl⟩) ⟨hO, hQ⟩ hKX (l_Z hZ hS hAA) hNc rfl hl rfl (Nat.le_of_ble_eq_true rfl) dL_law_107 ⟨by show 970 * i + 3190 + 100 ≤ 600130; omega, by show 6 * (970 * i + 3190) + 600 ≤ 7301080; omega⟩) hS hAA ⟨by omega, by omega⟩ (fun r107 H locs hp hq hz hS => ?_)
  obtain ⟨h107, hO, hQ⟩ := hp
  refine lv_if_eq (tgt := 175) hx hb dL_law_110 (by decide) (fun z => absurd z (by rw [h107]; decide)) (fun _ => ?_)
  refine lv_iload hx hb dL_law_113 (lv_at hl 7 rfl) ?_
  refine lv_iconst (v := 2) hx hb dL_law_115 (by decide) ?_
  refine w_rem (a := i) (d := 2) hx hb rfl (by omega) (by decide) (by decide) dL_law_116 ?_
  have hV : 81 * i + 81 < 2 ^ 30 := by omega
  refine lv_if_ne (tgt := 134) hx hb dL_law_117 (by decide) (fun _ => ?_) (fun _ => ?_)
  · obtain ⟨M2, hs2, h5⟩ := ob_5 hQ
    refine lv_aload_n hx hb dL_law_134 rfl (lv_at hl 4 rfl) ?_
    refine lv_iload hx hb dL_law_135 (lv_at hl 1 rfl) ?_
    refine lv_iconst (v := 3) hx hb dL_law_137 (by decide) ?_
    refine w_div (a := X) (d := 3) hx hb rfl (by omega) (by decide) (by decide) dL_law_138 ?_
    refine l_go (cells' := 970 * i + 3910) (slots' := 6 * (970 * i + 3910)) (l_runS (P := (Ob D E q T)) (As := [.ref q, .int (nI ((X) / 3))]) (rest := []) ⟨hx, hb, hml, hown, hts⟩ (i_holds l hst D E q T (X / 3) (by omega) g1 hV h5) (va_cwS 2 hts gL_law_L_holds rfl rfl rfl (by decide +kernel) ⟨Nat.le_of_ble_eq_true rfl, Nat.le_of_ble_eq_true rfl⟩) hQ hKX (l_Z hZ hS hAq) hNc rfl hl rfl (Nat.le_of_ble_eq_true rfl) dL_law_139 ⟨by show 970 * i + 3290 + 620 ≤ 600130; omega, by show 6 * (970 * i + 3290) + 3720 ≤ 7301080; omega⟩) hS hAq ⟨by omega, by omega⟩ (fun r139 H locs hp hq hz hS => ?_)
    obtain ⟨h139, hQ⟩ := hp
    have hO := hO.kept hq (dj_2 hd)
    have hQ : Ob D E q T H := hQ
    refine lv_if_eq (tgt := 175) hx hb dL_law_142 (by decide) (fun z => absurd z (by rw [h139]; decide)) (fun _ => ?_)
    exact law_C K hd hoA hqA hX hbl hL ht hi hX31 g1 hO hQ hS hl kk
  · obtain ⟨M2, hs2, h5⟩ := ob_5 hO
    refine lv_aload_n hx hb dL_law_120 rfl (lv_at hl 3 rfl) ?_
    refine lv_iload hx hb dL_law_121 (lv_at hl 1 rfl) ?_
    refine lv_iconst (v := 3) hx hb dL_law_123 (by decide) ?_
    refine w_div (a := X) (d := 3) hx hb rfl (by omega) (by decide) (by decide) dL_law_124 ?_
    refine l_go (cells' := 970 * i + 3910) (slots' := 6 * (970 * i + 3910)) (l_runS (P := (Ob D E o T)) (As := [.ref o, .int (nI ((X) / 3))]) (rest := []) ⟨hx, hb, hml, hown, hts⟩ (i_holds l hst D E o T (X / 3) (by omega) g1 hV h5) (va_cwS 2 hts gL_law_L_holds rfl rfl rfl (by decide +kernel) ⟨Nat.le_of_ble_eq_true rfl, Nat.le_of_ble_eq_true rfl⟩) hO hKX (l_Z hZ hS hAo) hNc rfl hl rfl (Nat.le_of_ble_eq_true rfl) dL_law_125 ⟨by show 970 * i + 3290 + 620 ≤ 600130; omega, by show 6 * (970 * i + 3290) + 3720 ≤ 7301080; omega⟩) hS hAo ⟨by omega, by omega⟩ (fun r125 H locs hp hq hz hS => ?_)
    obtain ⟨h125, hO⟩ := hp
    have hQ := hQ.kept hq (dj_1 hd)
    have hO : Ob D E o T H := hO
    refine lv_if_eq (tgt := 175) hx hb dL_law_128 (by decide) (fun z => absurd z (by rw [h125]; decide)) (fun _ => ?_)
    refine lv_goto (tgt := 145) hx hb dL_law_131 (by decide) ?_
    exact law_C K hd hoA hqA hX hbl hL ht hi hX31 g1 hO hQ hS hl kk
set_option maxHeartbeats 8000000 in
set_option maxRecDepth 100000 in
theorem law_A {p : Program} {l : Launch} {e : Env} {s : State} {m : MethodId} {args : Array Value} {below : List Frame} {meth : Method} {co : Code} {D : va_G} {E : Nat → ClassId} {o q b L t : Nat} {xs : Nat → Int32} {Q : State → Prop} (K : lK p l s m args co D E (aL0 s) cL_law 8 wsL_law) (hd : djo o q) (hoA : s.heap.size ≤ o) (hqA : s.heap.size ≤ q) (hX : va_X b L xs s s.heap) (hbl : b < s.heap.size) (hL : L ≤ 260) (ht : t ≤ 40) {i : Nat} (hi : i < t) {S : aT} {H : Heap} {locs : List Loc} {ls : Array Slot} (g : gI (81 * i) S) (hO : Ob D E o S H) (hQ : Ob D E q S H) (hS : va_S (aL0 s) s.heap H locs) (hl : lv_has ls 8 [(0, .ref b), (1, .ref o), (2, .ref q), (3, .int (nI (t))), (4, .int 1), (5, .int (nI (i)))])
    (kk : ∀ (T : aT) (H : Heap) (locs : List Loc) (ls : Array Slot), gI (81 * i + 81) T → Ob D E o T H → Ob D E q T H → va_S (aL0 s) s.heap H locs → lv_has ls 8 [(0, .ref b), (1, .ref o), (2, .ref q), (3, .int (nI (t))), (4, .int 1), (5, .int (nI (i + 1)))] → W p l e room_1 s m args below meth co H locs (970 * (i + 1) + 3100) (6 * (970 * (i + 1) + 3100)) Q (F0 m 34 ls [])) : W p l e room_1 s m args below meth co H locs (970 * (i) + 3100) (6 * (970 * (i) + 3100)) Q (F0 m 34 ls []) := by
  obtain ⟨hx, hb, hml, hown, hts, hKX, hZ, hNc, hst⟩ := id K
  have hAo : ∀ x, rA o x → aL0 s x := fun x h => Nat.le_trans hoA h.1
  have hAq : ∀ x, rA q x → aL0 s x := fun x h => Nat.le_trans hqA h.1
  have hAA : ∀ x, rAA o q x → aL0 s x := fun x h => h.elim (hAo x) (hAq x)
  refine lv_iload hx hb dL_law_34 (lv_at hl 5 rfl) ?_
  refine lv_iload_n hx hb dL_law_36 rfl (lv_at hl 3 rfl) ?_
  refine lv_icmp_ge (tgt := 184) hx hb dL_law_37 (by decide) (fun z => absurd z (nI_ge (a := i) (b := t) hi (by omega))) (fun _ => ?_)
  refine lv_iload hx hb dL_law_40 (lv_at hl 4 rfl) ?_
  refine lv_if_eq (tgt := 184) hx hb dL_law_42 (by decide) (fun z => absurd z (show ¬ (1 : Int32) = 0 by decide)) (fun _ => ?_)
  refine lv_aload_n hx hb dL_law_45 rfl (lv_at hl 0 rfl) ?_
  refine lv_iconst (v := 1) hx hb dL_law_46 (by decide) ?_
  refine lv_iload hx hb dL_law_47 (lv_at hl 5 rfl) ?_
  refine w_add (i := 1) (j := i) hx hb rfl rfl dL_law_49 ?_
  refine l_go (cells' := 970 * i + 3100) (slots' := 6 * (970 * i + 3100)) (l_runE (k := 1 + i) (rest := []) ⟨hx, hb, hml, hown, hts⟩ (c_cell l b L (1 + i) xs hL (by omega)) (va_cwS 2 hts gL_law_L_cell rfl rfl rfl (by decide +kernel) ⟨Nat.le_of_ble_eq_true rfl, Nat.le_of_ble_eq_true rfl⟩) hX hbl (fun h => Nat.not_le_of_lt hbl h) hS rfl hl rfl (Nat.le_of_ble_eq_true rfl) dL_law_50 ⟨by show 970 * i + 3100 + 0 ≤ 600130; omega, by show 6 * (970 * i + 3100) + 0 ≤ 7301080; omega⟩) hS (fun _ h => h.elim) ⟨by omega, by omega⟩ (fun r50 H locs hp hq hz hS => ?_)
  have hO := hO.kept hq (fun _ _ _ h => h)
  have hQ := hQ.kept hq (fun _ _ _ h => h)
  obtain ⟨X, hX31, rfl⟩ := hp
  obtain ⟨a0, T, hac⟩ : ∃ a T, actR S X = (a, T) := ⟨_, _, rfl⟩
  have g1 : gI (81 * i + 81) T := by
    have h := gI_act (X := X) (by omega) g
    rw [hac] at h
    exact h
  refine lv_istore (lv' := [(6, .int (nI (X))), (0, .ref b), (1, .ref o), (2, .ref q), (3, .int (nI (t))), (4, .int 1), (5, .int (nI (i)))]) hx hb dL_law_53 hl (by decide) rfl (fun ls hl => ?_)
  refine lv_aload_n hx hb dL_law_55 rfl (lv_at hl 2 rfl) ?_
  refine lv_iload hx hb dL_law_56 (lv_at hl 0 rfl) ?_
  refine l_go (cells' := 970 * i + 3105) (slots' := 6 * (970 * i + 3105)) (l_runS (P := (Ob D E o S)) (As := [.ref o, .int (nI (X))]) (rest := []) ⟨hx, hb, hml, hown, hts⟩ (c_act l hst D E o S X hX31) (va_cwS 2 hts gL_law_L_act rfl rfl rfl (by decide +kernel) ⟨Nat.le_of_ble_eq_true rfl, Nat.le_of_ble_eq_true rfl⟩) hO hKX (l_Z hZ hS hAo) hNc rfl hl rfl (Nat.le_of_ble_eq_true rfl) dL_law_58 ⟨by show 970 * i + 3100 + 5 ≤ 600130; omega, by show 6 * (970 * i + 3100) + 30 ≤ 7301080; omega⟩) hS hAo ⟨by omega, by omega⟩ (fun r58 H locs hp hq hz hS => ?_)
  obtain ⟨h58, hO⟩ := hp
  have hQ := hQ.kept hq (dj_1 hd)
  rw [hac] at h58 hO
  dsimp only at h58 hO
  subst h58
  refine lv_istore (lv' := [(7, .int r58), (6, .int (nI (X))), (0, .ref b), (1, .ref o), (2, .ref q), (3, .int (nI (t))), (4, .int 1), (5, .int (nI (i)))]) hx hb dL_law_61 hl (by decide) rfl (fun ls hl => ?_)
  refine lv_aload_n hx hb dL_law_63 rfl (lv_at hl 4 rfl) ?_
  refine lv_iload hx hb dL_law_64 (lv_at hl 1 rfl) ?_
  refine lv_ldc (v := (100000)) hx hb hown (hts (.constant RL 183 (100000)) (List.mem_of_getElem? (i := 3) (by decide +kernel))) dL_law_66 ?_
  refine w_rem (a := X) (d := 100000) hx hb rfl (by omega) (by decide) (by decide) dL_law_68 ?_
  refine l_go (cells' := 970 * i + 3145) (slots' := 6 * (970 * i + 3145)) (l_runS (P := (Ob D E q S)) (As := [.ref q, .int (nI ((X) % 100000))]) (rest := []) ⟨hx, hb, hml, hown, hts⟩ (i_refuses l hst D E q S (X % 100000) (by omega) g) (va_cwS 2 hts gL_law_L_refuses rfl rfl rfl (by decide +kernel) ⟨Nat.le_of_ble_eq_true rfl, Nat.le_of_ble_eq_true rfl⟩) hQ hKX (l_Z hZ hS hAq) hNc rfl hl rfl (Nat.le_of_ble_eq_true rfl) dL_law_69 ⟨by show 970 * i + 3105 + 40 ≤ 600130; omega, by show 6 * (970 * i + 3105) + 240 ≤ 7301080; omega⟩) hS hAq ⟨by omega, by omega⟩ (fun r69 H locs hp hq hz hS => ?_)
  obtain ⟨h69, hQ⟩ := hp
  have hO := hO.kept hq (dj_2 hd)
  have hQ : Ob D E q S H := hQ
  refine lv_if_eq (tgt := 175) hx hb dL_law_72 (by decide) (fun z => absurd z (by rw [h69]; decide)) (fun _ => ?_)
  refine lv_aload_n hx hb dL_law_75 rfl (lv_at hl 4 rfl) ?_
  refine lv_iload hx hb dL_law_76 (lv_at hl 1 rfl) ?_
  refine l_go (cells' := 970 * i + 3150) (slots' := 6 * (970 * i + 3150)) (l_runS (P := (Ob D E q S)) (As := [.ref q, .int (nI (X))]) (rest := []) ⟨hx, hb, hml, hown, hts⟩ (c_act l hst D E q S X hX31) (va_cwS 2 hts gL_law_L_act rfl rfl rfl (by decide +kernel) ⟨Nat.le_of_ble_eq_true rfl, Nat.le_of_ble_eq_true rfl⟩) hQ hKX (l_Z hZ hS hAq) hNc rfl hl rfl (Nat.le_of_ble_eq_true rfl) dL_law_78 ⟨by show 970 * i + 3145 + 5 ≤ 600130; omega, by show 6 * (970 * i + 3145) + 30 ≤ 7301080; omega⟩) hS hAq ⟨by omega, by omega⟩ (fun r78 H locs hp hq hz hS => ?_)
  obtain ⟨h78, hQ⟩ := hp
  have hO := hO.kept hq (dj_2 hd)
  rw [hac] at h78 hQ
  dsimp only at h78 hQ
  refine lv_iload hx hb dL_law_81 (lv_at hl 0 rfl) ?_
  refine lv_icmp_ne (tgt := 175) hx hb dL_law_83 (by decide) (fun z => absurd (h78) z) (fun _ => ?_)
  exact law_B K hd hoA hqA hX hbl hL ht hi hX31 g1 hO hQ hS hl kk
