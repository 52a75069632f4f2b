/-! THE LAW'S LOOP -/
theorem lwI_up {s : State} {D : va_G} {E : Nat → ClassId} {H : Heap} {locs : List Loc} {M R : bM} {f : Nat → Int64} {V W : Nat} (h : V ≤ W) (I : lwI s D E H locs M R f V) : lwI s D E H locs M R f W := ⟨I.1, I.2.1, I.2.2.1, I.2.2.2.1, I.2.2.2.2.1, gB_fr h rfl rfl rfl I.2.2.2.2.2⟩
/-- one turn: the switch and its cases -/
theorem law_turn {p : Program} {l : Launch} {e : Env} {Rm : Room} {s : State} {m : MethodId} {args : Array Value} {below : List Frame} {meth : Method} {c : Code} {b L : Nat} {xs : Nat → Int32} {D : va_G} {E : Nat → ClassId} (C0 : lwC p l s m args meth c b L xs D E) (hRm : 12 ≤ Rm.frames ∧ 400 ≤ Rm.locals) {Q : State → Prop} {H : Heap} {locs : List Loc} {cells slots : Nat} {ls : Array Slot} {M R : bM} {f : Nat → Int64} {i V : Nat} (hV : 121 ≤ V) (hV8 : V + 8 < 2 ^ 20) (I : lwI s D E H locs M R f V) (hl : lv_has ls 7 (lwV s b i)) (hi : i + 3 < L) (hf : cells + 1 ≤ Rm.cells ∧ slots + 6 ≤ Rm.slots)
    (kk : ∀ (M1 R1 : bM) (f1 : Nat → Int64) (H1 : Heap) (locs1 : List Loc) (ls1 : Array Slot), lwI s D E H1 locs1 M1 R1 f1 (V + 1) → lv_has ls1 7 (lwV s b i) → W p l e Rm s m args below meth c H1 locs1 (cells + 1) (slots + 6) Q (F0 m 1529 ls1 [])) : W p l e Rm s m args below meth c H locs cells slots Q (F0 m 32 ls []) := by
  obtain ⟨hx, hb, hml, hown, hts, hX, hbl, hKX, hZ, hNc, hst, hL⟩ := id C0
  obtain ⟨hB, hR, hP, hS, hs, hg⟩ := id I
  refine lv_aload_n hx hb dL_law_32 rfl (lv_at hl 0 rfl) ?_
  refine lv_iload hx hb dL_law_33 (lv_at hl 4 rfl) ?_
  refine w_sld hx hb hX hbl hS hL (show i < L by omega) dL_law_35 ?_
  refine lv_bipush (v := 31) hx hb dL_law_36 (by decide) ?_
  refine lv_iand hx hb dL_law_38 ?_
  generalize xs i &&& 31 = z
  by_cases c0 : z = 0
  · exact b_tabI (off := 113) (tgt := 152) hx hb 0 dL_law_39 (by rw [c0]; decide) (by decide) (by decide) rfl (by decide) (l_append C0 hRm hV hV8 I hl hi hf kk)
  by_cases c1 : z = 1
  · exact b_tabI (off := 169) (tgt := 208) hx hb 1 dL_law_39 (by rw [c1]; decide) (by decide) (by decide) rfl (by decide) (l_clearText C0 hRm hV hV8 I hl hi hf kk)
  by_cases c2 : z = 2
  · exact b_tabI (off := 182) (tgt := 221) hx hb 2 dL_law_39 (by rw [c2]; decide) (by decide) (by decide) rfl (by decide) (l_errorPosition C0 hRm hV hV8 I hl hi hf kk)
  by_cases c3 : z = 3
  · exact b_tabI (off := 195) (tgt := 234) hx hb 3 dL_law_39 (by rw [c3]; decide) (by decide) (by decide) rfl (by decide) (l_load C0 hRm hV hV8 I hl hi hf kk)
  by_cases c4 : z = 4
  · exact b_tabI (off := 239) (tgt := 278) hx hb 4 dL_law_39 (by rw [c4]; decide) (by decide) (by decide) rfl (by decide) (l_about C0 hRm hV hV8 I hl hi hf kk)
  by_cases c5 : z = 5
  · exact b_tabI (off := 295) (tgt := 334) hx hb 5 dL_law_39 (by rw [c5]; decide) (by decide) (by decide) rfl (by decide) (l_playerOf C0 hRm hV hV8 I hl hi hf kk)
  by_cases c6 : z = 6
  · exact b_tabI (off := 363) (tgt := 402) hx hb 6 dL_law_39 (by rw [c6]; decide) (by decide) (by decide) rfl (by decide) (l_cellOf C0 hRm hV hV8 I hl hi hf kk)
  by_cases c7 : z = 7
  · exact b_tabI (off := 443) (tgt := 482) hx hb 7 dL_law_39 (by rw [c7]; decide) (by decide) (by decide) rfl (by decide) (l_course C0 hRm hV hV8 I hl hi hf kk)
  by_cases c8 : z = 8
  · exact b_tabI (off := 511) (tgt := 550) hx hb 8 dL_law_39 (by rw [c8]; decide) (by decide) (by decide) rfl (by decide) (l_setting C0 hRm hV hV8 I hl hi hf kk)
  by_cases c9 : z = 9
  · exact b_tabI (off := 567) (tgt := 606) hx hb 9 dL_law_39 (by rw [c9]; decide) (by decide) (by decide) rfl (by decide) (l_game C0 hRm hV hV8 I hl hi hf kk)
  by_cases c10 : z = 10
  · exact b_tabI (off := 624) (tgt := 663) hx hb 10 dL_law_39 (by rw [c10]; decide) (by decide) (by decide) rfl (by decide) (l_step C0 hRm hV hV8 I hl hi hf kk)
  by_cases c11 : z = 11
  · exact b_tabI (off := 680) (tgt := 719) hx hb 11 dL_law_39 (by rw [c11]; decide) (by decide) (by decide) rfl (by decide) (l_dam C0 hRm hV hV8 I hl hi hf kk)
  by_cases c12 : z = 12
  · exact b_tabI (off := 748) (tgt := 787) hx hb 12 dL_law_39 (by rw [c12]; decide) (by decide) (by decide) rfl (by decide) (l_flood C0 hRm hV hV8 I hl hi hf kk)
  by_cases c13 : z = 13
  · exact b_tabI (off := 792) (tgt := 831) hx hb 13 dL_law_39 (by rw [c13]; decide) (by decide) (by decide) rfl (by decide) (l_set C0 hRm hV hV8 I hl hi hf kk)
  by_cases c14 : z = 14
  · exact b_tabI (off := 860) (tgt := 899) hx hb 14 dL_law_39 (by rw [c14]; decide) (by decide) (by decide) rfl (by decide) (l_undo C0 hRm hV hV8 I hl hi hf kk)
  by_cases c15 : z = 15
  · exact b_tabI (off := 904) (tgt := 943) hx hb 15 dL_law_39 (by rw [c15]; decide) (by decide) (by decide) rfl (by decide) (l_why C0 hRm hV hV8 I hl hi hf kk)
  by_cases c16 : z = 16
  · exact b_tabI (off := 960) (tgt := 999) hx hb 16 dL_law_39 (by rw [c16]; decide) (by decide) (by decide) rfl (by decide) (l_whyDam C0 hRm hV hV8 I hl hi hf kk)
  by_cases c17 : z = 17
  · exact b_tabI (off := 1028) (tgt := 1067) hx hb 17 dL_law_39 (by rw [c17]; decide) (by decide) (by decide) rfl (by decide) (l_cheapest C0 hRm hV hV8 I hl hi hf kk)
  by_cases c18 : z = 18
  · exact b_tabI (off := 1096) (tgt := 1135) hx hb 18 dL_law_39 (by rw [c18]; decide) (by decide) (by decide) rfl (by decide) (l_meetsIn C0 hRm hV hV8 I hl hi hf kk)
  by_cases c19 : z = 19
  · exact b_tabI (off := 1152) (tgt := 1191) hx hb 19 dL_law_39 (by rw [c19]; decide) (by decide) (by decide) rfl (by decide) (l_leastWished C0 hRm hV hV8 I hl hi hf kk)
  by_cases c20 : z = 20
  · exact b_tabI (off := 1165) (tgt := 1204) hx hb 20 dL_law_39 (by rw [c20]; decide) (by decide) (by decide) rfl (by decide) (l_best C0 hRm hV hV8 I hl hi hf kk)
  by_cases c21 : z = 21
  · exact b_tabI (off := 1178) (tgt := 1217) hx hb 21 dL_law_39 (by rw [c21]; decide) (by decide) (by decide) rfl (by decide) (l_runScript C0 hRm hV hV8 I hl hi hf kk)
  by_cases c22 : z = 22
  · exact b_tabI (off := 1278) (tgt := 1317) hx hb 22 dL_law_39 (by rw [c22]; decide) (by decide) (by decide) rfl (by decide) (l_simulate C0 hRm hV hV8 I hl hi hf kk)
  by_cases c23 : z = 23
  · exact b_tabI (off := 1378) (tgt := 1417) hx hb 23 dL_law_39 (by rw [c23]; decide) (by decide) (by decide) rfl (by decide) (l_save C0 hRm hV hV8 I hl hi hf kk)
  by_cases c24 : z = 24
  · exact b_tabI (off := 1434) (tgt := 1473) hx hb 24 dL_law_39 (by rw [c24]; decide) (by decide) (by decide) rfl (by decide) (l_restore C0 hRm hV hV8 I hl hi hf kk)
  refine b_tabD (tgt := 1529) hx hb [0, 1, 2, 3, 4, 5, 6, 7, 8, 9, 10, 11, 12, 13, 14, 15, 16, 17, 18, 19, 20, 21, 22, 23, 24] dL_law_39 (fun j hj => Or.inr ?_) (by decide) (fun v hv => ?_) (by decide) (W.widen (k := cells + 1) (n := slots + 6) (Nat.le_succ _) (Nat.le_add_right _ _) (kk M R f H locs ls (lwI_up (Nat.le_succ V) I) hl))
  · have hj : j < 25 := hj
    have h25 : ∀ j : Fin 25, (0 : Int) + (j.val : Int) ∈ ([0, 1, 2, 3, 4, 5, 6, 7, 8, 9, 10, 11, 12, 13, 14, 15, 16, 17, 18, 19, 20, 21, 22, 23, 24] : List Int) := by decide
    exact h25 ⟨j, hj⟩
  · intro hz
    have hne : ∀ k : Nat, k < 25 → ¬ z = nI k := fun k hk e => by
      rcases (by omega : k = 0 ∨ k = 1 ∨ k = 2 ∨ k = 3 ∨ k = 4 ∨ k = 5 ∨ k = 6 ∨ k = 7 ∨ k = 8 ∨ k = 9 ∨ k = 10 ∨ k = 11 ∨ k = 12 ∨ k = 13 ∨ k = 14 ∨ k = 15 ∨ k = 16 ∨ k = 17 ∨ k = 18 ∨ k = 19 ∨ k = 20 ∨ k = 21 ∨ k = 22 ∨ k = 23 ∨ k = 24) with rfl | rfl | rfl | rfl | rfl | rfl | rfl | rfl | rfl | rfl | rfl | rfl | rfl | rfl | rfl | rfl | rfl | rfl | rfl | rfl | rfl | rfl | rfl | rfl | rfl
      · exact c0 e
      · exact c1 e
      · exact c2 e
      · exact c3 e
      · exact c4 e
      · exact c5 e
      · exact c6 e
      · exact c7 e
      · exact c8 e
      · exact c9 e
      · exact c10 e
      · exact c11 e
      · exact c12 e
      · exact c13 e
      · exact c14 e
      · exact c15 e
      · exact c16 e
      · exact c17 e
      · exact c18 e
      · exact c19 e
      · exact c20 e
      · exact c21 e
      · exact c22 e
      · exact c23 e
      · exact c24 e
    have hv25 : ∃ k : Nat, k < 25 ∧ v = (k : Int) := by
      simp only [List.mem_cons, List.not_mem_nil, or_false] at hv
      rcases hv with rfl | rfl | rfl | rfl | rfl | rfl | rfl | rfl | rfl | rfl | rfl | rfl | rfl | rfl | rfl | rfl | rfl | rfl | rfl | rfl | rfl | rfl | rfl | rfl | rfl
      · exact ⟨0, by decide, rfl⟩
      · exact ⟨1, by decide, rfl⟩
      · exact ⟨2, by decide, rfl⟩
      · exact ⟨3, by decide, rfl⟩
      · exact ⟨4, by decide, rfl⟩
      · exact ⟨5, by decide, rfl⟩
      · exact ⟨6, by decide, rfl⟩
      · exact ⟨7, by decide, rfl⟩
      · exact ⟨8, by decide, rfl⟩
      · exact ⟨9, by decide, rfl⟩
      · exact ⟨10, by decide, rfl⟩
      · exact ⟨11, by decide, rfl⟩
      · exact ⟨12, by decide, rfl⟩
      · exact ⟨13, by decide, rfl⟩
      · exact ⟨14, by decide, rfl⟩
      · exact ⟨15, by decide, rfl⟩
      · exact ⟨16, by decide, rfl⟩
      · exact ⟨17, by decide, rfl⟩
      · exact ⟨18, by decide, rfl⟩
      · exact ⟨19, by decide, rfl⟩
      · exact ⟨20, by decide, rfl⟩
      · exact ⟨21, by decide, rfl⟩
      · exact ⟨22, by decide, rfl⟩
      · exact ⟨23, by decide, rfl⟩
      · exact ⟨24, by decide, rfl⟩
    obtain ⟨k, hk, rfl⟩ := hv25
    exact hne k hk (Int32.toInt_inj.mp (by rw [hz, nI_toInt (by omega)]))
theorem law_loop {p : Program} {l : Launch} {e : Env} {Rm : Room} {s : State} {m : MethodId} {args : Array Value} {below : List Frame} {meth : Method} {c : Code} {b L : Nat} {xs : Nat → Int32} {D : va_G} {E : Nat → ClassId} (C0 : lwC p l s m args meth c b L xs D E) (hRm : 12 ≤ Rm.frames ∧ 400 ≤ Rm.locals) {Q : State → Prop}
    (kend : ∀ (H : Heap) (locs : List Loc) (cells slots : Nat) (ls : Array Slot), va_S (aL0 s) s.heap H locs → cells ≤ Rm.cells → slots ≤ Rm.slots → W p l e Rm s m args below meth c H locs cells slots Q (F0 m 1535 ls [])) :
    ∀ (n i V cells slots : Nat) (H : Heap) (locs : List Loc) (ls : Array Slot) (M R : bM) (f : Nat → Int64), L < i + 4 * n + 4 → i ≤ 4096 → 121 ≤ V → V + n + 8 < 2 ^ 20 → cells + n ≤ Rm.cells → slots + 6 * n ≤ Rm.slots → lwI s D E H locs M R f V → lv_has ls 7 (lwV s b i) → W p l e Rm s m args below meth c H locs cells slots Q (F0 m 23 ls []) := by
  obtain ⟨hx, hb, hml, hown, hts, hX, hbl, hKX, hZ, hNc, hst, hL⟩ := id C0
  intro n
  induction n with
  | zero =>
    intro i V cells slots H locs ls M R f h1 h2 h3 h4 h5 h6 I hl
    obtain ⟨hB, hR, hP, hS, hs, hg⟩ := id I
    refine lv_iload hx hb dL_law_23 (lv_at hl 4 rfl) ?_
    refine lv_aload_n hx hb dL_law_25 rfl (lv_at hl 0 rfl) ?_
    refine va_slen hx hb hX hbl (fun h => Nat.not_le_of_lt hbl h) hS dL_law_26 ?_
    refine lv_iconst (v := 4) hx hb dL_law_27 (by decide) ?_
    refine lv_isub hx hb dL_law_28 ?_
    have hcmp : Int32.ofNat L - 4 < nI i ↔ L < i + 4 := by
      rw [Int32.lt_iff_toInt_lt, show Int32.ofNat L - 4 = nI L - nI 4 from rfl, pk_sub_toInt (by omega) (by decide), nI_toInt (by omega)]
      omega
    exact lv_icmp_gt (tgt := 1535) hx hb dL_law_29 (by decide) (fun _ => kend H locs cells slots ls hS (by omega) (by omega)) (fun z => absurd (hcmp.mpr (by omega)) z)
  | succ n ih =>
    intro i V cells slots H locs ls M R f h1 h2 h3 h4 h5 h6 I hl
    obtain ⟨hB, hR, hP, hS, hs, hg⟩ := id I
    refine lv_iload hx hb dL_law_23 (lv_at hl 4 rfl) ?_
    refine lv_aload_n hx hb dL_law_25 rfl (lv_at hl 0 rfl) ?_
    refine va_slen hx hb hX hbl (fun h => Nat.not_le_of_lt hbl h) hS dL_law_26 ?_
    refine lv_iconst (v := 4) hx hb dL_law_27 (by decide) ?_
    refine lv_isub hx hb dL_law_28 ?_
    have hcmp : Int32.ofNat L - 4 < nI i ↔ L < i + 4 := by
      rw [Int32.lt_iff_toInt_lt, show Int32.ofNat L - 4 = nI L - nI 4 from rfl, pk_sub_toInt (by omega) (by decide), nI_toInt (by omega)]
      omega
    refine lv_icmp_gt (tgt := 1535) hx hb dL_law_29 (by decide) (fun _ => kend H locs cells slots ls hS (by omega) (by omega)) (fun z => ?_)
    have hi : ¬ L < i + 4 := fun q => z (hcmp.mpr q)
    refine law_turn C0 hRm h3 (by omega) I hl (by omega) ⟨by omega, by omega⟩ (fun M1 R1 f1 H1 locs1 ls1 I1 hl1 => ?_)
    refine lv_iinc (v := nI (i + 4)) (lv' := [(4, .int (nI (i + 4))), (0, .ref b), (1, .ref (s.heap.size + 0)), (2, .ref (oB s + 0)), (3, .ref (oW s))]) hx hb dL_law_1529 hl1 (k := 4) rfl (nI_add i 4) (by decide) rfl (fun ls2 hl2 => ?_)
    refine lv_goto (tgt := 23) hx hb dL_law_1532 (by decide) ?_
    exact ih (i + 4) (V + 1) (cells + 1) (slots + 6) H1 locs1 ls2 M1 R1 f1 (by omega) (by omega) (by omega) (by omega) (by omega) (by omega) I1 (lv_sub hl2 [1, 2, 3, 4, 0] rfl)
