/-! THE LAW'S CASES 2 -/
theorem l_game {p : Program} {l : Launch} {e : Env} {Rm : Room} {s : State} {m : MethodId} {args : Array Value} {below : List Frame} {meth : Method} {c : Code} {b L : Nat} {xs : Nat → Int32} {D : va_G} {E : Nat → ClassId} (C0 : lwC p l s m args meth c b L xs D E) (hRm : 12 ≤ Rm.frames ∧ 400 ≤ Rm.locals) {Q : State → Prop} {H : Heap} {locs : List Loc} {cells slots : Nat} {ls : Array Slot} {M R : bM} {f : Nat → Int64} {i V : Nat} (hV : 121 ≤ V) (hV8 : V + 8 < 2 ^ 20) (I : lwI s D E H locs M R f V) (hl : lv_has ls 7 (lwV s b i)) (hi : i + 3 < L) (hf : cells + 1 ≤ Rm.cells ∧ slots + 6 ≤ Rm.slots)
    (kk : ∀ (M1 R1 : bM) (f1 : Nat → Int64) (H1 : Heap) (locs1 : List Loc) (ls1 : Array Slot), lwI s D E H1 locs1 M1 R1 f1 (V + 1) → lv_has ls1 7 (lwV s b i) → W p l e Rm s m args below meth c H1 locs1 (cells + 1) (slots + 6) Q (F0 m 1529 ls1 [])) : W p l e Rm s m args below meth c H locs cells slots Q (F0 m 606 ls []) := by
  obtain ⟨hx, hb, hml, hown, hts, hX, hbl, hKX, hZ, hNc, hst, hL⟩ := C0
  obtain ⟨hB, hR, hP, hS, hs, hg⟩ := I
  have hok := ok_game (M := M) (R := R) (x1 := (lng (xs (i + 1)) (xs (i + 2)))) hs
  refine W.widen (k := cells + 1) (n := slots + 6) (Nat.le_succ _) (Nat.le_add_right _ _) ?_
  refine lv_aload_n hx hb dL_law_606 rfl (lv_at hl 1 rfl) ?_
  refine lv_aload_n hx hb dL_law_607 rfl (lv_at hl 0 rfl) ?_
  refine lv_iload hx hb dL_law_608 (lv_at hl 4 rfl) ?_
  refine lv_iconst (v := 1) hx hb dL_law_610 (by decide) ?_
  refine w_iaddN (i := i) (j := 1) hx hb rfl dL_law_611 ?_
  refine w_sld hx hb hX hbl hS hL (show i + 1 < L by omega) dL_law_612 ?_
  refine lv_i2l (v := (xs (i + 1)).toInt64) hx hb dL_law_613 rfl ?_
  refine lv_bipush (v := 32) hx hb dL_law_614 (by decide) ?_
  refine lv_lshl (v := (xs (i + 1)).toInt64 <<< ((32 : Int32).toInt64 &&& 63)) hx hb dL_law_616 rfl ?_
  refine lv_aload_n hx hb dL_law_617 rfl (lv_at hl 0 rfl) ?_
  refine lv_iload hx hb dL_law_618 (lv_at hl 4 rfl) ?_
  refine lv_iconst (v := 2) hx hb dL_law_620 (by decide) ?_
  refine w_iaddN (i := i) (j := 2) hx hb rfl dL_law_621 ?_
  refine w_sld hx hb hX hbl hS hL (show i + 2 < L by omega) dL_law_622 ?_
  refine lv_i2l (v := (xs (i + 2)).toInt64) hx hb dL_law_623 rfl ?_
  refine lv_ldc2 (v := 4294967295) hx hb hown (hts (.constantLong RL 123 (4294967295)) (List.mem_of_getElem? (i := 7) (by decide +kernel))) dL_law_624 ?_
  refine lv_land hx hb dL_law_627 ?_
  refine lv_lor hx hb dL_law_628 ?_
  refine w_mI (b_runV (As := [.long (lng (xs (i + 1)) (xs (i + 2)))]) (rest := []) ⟨hx, hb, hml, hown, hts⟩ (c_X6_game l D E s.heap.size M (lng (xs (i + 1)) (xs (i + 2))) (sS_hn hs)) (cwV 1 hts gL_law_X6_game rfl rfl rfl (by decide +kernel) ⟨Nat.le_trans (by decide) hRm.1, Nat.le_trans (by decide) hRm.2⟩) hKX.1 (bk_recv hKX.1.1 hB lay_0 rfl) hB rfl hl rfl (Nat.le_of_ble_eq_true rfl) dL_law_629 ⟨by have := hf.1; omega, by have := hf.2; omega⟩) hS rA_0 (fun r M1 hr H locs hB hq hz hS => ?_)
  obtain ⟨hr1, hr2⟩ := hr
  have hr1 := hr1.symm
  have hr2 := hr2.symm
  subst hr1
  subst hr2
  have hR := bk_kept hR (fun q h1 h2 => hq q (fun z => by have h5 := z.2; have hh1 : s.heap.size + 194 ≤ q := h1; omega))
  have hP := va_at.kept hP (hq (oW s) rA_w)
  refine lv_aload_n hx hb dL_law_632 rfl (lv_at hl 2 rfl) ?_
  refine lv_aload_n hx hb dL_law_633 rfl (lv_at hl 0 rfl) ?_
  refine lv_iload hx hb dL_law_634 (lv_at hl 4 rfl) ?_
  refine lv_iconst (v := 1) hx hb dL_law_636 (by decide) ?_
  refine w_iaddN (i := i) (j := 1) hx hb rfl dL_law_637 ?_
  refine w_sld hx hb hX hbl hS hL (show i + 1 < L by omega) dL_law_638 ?_
  refine lv_i2l (v := (xs (i + 1)).toInt64) hx hb dL_law_639 rfl ?_
  refine lv_bipush (v := 32) hx hb dL_law_640 (by decide) ?_
  refine lv_lshl (v := (xs (i + 1)).toInt64 <<< ((32 : Int32).toInt64 &&& 63)) hx hb dL_law_642 rfl ?_
  refine lv_aload_n hx hb dL_law_643 rfl (lv_at hl 0 rfl) ?_
  refine lv_iload hx hb dL_law_644 (lv_at hl 4 rfl) ?_
  refine lv_iconst (v := 2) hx hb dL_law_646 (by decide) ?_
  refine w_iaddN (i := i) (j := 2) hx hb rfl dL_law_647 ?_
  refine w_sld hx hb hX hbl hS hL (show i + 2 < L by omega) dL_law_648 ?_
  refine lv_i2l (v := (xs (i + 2)).toInt64) hx hb dL_law_649 rfl ?_
  refine lv_ldc2 (v := 4294967295) hx hb hown (hts (.constantLong RL 123 (4294967295)) (List.mem_of_getElem? (i := 7) (by decide +kernel))) dL_law_650 ?_
  refine lv_land hx hb dL_law_653 ?_
  refine lv_lor hx hb dL_law_654 ?_
  refine w_mI (b_runV (As := [.long (lng (xs (i + 1)) (xs (i + 2)))]) (rest := [.int (f_X6_game M (lng (xs (i + 1)) (xs (i + 2)))).1]) ⟨hx, hb, hml, hown, hts⟩ (c_X7_game l D E (oB s) R (lng (xs (i + 1)) (xs (i + 2))) (sS_ha hs)) (cwV 1 hts gL_law_X7_game rfl rfl rfl (by decide +kernel) ⟨Nat.le_trans (by decide) hRm.1, Nat.le_trans (by decide) hRm.2⟩) hKX.1 (bk_recv hKX.1.1 hR lay_m0 rfl) hR rfl hl rfl (Nat.le_of_ble_eq_true rfl) dL_law_655 ⟨by have := hf.1; omega, by have := hf.2; omega⟩) hS rB_0 (fun r R1 hr H2 locs hR hq2 hz2 hS => ?_)
  obtain ⟨hr1, hr2⟩ := hr
  have hr1 := hr1.symm
  have hr2 := hr2.symm
  subst hr1
  subst hr2
  have hB := bk_kept hB (fun q h1 h2 => hq2 q (fun z => by rw [LRM_len] at h2; have h5 : s.heap.size + 194 ≤ q := z.1; omega))
  have hP := va_at.kept hP (hq2 (oW s) (fun z => by have h5 : s.heap.size + 203 < s.heap.size + 194 + 9 := z.2; omega))
  exact lv_icmp_eq (tgt := 1529) hx hb dL_law_658 (by decide) (fun _ => kk _ _ _ _ _ _ ⟨hB, hR, hP, hS, hok.2.2, gb_game hs hg⟩ hl) (fun z => absurd hok.2.1 z)
theorem l_step {p : Program} {l : Launch} {e : Env} {Rm : Room} {s : State} {m : MethodId} {args : Array Value} {below : List Frame} {meth : Method} {c : Code} {b L : Nat} {xs : Nat → Int32} {D : va_G} {E : Nat → ClassId} (C0 : lwC p l s m args meth c b L xs D E) (hRm : 12 ≤ Rm.frames ∧ 400 ≤ Rm.locals) {Q : State → Prop} {H : Heap} {locs : List Loc} {cells slots : Nat} {ls : Array Slot} {M R : bM} {f : Nat → Int64} {i V : Nat} (hV : 121 ≤ V) (hV8 : V + 8 < 2 ^ 20) (I : lwI s D E H locs M R f V) (hl : lv_has ls 7 (lwV s b i)) (hi : i + 3 < L) (hf : cells + 1 ≤ Rm.cells ∧ slots + 6 ≤ Rm.slots)
    (kk : ∀ (M1 R1 : bM) (f1 : Nat → Int64) (H1 : Heap) (locs1 : List Loc) (ls1 : Array Slot), lwI s D E H1 locs1 M1 R1 f1 (V + 1) → lv_has ls1 7 (lwV s b i) → W p l e Rm s m args below meth c H1 locs1 (cells + 1) (slots + 6) Q (F0 m 1529 ls1 [])) : W p l e Rm s m args below meth c H locs cells slots Q (F0 m 663 ls []) := by
  obtain ⟨hx, hb, hml, hown, hts, hX, hbl, hKX, hZ, hNc, hst, hL⟩ := C0
  obtain ⟨hB, hR, hP, hS, hs, hg⟩ := I
  have hok := ok_step (M := M) (R := R) (x1 := (xs (i + 1))) hs
  refine lv_aload_n hx hb dL_law_663 rfl (lv_at hl 1 rfl) ?_
  refine lv_aload_n hx hb dL_law_664 rfl (lv_at hl 0 rfl) ?_
  refine lv_iload hx hb dL_law_665 (lv_at hl 4 rfl) ?_
  refine lv_iconst (v := 1) hx hb dL_law_667 (by decide) ?_
  refine w_iaddN (i := i) (j := 1) hx hb rfl dL_law_668 ?_
  refine w_sld hx hb hX hbl hS hL (show i + 1 < L by omega) dL_law_669 ?_
  refine lv_aload_n hx hb dL_law_670 rfl (lv_at hl 3 rfl) ?_
  refine w_help (w_runS (As := [.ref (s.heap.size + 0), .int (xs (i + 1)), .ref (oW s)]) (rest := []) ⟨hx, hb, hml, hown, hts⟩ (h_step l hst D E s.heap.size (oW s) f M (xs (i + 1)) rA_w (sS_hn hs) (okF_2 hok)) (vx_cwSW 3 hts gL_law_L_step rfl rfl rfl (by decide +kernel) ⟨Nat.le_trans (by decide) hRm.1, Nat.le_trans (by decide) hRm.2⟩) hB hP hKX (bZ_at hZ hS) hNc rfl hl rfl (Nat.le_of_ble_eq_true rfl) dL_law_671 hf) hS hA_0 (fun H1 locs f1 hB hP hf1 hq hz hS => ?_)
  have hR := bk_kept hR (fun q h1 h2 => hq q (bk_size hR LRR_len q h1 (by rw [LRR_len] at h2; exact h2)) (fun z => by rw [LRR_len] at h2; have hh1 : s.heap.size + 194 ≤ q := h1; have hh2 : q < s.heap.size + 194 + 9 := h2; rcases z with z | z; have h5 := z.2; omega; have h5 : q = s.heap.size + 203 := z; omega))
  refine lv_istore (lv' := (5, .int (plc 1 2 (f_X6_step M (xs (i + 1))).1)) :: lwV s b i) hx hb dL_law_674 hl (by decide) rfl (fun ls hl => ?_)
  refine lv_aload_n hx hb dL_law_676 rfl (lv_at hl 3 rfl) ?_
  refine lv_aload_n hx hb dL_law_677 rfl (lv_at hl 1 rfl) ?_
  refine lv_iload hx hb dL_law_678 (lv_at hl 5 rfl) ?_
  refine lv_iconst (v := 1) hx hb dL_law_680 (by decide) ?_
  refine w_iaddN (i := i) (j := 1) hx hb rfl dL_law_681 ?_
  refine w_sld hx hb hX hbl hS hL (show i + 1 < L by omega) dL_law_682 ?_
  refine w_mI (b_runV (As := [.int (xs (i + 1))]) (rest := []) ⟨hx, hb, hml, hown, hts⟩ (c_X7_step l D E (oB s) R (xs (i + 1)) (sS_ha hs) (sS_hg hs)) (cwV 1 hts gL_law_X7_step rfl rfl rfl (by decide +kernel) ⟨Nat.le_trans (by decide) hRm.1, Nat.le_trans (by decide) hRm.2⟩) hKX.1 (bk_recv hKX.1.1 hR lay_m0 rfl) hR rfl hl rfl (Nat.le_of_ble_eq_true rfl) dL_law_683 ⟨by have := hf.1; omega, by have := hf.2; omega⟩) hS rB_0 (fun r R1 hr H2 locs hR hq2 hz2 hS => ?_)
  obtain ⟨hr1, hr2⟩ := hr
  have hr1 := hr1.symm
  have hr2 := hr2.symm
  subst hr1
  subst hr2
  have hB := bk_kept hB (fun q h1 h2 => hq2 q (fun z => by rw [LRM_len] at h2; have h5 : s.heap.size + 194 ≤ q := z.1; omega))
  have hP := va_at.kept hP (hq2 (oW s) (fun z => by have h5 : s.heap.size + 203 < s.heap.size + 194 + 9 := z.2; omega))
  refine lv_istore (lv' := (6, .int (f_X7_step R (xs (i + 1))).1) :: (5, .int (plc 1 2 (f_X6_step M (xs (i + 1))).1)) :: lwV s b i) hx hb dL_law_686 hl (by decide) rfl (fun ls hl => ?_)
  refine lv_aload_n hx hb dL_law_688 rfl (lv_at hl 4 rfl) ?_
  refine w_pI (b_runV (As := []) (rest := []) ⟨hx, hb, hml, hown, hts⟩ (c_X7_thrown l D E (oB s) (f_X7_step R (xs (i + 1))).2) (cwV 0 hts gL_law_X7_thrown rfl rfl rfl (by decide +kernel) ⟨Nat.le_trans (by decide) hRm.1, Nat.le_trans (by decide) hRm.2⟩) hKX.1 (bk_recv hKX.1.1 hR lay_m0 rfl) hR rfl hl rfl (Nat.le_of_ble_eq_true rfl) dL_law_689 ⟨by have := hf.1; omega, by have := hf.2; omega⟩) hS (fun r hr locs hS => ?_)
  rw [u_f_X7_thrown, hok.1] at hr
  have hr := hr.symm
  subst hr
  refine lv_iload hx hb dL_law_692 (lv_at hl 1 rfl) ?_
  refine lv_icmp_eq (tgt := 699) hx hb dL_law_694 (by decide) (fun _ => ?_) (fun z => absurd rfl z)
  have hI : lwI s D E H2 locs (f_X6_step M (xs (i + 1))).2.2 (f_X7_step R (xs (i + 1))).2 f1 (V + 1) := ⟨hB, hR, hP, hS, hok.2.2.2, gb_step hs hg⟩
  have hl0 : lv_has ls 7 (lwV s b i) := lv_sub hl [2, 3, 4, 5, 6] rfl
  refine lv_iload hx hb dL_law_699 (lv_at hl 1 rfl) ?_
  refine lv_if_ne (tgt := 716) hx hb dL_law_701 (by decide) (fun _ => ?_) (fun z => ?_)
  · exact lv_goto (tgt := 1529) hx hb dL_law_716 (by decide) (kk _ _ _ _ _ _ hI hl0)
  · have h0 := plc_0 z
    refine lv_aload_n hx hb dL_law_704 rfl (lv_at hl 5 rfl) ?_
    refine lv_iconst (v := 0) hx hb dL_law_705 (by decide) ?_
    refine w_lald hx hb hKX.1.1 hP dL_law_706 ?_
    refine lv_iload hx hb dL_law_707 (lv_at hl 0 rfl) ?_
    refine lv_i2l (v := (f_X7_step R (xs (i + 1))).1.toInt64) hx hb dL_law_709 rfl ?_
    refine W.lcmp hx hb dL_law_710 ?_
    refine lv_if_eq (tgt := 716) hx hb dL_law_711 (by decide) (fun _ => ?_) (fun z => absurd ((cmp_z _ _).mpr ((hf1 h0).trans (by rw [hok.2.2.1 h0]))) z)
    exact lv_goto (tgt := 1529) hx hb dL_law_716 (by decide) (kk _ _ _ _ _ _ hI hl0)
theorem l_dam {p : Program} {l : Launch} {e : Env} {Rm : Room} {s : State} {m : MethodId} {args : Array Value} {below : List Frame} {meth : Method} {c : Code} {b L : Nat} {xs : Nat → Int32} {D : va_G} {E : Nat → ClassId} (C0 : lwC p l s m args meth c b L xs D E) (hRm : 12 ≤ Rm.frames ∧ 400 ≤ Rm.locals) {Q : State → Prop} {H : Heap} {locs : List Loc} {cells slots : Nat} {ls : Array Slot} {M R : bM} {f : Nat → Int64} {i V : Nat} (hV : 121 ≤ V) (hV8 : V + 8 < 2 ^ 20) (I : lwI s D E H locs M R f V) (hl : lv_has ls 7 (lwV s b i)) (hi : i + 3 < L) (hf : cells + 1 ≤ Rm.cells ∧ slots + 6 ≤ Rm.slots)
    (kk : ∀ (M1 R1 : bM) (f1 : Nat → Int64) (H1 : Heap) (locs1 : List Loc) (ls1 : Array Slot), lwI s D E H1 locs1 M1 R1 f1 (V + 1) → lv_has ls1 7 (lwV s b i) → W p l e Rm s m args below meth c H1 locs1 (cells + 1) (slots + 6) Q (F0 m 1529 ls1 [])) : W p l e Rm s m args below meth c H locs cells slots Q (F0 m 719 ls []) := by
  obtain ⟨hx, hb, hml, hown, hts, hX, hbl, hKX, hZ, hNc, hst, hL⟩ := C0
  obtain ⟨hB, hR, hP, hS, hs, hg⟩ := I
  have hok := ok_dam (M := M) (R := R) (x1 := (xs (i + 1))) (x2 := (xs (i + 2))) hs
  refine lv_aload_n hx hb dL_law_719 rfl (lv_at hl 1 rfl) ?_
  refine lv_aload_n hx hb dL_law_720 rfl (lv_at hl 0 rfl) ?_
  refine lv_iload hx hb dL_law_721 (lv_at hl 4 rfl) ?_
  refine lv_iconst (v := 1) hx hb dL_law_723 (by decide) ?_
  refine w_iaddN (i := i) (j := 1) hx hb rfl dL_law_724 ?_
  refine w_sld hx hb hX hbl hS hL (show i + 1 < L by omega) dL_law_725 ?_
  refine lv_aload_n hx hb dL_law_726 rfl (lv_at hl 0 rfl) ?_
  refine lv_iload hx hb dL_law_727 (lv_at hl 4 rfl) ?_
  refine lv_iconst (v := 2) hx hb dL_law_729 (by decide) ?_
  refine w_iaddN (i := i) (j := 2) hx hb rfl dL_law_730 ?_
  refine w_sld hx hb hX hbl hS hL (show i + 2 < L by omega) dL_law_731 ?_
  refine lv_aload_n hx hb dL_law_732 rfl (lv_at hl 3 rfl) ?_
  refine w_help (w_runS (As := [.ref (s.heap.size + 0), .int (xs (i + 1)), .int (xs (i + 2)), .ref (oW s)]) (rest := []) ⟨hx, hb, hml, hown, hts⟩ (h_dam l hst D E s.heap.size (oW s) f M (xs (i + 1)) (xs (i + 2)) rA_w (sS_hn hs) (okF_2 hok)) (vx_cwSW 4 hts gL_law_L_dam rfl rfl rfl (by decide +kernel) ⟨Nat.le_trans (by decide) hRm.1, Nat.le_trans (by decide) hRm.2⟩) hB hP hKX (bZ_at hZ hS) hNc rfl hl rfl (Nat.le_of_ble_eq_true rfl) dL_law_733 hf) hS hA_0 (fun H1 locs f1 hB hP hf1 hq hz hS => ?_)
  have hR := bk_kept hR (fun q h1 h2 => hq q (bk_size hR LRR_len q h1 (by rw [LRR_len] at h2; exact h2)) (fun z => by rw [LRR_len] at h2; have hh1 : s.heap.size + 194 ≤ q := h1; have hh2 : q < s.heap.size + 194 + 9 := h2; rcases z with z | z; have h5 := z.2; omega; have h5 : q = s.heap.size + 203 := z; omega))
  refine lv_istore (lv' := (5, .int (plc 3 2 (f_X6_dam M (xs (i + 1)) (xs (i + 2))).1)) :: lwV s b i) hx hb dL_law_736 hl (by decide) rfl (fun ls hl => ?_)
  refine lv_aload_n hx hb dL_law_738 rfl (lv_at hl 3 rfl) ?_
  refine lv_aload_n hx hb dL_law_739 rfl (lv_at hl 1 rfl) ?_
  refine lv_iload hx hb dL_law_740 (lv_at hl 5 rfl) ?_
  refine lv_iconst (v := 1) hx hb dL_law_742 (by decide) ?_
  refine w_iaddN (i := i) (j := 1) hx hb rfl dL_law_743 ?_
  refine w_sld hx hb hX hbl hS hL (show i + 1 < L by omega) dL_law_744 ?_
  refine lv_aload_n hx hb dL_law_745 rfl (lv_at hl 1 rfl) ?_
  refine lv_iload hx hb dL_law_746 (lv_at hl 5 rfl) ?_
  refine lv_iconst (v := 2) hx hb dL_law_748 (by decide) ?_
  refine w_iaddN (i := i) (j := 2) hx hb rfl dL_law_749 ?_
  refine w_sld hx hb hX hbl hS hL (show i + 2 < L by omega) dL_law_750 ?_
  refine w_mI (b_runV (As := [.int (xs (i + 1)), .int (xs (i + 2))]) (rest := []) ⟨hx, hb, hml, hown, hts⟩ (c_X7_dam l D E (oB s) R (xs (i + 1)) (xs (i + 2)) (sS_ha hs) (sS_hg hs)) (cwV 2 hts gL_law_X7_dam rfl rfl rfl (by decide +kernel) ⟨Nat.le_trans (by decide) hRm.1, Nat.le_trans (by decide) hRm.2⟩) hKX.1 (bk_recv hKX.1.1 hR lay_m0 rfl) hR rfl hl rfl (Nat.le_of_ble_eq_true rfl) dL_law_751 ⟨by have := hf.1; omega, by have := hf.2; omega⟩) hS rB_0 (fun r R1 hr H2 locs hR hq2 hz2 hS => ?_)
  obtain ⟨hr1, hr2⟩ := hr
  have hr1 := hr1.symm
  have hr2 := hr2.symm
  subst hr1
  subst hr2
  have hB := bk_kept hB (fun q h1 h2 => hq2 q (fun z => by rw [LRM_len] at h2; have h5 : s.heap.size + 194 ≤ q := z.1; omega))
  have hP := va_at.kept hP (hq2 (oW s) (fun z => by have h5 : s.heap.size + 203 < s.heap.size + 194 + 9 := z.2; omega))
  refine lv_istore (lv' := (6, .int (f_X7_dam R (xs (i + 1)) (xs (i + 2))).1) :: (5, .int (plc 3 2 (f_X6_dam M (xs (i + 1)) (xs (i + 2))).1)) :: lwV s b i) hx hb dL_law_754 hl (by decide) rfl (fun ls hl => ?_)
  refine lv_aload_n hx hb dL_law_756 rfl (lv_at hl 4 rfl) ?_
  refine w_pI (b_runV (As := []) (rest := []) ⟨hx, hb, hml, hown, hts⟩ (c_X7_thrown l D E (oB s) (f_X7_dam R (xs (i + 1)) (xs (i + 2))).2) (cwV 0 hts gL_law_X7_thrown rfl rfl rfl (by decide +kernel) ⟨Nat.le_trans (by decide) hRm.1, Nat.le_trans (by decide) hRm.2⟩) hKX.1 (bk_recv hKX.1.1 hR lay_m0 rfl) hR rfl hl rfl (Nat.le_of_ble_eq_true rfl) dL_law_757 ⟨by have := hf.1; omega, by have := hf.2; omega⟩) hS (fun r hr locs hS => ?_)
  rw [u_f_X7_thrown, hok.1] at hr
  have hr := hr.symm
  subst hr
  refine lv_iload hx hb dL_law_760 (lv_at hl 1 rfl) ?_
  refine lv_icmp_eq (tgt := 767) hx hb dL_law_762 (by decide) (fun _ => ?_) (fun z => absurd rfl z)
  have hI : lwI s D E H2 locs (f_X6_dam M (xs (i + 1)) (xs (i + 2))).2.2 (f_X7_dam R (xs (i + 1)) (xs (i + 2))).2 f1 (V + 1) := ⟨hB, hR, hP, hS, hok.2.2.2, gb_dam hs hg⟩
  have hl0 : lv_has ls 7 (lwV s b i) := lv_sub hl [2, 3, 4, 5, 6] rfl
  refine lv_iload hx hb dL_law_767 (lv_at hl 1 rfl) ?_
  refine lv_if_ne (tgt := 784) hx hb dL_law_769 (by decide) (fun _ => ?_) (fun z => ?_)
  · exact lv_goto (tgt := 1529) hx hb dL_law_784 (by decide) (kk _ _ _ _ _ _ hI hl0)
  · have h0 := plc_0 z
    refine lv_aload_n hx hb dL_law_772 rfl (lv_at hl 5 rfl) ?_
    refine lv_iconst (v := 0) hx hb dL_law_773 (by decide) ?_
    refine w_lald hx hb hKX.1.1 hP dL_law_774 ?_
    refine lv_iload hx hb dL_law_775 (lv_at hl 0 rfl) ?_
    refine lv_i2l (v := (f_X7_dam R (xs (i + 1)) (xs (i + 2))).1.toInt64) hx hb dL_law_777 rfl ?_
    refine W.lcmp hx hb dL_law_778 ?_
    refine lv_if_eq (tgt := 784) hx hb dL_law_779 (by decide) (fun _ => ?_) (fun z => absurd ((cmp_z _ _).mpr ((hf1 h0).trans (by rw [hok.2.2.1 h0]))) z)
    exact lv_goto (tgt := 1529) hx hb dL_law_784 (by decide) (kk _ _ _ _ _ _ hI hl0)
theorem l_flood {p : Program} {l : Launch} {e : Env} {Rm : Room} {s : State} {m : MethodId} {args : Array Value} {below : List Frame} {meth : Method} {c : Code} {b L : Nat} {xs : Nat → Int32} {D : va_G} {E : Nat → ClassId} (C0 : lwC p l s m args meth c b L xs D E) (hRm : 12 ≤ Rm.frames ∧ 400 ≤ Rm.locals) {Q : State → Prop} {H : Heap} {locs : List Loc} {cells slots : Nat} {ls : Array Slot} {M R : bM} {f : Nat → Int64} {i V : Nat} (hV : 121 ≤ V) (hV8 : V + 8 < 2 ^ 20) (I : lwI s D E H locs M R f V) (hl : lv_has ls 7 (lwV s b i)) (hi : i + 3 < L) (hf : cells + 1 ≤ Rm.cells ∧ slots + 6 ≤ Rm.slots)
    (kk : ∀ (M1 R1 : bM) (f1 : Nat → Int64) (H1 : Heap) (locs1 : List Loc) (ls1 : Array Slot), lwI s D E H1 locs1 M1 R1 f1 (V + 1) → lv_has ls1 7 (lwV s b i) → W p l e Rm s m args below meth c H1 locs1 (cells + 1) (slots + 6) Q (F0 m 1529 ls1 [])) : W p l e Rm s m args below meth c H locs cells slots Q (F0 m 787 ls []) := by
  obtain ⟨hx, hb, hml, hown, hts, hX, hbl, hKX, hZ, hNc, hst, hL⟩ := C0
  obtain ⟨hB, hR, hP, hS, hs, hg⟩ := I
  have hok := ok_flood (M := M) (R := R) hs
  refine lv_aload_n hx hb dL_law_787 rfl (lv_at hl 1 rfl) ?_
  refine lv_aload_n hx hb dL_law_788 rfl (lv_at hl 3 rfl) ?_
  refine w_help (w_runS (As := [.ref (s.heap.size + 0), .ref (oW s)]) (rest := []) ⟨hx, hb, hml, hown, hts⟩ (h_flood l hst D E s.heap.size (oW s) f M rA_w (sS_hn hs) (okF_1 hok n9_flood)) (vx_cwSW 2 hts gL_law_L_flood rfl rfl rfl (by decide +kernel) ⟨Nat.le_trans (by decide) hRm.1, Nat.le_trans (by decide) hRm.2⟩) hB hP hKX (bZ_at hZ hS) hNc rfl hl rfl (Nat.le_of_ble_eq_true rfl) dL_law_789 hf) hS hA_0 (fun H1 locs f1 hB hP hf1 hq hz hS => ?_)
  have hR := bk_kept hR (fun q h1 h2 => hq q (bk_size hR LRR_len q h1 (by rw [LRR_len] at h2; exact h2)) (fun z => by rw [LRR_len] at h2; have hh1 : s.heap.size + 194 ≤ q := h1; have hh2 : q < s.heap.size + 194 + 9 := h2; rcases z with z | z; have h5 := z.2; omega; have h5 : q = s.heap.size + 203 := z; omega))
  refine lv_istore (lv' := (5, .int (plc 2 9 (f_X6_flood M).1)) :: lwV s b i) hx hb dL_law_792 hl (by decide) rfl (fun ls hl => ?_)
  refine lv_aload_n hx hb dL_law_794 rfl (lv_at hl 3 rfl) ?_
  refine w_mI (b_runV (As := []) (rest := []) ⟨hx, hb, hml, hown, hts⟩ (c_X7_flood l D E (oB s) R (sS_ha hs) (sS_hg hs)) (cwV 0 hts gL_law_X7_flood rfl rfl rfl (by decide +kernel) ⟨Nat.le_trans (by decide) hRm.1, Nat.le_trans (by decide) hRm.2⟩) hKX.1 (bk_recv hKX.1.1 hR lay_m0 rfl) hR rfl hl rfl (Nat.le_of_ble_eq_true rfl) dL_law_795 ⟨by have := hf.1; omega, by have := hf.2; omega⟩) hS rB_0 (fun r R1 hr H2 locs hR hq2 hz2 hS => ?_)
  obtain ⟨hr1, hr2⟩ := hr
  have hr1 := hr1.symm
  have hr2 := hr2.symm
  subst hr1
  subst hr2
  have hB := bk_kept hB (fun q h1 h2 => hq2 q (fun z => by rw [LRM_len] at h2; have h5 : s.heap.size + 194 ≤ q := z.1; omega))
  have hP := va_at.kept hP (hq2 (oW s) (fun z => by have h5 : s.heap.size + 203 < s.heap.size + 194 + 9 := z.2; omega))
  refine lv_istore (lv' := (6, .int (f_X7_flood R).1) :: (5, .int (plc 2 9 (f_X6_flood M).1)) :: lwV s b i) hx hb dL_law_798 hl (by decide) rfl (fun ls hl => ?_)
  refine lv_aload_n hx hb dL_law_800 rfl (lv_at hl 4 rfl) ?_
  refine w_pI (b_runV (As := []) (rest := []) ⟨hx, hb, hml, hown, hts⟩ (c_X7_thrown l D E (oB s) (f_X7_flood R).2) (cwV 0 hts gL_law_X7_thrown rfl rfl rfl (by decide +kernel) ⟨Nat.le_trans (by decide) hRm.1, Nat.le_trans (by decide) hRm.2⟩) hKX.1 (bk_recv hKX.1.1 hR lay_m0 rfl) hR rfl hl rfl (Nat.le_of_ble_eq_true rfl) dL_law_801 ⟨by have := hf.1; omega, by have := hf.2; omega⟩) hS (fun r hr locs hS => ?_)
  rw [u_f_X7_thrown, hok.1] at hr
  have hr := hr.symm
  subst hr
  refine lv_iload hx hb dL_law_804 (lv_at hl 1 rfl) ?_
  refine lv_icmp_eq (tgt := 811) hx hb dL_law_806 (by decide) (fun _ => ?_) (fun z => absurd rfl z)
  have hI : lwI s D E H2 locs (f_X6_flood M).2.2 (f_X7_flood R).2 f1 (V + 1) := ⟨hB, hR, hP, hS, hok.2.2.2, gb_flood hs hg⟩
  have hl0 : lv_has ls 7 (lwV s b i) := lv_sub hl [2, 3, 4, 5, 6] rfl
  refine lv_iload hx hb dL_law_811 (lv_at hl 1 rfl) ?_
  refine lv_if_ne (tgt := 828) hx hb dL_law_813 (by decide) (fun _ => ?_) (fun z => ?_)
  · exact lv_goto (tgt := 1529) hx hb dL_law_828 (by decide) (kk _ _ _ _ _ _ hI hl0)
  · have h0 := plc_0 z
    refine lv_aload_n hx hb dL_law_816 rfl (lv_at hl 5 rfl) ?_
    refine lv_iconst (v := 0) hx hb dL_law_817 (by decide) ?_
    refine w_lald hx hb hKX.1.1 hP dL_law_818 ?_
    refine lv_iload hx hb dL_law_819 (lv_at hl 0 rfl) ?_
    refine lv_i2l (v := (f_X7_flood R).1.toInt64) hx hb dL_law_821 rfl ?_
    refine W.lcmp hx hb dL_law_822 ?_
    refine lv_if_eq (tgt := 828) hx hb dL_law_823 (by decide) (fun _ => ?_) (fun z => absurd ((cmp_z _ _).mpr ((hf1 h0).trans (by rw [hok.2.2.1 h0]))) z)
    exact lv_goto (tgt := 1529) hx hb dL_law_828 (by decide) (kk _ _ _ _ _ _ hI hl0)
theorem l_set {p : Program} {l : Launch} {e : Env} {Rm : Room} {s : State} {m : MethodId} {args : Array Value} {below : List Frame} {meth : Method} {c : Code} {b L : Nat} {xs : Nat → Int32} {D : va_G} {E : Nat → ClassId} (C0 : lwC p l s m args meth c b L xs D E) (hRm : 12 ≤ Rm.frames ∧ 400 ≤ Rm.locals) {Q : State → Prop} {H : Heap} {locs : List Loc} {cells slots : Nat} {ls : Array Slot} {M R : bM} {f : Nat → Int64} {i V : Nat} (hV : 121 ≤ V) (hV8 : V + 8 < 2 ^ 20) (I : lwI s D E H locs M R f V) (hl : lv_has ls 7 (lwV s b i)) (hi : i + 3 < L) (hf : cells + 1 ≤ Rm.cells ∧ slots + 6 ≤ Rm.slots)
    (kk : ∀ (M1 R1 : bM) (f1 : Nat → Int64) (H1 : Heap) (locs1 : List Loc) (ls1 : Array Slot), lwI s D E H1 locs1 M1 R1 f1 (V + 1) → lv_has ls1 7 (lwV s b i) → W p l e Rm s m args below meth c H1 locs1 (cells + 1) (slots + 6) Q (F0 m 1529 ls1 [])) : W p l e Rm s m args below meth c H locs cells slots Q (F0 m 831 ls []) := by
  obtain ⟨hx, hb, hml, hown, hts, hX, hbl, hKX, hZ, hNc, hst, hL⟩ := C0
  obtain ⟨hB, hR, hP, hS, hs, hg⟩ := I
  have hok := ok_set (M := M) (R := R) (x1 := (xs (i + 1))) (x2 := (xs (i + 2))) hs
  refine lv_aload_n hx hb dL_law_831 rfl (lv_at hl 1 rfl) ?_
  refine lv_aload_n hx hb dL_law_832 rfl (lv_at hl 0 rfl) ?_
  refine lv_iload hx hb dL_law_833 (lv_at hl 4 rfl) ?_
  refine lv_iconst (v := 1) hx hb dL_law_835 (by decide) ?_
  refine w_iaddN (i := i) (j := 1) hx hb rfl dL_law_836 ?_
  refine w_sld hx hb hX hbl hS hL (show i + 1 < L by omega) dL_law_837 ?_
  refine lv_aload_n hx hb dL_law_838 rfl (lv_at hl 0 rfl) ?_
  refine lv_iload hx hb dL_law_839 (lv_at hl 4 rfl) ?_
  refine lv_iconst (v := 2) hx hb dL_law_841 (by decide) ?_
  refine w_iaddN (i := i) (j := 2) hx hb rfl dL_law_842 ?_
  refine w_sld hx hb hX hbl hS hL (show i + 2 < L by omega) dL_law_843 ?_
  refine lv_aload_n hx hb dL_law_844 rfl (lv_at hl 3 rfl) ?_
  refine w_help (w_runS (As := [.ref (s.heap.size + 0), .int (xs (i + 1)), .int (xs (i + 2)), .ref (oW s)]) (rest := []) ⟨hx, hb, hml, hown, hts⟩ (h_set l hst D E s.heap.size (oW s) f M (xs (i + 1)) (xs (i + 2)) rA_w (sS_hn hs) (okF_1 hok n9_set)) (vx_cwSW 4 hts gL_law_L_set rfl rfl rfl (by decide +kernel) ⟨Nat.le_trans (by decide) hRm.1, Nat.le_trans (by decide) hRm.2⟩) hB hP hKX (bZ_at hZ hS) hNc rfl hl rfl (Nat.le_of_ble_eq_true rfl) dL_law_845 hf) hS hA_0 (fun H1 locs f1 hB hP hf1 hq hz hS => ?_)
  have hR := bk_kept hR (fun q h1 h2 => hq q (bk_size hR LRR_len q h1 (by rw [LRR_len] at h2; exact h2)) (fun z => by rw [LRR_len] at h2; have hh1 : s.heap.size + 194 ≤ q := h1; have hh2 : q < s.heap.size + 194 + 9 := h2; rcases z with z | z; have h5 := z.2; omega; have h5 : q = s.heap.size + 203 := z; omega))
  refine lv_istore (lv' := (5, .int (plc 1 9 (f_X6_set M (xs (i + 1)) (xs (i + 2))).1)) :: lwV s b i) hx hb dL_law_848 hl (by decide) rfl (fun ls hl => ?_)
  refine lv_aload_n hx hb dL_law_850 rfl (lv_at hl 3 rfl) ?_
  refine lv_aload_n hx hb dL_law_851 rfl (lv_at hl 1 rfl) ?_
  refine lv_iload hx hb dL_law_852 (lv_at hl 5 rfl) ?_
  refine lv_iconst (v := 1) hx hb dL_law_854 (by decide) ?_
  refine w_iaddN (i := i) (j := 1) hx hb rfl dL_law_855 ?_
  refine w_sld hx hb hX hbl hS hL (show i + 1 < L by omega) dL_law_856 ?_
  refine lv_aload_n hx hb dL_law_857 rfl (lv_at hl 1 rfl) ?_
  refine lv_iload hx hb dL_law_858 (lv_at hl 5 rfl) ?_
  refine lv_iconst (v := 2) hx hb dL_law_860 (by decide) ?_
  refine w_iaddN (i := i) (j := 2) hx hb rfl dL_law_861 ?_
  refine w_sld hx hb hX hbl hS hL (show i + 2 < L by omega) dL_law_862 ?_
  refine w_mI (b_runV (As := [.int (xs (i + 1)), .int (xs (i + 2))]) (rest := []) ⟨hx, hb, hml, hown, hts⟩ (c_X7_set l D E (oB s) R (xs (i + 1)) (xs (i + 2)) (sS_ha hs)) (cwV 2 hts gL_law_X7_set rfl rfl rfl (by decide +kernel) ⟨Nat.le_trans (by decide) hRm.1, Nat.le_trans (by decide) hRm.2⟩) hKX.1 (bk_recv hKX.1.1 hR lay_m0 rfl) hR rfl hl rfl (Nat.le_of_ble_eq_true rfl) dL_law_863 ⟨by have := hf.1; omega, by have := hf.2; omega⟩) hS rB_0 (fun r R1 hr H2 locs hR hq2 hz2 hS => ?_)
  obtain ⟨hr1, hr2⟩ := hr
  have hr1 := hr1.symm
  have hr2 := hr2.symm
  subst hr1
  subst hr2
  have hB := bk_kept hB (fun q h1 h2 => hq2 q (fun z => by rw [LRM_len] at h2; have h5 : s.heap.size + 194 ≤ q := z.1; omega))
  have hP := va_at.kept hP (hq2 (oW s) (fun z => by have h5 : s.heap.size + 203 < s.heap.size + 194 + 9 := z.2; omega))
  refine lv_istore (lv' := (6, .int (f_X7_set R (xs (i + 1)) (xs (i + 2))).1) :: (5, .int (plc 1 9 (f_X6_set M (xs (i + 1)) (xs (i + 2))).1)) :: lwV s b i) hx hb dL_law_866 hl (by decide) rfl (fun ls hl => ?_)
  refine lv_aload_n hx hb dL_law_868 rfl (lv_at hl 4 rfl) ?_
  refine w_pI (b_runV (As := []) (rest := []) ⟨hx, hb, hml, hown, hts⟩ (c_X7_thrown l D E (oB s) (f_X7_set R (xs (i + 1)) (xs (i + 2))).2) (cwV 0 hts gL_law_X7_thrown rfl rfl rfl (by decide +kernel) ⟨Nat.le_trans (by decide) hRm.1, Nat.le_trans (by decide) hRm.2⟩) hKX.1 (bk_recv hKX.1.1 hR lay_m0 rfl) hR rfl hl rfl (Nat.le_of_ble_eq_true rfl) dL_law_869 ⟨by have := hf.1; omega, by have := hf.2; omega⟩) hS (fun r hr locs hS => ?_)
  rw [u_f_X7_thrown, hok.1] at hr
  have hr := hr.symm
  subst hr
  refine lv_iload hx hb dL_law_872 (lv_at hl 1 rfl) ?_
  refine lv_icmp_eq (tgt := 879) hx hb dL_law_874 (by decide) (fun _ => ?_) (fun z => absurd rfl z)
  have hI : lwI s D E H2 locs (f_X6_set M (xs (i + 1)) (xs (i + 2))).2.2 (f_X7_set R (xs (i + 1)) (xs (i + 2))).2 f1 (V + 1) := ⟨hB, hR, hP, hS, hok.2.2.2, gb_set hs hg⟩
  have hl0 : lv_has ls 7 (lwV s b i) := lv_sub hl [2, 3, 4, 5, 6] rfl
  refine lv_iload hx hb dL_law_879 (lv_at hl 1 rfl) ?_
  refine lv_if_ne (tgt := 896) hx hb dL_law_881 (by decide) (fun _ => ?_) (fun z => ?_)
  · exact lv_goto (tgt := 1529) hx hb dL_law_896 (by decide) (kk _ _ _ _ _ _ hI hl0)
  · have h0 := plc_0 z
    refine lv_aload_n hx hb dL_law_884 rfl (lv_at hl 5 rfl) ?_
    refine lv_iconst (v := 0) hx hb dL_law_885 (by decide) ?_
    refine w_lald hx hb hKX.1.1 hP dL_law_886 ?_
    refine lv_iload hx hb dL_law_887 (lv_at hl 0 rfl) ?_
    refine lv_i2l (v := (f_X7_set R (xs (i + 1)) (xs (i + 2))).1.toInt64) hx hb dL_law_889 rfl ?_
    refine W.lcmp hx hb dL_law_890 ?_
    refine lv_if_eq (tgt := 896) hx hb dL_law_891 (by decide) (fun _ => ?_) (fun z => absurd ((cmp_z _ _).mpr ((hf1 h0).trans (by rw [hok.2.2.1 h0]))) z)
    exact lv_goto (tgt := 1529) hx hb dL_law_896 (by decide) (kk _ _ _ _ _ _ hI hl0)
theorem l_undo {p : Program} {l : Launch} {e : Env} {Rm : Room} {s : State} {m : MethodId} {args : Array Value} {below : List Frame} {meth : Method} {c : Code} {b L : Nat} {xs : Nat → Int32} {D : va_G} {E : Nat → ClassId} (C0 : lwC p l s m args meth c b L xs D E) (hRm : 12 ≤ Rm.frames ∧ 400 ≤ Rm.locals) {Q : State → Prop} {H : Heap} {locs : List Loc} {cells slots : Nat} {ls : Array Slot} {M R : bM} {f : Nat → Int64} {i V : Nat} (hV : 121 ≤ V) (hV8 : V + 8 < 2 ^ 20) (I : lwI s D E H locs M R f V) (hl : lv_has ls 7 (lwV s b i)) (hi : i + 3 < L) (hf : cells + 1 ≤ Rm.cells ∧ slots + 6 ≤ Rm.slots)
    (kk : ∀ (M1 R1 : bM) (f1 : Nat → Int64) (H1 : Heap) (locs1 : List Loc) (ls1 : Array Slot), lwI s D E H1 locs1 M1 R1 f1 (V + 1) → lv_has ls1 7 (lwV s b i) → W p l e Rm s m args below meth c H1 locs1 (cells + 1) (slots + 6) Q (F0 m 1529 ls1 [])) : W p l e Rm s m args below meth c H locs cells slots Q (F0 m 899 ls []) := by
  obtain ⟨hx, hb, hml, hown, hts, hX, hbl, hKX, hZ, hNc, hst, hL⟩ := C0
  obtain ⟨hB, hR, hP, hS, hs, hg⟩ := I
  have hok := ok_undo (M := M) (R := R) hs
  refine lv_aload_n hx hb dL_law_899 rfl (lv_at hl 1 rfl) ?_
  refine lv_aload_n hx hb dL_law_900 rfl (lv_at hl 3 rfl) ?_
  refine w_help (w_runS (As := [.ref (s.heap.size + 0), .ref (oW s)]) (rest := []) ⟨hx, hb, hml, hown, hts⟩ (h_undo l hst D E s.heap.size (oW s) f M rA_w (sS_hn hs) (okF_1 hok n9_undo)) (vx_cwSW 2 hts gL_law_L_undo rfl rfl rfl (by decide +kernel) ⟨Nat.le_trans (by decide) hRm.1, Nat.le_trans (by decide) hRm.2⟩) hB hP hKX (bZ_at hZ hS) hNc rfl hl rfl (Nat.le_of_ble_eq_true rfl) dL_law_901 hf) hS hA_0 (fun H1 locs f1 hB hP hf1 hq hz hS => ?_)
  have hR := bk_kept hR (fun q h1 h2 => hq q (bk_size hR LRR_len q h1 (by rw [LRR_len] at h2; exact h2)) (fun z => by rw [LRR_len] at h2; have hh1 : s.heap.size + 194 ≤ q := h1; have hh2 : q < s.heap.size + 194 + 9 := h2; rcases z with z | z; have h5 := z.2; omega; have h5 : q = s.heap.size + 203 := z; omega))
  refine lv_istore (lv' := (5, .int (plc 2 9 (f_X6_undo M).1)) :: lwV s b i) hx hb dL_law_904 hl (by decide) rfl (fun ls hl => ?_)
  refine lv_aload_n hx hb dL_law_906 rfl (lv_at hl 3 rfl) ?_
  refine w_mI (b_runV (As := []) (rest := []) ⟨hx, hb, hml, hown, hts⟩ (c_X7_undo l D E (oB s) R (sS_ha hs)) (cwV 0 hts gL_law_X7_undo rfl rfl rfl (by decide +kernel) ⟨Nat.le_trans (by decide) hRm.1, Nat.le_trans (by decide) hRm.2⟩) hKX.1 (bk_recv hKX.1.1 hR lay_m0 rfl) hR rfl hl rfl (Nat.le_of_ble_eq_true rfl) dL_law_907 ⟨by have := hf.1; omega, by have := hf.2; omega⟩) hS rB_0 (fun r R1 hr H2 locs hR hq2 hz2 hS => ?_)
  obtain ⟨hr1, hr2⟩ := hr
  have hr1 := hr1.symm
  have hr2 := hr2.symm
  subst hr1
  subst hr2
  have hB := bk_kept hB (fun q h1 h2 => hq2 q (fun z => by rw [LRM_len] at h2; have h5 : s.heap.size + 194 ≤ q := z.1; omega))
  have hP := va_at.kept hP (hq2 (oW s) (fun z => by have h5 : s.heap.size + 203 < s.heap.size + 194 + 9 := z.2; omega))
  refine lv_istore (lv' := (6, .int (f_X7_undo R).1) :: (5, .int (plc 2 9 (f_X6_undo M).1)) :: lwV s b i) hx hb dL_law_910 hl (by decide) rfl (fun ls hl => ?_)
  refine lv_aload_n hx hb dL_law_912 rfl (lv_at hl 4 rfl) ?_
  refine w_pI (b_runV (As := []) (rest := []) ⟨hx, hb, hml, hown, hts⟩ (c_X7_thrown l D E (oB s) (f_X7_undo R).2) (cwV 0 hts gL_law_X7_thrown rfl rfl rfl (by decide +kernel) ⟨Nat.le_trans (by decide) hRm.1, Nat.le_trans (by decide) hRm.2⟩) hKX.1 (bk_recv hKX.1.1 hR lay_m0 rfl) hR rfl hl rfl (Nat.le_of_ble_eq_true rfl) dL_law_913 ⟨by have := hf.1; omega, by have := hf.2; omega⟩) hS (fun r hr locs hS => ?_)
  rw [u_f_X7_thrown, hok.1] at hr
  have hr := hr.symm
  subst hr
  refine lv_iload hx hb dL_law_916 (lv_at hl 1 rfl) ?_
  refine lv_icmp_eq (tgt := 923) hx hb dL_law_918 (by decide) (fun _ => ?_) (fun z => absurd rfl z)
  have hI : lwI s D E H2 locs (f_X6_undo M).2.2 (f_X7_undo R).2 f1 (V + 1) := ⟨hB, hR, hP, hS, hok.2.2.2, gb_undo hs hg⟩
  have hl0 : lv_has ls 7 (lwV s b i) := lv_sub hl [2, 3, 4, 5, 6] rfl
  refine lv_iload hx hb dL_law_923 (lv_at hl 1 rfl) ?_
  refine lv_if_ne (tgt := 940) hx hb dL_law_925 (by decide) (fun _ => ?_) (fun z => ?_)
  · exact lv_goto (tgt := 1529) hx hb dL_law_940 (by decide) (kk _ _ _ _ _ _ hI hl0)
  · have h0 := plc_0 z
    refine lv_aload_n hx hb dL_law_928 rfl (lv_at hl 5 rfl) ?_
    refine lv_iconst (v := 0) hx hb dL_law_929 (by decide) ?_
    refine w_lald hx hb hKX.1.1 hP dL_law_930 ?_
    refine lv_iload hx hb dL_law_931 (lv_at hl 0 rfl) ?_
    refine lv_i2l (v := (f_X7_undo R).1.toInt64) hx hb dL_law_933 rfl ?_
    refine W.lcmp hx hb dL_law_934 ?_
    refine lv_if_eq (tgt := 940) hx hb dL_law_935 (by decide) (fun _ => ?_) (fun z => absurd ((cmp_z _ _).mpr ((hf1 h0).trans (by rw [hok.2.2.1 h0]))) z)
    exact lv_goto (tgt := 1529) hx hb dL_law_940 (by decide) (kk _ _ _ _ _ _ hI hl0)
theorem l_why {p : Program} {l : Launch} {e : Env} {Rm : Room} {s : State} {m : MethodId} {args : Array Value} {below : List Frame} {meth : Method} {c : Code} {b L : Nat} {xs : Nat → Int32} {D : va_G} {E : Nat → ClassId} (C0 : lwC p l s m args meth c b L xs D E) (hRm : 12 ≤ Rm.frames ∧ 400 ≤ Rm.locals) {Q : State → Prop} {H : Heap} {locs : List Loc} {cells slots : Nat} {ls : Array Slot} {M R : bM} {f : Nat → Int64} {i V : Nat} (hV : 121 ≤ V) (hV8 : V + 8 < 2 ^ 20) (I : lwI s D E H locs M R f V) (hl : lv_has ls 7 (lwV s b i)) (hi : i + 3 < L) (hf : cells + 1 ≤ Rm.cells ∧ slots + 6 ≤ Rm.slots)
    (kk : ∀ (M1 R1 : bM) (f1 : Nat → Int64) (H1 : Heap) (locs1 : List Loc) (ls1 : Array Slot), lwI s D E H1 locs1 M1 R1 f1 (V + 1) → lv_has ls1 7 (lwV s b i) → W p l e Rm s m args below meth c H1 locs1 (cells + 1) (slots + 6) Q (F0 m 1529 ls1 [])) : W p l e Rm s m args below meth c H locs cells slots Q (F0 m 943 ls []) := by
  obtain ⟨hx, hb, hml, hown, hts, hX, hbl, hKX, hZ, hNc, hst, hL⟩ := C0
  obtain ⟨hB, hR, hP, hS, hs, hg⟩ := I
  have hok := ok_why (M := M) (R := R) (x1 := (xs (i + 1))) hs
  refine lv_aload_n hx hb dL_law_943 rfl (lv_at hl 1 rfl) ?_
  refine lv_aload_n hx hb dL_law_944 rfl (lv_at hl 0 rfl) ?_
  refine lv_iload hx hb dL_law_945 (lv_at hl 4 rfl) ?_
  refine lv_iconst (v := 1) hx hb dL_law_947 (by decide) ?_
  refine w_iaddN (i := i) (j := 1) hx hb rfl dL_law_948 ?_
  refine w_sld hx hb hX hbl hS hL (show i + 1 < L by omega) dL_law_949 ?_
  refine lv_aload_n hx hb dL_law_950 rfl (lv_at hl 3 rfl) ?_
  refine w_help (w_runS (As := [.ref (s.heap.size + 0), .int (xs (i + 1)), .ref (oW s)]) (rest := []) ⟨hx, hb, hml, hown, hts⟩ (h_why l hst D E s.heap.size (oW s) f M (xs (i + 1)) rA_w (okF_1 hok n9_why)) (vx_cwSW 3 hts gL_law_L_why rfl rfl rfl (by decide +kernel) ⟨Nat.le_trans (by decide) hRm.1, Nat.le_trans (by decide) hRm.2⟩) hB hP hKX (bZ_at hZ hS) hNc rfl hl rfl (Nat.le_of_ble_eq_true rfl) dL_law_951 hf) hS hA_0 (fun H1 locs f1 hB hP hf1 hq hz hS => ?_)
  have hR := bk_kept hR (fun q h1 h2 => hq q (bk_size hR LRR_len q h1 (by rw [LRR_len] at h2; exact h2)) (fun z => by rw [LRR_len] at h2; have hh1 : s.heap.size + 194 ≤ q := h1; have hh2 : q < s.heap.size + 194 + 9 := h2; rcases z with z | z; have h5 := z.2; omega; have h5 : q = s.heap.size + 203 := z; omega))
  refine lv_istore (lv' := (5, .int (plc 1 9 (f_X6_why M (xs (i + 1))).1)) :: lwV s b i) hx hb dL_law_954 hl (by decide) rfl (fun ls hl => ?_)
  refine lv_aload_n hx hb dL_law_956 rfl (lv_at hl 3 rfl) ?_
  refine lv_aload_n hx hb dL_law_957 rfl (lv_at hl 1 rfl) ?_
  refine lv_iload hx hb dL_law_958 (lv_at hl 5 rfl) ?_
  refine lv_iconst (v := 1) hx hb dL_law_960 (by decide) ?_
  refine w_iaddN (i := i) (j := 1) hx hb rfl dL_law_961 ?_
  refine w_sld hx hb hX hbl hS hL (show i + 1 < L by omega) dL_law_962 ?_
  refine w_mI (b_runV (As := [.int (xs (i + 1))]) (rest := []) ⟨hx, hb, hml, hown, hts⟩ (c_X7_why l D E (oB s) R (xs (i + 1)) (sS_hg hs)) (cwV 1 hts gL_law_X7_why rfl rfl rfl (by decide +kernel) ⟨Nat.le_trans (by decide) hRm.1, Nat.le_trans (by decide) hRm.2⟩) hKX.1 (bk_recv hKX.1.1 hR lay_m0 rfl) hR rfl hl rfl (Nat.le_of_ble_eq_true rfl) dL_law_963 ⟨by have := hf.1; omega, by have := hf.2; omega⟩) hS rB_0 (fun r R1 hr H2 locs hR hq2 hz2 hS => ?_)
  obtain ⟨hr1, hr2⟩ := hr
  have hr1 := hr1.symm
  have hr2 := hr2.symm
  subst hr1
  subst hr2
  have hB := bk_kept hB (fun q h1 h2 => hq2 q (fun z => by rw [LRM_len] at h2; have h5 : s.heap.size + 194 ≤ q := z.1; omega))
  have hP := va_at.kept hP (hq2 (oW s) (fun z => by have h5 : s.heap.size + 203 < s.heap.size + 194 + 9 := z.2; omega))
  refine lv_istore (lv' := (6, .int (f_X7_why R (xs (i + 1))).1) :: (5, .int (plc 1 9 (f_X6_why M (xs (i + 1))).1)) :: lwV s b i) hx hb dL_law_966 hl (by decide) rfl (fun ls hl => ?_)
  refine lv_aload_n hx hb dL_law_968 rfl (lv_at hl 4 rfl) ?_
  refine w_pI (b_runV (As := []) (rest := []) ⟨hx, hb, hml, hown, hts⟩ (c_X7_thrown l D E (oB s) (f_X7_why R (xs (i + 1))).2) (cwV 0 hts gL_law_X7_thrown rfl rfl rfl (by decide +kernel) ⟨Nat.le_trans (by decide) hRm.1, Nat.le_trans (by decide) hRm.2⟩) hKX.1 (bk_recv hKX.1.1 hR lay_m0 rfl) hR rfl hl rfl (Nat.le_of_ble_eq_true rfl) dL_law_969 ⟨by have := hf.1; omega, by have := hf.2; omega⟩) hS (fun r hr locs hS => ?_)
  rw [u_f_X7_thrown, hok.1] at hr
  have hr := hr.symm
  subst hr
  refine lv_iload hx hb dL_law_972 (lv_at hl 1 rfl) ?_
  refine lv_icmp_eq (tgt := 979) hx hb dL_law_974 (by decide) (fun _ => ?_) (fun z => absurd rfl z)
  have hI : lwI s D E H2 locs (f_X6_why M (xs (i + 1))).2.2 (f_X7_why R (xs (i + 1))).2 f1 (V + 1) := ⟨hB, hR, hP, hS, hok.2.2.2, gb_rd hg (fr_X7_why R (xs (i + 1)) 2 (by decide)) (fr_X7_why R (xs (i + 1)) 4 (by decide)) (fr_X7_why R (xs (i + 1)) 5 (by decide))⟩
  have hl0 : lv_has ls 7 (lwV s b i) := lv_sub hl [2, 3, 4, 5, 6] rfl
  refine lv_iload hx hb dL_law_979 (lv_at hl 1 rfl) ?_
  refine lv_if_ne (tgt := 996) hx hb dL_law_981 (by decide) (fun _ => ?_) (fun z => ?_)
  · exact lv_goto (tgt := 1529) hx hb dL_law_996 (by decide) (kk _ _ _ _ _ _ hI hl0)
  · have h0 := plc_0 z
    refine lv_aload_n hx hb dL_law_984 rfl (lv_at hl 5 rfl) ?_
    refine lv_iconst (v := 0) hx hb dL_law_985 (by decide) ?_
    refine w_lald hx hb hKX.1.1 hP dL_law_986 ?_
    refine lv_iload hx hb dL_law_987 (lv_at hl 0 rfl) ?_
    refine lv_i2l (v := (f_X7_why R (xs (i + 1))).1.toInt64) hx hb dL_law_989 rfl ?_
    refine W.lcmp hx hb dL_law_990 ?_
    refine lv_if_eq (tgt := 996) hx hb dL_law_991 (by decide) (fun _ => ?_) (fun z => absurd ((cmp_z _ _).mpr ((hf1 h0).trans (by rw [hok.2.2.1 h0]))) z)
    exact lv_goto (tgt := 1529) hx hb dL_law_996 (by decide) (kk _ _ _ _ _ _ hI hl0)
theorem l_whyDam {p : Program} {l : Launch} {e : Env} {Rm : Room} {s : State} {m : MethodId} {args : Array Value} {below : List Frame} {meth : Method} {c : Code} {b L : Nat} {xs : Nat → Int32} {D : va_G} {E : Nat → ClassId} (C0 : lwC p l s m args meth c b L xs D E) (hRm : 12 ≤ Rm.frames ∧ 400 ≤ Rm.locals) {Q : State → Prop} {H : Heap} {locs : List Loc} {cells slots : Nat} {ls : Array Slot} {M R : bM} {f : Nat → Int64} {i V : Nat} (hV : 121 ≤ V) (hV8 : V + 8 < 2 ^ 20) (I : lwI s D E H locs M R f V) (hl : lv_has ls 7 (lwV s b i)) (hi : i + 3 < L) (hf : cells + 1 ≤ Rm.cells ∧ slots + 6 ≤ Rm.slots)
    (kk : ∀ (M1 R1 : bM) (f1 : Nat → Int64) (H1 : Heap) (locs1 : List Loc) (ls1 : Array Slot), lwI s D E H1 locs1 M1 R1 f1 (V + 1) → lv_has ls1 7 (lwV s b i) → W p l e Rm s m args below meth c H1 locs1 (cells + 1) (slots + 6) Q (F0 m 1529 ls1 [])) : W p l e Rm s m args below meth c H locs cells slots Q (F0 m 999 ls []) := by
  obtain ⟨hx, hb, hml, hown, hts, hX, hbl, hKX, hZ, hNc, hst, hL⟩ := C0
  obtain ⟨hB, hR, hP, hS, hs, hg⟩ := I
  have hok := ok_whyDam (M := M) (R := R) (x1 := (xs (i + 1))) (x2 := (xs (i + 2))) hs
  refine lv_aload_n hx hb dL_law_999 rfl (lv_at hl 1 rfl) ?_
  refine lv_aload_n hx hb dL_law_1000 rfl (lv_at hl 0 rfl) ?_
  refine lv_iload hx hb dL_law_1001 (lv_at hl 4 rfl) ?_
  refine lv_iconst (v := 1) hx hb dL_law_1003 (by decide) ?_
  refine w_iaddN (i := i) (j := 1) hx hb rfl dL_law_1004 ?_
  refine w_sld hx hb hX hbl hS hL (show i + 1 < L by omega) dL_law_1005 ?_
  refine lv_aload_n hx hb dL_law_1006 rfl (lv_at hl 0 rfl) ?_
  refine lv_iload hx hb dL_law_1007 (lv_at hl 4 rfl) ?_
  refine lv_iconst (v := 2) hx hb dL_law_1009 (by decide) ?_
  refine w_iaddN (i := i) (j := 2) hx hb rfl dL_law_1010 ?_
  refine w_sld hx hb hX hbl hS hL (show i + 2 < L by omega) dL_law_1011 ?_
  refine lv_aload_n hx hb dL_law_1012 rfl (lv_at hl 3 rfl) ?_
  refine w_help (w_runS (As := [.ref (s.heap.size + 0), .int (xs (i + 1)), .int (xs (i + 2)), .ref (oW s)]) (rest := []) ⟨hx, hb, hml, hown, hts⟩ (h_whyDam l hst D E s.heap.size (oW s) f M (xs (i + 1)) (xs (i + 2)) rA_w (okF_1 hok n9_whyDam)) (vx_cwSW 4 hts gL_law_L_whyDam rfl rfl rfl (by decide +kernel) ⟨Nat.le_trans (by decide) hRm.1, Nat.le_trans (by decide) hRm.2⟩) hB hP hKX (bZ_at hZ hS) hNc rfl hl rfl (Nat.le_of_ble_eq_true rfl) dL_law_1013 hf) hS hA_0 (fun H1 locs f1 hB hP hf1 hq hz hS => ?_)
  have hR := bk_kept hR (fun q h1 h2 => hq q (bk_size hR LRR_len q h1 (by rw [LRR_len] at h2; exact h2)) (fun z => by rw [LRR_len] at h2; have hh1 : s.heap.size + 194 ≤ q := h1; have hh2 : q < s.heap.size + 194 + 9 := h2; rcases z with z | z; have h5 := z.2; omega; have h5 : q = s.heap.size + 203 := z; omega))
  refine lv_istore (lv' := (5, .int (plc 3 9 (f_X6_whyDam M (xs (i + 1)) (xs (i + 2))).1)) :: lwV s b i) hx hb dL_law_1016 hl (by decide) rfl (fun ls hl => ?_)
  refine lv_aload_n hx hb dL_law_1018 rfl (lv_at hl 3 rfl) ?_
  refine lv_aload_n hx hb dL_law_1019 rfl (lv_at hl 1 rfl) ?_
  refine lv_iload hx hb dL_law_1020 (lv_at hl 5 rfl) ?_
  refine lv_iconst (v := 1) hx hb dL_law_1022 (by decide) ?_
  refine w_iaddN (i := i) (j := 1) hx hb rfl dL_law_1023 ?_
  refine w_sld hx hb hX hbl hS hL (show i + 1 < L by omega) dL_law_1024 ?_
  refine lv_aload_n hx hb dL_law_1025 rfl (lv_at hl 1 rfl) ?_
  refine lv_iload hx hb dL_law_1026 (lv_at hl 5 rfl) ?_
  refine lv_iconst (v := 2) hx hb dL_law_1028 (by decide) ?_
  refine w_iaddN (i := i) (j := 2) hx hb rfl dL_law_1029 ?_
  refine w_sld hx hb hX hbl hS hL (show i + 2 < L by omega) dL_law_1030 ?_
  refine w_mI (b_runV (As := [.int (xs (i + 1)), .int (xs (i + 2))]) (rest := []) ⟨hx, hb, hml, hown, hts⟩ (c_X7_whyDam l D E (oB s) R (xs (i + 1)) (xs (i + 2)) (sS_hg hs)) (cwV 2 hts gL_law_X7_whyDam rfl rfl rfl (by decide +kernel) ⟨Nat.le_trans (by decide) hRm.1, Nat.le_trans (by decide) hRm.2⟩) hKX.1 (bk_recv hKX.1.1 hR lay_m0 rfl) hR rfl hl rfl (Nat.le_of_ble_eq_true rfl) dL_law_1031 ⟨by have := hf.1; omega, by have := hf.2; omega⟩) hS rB_0 (fun r R1 hr H2 locs hR hq2 hz2 hS => ?_)
  obtain ⟨hr1, hr2⟩ := hr
  have hr1 := hr1.symm
  have hr2 := hr2.symm
  subst hr1
  subst hr2
  have hB := bk_kept hB (fun q h1 h2 => hq2 q (fun z => by rw [LRM_len] at h2; have h5 : s.heap.size + 194 ≤ q := z.1; omega))
  have hP := va_at.kept hP (hq2 (oW s) (fun z => by have h5 : s.heap.size + 203 < s.heap.size + 194 + 9 := z.2; omega))
  refine lv_istore (lv' := (6, .int (f_X7_whyDam R (xs (i + 1)) (xs (i + 2))).1) :: (5, .int (plc 3 9 (f_X6_whyDam M (xs (i + 1)) (xs (i + 2))).1)) :: lwV s b i) hx hb dL_law_1034 hl (by decide) rfl (fun ls hl => ?_)
  refine lv_aload_n hx hb dL_law_1036 rfl (lv_at hl 4 rfl) ?_
  refine w_pI (b_runV (As := []) (rest := []) ⟨hx, hb, hml, hown, hts⟩ (c_X7_thrown l D E (oB s) (f_X7_whyDam R (xs (i + 1)) (xs (i + 2))).2) (cwV 0 hts gL_law_X7_thrown rfl rfl rfl (by decide +kernel) ⟨Nat.le_trans (by decide) hRm.1, Nat.le_trans (by decide) hRm.2⟩) hKX.1 (bk_recv hKX.1.1 hR lay_m0 rfl) hR rfl hl rfl (Nat.le_of_ble_eq_true rfl) dL_law_1037 ⟨by have := hf.1; omega, by have := hf.2; omega⟩) hS (fun r hr locs hS => ?_)
  rw [u_f_X7_thrown, hok.1] at hr
  have hr := hr.symm
  subst hr
  refine lv_iload hx hb dL_law_1040 (lv_at hl 1 rfl) ?_
  refine lv_icmp_eq (tgt := 1047) hx hb dL_law_1042 (by decide) (fun _ => ?_) (fun z => absurd rfl z)
  have hI : lwI s D E H2 locs (f_X6_whyDam M (xs (i + 1)) (xs (i + 2))).2.2 (f_X7_whyDam R (xs (i + 1)) (xs (i + 2))).2 f1 (V + 1) := ⟨hB, hR, hP, hS, hok.2.2.2, gb_whyDam hg⟩
  have hl0 : lv_has ls 7 (lwV s b i) := lv_sub hl [2, 3, 4, 5, 6] rfl
  refine lv_iload hx hb dL_law_1047 (lv_at hl 1 rfl) ?_
  refine lv_if_ne (tgt := 1064) hx hb dL_law_1049 (by decide) (fun _ => ?_) (fun z => ?_)
  · exact lv_goto (tgt := 1529) hx hb dL_law_1064 (by decide) (kk _ _ _ _ _ _ hI hl0)
  · have h0 := plc_0 z
    refine lv_aload_n hx hb dL_law_1052 rfl (lv_at hl 5 rfl) ?_
    refine lv_iconst (v := 0) hx hb dL_law_1053 (by decide) ?_
    refine w_lald hx hb hKX.1.1 hP dL_law_1054 ?_
    refine lv_iload hx hb dL_law_1055 (lv_at hl 0 rfl) ?_
    refine lv_i2l (v := (f_X7_whyDam R (xs (i + 1)) (xs (i + 2))).1.toInt64) hx hb dL_law_1057 rfl ?_
    refine W.lcmp hx hb dL_law_1058 ?_
    refine lv_if_eq (tgt := 1064) hx hb dL_law_1059 (by decide) (fun _ => ?_) (fun z => absurd ((cmp_z _ _).mpr ((hf1 h0).trans (by rw [hok.2.2.1 h0]))) z)
    exact lv_goto (tgt := 1529) hx hb dL_law_1064 (by decide) (kk _ _ _ _ _ _ hI hl0)
