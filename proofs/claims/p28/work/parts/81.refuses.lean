/-! THE LAW'S refuses -/
set_option maxHeartbeats 40000000 in
set_option maxRecDepth 100000 in
theorem c_refuses (l : Launch) (hst : l.stackTraces = false) (D : va_G) (E : Nat → ClassId) (o : Nat) (S : aT) (X : Nat) (hX : X < 100000) (a b : Nat) (e14 : S.1 14 = nI (a + 1)) (ha : a < 64) (e19 : S.1 19 = nI (b + 1)) (hb6 : b < 64) (hB1 : S.1 1 = 1 → ¬ aB S = -1 → ¬ f_X7_canStep (mkR S) 2 = 0) (hB2 : ¬ S.1 1 = 1 → aB S = -1) : Met l yL_refuses wsL_refuses (lRm 9 40 240) (lP D E [.ref o, .int (nI X)] (Ob D E o S) (rA o)) (lQ (fun r H => r = 1 ∧ Ob D E o S H) (rA o)) 40 240 (rA o) := by
  refine Met.ofW (cc := cL_refuses) (maxL := 7) (ret := (some .boolean)) (by decide) rfl ?_
  intro p e s m args below meth co s₁ B hml hv
  obtain ⟨rfl, hO, hKX, hZ, hNc⟩ := hv
  have hx := B.exec
  have hb := B.bytes
  have hr := B.returns
  have hts := atoms_spec (ws := wsL_refuses) B.pre
  have hown : s.vm.findClass RL = some m.cls := findClass_of_methodNamed B.named
  have hlocks := B.notSynchronized
  have hS : va_S (rA o) s.heap s.heap [] := ⟨Nat.le_refl _, fun _ _ _ => rfl, fun _ h => by cases h⟩
  have hl := lv_entry ([.ref o, .int (nI X)]) (n := 7) (Nat.le_of_ble_eq_true rfl)
  rw [lg_entry_eq]
  generalize (lg_sl ([.ref o, .int (nI X)]) ++ List.replicate (7 - (lg_sl ([.ref o, .int (nI X)])).length) Slot.unset).toArray = ls at hl ⊢
  have hl : lv_has ls 7 [(0, .ref o), (1, .int (nI (X)))] := hl
  have K : lK p l s m _ co D E (rA o) cL_refuses 7 wsL_refuses := ⟨hx, hb, hml, hown, hts, hKX, hZ, hNc, hst⟩
  refine lv_iload_n hx hb dL_refuses_0 rfl (lv_at hl 1 rfl) ?_
  refine lv_iconst (v := 2) hx hb dL_refuses_1 (by decide) ?_
  refine w_rem (a := X) (d := 2) hx hb rfl (by omega) (by decide) (by decide) dL_refuses_2 ?_
  refine w_joinB (J := 21) (rest := []) (P0 := fun v => ¬ vp_in v 2) (fun kk => ?_) (fun w1 n1 => ?_)
  · refine lv_if_ne (tgt := 15) hx hb dL_refuses_3 (by decide) (fun c9 => ?_) (fun c9 => ?_)
    · refine lv_iconst (v := 2) hx hb dL_refuses_15 (by decide) ?_
      refine lv_iload_n hx hb dL_refuses_16 rfl (lv_at hl 1 rfl) ?_
      refine lv_bipush (v := 99) hx hb dL_refuses_17 (by decide) ?_
      refine w_rem (a := X) (d := 99) hx hb rfl (by omega) (by decide) (by decide) dL_refuses_19 ?_
      refine w_add (i := 2) (j := (X) % 99) hx hb rfl rfl dL_refuses_20 ?_
      exact kk _ (big_out (by omega) (by omega))
    · refine lv_iconst (v := (-1)) hx hb dL_refuses_6 (by decide) ?_
      refine lv_iload_n hx hb dL_refuses_7 rfl (lv_at hl 1 rfl) ?_
      refine lv_bipush (v := 99) hx hb dL_refuses_8 (by decide) ?_
      refine w_rem (a := X) (d := 99) hx hb rfl (by omega) (by decide) (by decide) dL_refuses_10 ?_
      refine lv_isub hx hb dL_refuses_11 ?_
      refine lv_goto (tgt := 21) hx hb dL_refuses_12 (by decide) ?_
      exact kk _ (neg_out (by omega))
  refine lv_istore_n (lv' := [(2, .int w1), (0, .ref o), (1, .int (nI (X)))]) hx hb dL_refuses_21 rfl hl (by decide) rfl (fun ls hl => ?_)
  refine lv_iload_n hx hb dL_refuses_22 rfl (lv_at hl 2 rfl) ?_
  refine lv_iconst (v := 2) hx hb dL_refuses_23 (by decide) ?_
  refine w_rem (a := X) (d := 2) hx hb rfl (by omega) (by decide) (by decide) dL_refuses_24 ?_
  refine w_joinB (J := 44) (rest := []) (P0 := fun v => ¬ vp_in v 8) (fun kk => ?_) (fun w2 n2 => ?_)
  · refine lv_if_ne (tgt := 37) hx hb dL_refuses_25 (by decide) (fun c9 => ?_) (fun c9 => ?_)
    · refine lv_bipush (v := 8) hx hb dL_refuses_37 (by decide) ?_
      refine lv_iload_n hx hb dL_refuses_39 rfl (lv_at hl 2 rfl) ?_
      refine lv_bipush (v := 99) hx hb dL_refuses_40 (by decide) ?_
      refine w_rem (a := X) (d := 99) hx hb rfl (by omega) (by decide) (by decide) dL_refuses_42 ?_
      refine w_add (i := 8) (j := (X) % 99) hx hb rfl rfl dL_refuses_43 ?_
      exact kk _ (big_out (by omega) (by omega))
    · refine lv_iconst (v := (-1)) hx hb dL_refuses_28 (by decide) ?_
      refine lv_iload_n hx hb dL_refuses_29 rfl (lv_at hl 2 rfl) ?_
      refine lv_bipush (v := 99) hx hb dL_refuses_30 (by decide) ?_
      refine w_rem (a := X) (d := 99) hx hb rfl (by omega) (by decide) (by decide) dL_refuses_32 ?_
      refine lv_isub hx hb dL_refuses_33 ?_
      refine lv_goto (tgt := 44) hx hb dL_refuses_34 (by decide) ?_
      exact kk _ (neg_out (by omega))
  refine lv_istore_n (lv' := [(3, .int w2), (2, .int w1), (0, .ref o), (1, .int (nI (X)))]) hx hb dL_refuses_44 rfl hl (by decide) rfl (fun ls hl => ?_)
  refine lv_aload_n hx hb dL_refuses_45 rfl (lv_at hl 2 rfl) ?_
  refine lv_iconst (v := 2) hx hb dL_refuses_46 (by decide) ?_
  refine lv_iconst (v := 1) hx hb dL_refuses_47 (by decide) ?_
  refine lv_iconst (v := 0) hx hb dL_refuses_48 (by decide) ?_
  refine lv_iconst (v := 0) hx hb dL_refuses_49 (by decide) ?_
  refine l_go (cells' := 1) (slots' := 6) (l_runS (P := Ob D E o S) (As := [.ref o, .int 2, .int 1, .int 0, .int 0]) (rest := []) ⟨hx, hb, hml, hown, hts⟩ (c_call_2 l hst D E o S 1 0 0) (va_cwS 5 hts gL_refuses_L_call rfl rfl rfl (by decide +kernel) ⟨Nat.le_of_ble_eq_true rfl, Nat.le_of_ble_eq_true rfl⟩) hO hKX (l_Z hZ hS (fun _ h => h)) hNc rfl hl rfl (Nat.le_of_ble_eq_true rfl) dL_refuses_50 ⟨Nat.le_of_ble_eq_true rfl, Nat.le_of_ble_eq_true rfl⟩) hS (fun _ h => h) ⟨Nat.le_of_ble_eq_true rfl, Nat.le_of_ble_eq_true rfl⟩ (fun r50 H locs hp hq hz hS => ?_)
  obtain ⟨h50, hO⟩ := hp
  have hO : Ob D E o S H := hO
  refine lv_istore (lv' := [(4, .int r50), (3, .int w2), (2, .int w1), (0, .ref o), (1, .int (nI (X)))]) hx hb dL_refuses_53 hl (by decide) rfl (fun ls hl => ?_)
  refine rf_1 K hO hS hl hX n1 n2 e14 ha e19 hb6 (fun H locs ls hO hS hl => ?_)
  refine rf_2 K hO hS hl hX n1 n2 e14 ha e19 hb6 (fun H locs ls hO hS hl => ?_)
  refine rf_3 K hO hS hl hX n1 n2 e14 ha e19 hb6 (fun H locs ls hO hS hl => ?_)
  refine rf_4 K hO hS hl hX n1 n2 e14 ha e19 hb6 (fun H locs ls r582 hO hS hl h582 => ?_)
  refine lv_iconst (v := (-1)) hx hb dL_refuses_585 (by decide) ?_
  refine w_joinB (J := 594) (rest := []) (P0 := fun v => v = if aB S = -1 then 0 else 1) (fun kk => ?_) (fun w8 n8 => ?_)
  · refine lv_icmp_eq (tgt := 593) hx hb dL_refuses_586 (by decide) (fun c9 => ?_) (fun c9 => ?_)
    · refine lv_iconst (v := 0) hx hb dL_refuses_593 (by decide) ?_
      exact kk _ (by rw [h582] at c9; rw [if_pos c9])
    · refine lv_iconst (v := 1) hx hb dL_refuses_589 (by decide) ?_
      refine lv_goto (tgt := 594) hx hb dL_refuses_590 (by decide) ?_
      exact kk _ (by rw [h582] at c9; rw [if_neg c9])
  refine lv_istore (lv' := [(6, .int w8), (5, .int 1), (4, .int r50), (3, .int w2), (2, .int w1), (0, .ref o), (1, .int (nI (X)))]) hx hb dL_refuses_594 hl (by decide) rfl (fun ls hl => ?_)
  refine lv_iload hx hb dL_refuses_596 (lv_at hl 1 rfl) ?_
  refine lv_if_eq (tgt := 717) hx hb dL_refuses_598 (by decide) (fun z => absurd z (show ¬ (1 : Int32) = 0 by decide)) (fun _ => ?_)
  refine lv_iload hx hb dL_refuses_601 (lv_at hl 2 rfl) ?_
  refine lv_iconst (v := 1) hx hb dL_refuses_603 (by decide) ?_
  refine lv_icmp_ne (tgt := 629) hx hb dL_refuses_604 (by decide) (fun cp => ?_) (fun cp => ?_)
  · have hnp : ¬ S.1 1 = 1 := fun q => cp (h50.trans (a_ab1.trans q))
    refine lv_aload_n hx hb dL_refuses_629 rfl (lv_at hl 5 rfl) ?_
    refine lv_bipush (v := 7) hx hb dL_refuses_630 (by decide) ?_
    refine lv_iconst (v := 0) hx hb dL_refuses_632 (by decide) ?_
    refine lv_iconst (v := 0) hx hb dL_refuses_633 (by decide) ?_
    refine lv_iconst (v := 0) hx hb dL_refuses_634 (by decide) ?_
    refine l_go (cells' := 30) (slots' := 180) (l_runS (P := Ob D E o S) (As := [.ref o, .int 7, .int 0, .int 0, .int 0]) (rest := []) ⟨hx, hb, hml, hown, hts⟩ (c_call_7 l hst D E o S 0 0 0) (va_cwS 5 hts gL_refuses_L_call rfl rfl rfl (by decide +kernel) ⟨Nat.le_of_ble_eq_true rfl, Nat.le_of_ble_eq_true rfl⟩) hO hKX (l_Z hZ hS (fun _ h => h)) hNc rfl hl rfl (Nat.le_of_ble_eq_true rfl) dL_refuses_635 ⟨Nat.le_of_ble_eq_true rfl, Nat.le_of_ble_eq_true rfl⟩) hS (fun _ h => h) ⟨Nat.le_of_ble_eq_true rfl, Nat.le_of_ble_eq_true rfl⟩ (fun r635 H locs hp hq hz hS => ?_)
    obtain ⟨h635, hO⟩ := hp
    rw [(show tF 7 S 0 0 = S from (a_stO (j := 0) (b := 0) (c := 0) (by decide) hnp).2)] at hO
    refine lv_ldc (v := (-9999003)) hx hb hown (hts (.constant RL 26 (-9999003)) (List.mem_of_getElem? (i := 4) (by decide +kernel))) dL_refuses_638 ?_
    refine lv_icmp_ne (tgt := 717) hx hb dL_refuses_640 (by decide) (fun z => absurd (h635.trans (a_stO (j := 0) (by decide) hnp).1) z) (fun _ => ?_)
    refine lv_aload_n hx hb dL_refuses_643 rfl (lv_at hl 5 rfl) ?_
    refine lv_bipush (v := 8) hx hb dL_refuses_644 (by decide) ?_
    refine lv_iconst (v := 0) hx hb dL_refuses_646 (by decide) ?_
    refine lv_iconst (v := 0) hx hb dL_refuses_647 (by decide) ?_
    refine lv_iconst (v := 0) hx hb dL_refuses_648 (by decide) ?_
    refine l_go (cells' := 31) (slots' := 186) (l_runS (P := Ob D E o S) (As := [.ref o, .int 8, .int 0, .int 0, .int 0]) (rest := []) ⟨hx, hb, hml, hown, hts⟩ (c_call_8 l hst D E o S 0 0 0) (va_cwS 5 hts gL_refuses_L_call rfl rfl rfl (by decide +kernel) ⟨Nat.le_of_ble_eq_true rfl, Nat.le_of_ble_eq_true rfl⟩) hO hKX (l_Z hZ hS (fun _ h => h)) hNc rfl hl rfl (Nat.le_of_ble_eq_true rfl) dL_refuses_649 ⟨Nat.le_of_ble_eq_true rfl, Nat.le_of_ble_eq_true rfl⟩) hS (fun _ h => h) ⟨Nat.le_of_ble_eq_true rfl, Nat.le_of_ble_eq_true rfl⟩ (fun r649 H locs hp hq hz hS => ?_)
    obtain ⟨h649, hO⟩ := hp
    rw [(show tF 8 S 0 0 = S from (a_daO (x := 0) (y := 0) (c := 0) (by decide) (by decide) hnp).2)] at hO
    refine lv_ldc (v := (-9999003)) hx hb hown (hts (.constant RL 26 (-9999003)) (List.mem_of_getElem? (i := 4) (by decide +kernel))) dL_refuses_652 ?_
    refine lv_icmp_ne (tgt := 717) hx hb dL_refuses_654 (by decide) (fun z => absurd (h649.trans (a_daO (x := 0) (y := 0) (by decide) (by decide) hnp).1) z) (fun _ => ?_)
    refine lv_aload_n hx hb dL_refuses_657 rfl (lv_at hl 5 rfl) ?_
    refine lv_bipush (v := 9) hx hb dL_refuses_658 (by decide) ?_
    refine lv_iconst (v := 0) hx hb dL_refuses_660 (by decide) ?_
    refine lv_iconst (v := 0) hx hb dL_refuses_661 (by decide) ?_
    refine lv_iconst (v := 0) hx hb dL_refuses_662 (by decide) ?_
    refine l_go (cells' := 32) (slots' := 192) (l_runS (P := Ob D E o S) (As := [.ref o, .int 9, .int 0, .int 0, .int 0]) (rest := []) ⟨hx, hb, hml, hown, hts⟩ (c_call_9 l hst D E o S 0 0 0) (va_cwS 5 hts gL_refuses_L_call rfl rfl rfl (by decide +kernel) ⟨Nat.le_of_ble_eq_true rfl, Nat.le_of_ble_eq_true rfl⟩) hO hKX (l_Z hZ hS (fun _ h => h)) hNc rfl hl rfl (Nat.le_of_ble_eq_true rfl) dL_refuses_663 ⟨Nat.le_of_ble_eq_true rfl, Nat.le_of_ble_eq_true rfl⟩) hS (fun _ h => h) ⟨Nat.le_of_ble_eq_true rfl, Nat.le_of_ble_eq_true rfl⟩ (fun r663 H locs hp hq hz hS => ?_)
    obtain ⟨h663, hO⟩ := hp
    rw [(a_flO (a := 0) (b := 0) (c := 0) (fun q => absurd q hnp)).2] at hO
    refine lv_ldc (v := (-9999003)) hx hb hown (hts (.constant RL 26 (-9999003)) (List.mem_of_getElem? (i := 4) (by decide +kernel))) dL_refuses_666 ?_
    refine lv_icmp_ne (tgt := 717) hx hb dL_refuses_668 (by decide) (fun z => absurd (h663.trans (a_flO (fun q => absurd q hnp)).1) z) (fun _ => ?_)
    refine lv_aload_n hx hb dL_refuses_671 rfl (lv_at hl 5 rfl) ?_
    refine lv_bipush (v := 12) hx hb dL_refuses_672 (by decide) ?_
    refine lv_iload_n hx hb dL_refuses_674 rfl (lv_at hl 6 rfl) ?_
    refine lv_iconst (v := 3) hx hb dL_refuses_675 (by decide) ?_
    refine w_rem (a := X) (d := 3) hx hb rfl (by omega) (by decide) (by decide) dL_refuses_676 ?_
    refine lv_iconst (v := 0) hx hb dL_refuses_677 (by decide) ?_
    refine lv_iconst (v := 0) hx hb dL_refuses_678 (by decide) ?_
    refine l_go (cells' := 33) (slots' := 198) (l_runS (P := Ob D E o S) (As := [.ref o, .int 12, .int (nI ((X) % 3)), .int 0, .int 0]) (rest := []) ⟨hx, hb, hml, hown, hts⟩ (c_call_12 l hst D E o S (nI ((X) % 3)) 0 0) (va_cwS 5 hts gL_refuses_L_call rfl rfl rfl (by decide +kernel) ⟨Nat.le_of_ble_eq_true rfl, Nat.le_of_ble_eq_true rfl⟩) hO hKX (l_Z hZ hS (fun _ h => h)) hNc rfl hl rfl (Nat.le_of_ble_eq_true rfl) dL_refuses_679 ⟨Nat.le_of_ble_eq_true rfl, Nat.le_of_ble_eq_true rfl⟩) hS (fun _ h => h) ⟨Nat.le_of_ble_eq_true rfl, Nat.le_of_ble_eq_true rfl⟩ (fun r679 H locs hp hq hz hS => ?_)
    obtain ⟨h679, hO⟩ := hp
    have hO : Ob D E o S H := hO
    refine lv_iconst (v := (-1)) hx hb dL_refuses_682 (by decide) ?_
    refine lv_icmp_ne (tgt := 717) hx hb dL_refuses_683 (by decide) (fun z => absurd (h679.trans ((a_why (by omega)).trans (if_neg hnp))) z) (fun _ => ?_)
    refine lv_aload_n hx hb dL_refuses_686 rfl (lv_at hl 5 rfl) ?_
    refine lv_bipush (v := 13) hx hb dL_refuses_687 (by decide) ?_
    refine lv_iload_n hx hb dL_refuses_689 rfl (lv_at hl 6 rfl) ?_
    refine lv_bipush (v := 8) hx hb dL_refuses_690 (by decide) ?_
    refine w_rem (a := X) (d := 8) hx hb rfl (by omega) (by decide) (by decide) dL_refuses_692 ?_
    refine lv_iload_n hx hb dL_refuses_693 rfl (lv_at hl 6 rfl) ?_
    refine lv_bipush (v := 8) hx hb dL_refuses_694 (by decide) ?_
    refine w_div (a := X) (d := 8) hx hb rfl (by omega) (by decide) (by decide) dL_refuses_696 ?_
    refine lv_bipush (v := 8) hx hb dL_refuses_697 (by decide) ?_
    refine w_rem (a := (X) / 8) (d := 8) hx hb rfl (by omega) (by decide) (by decide) dL_refuses_699 ?_
    refine lv_iconst (v := 0) hx hb dL_refuses_700 (by decide) ?_
    refine l_go (cells' := 34) (slots' := 204) (l_runS (P := Ob D E o S) (As := [.ref o, .int 13, .int (nI ((X) % 8)), .int (nI (((X) / 8) % 8)), .int 0]) (rest := []) ⟨hx, hb, hml, hown, hts⟩ (c_call_13 l hst D E o S (nI ((X) % 8)) (nI (((X) / 8) % 8)) 0) (va_cwS 5 hts gL_refuses_L_call rfl rfl rfl (by decide +kernel) ⟨Nat.le_of_ble_eq_true rfl, Nat.le_of_ble_eq_true rfl⟩) hO hKX (l_Z hZ hS (fun _ h => h)) hNc rfl hl rfl (Nat.le_of_ble_eq_true rfl) dL_refuses_701 ⟨Nat.le_of_ble_eq_true rfl, Nat.le_of_ble_eq_true rfl⟩) hS (fun _ h => h) ⟨Nat.le_of_ble_eq_true rfl, Nat.le_of_ble_eq_true rfl⟩ (fun r701 H locs hp hq hz hS => ?_)
    obtain ⟨h701, hO⟩ := hp
    have hO : Ob D E o S H := hO
    refine lv_iconst (v := (-1)) hx hb dL_refuses_704 (by decide) ?_
    refine lv_icmp_ne (tgt := 717) hx hb dL_refuses_705 (by decide) (fun z => absurd (h701.trans ((a_wd (by omega) (by omega)).trans (if_neg hnp))) z) (fun _ => ?_)
    refine lv_iload hx hb dL_refuses_708 (lv_at hl 0 rfl) ?_
    refine lv_if_ne (tgt := 717) hx hb dL_refuses_710 (by decide) (fun z => absurd (n8.trans (if_pos (hB2 hnp))) z) (fun _ => ?_)
    refine lv_iconst (v := 1) hx hb dL_refuses_713 (by decide) ?_
    refine lv_goto (tgt := 718) hx hb dL_refuses_714 (by decide) ?_
    exact l_zret hx hb hr (Or.inr rfl) hlocks hS ⟨rfl, hO⟩ ⟨Nat.le_of_ble_eq_true rfl, Nat.le_of_ble_eq_true rfl⟩ dL_refuses_718
  · have hph : S.1 1 = 1 := (h50.trans a_ab1).symm.trans cp
    refine lv_iload hx hb dL_refuses_607 (lv_at hl 0 rfl) ?_
    refine lv_if_eq (tgt := 713) hx hb dL_refuses_609 (by decide) (fun cb => ?_) (fun cb => ?_)
    · refine lv_iconst (v := 1) hx hb dL_refuses_713 (by decide) ?_
      refine lv_goto (tgt := 718) hx hb dL_refuses_714 (by decide) ?_
      exact l_zret hx hb hr (Or.inr rfl) hlocks hS ⟨rfl, hO⟩ ⟨Nat.le_of_ble_eq_true rfl, Nat.le_of_ble_eq_true rfl⟩ dL_refuses_718
    · have hbn : ¬ aB S = -1 := fun q => cb (n8.trans (if_pos q))
      refine lv_aload_n hx hb dL_refuses_612 rfl (lv_at hl 5 rfl) ?_
      refine lv_bipush (v := 9) hx hb dL_refuses_613 (by decide) ?_
      refine lv_iconst (v := 0) hx hb dL_refuses_615 (by decide) ?_
      refine lv_iconst (v := 0) hx hb dL_refuses_616 (by decide) ?_
      refine lv_iconst (v := 0) hx hb dL_refuses_617 (by decide) ?_
      refine l_go (cells' := 30) (slots' := 180) (l_runS (P := Ob D E o S) (As := [.ref o, .int 9, .int 0, .int 0, .int 0]) (rest := []) ⟨hx, hb, hml, hown, hts⟩ (c_call_9 l hst D E o S 0 0 0) (va_cwS 5 hts gL_refuses_L_call rfl rfl rfl (by decide +kernel) ⟨Nat.le_of_ble_eq_true rfl, Nat.le_of_ble_eq_true rfl⟩) hO hKX (l_Z hZ hS (fun _ h => h)) hNc rfl hl rfl (Nat.le_of_ble_eq_true rfl) dL_refuses_618 ⟨Nat.le_of_ble_eq_true rfl, Nat.le_of_ble_eq_true rfl⟩) hS (fun _ h => h) ⟨Nat.le_of_ble_eq_true rfl, Nat.le_of_ble_eq_true rfl⟩ (fun r618 H locs hp hq hz hS => ?_)
      obtain ⟨h618, hO⟩ := hp
      rw [(a_flO (a := 0) (b := 0) (c := 0) (fun _ => hB1 hph hbn)).2] at hO
      refine lv_ldc (v := (-9999003)) hx hb hown (hts (.constant RL 26 (-9999003)) (List.mem_of_getElem? (i := 4) (by decide +kernel))) dL_refuses_621 ?_
      refine lv_icmp_ne (tgt := 717) hx hb dL_refuses_623 (by decide) (fun z => absurd (h618.trans (a_flO (fun _ => hB1 hph hbn)).1) z) (fun _ => ?_)
      refine lv_goto (tgt := 713) hx hb dL_refuses_626 (by decide) ?_
      refine lv_iconst (v := 1) hx hb dL_refuses_713 (by decide) ?_
      refine lv_goto (tgt := 718) hx hb dL_refuses_714 (by decide) ?_
      exact l_zret hx hb hr (Or.inr rfl) hlocks hS ⟨rfl, hO⟩ ⟨Nat.le_of_ble_eq_true rfl, Nat.le_of_ble_eq_true rfl⟩ dL_refuses_718
