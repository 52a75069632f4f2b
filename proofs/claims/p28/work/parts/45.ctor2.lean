set_option maxHeartbeats 4000000 in
set_option maxRecDepth 100000 in
theorem c_X5_init (l : Launch) (D : va_G) (E : Nat → ClassId) (o : Nat) : Met l yX5_init wsX5_init { frames := 2, cells := 6, slots := 512, locals := 60 } (bPi D E o 23 (.inr (5, [.null, .null, .null, .null, .null, .null]))) (bQi D E LRM o 23 30 (zW 192)) 6 512 (fun q => o + 23 ≤ q) := by
  refine Met.ofW (cc := cX5_init) (maxL := 2) (ret := none) (by decide) rfl ?_
  intro p e s m args below meth c s₁ B hml hv
  obtain ⟨rfl, hz, hO, hK⟩ := hv
  have hx := B.exec
  have hb := B.bytes
  have hr := B.returns
  have hts := atoms_spec (ws := wsX5_init) B.pre
  have hown : s.vm.findClass RX5 = some m.cls := findClass_of_methodNamed B.named
  have hlocks := B.notSynchronized
  have hini : meth.name = "<init>" := (name_of_methodNamed B.named B.method).1
  have hinX5 : ∀ w ∈ wsX50, w ∈ wsX5_init := by decide +kernel
  have hS : iS (o + 23) s.heap s.heap [] := ⟨fun _ _ => rfl, fun _ h => by cases h⟩
  have hl := lv_entry ([.ref (o + 23)]) (n := 2) (Nat.le_of_ble_eq_true rfl)
  rw [lg_entry_eq]
  generalize (lg_sl ([.ref (o + 23)]) ++ List.replicate (2 - (lg_sl ([.ref (o + 23)])).length) Slot.unset).toArray = ls at hl ⊢
  have hl : lv_has ls 2 [(0, .ref (o + 23))] := hl
  have hz : s.heap.size = o + 24 := hz
  have hR : bkR D E LRM o (24) (24) Z0 s.heap := bkR_nil (Nat.le_refl _)
  refine lv_aload_n hx hb dX5_init_0 rfl (lv_at hl 0 rfl) ?_
  refine W.objInit hx hb hown (hts (.methodLink RX5 3 objectInit) (List.mem_of_getElem? (i := 1) rfl)) (hts (.instanceMethod objectInit) (List.mem_of_getElem? (i := 2) rfl)) (hts (.code objectInit ⟨#[0xb1]⟩ 1 none) (List.mem_of_getElem? (i := 3) rfl)) rfl (by rw [hml]; exact hl.1) rfl dX5_init_1 (Nat.le_of_ble_eq_true rfl) (Nat.le_of_ble_eq_true rfl) ?_
  refine W.eq (g2 := F0 m 4 ls []) rfl ?_
  refine lv_aload_n hx hb dX5_init_4 rfl (lv_at hl 0 rfl) ?_
  refine lv_sipush (v := 192) hx hb dX5_init_5 (by decide) ?_
  refine i_newa (D := D) (E := E) (L := LRM) (M := Z0) (o := o) (n := 24) (t := 0) (N := 192) (j := 0) (atype := .int) hx hb (hts (.arrayClass .int) (List.mem_of_getElem? (i := 4) rfl)) rfl hK.2 rfl (by decide) rfl (Nat.le_of_ble_eq_true rfl) (Nat.le_of_ble_eq_true rfl) (Nat.le_of_ble_eq_true rfl) hz lay_24 rfl dX5_init_8 (fun H1 hz1 hR1 hq1 => ?_)
  have hO := hO.kept (hq1 (o + 23) (by omega))
  have hS : iS (o + 23) s.heap H1 [] := ⟨fun q hq => (hq1 q (by omega)).trans (hS.1 q hq), hS.2⟩
  have hR := bkR_join (bkR_kept hR (fun q h1 h2 => hq1 q h2)) hR1
  have hz : H1.size = o + 25 := hz1
  refine W.widen (k := 1) (n := 192) (Nat.le_of_ble_eq_true rfl) (Nat.le_of_ble_eq_true rfl) ?_
  refine i_putF (D := D) (ci := 5) (v := .ref (o + 24)) (ty := .array .int) (C := RX5) (T := TX5) (N := 6) hx hb hts hinX5 tyX5 tyX5_ok nmX5 hown hK.1.1 hO hS (Nat.le_refl _) rfl 0 (by decide) (hts (.fieldLink RX5 9 "RiverMeeting$Ways" "beside" "[I") (List.mem_of_getElem? (i := 5) rfl)) (fun _ h9 => h9) rfl hini rfl (by decide +kernel) rfl rfl (Nat.le_of_ble_eq_true rfl) dX5_init_10 (fun H2 locs2 hO hz2 hq2 hS => ?_)
  have hO : va_at D vwCl (o + 23, .inr (5, [.ref (o + 24), .null, .null, .null, .null, .null])) H2 := hO
  have hR := bkR_kept hR (fun q h1 h2 => hq2 q (by omega))
  have hz : H2.size = o + 25 := hz2.trans hz
  refine lv_aload_n hx hb dX5_init_13 rfl (lv_at hl 0 rfl) ?_
  refine lv_bipush (v := 64) hx hb dX5_init_14 (by decide) ?_
  refine i_newa (D := D) (E := E) (L := LRM) (M := Z0) (o := o) (n := 25) (t := 1) (N := 64) (j := 1) (atype := .boolean) hx hb (hts (.arrayClass .boolean) (List.mem_of_getElem? (i := 6) rfl)) rfl hK.2 rfl (by decide) rfl (Nat.le_of_ble_eq_true rfl) (Nat.le_of_ble_eq_true rfl) (Nat.le_of_ble_eq_true rfl) hz lay_25 rfl dX5_init_16 (fun H3 hz3 hR3 hq3 => ?_)
  have hO := hO.kept (hq3 (o + 23) (by omega))
  have hS : iS (o + 23) s.heap H3 locs2 := ⟨fun q hq => (hq3 q (by omega)).trans (hS.1 q hq), hS.2⟩
  have hR := bkR_join (bkR_kept hR (fun q h1 h2 => hq3 q h2)) hR3
  have hz : H3.size = o + 26 := hz3
  refine W.widen (k := 2) (n := 256) (Nat.le_of_ble_eq_true rfl) (Nat.le_of_ble_eq_true rfl) ?_
  refine i_putF (D := D) (ci := 5) (v := .ref (o + 25)) (ty := .array .boolean) (C := RX5) (T := TX5) (N := 6) hx hb hts hinX5 tyX5 tyX5_ok nmX5 hown hK.1.1 hO hS (Nat.le_refl _) rfl 1 (by decide) (hts (.fieldLink RX5 15 "RiverMeeting$Ways" "open" "[Z") (List.mem_of_getElem? (i := 7) rfl)) (fun _ h9 => h9) rfl hini rfl (by decide +kernel) rfl rfl (Nat.le_of_ble_eq_true rfl) dX5_init_18 (fun H4 locs4 hO hz4 hq4 hS => ?_)
  have hO : va_at D vwCl (o + 23, .inr (5, [.ref (o + 24), .ref (o + 25), .null, .null, .null, .null])) H4 := hO
  have hR := bkR_kept hR (fun q h1 h2 => hq4 q (by omega))
  have hz : H4.size = o + 26 := hz4.trans hz
  refine lv_aload_n hx hb dX5_init_21 rfl (lv_at hl 0 rfl) ?_
  refine lv_bipush (v := 64) hx hb dX5_init_22 (by decide) ?_
  refine i_newa (D := D) (E := E) (L := LRM) (M := Z0) (o := o) (n := 26) (t := 0) (N := 64) (j := 0) (atype := .int) hx hb (hts (.arrayClass .int) (List.mem_of_getElem? (i := 4) rfl)) rfl hK.2 rfl (by decide) rfl (Nat.le_of_ble_eq_true rfl) (Nat.le_of_ble_eq_true rfl) (Nat.le_of_ble_eq_true rfl) hz lay_26 rfl dX5_init_24 (fun H5 hz5 hR5 hq5 => ?_)
  have hO := hO.kept (hq5 (o + 23) (by omega))
  have hS : iS (o + 23) s.heap H5 locs4 := ⟨fun q hq => (hq5 q (by omega)).trans (hS.1 q hq), hS.2⟩
  have hR := bkR_join (bkR_kept hR (fun q h1 h2 => hq5 q h2)) hR5
  have hz : H5.size = o + 27 := hz5
  refine W.widen (k := 3) (n := 320) (Nat.le_of_ble_eq_true rfl) (Nat.le_of_ble_eq_true rfl) ?_
  refine i_putF (D := D) (ci := 5) (v := .ref (o + 26)) (ty := .array .int) (C := RX5) (T := TX5) (N := 6) hx hb hts hinX5 tyX5 tyX5_ok nmX5 hown hK.1.1 hO hS (Nat.le_refl _) rfl 2 (by decide) (hts (.fieldLink RX5 19 "RiverMeeting$Ways" "far" "[I") (List.mem_of_getElem? (i := 8) rfl)) (fun _ h9 => h9) rfl hini rfl (by decide +kernel) rfl rfl (Nat.le_of_ble_eq_true rfl) dX5_init_26 (fun H6 locs6 hO hz6 hq6 hS => ?_)
  have hO : va_at D vwCl (o + 23, .inr (5, [.ref (o + 24), .ref (o + 25), .ref (o + 26), .null, .null, .null])) H6 := hO
  have hR := bkR_kept hR (fun q h1 h2 => hq6 q (by omega))
  have hz : H6.size = o + 27 := hz6.trans hz
  refine lv_aload_n hx hb dX5_init_29 rfl (lv_at hl 0 rfl) ?_
  refine lv_bipush (v := 64) hx hb dX5_init_30 (by decide) ?_
  refine i_newa (D := D) (E := E) (L := LRM) (M := Z0) (o := o) (n := 27) (t := 0) (N := 64) (j := 0) (atype := .int) hx hb (hts (.arrayClass .int) (List.mem_of_getElem? (i := 4) rfl)) rfl hK.2 rfl (by decide) rfl (Nat.le_of_ble_eq_true rfl) (Nat.le_of_ble_eq_true rfl) (Nat.le_of_ble_eq_true rfl) hz lay_27 rfl dX5_init_32 (fun H7 hz7 hR7 hq7 => ?_)
  have hO := hO.kept (hq7 (o + 23) (by omega))
  have hS : iS (o + 23) s.heap H7 locs6 := ⟨fun q hq => (hq7 q (by omega)).trans (hS.1 q hq), hS.2⟩
  have hR := bkR_join (bkR_kept hR (fun q h1 h2 => hq7 q h2)) hR7
  have hz : H7.size = o + 28 := hz7
  refine W.widen (k := 4) (n := 384) (Nat.le_of_ble_eq_true rfl) (Nat.le_of_ble_eq_true rfl) ?_
  refine i_putF (D := D) (ci := 5) (v := .ref (o + 27)) (ty := .array .int) (C := RX5) (T := TX5) (N := 6) hx hb hts hinX5 tyX5 tyX5_ok nmX5 hown hK.1.1 hO hS (Nat.le_refl _) rfl 3 (by decide) (hts (.fieldLink RX5 22 "RiverMeeting$Ways" "farOfFirst" "[I") (List.mem_of_getElem? (i := 9) rfl)) (fun _ h9 => h9) rfl hini rfl (by decide +kernel) rfl rfl (Nat.le_of_ble_eq_true rfl) dX5_init_34 (fun H8 locs8 hO hz8 hq8 hS => ?_)
  have hO : va_at D vwCl (o + 23, .inr (5, [.ref (o + 24), .ref (o + 25), .ref (o + 26), .ref (o + 27), .null, .null])) H8 := hO
  have hR := bkR_kept hR (fun q h1 h2 => hq8 q (by omega))
  have hz : H8.size = o + 28 := hz8.trans hz
  refine lv_aload_n hx hb dX5_init_37 rfl (lv_at hl 0 rfl) ?_
  refine lv_bipush (v := 64) hx hb dX5_init_38 (by decide) ?_
  refine i_newa (D := D) (E := E) (L := LRM) (M := Z0) (o := o) (n := 28) (t := 0) (N := 64) (j := 0) (atype := .int) hx hb (hts (.arrayClass .int) (List.mem_of_getElem? (i := 4) rfl)) rfl hK.2 rfl (by decide) rfl (Nat.le_of_ble_eq_true rfl) (Nat.le_of_ble_eq_true rfl) (Nat.le_of_ble_eq_true rfl) hz lay_28 rfl dX5_init_40 (fun H9 hz9 hR9 hq9 => ?_)
  have hO := hO.kept (hq9 (o + 23) (by omega))
  have hS : iS (o + 23) s.heap H9 locs8 := ⟨fun q hq => (hq9 q (by omega)).trans (hS.1 q hq), hS.2⟩
  have hR := bkR_join (bkR_kept hR (fun q h1 h2 => hq9 q h2)) hR9
  have hz : H9.size = o + 29 := hz9
  refine W.widen (k := 5) (n := 448) (Nat.le_of_ble_eq_true rfl) (Nat.le_of_ble_eq_true rfl) ?_
  refine i_putF (D := D) (ci := 5) (v := .ref (o + 28)) (ty := .array .int) (C := RX5) (T := TX5) (N := 6) hx hb hts hinX5 tyX5 tyX5_ok nmX5 hown hK.1.1 hO hS (Nat.le_refl _) rfl 4 (by decide) (hts (.fieldLink RX5 25 "RiverMeeting$Ways" "waiting" "[I") (List.mem_of_getElem? (i := 10) rfl)) (fun _ h9 => h9) rfl hini rfl (by decide +kernel) rfl rfl (Nat.le_of_ble_eq_true rfl) dX5_init_42 (fun H10 locs10 hO hz10 hq10 hS => ?_)
  have hO : va_at D vwCl (o + 23, .inr (5, [.ref (o + 24), .ref (o + 25), .ref (o + 26), .ref (o + 27), .ref (o + 28), .null])) H10 := hO
  have hR := bkR_kept hR (fun q h1 h2 => hq10 q (by omega))
  have hz : H10.size = o + 29 := hz10.trans hz
  refine lv_aload_n hx hb dX5_init_45 rfl (lv_at hl 0 rfl) ?_
  refine lv_bipush (v := 64) hx hb dX5_init_46 (by decide) ?_
  refine i_newa (D := D) (E := E) (L := LRM) (M := Z0) (o := o) (n := 29) (t := 1) (N := 64) (j := 1) (atype := .boolean) hx hb (hts (.arrayClass .boolean) (List.mem_of_getElem? (i := 6) rfl)) rfl hK.2 rfl (by decide) rfl (Nat.le_of_ble_eq_true rfl) (Nat.le_of_ble_eq_true rfl) (Nat.le_of_ble_eq_true rfl) hz lay_29 rfl dX5_init_48 (fun H11 hz11 hR11 hq11 => ?_)
  have hO := hO.kept (hq11 (o + 23) (by omega))
  have hS : iS (o + 23) s.heap H11 locs10 := ⟨fun q hq => (hq11 q (by omega)).trans (hS.1 q hq), hS.2⟩
  have hR := bkR_join (bkR_kept hR (fun q h1 h2 => hq11 q h2)) hR11
  have hz : H11.size = o + 30 := hz11
  refine W.widen (k := 6) (n := 512) (Nat.le_of_ble_eq_true rfl) (Nat.le_of_ble_eq_true rfl) ?_
  refine i_putF (D := D) (ci := 5) (v := .ref (o + 29)) (ty := .array .boolean) (C := RX5) (T := TX5) (N := 6) hx hb hts hinX5 tyX5 tyX5_ok nmX5 hown hK.1.1 hO hS (Nat.le_refl _) rfl 5 (by decide) (hts (.fieldLink RX5 28 "RiverMeeting$Ways" "settled" "[Z") (List.mem_of_getElem? (i := 11) rfl)) (fun _ h9 => h9) rfl hini rfl (by decide +kernel) rfl rfl (Nat.le_of_ble_eq_true rfl) dX5_init_50 (fun H12 locs12 hO hz12 hq12 hS => ?_)
  have hO : va_at D vwCl (o + 23, .inr (5, [.ref (o + 24), .ref (o + 25), .ref (o + 26), .ref (o + 27), .ref (o + 28), .ref (o + 29)])) H12 := hO
  have hR := bkR_kept hR (fun q h1 h2 => hq12 q (by omega))
  have hz : H12.size = o + 30 := hz12.trans hz
  have hB : bkR D E LRM o 23 30 (zW 0) H12 := by rw [zW_0]; exact bkR_join (bkR_one lay_23 hO) hR
  refine lv_iconst (v := 0) hx hb dX5_init_53 (by decide) ?_
  refine lv_istore_n (lv' := [(1, .int 0), (0, .ref (o + 23))]) hx hb dX5_init_54 rfl hl (by decide) rfl (fun ls hl => ?_)
  have lp : ∀ (n i : Nat), i + n = 192 → ∀ (H : Heap) (locs : List Loc), bkR D E LRM o 23 30 (zW i) H → H.size = o + 30 → iS (o + 23) s.heap H locs → ∀ ls : Array Slot, lv_has ls 2 [(1, .int (nI i)), (0, .ref (o + 23))] → W p l e (headSpec wsX5_init { frames := 2, cells := 6, slots := 512, locals := 60 }).room s m #[.ref (o + 23)] below meth c H locs 6 512 (MQ below (bQi D E LRM o 23 30 (zW 192)) #[.ref (o + 23)] s 6 512 (fun q => o + 23 ≤ q)) (F0 m 55 ls []) := by
    intro n
    induction n with
    | zero =>
      intro i hi H locs hB hz hS ls hl
      have hi0 : i = 192 := by omega
      refine lv_iload_n hx hb dX5_init_55 rfl (lv_at hl 0 rfl) ?_
      refine lv_sipush (v := 192) hx hb dX5_init_56 (by decide) ?_
      refine lv_icmp_ge (tgt := 83) hx hb dX5_init_59 (by decide) (fun c => ?_) (fun c => absurd (by rw [hi0]; exact Int32.le_refl _) c)
      rw [hi0] at hB
      exact i_ret hx hb hr hlocks hS hz hB dX5_init_83
    | succ n ih =>
      intro i hi H locs hB hz hS ls hl
      refine lv_iload_n hx hb dX5_init_55 rfl (lv_at hl 0 rfl) ?_
      refine lv_sipush (v := 192) hx hb dX5_init_56 (by decide) ?_
      refine lv_icmp_ge (tgt := 83) hx hb dX5_init_59 (by decide) (fun c => absurd c (nI_ge (a := i) (b := 192) (by omega) (by decide))) (fun c => ?_)
      refine lv_aload_n hx hb dX5_init_62 rfl (lv_at hl 1 rfl) ?_
      refine va_get (D := D) (ci := 5) (v := .ref (o + 24)) (C := RX5) (T := TX5) (N := 6) hx hb hts hinX5 hown hK.1.1 (bkR_P hB (k := 23) (by decide) (by decide) lay_23) 0 rfl rfl 0 (by decide) (hts (.fieldLink RX5 9 "RiverMeeting$Ways" "beside" "[I") (List.mem_of_getElem? (i := 5) rfl)) (fun _ h9 => h9) rfl dX5_init_63 ?_
      refine lv_iload_n hx hb dX5_init_66 rfl (lv_at hl 0 rfl) ?_
      refine lv_iload_n hx hb dX5_init_67 rfl (lv_at hl 0 rfl) ?_
      refine lv_iconst (v := 3) hx hb dX5_init_68 (by decide) ?_
      refine lv_idiv hx hb dX5_init_69 (by decide) ?_
      refine lv_iload_n hx hb dX5_init_70 rfl (lv_at hl 0 rfl) ?_
      refine lv_iconst (v := 3) hx hb dX5_init_71 (by decide) ?_
      refine lv_irem hx hb dX5_init_72 (by decide) ?_
      refine i_pI (b_runSN (As := [.int (nI i / 3), .int (nI i - nI i / 3 * 3)]) (rest := [.int (nI i), .ref (o + 24)]) ⟨hx, hb, hml, hown, hts⟩ (c_X6_cellBeside l D E (nI i / 3) (nI i - nI i / 3 * 3)) ⟨va_cnB (host := "RiverMeeting") 2 hts gX5_init_X6_cellBeside_n31 rfl rfl rfl (hK.1.2 2 _ rfl) (hts (.initialized RX6) (List.mem_of_getElem? (i := 13) rfl)) (by decide +kernel) ⟨Nat.le_of_ble_eq_true rfl, Nat.le_of_ble_eq_true rfl⟩, (hts (.static yX6_cellBeside) (List.mem_of_getElem? (i := 12) rfl)), trivial⟩ hK.1 trivial rfl hl rfl (Nat.le_of_ble_eq_true rfl) dX5_init_73 ⟨Nat.le_of_ble_eq_true rfl, Nat.le_of_ble_eq_true rfl⟩) hS (fun r hr9 locs hS => ?_)
      refine i_iast hx hb hK.1.1 hB hS 24 (by decide) (by decide) (by omega) lay_24 (vp_in_nI (by omega) (by decide)) dX5_init_76 (fun H1 locs1 hB hz1 _ hS => ?_)
      rw [nI_clamp (n := i) (by omega), hr9, zW_s] at hB
      refine lv_iinc (v := nI (i + 1)) (lv' := [(1, .int (nI (i + 1))), (0, .ref (o + 23))]) hx hb dX5_init_77 hl (k := 0) rfl (nI_1 i) (by decide) rfl (fun ls hl => ?_)
      refine lv_goto (tgt := 55) hx hb dX5_init_80 (by decide) ?_
      exact ih (i + 1) (by omega) H1 locs1 hB (hz1.trans hz) hS ls hl
  exact lp 192 0 rfl H12 locs12 hB hz hS ls hl
set_option maxHeartbeats 4000000 in
set_option maxRecDepth 100000 in
theorem c_X1_init (l : Launch) (D : va_G) (E : Nat → ClassId) (o : Nat) : Met l yX1_init wsX1_init { frames := 3, cells := 141, slots := 6678, locals := 90 } (bPi D E o 30 (.inr (1, [.null, .int 0, .int 0]))) (bQi D E LRM o 30 172 Z0) 141 6678 (fun q => o + 30 ≤ q) := by
  refine Met.ofW (cc := cX1_init) (maxL := 2) (ret := none) (by decide) rfl ?_
  intro p e s m args below meth c s₁ B hml hv
  obtain ⟨rfl, hz, hO, hK⟩ := hv
  have hx := B.exec
  have hb := B.bytes
  have hr := B.returns
  have hts := atoms_spec (ws := wsX1_init) B.pre
  have hown : s.vm.findClass RX1 = some m.cls := findClass_of_methodNamed B.named
  have hlocks := B.notSynchronized
  have hini : meth.name = "<init>" := (name_of_methodNamed B.named B.method).1
  have hinX0 : ∀ w ∈ wsX00, w ∈ wsX1_init := by decide +kernel
  have hinX1 : ∀ w ∈ wsX10, w ∈ wsX1_init := by decide +kernel
  have hS : iS (o + 30) s.heap s.heap [] := ⟨fun _ _ => rfl, fun _ h => by cases h⟩
  have hl := lv_entry ([.ref (o + 30)]) (n := 2) (Nat.le_of_ble_eq_true rfl)
  rw [lg_entry_eq]
  generalize (lg_sl ([.ref (o + 30)]) ++ List.replicate (2 - (lg_sl ([.ref (o + 30)])).length) Slot.unset).toArray = ls at hl ⊢
  have hl : lv_has ls 2 [(0, .ref (o + 30))] := hl
  have hz : s.heap.size = o + 31 := hz
  have hR : bkR D E LRM o (31) (31) Z0 s.heap := bkR_nil (Nat.le_refl _)
  refine lv_aload_n hx hb dX1_init_0 rfl (lv_at hl 0 rfl) ?_
  refine W.objInit hx hb hown (hts (.methodLink RX1 3 objectInit) (List.mem_of_getElem? (i := 1) rfl)) (hts (.instanceMethod objectInit) (List.mem_of_getElem? (i := 2) rfl)) (hts (.code objectInit ⟨#[0xb1]⟩ 1 none) (List.mem_of_getElem? (i := 3) rfl)) rfl (by rw [hml]; exact hl.1) rfl dX1_init_1 (Nat.le_of_ble_eq_true rfl) (Nat.le_of_ble_eq_true rfl) ?_
  refine W.eq (g2 := F0 m 4 ls []) rfl ?_
  refine lv_aload_n hx hb dX1_init_4 rfl (lv_at hl 0 rfl) ?_
  refine lv_bipush (v := 14) hx hb dX1_init_5 (by decide) ?_
  refine i_anew (D := D) (E := E) (o := o) (n := 31) (N := 14) hx hb hown (hts (.classLink RX1 9 RX0) (List.mem_of_getElem? (i := 4) rfl)) hK.2.2 hK.1.1 (by decide) rfl (Nat.le_of_ble_eq_true rfl) (Nat.le_of_ble_eq_true rfl) (Nat.le_of_ble_eq_true rfl) hz dX1_init_7 (fun H1 hz1 hA1 hq1 => ?_)
  have hO := hO.kept (hq1 (o + 30) (by omega))
  have hS : iS (o + 30) s.heap H1 [] := ⟨fun q hq => (hq1 q (by omega)).trans (hS.1 q hq), hS.2⟩
  have hz : H1.size = o + 32 := hz1
  have hR : bkR D E LRM o 31 31 Z0 H1 := bkR_nil (Nat.le_refl _)
  refine W.widen (k := 1) (n := 14) (Nat.le_of_ble_eq_true rfl) (Nat.le_of_ble_eq_true rfl) ?_
  refine i_putF (D := D) (ci := 1) (v := .ref (o + 31)) (ty := .array (.object "RiverMeeting$Game")) (C := RX1) (T := TX1) (N := 3) hx hb hts hinX1 tyX1 tyX1_ok nmX1 hown hK.1.1 hO hS (Nat.le_refl _) rfl 0 (by decide) (hts (.fieldLink RX1 11 "RiverMeeting$History" "states" "[LRiverMeeting$Game;") (List.mem_of_getElem? (i := 5) rfl)) (fun _ h9 => h9) rfl hini rfl (by decide +kernel) rfl rfl (Nat.le_of_ble_eq_true rfl) dX1_init_10 (fun H2 locs2 hO hz2 hq2 hS => ?_)
  have hO : va_at D vwCl (o + 30, .inr (1, [.ref (o + 31), .int 0, .int 0])) H2 := hO
  have hR := bkR_kept hR (fun q h1 h2 => hq2 q (by omega))
  have hz : H2.size = o + 32 := hz2.trans hz
  have hA : va_at D vwCl (o + 31, .inl (E 3, 14, .inr (.inr (.inr (.inr (hsF o 0)))))) H2 := by rw [hsF_0]; exact hA1.kept (hq2 (o + 31) (by omega))
  refine lv_iconst (v := 0) hx hb dX1_init_13 (by decide) ?_
  refine lv_istore_n (lv' := [(1, .int 0), (0, .ref (o + 30))]) hx hb dX1_init_14 rfl hl (by decide) rfl (fun ls hl => ?_)
  have lp : ∀ (n i : Nat), i + n = 14 → ∀ (H : Heap) (locs : List Loc), va_at D vwCl (o + 30, .inr (1, [.ref (o + 31), .int 0, .int 0])) H → va_at D vwCl (o + 31, .inl (E 3, 14, .inr (.inr (.inr (.inr (hsF o i)))))) H → bkR D E LRM o 32 (32 + 10 * i) Z0 H → H.size = o + (32 + 10 * i) → iS (o + 30) s.heap H locs → ∀ ls : Array Slot, lv_has ls 2 [(1, .int (nI i)), (0, .ref (o + 30))] → W p l e (headSpec wsX1_init { frames := 3, cells := 141, slots := 6678, locals := 90 }).room s m #[.ref (o + 30)] below meth c H locs (1 + 10 * i) (14 + 476 * i) (MQ below (bQi D E LRM o 30 172 Z0) #[.ref (o + 30)] s 141 6678 (fun q => o + 30 ≤ q)) (F0 m 15 ls []) := by
    intro n
    induction n with
    | zero =>
      intro i hi H locs hO hA hR hz hS ls hl
      have hi0 : i = 14 := by omega
      subst hi0
      refine lv_iload_n hx hb dX1_init_15 rfl (lv_at hl 0 rfl) ?_
      refine lv_bipush (v := 14) hx hb dX1_init_16 (by decide) ?_
      refine lv_icmp_ge (tgt := 40) hx hb dX1_init_18 (by decide) (fun c => ?_) (fun c => absurd (Int32.le_refl _) c)
      exact i_ret (n := 172) hx hb hr hlocks hS hz (bkR_join (bkR_one lay_30 hO) (bkR_join (bkR_one (w := 31) lay_31 (hist_at hA)) hR)) dX1_init_40
    | succ n ih =>
      intro i hi H locs hO hA hR hz hS ls hl
      refine lv_iload_n hx hb dX1_init_15 rfl (lv_at hl 0 rfl) ?_
      refine lv_bipush (v := 14) hx hb dX1_init_16 (by decide) ?_
      refine lv_icmp_ge (tgt := 40) hx hb dX1_init_18 (by decide) (fun c => absurd c (nI_ge (a := i) (b := 14) (by omega) (by decide))) (fun c => ?_)
      refine lv_aload_n hx hb dX1_init_21 rfl (lv_at hl 1 rfl) ?_
      refine va_get (D := D) (ci := 1) (v := .ref (o + 31)) (C := RX1) (T := TX1) (N := 3) hx hb hts hinX1 hown hK.1.1 (va_P1 hO) 0 rfl rfl 0 (by decide) (hts (.fieldLink RX1 11 "RiverMeeting$History" "states" "[LRiverMeeting$Game;") (List.mem_of_getElem? (i := 5) rfl)) (fun _ h9 => h9) rfl dX1_init_22 ?_
      refine lv_iload_n hx hb dX1_init_25 rfl (lv_at hl 0 rfl) ?_
      refine i_new (o := o) (n := 32 + 10 * i) (ci := 0) (fs := [.null, .null, .null, .int 0, .int 0, .int 0, .int 0, .int 0, .int 0, .int 0, .int 0, .int 0]) (C := RX0) (T := TX0) (N := 12) hx hb hts hinX0 tyX0 tyX0_ok hown (hts (.classLink RX1 9 RX0) (List.mem_of_getElem? (i := 4) rfl)) (hts (.instantiable RX0 12) (List.mem_of_getElem? (i := 6) rfl)) (hts (.initialized RX0) (List.mem_of_getElem? (i := 7) rfl)) hK.1.1 rfl (fun j hj => by rcases (by omega : j = 0 ∨ j = 1 ∨ j = 2 ∨ j = 3 ∨ j = 4 ∨ j = 5 ∨ j = 6 ∨ j = 7 ∨ j = 8 ∨ j = 9 ∨ j = 10 ∨ j = 11) with rfl | rfl | rfl | rfl | rfl | rfl | rfl | rfl | rfl | rfl | rfl | rfl <;> rfl) (show 1 + 10 * i + 1 ≤ 141 by omega) (show 14 + 476 * i + 12 ≤ 6678 by omega) hz dX1_init_26 (fun H2 hz2 hN2 hq2 => ?_)
      have hO := hO.kept (hq2 (o + 30) (by omega))
      have hA := hA.kept (hq2 (o + 31) (by omega))
      have hS : iS (o + 30) s.heap H2 locs := ⟨fun q hq => (hq2 q (by omega)).trans (hS.1 q hq), hS.2⟩
      have hR := bkR_kept hR (fun q h1 h2 => hq2 q h2)
      refine lv_dup hx hb dX1_init_29 rfl ?_
      refine i_call (mc := 9) (ms := 464) (a := o + 30) (va_runIN (As := []) (rest := [.ref (o + (32 + 10 * i)), .int (nI i), .ref (o + 31)]) ⟨hx, hb, hml, hown, hts⟩ (c_X0_init l D E o (32 + 10 * i) (isG_h0 i (by omega))) ⟨va_cnB (host := "RiverMeeting") 0 hts gX1_init_X0_init_n17 rfl rfl rfl (hK.1.2 6 _ rfl) (hts (.initialized RX0) (List.mem_of_getElem? (i := 7) rfl)) (by decide +kernel) ⟨Nat.le_of_ble_eq_true rfl, Nat.le_of_ble_eq_true rfl⟩, rfl, (hts (.instanceMethod yX0_init) (List.mem_of_getElem? (i := 8) rfl))⟩ ⟨biBlind, fun U hU hW => ⟨rfl, by rw [hU]; exact hz2, by rw [hU]; exact hN2, bKa.warm hW hK⟩⟩ rfl rfl hl.1 rfl (lv_room (Nat.le_of_ble_eq_true rfl)) dX1_init_30 ⟨(show 1 + 10 * i + 1 + 9 ≤ 141 by omega), (show 14 + 476 * i + 12 + 464 ≤ 6678 by omega)⟩) hS (by omega) (fun H3 locs3 hz3 hR3 hq3 hS => ?_)
      have hO := hO.kept (hq3 (o + 30) (by omega))
      have hA := hA.kept (hq3 (o + 31) (by omega))
      have hR := bkR_join (bkR_kept hR (fun q h1 h2 => hq3 q h2)) hR3
      refine i_aast (E := E) hx hb hK.1.1 hS hA (by omega) (hR3 (32 + 10 * i) _ (Nat.le_refl _) (by omega) (isG_h0 i (by omega)).1) (vp_in_nI (by omega) (by decide)) dX1_init_33 (fun H4 locs4 hA hz4 hq4 hS => ?_)
      rw [nI_clamp (n := i) (by omega), hsF_s] at hA
      have hO := hO.kept (hq4 (o + 30) (by omega))
      have hR := bkR_kept hR (fun q h1 h2 => hq4 q (by omega))
      refine W.widen (k := 1 + 10 * (i + 1)) (n := 14 + 476 * (i + 1)) (by omega) (by omega) ?_
      refine lv_iinc (v := nI (i + 1)) (lv' := [(1, .int (nI (i + 1))), (0, .ref (o + 30))]) hx hb dX1_init_34 hl (k := 0) rfl (nI_1 i) (by decide) rfl (fun ls hl => ?_)
      refine lv_goto (tgt := 15) hx hb dX1_init_37 (by decide) ?_
      have e9 : 32 + 10 * (i + 1) = 32 + 10 * i + 10 := by omega
      exact ih (i + 1) (by omega) H4 locs4 hO hA (by rw [e9]; exact hR) (by rw [hz4, hz3, e9]) hS ls hl
  exact lp 14 0 rfl H2 locs2 hO hA (bkR_nil (Nat.le_refl _)) hz hS ls hl
