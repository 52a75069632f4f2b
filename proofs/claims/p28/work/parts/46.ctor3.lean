set_option maxHeartbeats 4000000 in
set_option maxRecDepth 100000 in
theorem c_X6_init (l : Launch) (D : va_G) (E : Nat → ClassId) (o : Nat) : Met l yX6_init wsX6_init { frames := 5, cells := 193, slots := 9229, locals := 150 } (bPi D E o 0 (.inr (6, [.null, .null, .null, .null, .null, .null, .null]))) (bQi D E LRM o 0 194 (f_X0_startAnew (zW 192) 3)) 193 9229 (fun q => o + 0 ≤ q) := by
  refine Met.ofW (cc := cX6_init) (maxL := 1) (ret := none) (by decide) rfl ?_
  intro p e s m args below meth c s₁ B hml hv
  obtain ⟨rfl, hz, hO, hK⟩ := hv
  have hx := B.exec
  have hb := B.bytes
  have hr := B.returns
  have hts := atoms_spec (ws := wsX6_init) B.pre
  have hown : s.vm.findClass RX6 = some m.cls := findClass_of_methodNamed B.named
  have hlocks := B.notSynchronized
  have hini : meth.name = "<init>" := (name_of_methodNamed B.named B.method).1
  have hinX0 : ∀ w ∈ wsX00, w ∈ wsX6_init := by decide +kernel
  have hinX1 : ∀ w ∈ wsX10, w ∈ wsX6_init := by decide +kernel
  have hinX3 : ∀ w ∈ wsX30, w ∈ wsX6_init := by decide +kernel
  have hinX4 : ∀ w ∈ wsX40, w ∈ wsX6_init := by decide +kernel
  have hinX5 : ∀ w ∈ wsX50, w ∈ wsX6_init := by decide +kernel
  have hinX6 : ∀ w ∈ wsX60, w ∈ wsX6_init := by decide +kernel
  have hS : iS (o + 0) s.heap s.heap [] := ⟨fun _ _ => rfl, fun _ h => by cases h⟩
  have hl := lv_entry ([.ref (o + 0)]) (n := 1) (Nat.le_of_ble_eq_true rfl)
  rw [lg_entry_eq]
  generalize (lg_sl ([.ref (o + 0)]) ++ List.replicate (1 - (lg_sl ([.ref (o + 0)])).length) Slot.unset).toArray = ls at hl ⊢
  have hl : lv_has ls 1 [(0, .ref (o + 0))] := hl
  have hz : s.heap.size = o + 1 := hz
  have hR : bkR D E LRM o (1) (1) (zW 192) s.heap := bkR_nil (Nat.le_refl _)
  refine lv_aload_n hx hb dX6_init_0 rfl (lv_at hl 0 rfl) ?_
  refine W.objInit hx hb hown (hts (.methodLink RX6 1 objectInit) (List.mem_of_getElem? (i := 1) rfl)) (hts (.instanceMethod objectInit) (List.mem_of_getElem? (i := 2) rfl)) (hts (.code objectInit ⟨#[0xb1]⟩ 1 none) (List.mem_of_getElem? (i := 3) rfl)) rfl (by rw [hml]; exact hl.1) rfl dX6_init_1 (Nat.le_of_ble_eq_true rfl) (Nat.le_of_ble_eq_true rfl) ?_
  refine W.eq (g2 := F0 m 4 ls []) rfl ?_
  refine lv_aload_n hx hb dX6_init_4 rfl (lv_at hl 0 rfl) ?_
  refine i_new (o := o) (n := 1) (ci := 4) (fs := [.null, .int 0]) (C := RX4) (T := TX4) (N := 2) hx hb hts hinX4 tyX4 tyX4_ok hown (hts (.classLink RX6 7 RX4) (List.mem_of_getElem? (i := 4) rfl)) (hts (.instantiable RX4 2) (List.mem_of_getElem? (i := 5) rfl)) (hts (.initialized RX4) (List.mem_of_getElem? (i := 6) rfl)) hK.1.1 rfl (fun j hj => by rcases (by omega : j = 0 ∨ j = 1) with rfl | rfl <;> rfl) (Nat.le_of_ble_eq_true rfl) (Nat.le_of_ble_eq_true rfl) hz dX6_init_5 (fun H1 hz1 hN1 hq1 => ?_)
  have hO := hO.kept (hq1 (o + 0) (by omega))
  have hS : iS (o + 0) s.heap H1 [] := ⟨fun q hq => (hq1 q (by omega)).trans (hS.1 q hq), hS.2⟩
  have hR := bkR_kept hR (fun q h1 h2 => hq1 q h2)
  refine W.widen (k := 1) (n := 2) (Nat.le_of_ble_eq_true rfl) (Nat.le_of_ble_eq_true rfl) ?_
  refine lv_dup hx hb dX6_init_8 rfl ?_
  refine i_call (mc := 1) (ms := 120) (a := o + 0) (va_runIN (As := []) (rest := [.ref (o + 1), .ref (o + 0)]) ⟨hx, hb, hml, hown, hts⟩ (c_X4_init l D E o) ⟨va_cnB (host := "RiverMeeting") 0 hts gX6_init_X4_init_n9 rfl rfl rfl (hK.1.2 14 _ rfl) (hts (.initialized RX4) (List.mem_of_getElem? (i := 6) rfl)) (by decide +kernel) ⟨Nat.le_of_ble_eq_true rfl, Nat.le_of_ble_eq_true rfl⟩, rfl, (hts (.instanceMethod yX4_init) (List.mem_of_getElem? (i := 26) rfl))⟩ ⟨biBlind, fun U hU hW => ⟨rfl, by rw [hU]; exact hz1, by rw [hU]; exact hN1, bKa.warm hW hK⟩⟩ rfl rfl hl.1 rfl (lv_room (Nat.le_of_ble_eq_true rfl)) dX6_init_9 ⟨Nat.le_of_ble_eq_true rfl, Nat.le_of_ble_eq_true rfl⟩) hS (by omega) (fun H2 locs2 hz2 hR2 hq2 hS => ?_)
  have hO := hO.kept (hq2 (o + 0) (by omega))
  have hR := bkR_join (bkR_kept hR (fun q h1 h2 => hq2 q h2)) (bkR_cong (fun k h1 h2 => zW_row (by omega)) hR2)
  have hz : H2.size = o + 3 := hz2
  refine W.widen (k := 2) (n := 122) (Nat.le_of_ble_eq_true rfl) (Nat.le_of_ble_eq_true rfl) ?_
  refine i_putF (D := D) (ci := 6) (v := .ref (o + 1)) (ty := .object "RiverMeeting$TextBuffer") (C := RX6) (T := TX6) (N := 7) hx hb hts hinX6 tyX6 tyX6_ok nmX6 hown hK.1.1 hO hS (Nat.le_refl _) rfl 0 (by decide) (hts (.fieldLink RX6 10 "RiverMeeting" "text" "LRiverMeeting$TextBuffer;") (List.mem_of_getElem? (i := 7) rfl)) (fun _ h9 => h9) rfl hini rfl (by decide +kernel) rfl rfl (Nat.le_of_ble_eq_true rfl) dX6_init_12 (fun H3 locs3 hO hz3 hq3 hS => ?_)
  have hO : va_at D vwCl (o + 0, .inr (6, [.ref (o + 1), .null, .null, .null, .null, .null, .null])) H3 := hO
  have hR := bkR_kept hR (fun q h1 h2 => hq3 q (by omega))
  have hz : H3.size = o + 3 := hz3.trans hz
  refine lv_aload_n hx hb dX6_init_15 rfl (lv_at hl 0 rfl) ?_
  refine i_new (o := o) (n := 3) (ci := 0) (fs := [.null, .null, .null, .int 0, .int 0, .int 0, .int 0, .int 0, .int 0, .int 0, .int 0, .int 0]) (C := RX0) (T := TX0) (N := 12) hx hb hts hinX0 tyX0 tyX0_ok hown (hts (.classLink RX6 16 RX0) (List.mem_of_getElem? (i := 8) rfl)) (hts (.instantiable RX0 12) (List.mem_of_getElem? (i := 9) rfl)) (hts (.initialized RX0) (List.mem_of_getElem? (i := 10) rfl)) hK.1.1 rfl (fun j hj => by rcases (by omega : j = 0 ∨ j = 1 ∨ j = 2 ∨ j = 3 ∨ j = 4 ∨ j = 5 ∨ j = 6 ∨ j = 7 ∨ j = 8 ∨ j = 9 ∨ j = 10 ∨ j = 11) with rfl | rfl | rfl | rfl | rfl | rfl | rfl | rfl | rfl | rfl | rfl | rfl <;> rfl) (Nat.le_of_ble_eq_true rfl) (Nat.le_of_ble_eq_true rfl) hz dX6_init_16 (fun H4 hz4 hN4 hq4 => ?_)
  have hO := hO.kept (hq4 (o + 0) (by omega))
  have hS : iS (o + 0) s.heap H4 locs3 := ⟨fun q hq => (hq4 q (by omega)).trans (hS.1 q hq), hS.2⟩
  have hR := bkR_kept hR (fun q h1 h2 => hq4 q h2)
  refine W.widen (k := 3) (n := 134) (Nat.le_of_ble_eq_true rfl) (Nat.le_of_ble_eq_true rfl) ?_
  refine lv_dup hx hb dX6_init_19 rfl ?_
  refine i_call (mc := 9) (ms := 464) (a := o + 0) (va_runIN (As := []) (rest := [.ref (o + 3), .ref (o + 0)]) ⟨hx, hb, hml, hown, hts⟩ (c_X0_init l D E o 3 isG_3) ⟨va_cnB (host := "RiverMeeting") 0 hts gX6_init_X0_init_n18 rfl rfl rfl (hK.1.2 16 _ rfl) (hts (.initialized RX0) (List.mem_of_getElem? (i := 10) rfl)) (by decide +kernel) ⟨Nat.le_of_ble_eq_true rfl, Nat.le_of_ble_eq_true rfl⟩, rfl, (hts (.instanceMethod yX0_init) (List.mem_of_getElem? (i := 31) rfl))⟩ ⟨biBlind, fun U hU hW => ⟨rfl, by rw [hU]; exact hz4, by rw [hU]; exact hN4, bKa.warm hW hK⟩⟩ rfl rfl hl.1 rfl (lv_room (Nat.le_of_ble_eq_true rfl)) dX6_init_20 ⟨Nat.le_of_ble_eq_true rfl, Nat.le_of_ble_eq_true rfl⟩) hS (by omega) (fun H5 locs5 hz5 hR5 hq5 hS => ?_)
  have hO := hO.kept (hq5 (o + 0) (by omega))
  have hR := bkR_join (bkR_kept hR (fun q h1 h2 => hq5 q h2)) (bkR_cong (fun k h1 h2 => zW_row (by omega)) hR5)
  have hz : H5.size = o + 13 := hz5
  refine W.widen (k := 12) (n := 598) (Nat.le_of_ble_eq_true rfl) (Nat.le_of_ble_eq_true rfl) ?_
  refine i_putF (D := D) (ci := 6) (v := .ref (o + 3)) (ty := .object "RiverMeeting$Game") (C := RX6) (T := TX6) (N := 7) hx hb hts hinX6 tyX6 tyX6_ok nmX6 hown hK.1.1 hO hS (Nat.le_refl _) rfl 1 (by decide) (hts (.fieldLink RX6 19 "RiverMeeting" "present" "LRiverMeeting$Game;") (List.mem_of_getElem? (i := 11) rfl)) (fun _ h9 => h9) rfl hini rfl (by decide +kernel) rfl rfl (Nat.le_of_ble_eq_true rfl) dX6_init_23 (fun H6 locs6 hO hz6 hq6 hS => ?_)
  have hO : va_at D vwCl (o + 0, .inr (6, [.ref (o + 1), .ref (o + 3), .null, .null, .null, .null, .null])) H6 := hO
  have hR := bkR_kept hR (fun q h1 h2 => hq6 q (by omega))
  have hz : H6.size = o + 13 := hz6.trans hz
  refine lv_aload_n hx hb dX6_init_26 rfl (lv_at hl 0 rfl) ?_
  refine i_new (o := o) (n := 13) (ci := 0) (fs := [.null, .null, .null, .int 0, .int 0, .int 0, .int 0, .int 0, .int 0, .int 0, .int 0, .int 0]) (C := RX0) (T := TX0) (N := 12) hx hb hts hinX0 tyX0 tyX0_ok hown (hts (.classLink RX6 16 RX0) (List.mem_of_getElem? (i := 8) rfl)) (hts (.instantiable RX0 12) (List.mem_of_getElem? (i := 9) rfl)) (hts (.initialized RX0) (List.mem_of_getElem? (i := 10) rfl)) hK.1.1 rfl (fun j hj => by rcases (by omega : j = 0 ∨ j = 1 ∨ j = 2 ∨ j = 3 ∨ j = 4 ∨ j = 5 ∨ j = 6 ∨ j = 7 ∨ j = 8 ∨ j = 9 ∨ j = 10 ∨ j = 11) with rfl | rfl | rfl | rfl | rfl | rfl | rfl | rfl | rfl | rfl | rfl | rfl <;> rfl) (Nat.le_of_ble_eq_true rfl) (Nat.le_of_ble_eq_true rfl) hz dX6_init_27 (fun H7 hz7 hN7 hq7 => ?_)
  have hO := hO.kept (hq7 (o + 0) (by omega))
  have hS : iS (o + 0) s.heap H7 locs6 := ⟨fun q hq => (hq7 q (by omega)).trans (hS.1 q hq), hS.2⟩
  have hR := bkR_kept hR (fun q h1 h2 => hq7 q h2)
  refine W.widen (k := 13) (n := 610) (Nat.le_of_ble_eq_true rfl) (Nat.le_of_ble_eq_true rfl) ?_
  refine lv_dup hx hb dX6_init_30 rfl ?_
  refine i_call (mc := 9) (ms := 464) (a := o + 0) (va_runIN (As := []) (rest := [.ref (o + 13), .ref (o + 0)]) ⟨hx, hb, hml, hown, hts⟩ (c_X0_init l D E o 13 isG_13) ⟨va_cnB (host := "RiverMeeting") 0 hts gX6_init_X0_init_n18 rfl rfl rfl (hK.1.2 16 _ rfl) (hts (.initialized RX0) (List.mem_of_getElem? (i := 10) rfl)) (by decide +kernel) ⟨Nat.le_of_ble_eq_true rfl, Nat.le_of_ble_eq_true rfl⟩, rfl, (hts (.instanceMethod yX0_init) (List.mem_of_getElem? (i := 31) rfl))⟩ ⟨biBlind, fun U hU hW => ⟨rfl, by rw [hU]; exact hz7, by rw [hU]; exact hN7, bKa.warm hW hK⟩⟩ rfl rfl hl.1 rfl (lv_room (Nat.le_of_ble_eq_true rfl)) dX6_init_31 ⟨Nat.le_of_ble_eq_true rfl, Nat.le_of_ble_eq_true rfl⟩) hS (by omega) (fun H8 locs8 hz8 hR8 hq8 hS => ?_)
  have hO := hO.kept (hq8 (o + 0) (by omega))
  have hR := bkR_join (bkR_kept hR (fun q h1 h2 => hq8 q h2)) (bkR_cong (fun k h1 h2 => zW_row (by omega)) hR8)
  have hz : H8.size = o + 23 := hz8
  refine W.widen (k := 22) (n := 1074) (Nat.le_of_ble_eq_true rfl) (Nat.le_of_ble_eq_true rfl) ?_
  refine i_putF (D := D) (ci := 6) (v := .ref (o + 13)) (ty := .object "RiverMeeting$Game") (C := RX6) (T := TX6) (N := 7) hx hb hts hinX6 tyX6 tyX6_ok nmX6 hown hK.1.1 hO hS (Nat.le_refl _) rfl 2 (by decide) (hts (.fieldLink RX6 23 "RiverMeeting" "trial" "LRiverMeeting$Game;") (List.mem_of_getElem? (i := 12) rfl)) (fun _ h9 => h9) rfl hini rfl (by decide +kernel) rfl rfl (Nat.le_of_ble_eq_true rfl) dX6_init_34 (fun H9 locs9 hO hz9 hq9 hS => ?_)
  have hO : va_at D vwCl (o + 0, .inr (6, [.ref (o + 1), .ref (o + 3), .ref (o + 13), .null, .null, .null, .null])) H9 := hO
  have hR := bkR_kept hR (fun q h1 h2 => hq9 q (by omega))
  have hz : H9.size = o + 23 := hz9.trans hz
  refine lv_aload_n hx hb dX6_init_37 rfl (lv_at hl 0 rfl) ?_
  refine i_new (o := o) (n := 23) (ci := 5) (fs := [.null, .null, .null, .null, .null, .null]) (C := RX5) (T := TX5) (N := 6) hx hb hts hinX5 tyX5 tyX5_ok hown (hts (.classLink RX6 26 RX5) (List.mem_of_getElem? (i := 13) rfl)) (hts (.instantiable RX5 6) (List.mem_of_getElem? (i := 14) rfl)) (hts (.initialized RX5) (List.mem_of_getElem? (i := 15) rfl)) hK.1.1 rfl (fun j hj => by rcases (by omega : j = 0 ∨ j = 1 ∨ j = 2 ∨ j = 3 ∨ j = 4 ∨ j = 5) with rfl | rfl | rfl | rfl | rfl | rfl <;> rfl) (Nat.le_of_ble_eq_true rfl) (Nat.le_of_ble_eq_true rfl) hz dX6_init_38 (fun H10 hz10 hN10 hq10 => ?_)
  have hO := hO.kept (hq10 (o + 0) (by omega))
  have hS : iS (o + 0) s.heap H10 locs9 := ⟨fun q hq => (hq10 q (by omega)).trans (hS.1 q hq), hS.2⟩
  have hR := bkR_kept hR (fun q h1 h2 => hq10 q h2)
  refine W.widen (k := 23) (n := 1080) (Nat.le_of_ble_eq_true rfl) (Nat.le_of_ble_eq_true rfl) ?_
  refine lv_dup hx hb dX6_init_41 rfl ?_
  refine i_call (mc := 6) (ms := 512) (a := o + 0) (va_runI (As := []) (rest := [.ref (o + 23), .ref (o + 0)]) ⟨hx, hb, hml, hown, hts⟩ (c_X5_init l D E o) (cwI 0 hts gX6_init_X5_init rfl rfl rfl (hts (.initialized RX5) (List.mem_of_getElem? (i := 15) rfl)) (hts (.methodLink RX6 28 yX5_init) (List.mem_of_getElem? (i := 48) rfl)) (hts (.instanceMethod yX5_init) (List.mem_of_getElem? (i := 49) rfl)) rfl (by decide +kernel) ⟨Nat.le_of_ble_eq_true rfl, Nat.le_of_ble_eq_true rfl⟩) ⟨biBlind, fun U hU hW => ⟨rfl, by rw [hU]; exact hz10, by rw [hU]; exact hN10, bKa.warm hW hK⟩⟩ rfl rfl hl.1 rfl (lv_room (Nat.le_of_ble_eq_true rfl)) dX6_init_42 ⟨Nat.le_of_ble_eq_true rfl, Nat.le_of_ble_eq_true rfl⟩) hS (by omega) (fun H11 locs11 hz11 hR11 hq11 hS => ?_)
  have hO := hO.kept (hq11 (o + 0) (by omega))
  have hR := bkR_join (bkR_kept hR (fun q h1 h2 => hq11 q h2)) hR11
  have hz : H11.size = o + 30 := hz11
  refine W.widen (k := 29) (n := 1592) (Nat.le_of_ble_eq_true rfl) (Nat.le_of_ble_eq_true rfl) ?_
  refine i_putF (D := D) (ci := 6) (v := .ref (o + 23)) (ty := .object "RiverMeeting$Ways") (C := RX6) (T := TX6) (N := 7) hx hb hts hinX6 tyX6 tyX6_ok nmX6 hown hK.1.1 hO hS (Nat.le_refl _) rfl 3 (by decide) (hts (.fieldLink RX6 29 "RiverMeeting" "ways" "LRiverMeeting$Ways;") (List.mem_of_getElem? (i := 16) rfl)) (fun _ h9 => h9) rfl hini rfl (by decide +kernel) rfl rfl (Nat.le_of_ble_eq_true rfl) dX6_init_45 (fun H12 locs12 hO hz12 hq12 hS => ?_)
  have hO : va_at D vwCl (o + 0, .inr (6, [.ref (o + 1), .ref (o + 3), .ref (o + 13), .ref (o + 23), .null, .null, .null])) H12 := hO
  have hR := bkR_kept hR (fun q h1 h2 => hq12 q (by omega))
  have hz : H12.size = o + 30 := hz12.trans hz
  refine lv_aload_n hx hb dX6_init_48 rfl (lv_at hl 0 rfl) ?_
  refine i_new (o := o) (n := 30) (ci := 1) (fs := [.null, .int 0, .int 0]) (C := RX1) (T := TX1) (N := 3) hx hb hts hinX1 tyX1 tyX1_ok hown (hts (.classLink RX6 33 RX1) (List.mem_of_getElem? (i := 17) rfl)) (hts (.instantiable RX1 3) (List.mem_of_getElem? (i := 18) rfl)) (hts (.initialized RX1) (List.mem_of_getElem? (i := 19) rfl)) hK.1.1 rfl (fun j hj => by rcases (by omega : j = 0 ∨ j = 1 ∨ j = 2) with rfl | rfl | rfl <;> rfl) (Nat.le_of_ble_eq_true rfl) (Nat.le_of_ble_eq_true rfl) hz dX6_init_49 (fun H13 hz13 hN13 hq13 => ?_)
  have hO := hO.kept (hq13 (o + 0) (by omega))
  have hS : iS (o + 0) s.heap H13 locs12 := ⟨fun q hq => (hq13 q (by omega)).trans (hS.1 q hq), hS.2⟩
  have hR := bkR_kept hR (fun q h1 h2 => hq13 q h2)
  refine W.widen (k := 30) (n := 1595) (Nat.le_of_ble_eq_true rfl) (Nat.le_of_ble_eq_true rfl) ?_
  refine lv_dup hx hb dX6_init_52 rfl ?_
  refine i_call (mc := 141) (ms := 6678) (a := o + 0) (va_runI (As := []) (rest := [.ref (o + 30), .ref (o + 0)]) ⟨hx, hb, hml, hown, hts⟩ (c_X1_init l D E o) (cwI 0 hts gX6_init_X1_init rfl rfl rfl (hts (.initialized RX1) (List.mem_of_getElem? (i := 19) rfl)) (hts (.methodLink RX6 35 yX1_init) (List.mem_of_getElem? (i := 67) rfl)) (hts (.instanceMethod yX1_init) (List.mem_of_getElem? (i := 68) rfl)) rfl (by decide +kernel) ⟨Nat.le_of_ble_eq_true rfl, Nat.le_of_ble_eq_true rfl⟩) ⟨biBlind, fun U hU hW => ⟨rfl, by rw [hU]; exact hz13, by rw [hU]; exact hN13, bKa.warm hW hK⟩⟩ rfl rfl hl.1 rfl (lv_room (Nat.le_of_ble_eq_true rfl)) dX6_init_53 ⟨Nat.le_of_ble_eq_true rfl, Nat.le_of_ble_eq_true rfl⟩) hS (by omega) (fun H14 locs14 hz14 hR14 hq14 hS => ?_)
  have hO := hO.kept (hq14 (o + 0) (by omega))
  have hR := bkR_join (bkR_kept hR (fun q h1 h2 => hq14 q h2)) (bkR_cong (fun k h1 h2 => zW_row (by omega)) hR14)
  have hz : H14.size = o + 172 := hz14
  refine W.widen (k := 171) (n := 8273) (Nat.le_of_ble_eq_true rfl) (Nat.le_of_ble_eq_true rfl) ?_
  refine i_putF (D := D) (ci := 6) (v := .ref (o + 30)) (ty := .object "RiverMeeting$History") (C := RX6) (T := TX6) (N := 7) hx hb hts hinX6 tyX6 tyX6_ok nmX6 hown hK.1.1 hO hS (Nat.le_refl _) rfl 4 (by decide) (hts (.fieldLink RX6 36 "RiverMeeting" "history" "LRiverMeeting$History;") (List.mem_of_getElem? (i := 20) rfl)) (fun _ h9 => h9) rfl hini rfl (by decide +kernel) rfl rfl (Nat.le_of_ble_eq_true rfl) dX6_init_56 (fun H15 locs15 hO hz15 hq15 hS => ?_)
  have hO : va_at D vwCl (o + 0, .inr (6, [.ref (o + 1), .ref (o + 3), .ref (o + 13), .ref (o + 23), .ref (o + 30), .null, .null])) H15 := hO
  have hR := bkR_kept hR (fun q h1 h2 => hq15 q (by omega))
  have hz : H15.size = o + 172 := hz15.trans hz
  refine lv_aload_n hx hb dX6_init_59 rfl (lv_at hl 0 rfl) ?_
  refine i_new (o := o) (n := 172) (ci := 3) (fs := [.null, .int 0]) (C := RX3) (T := TX3) (N := 2) hx hb hts hinX3 tyX3 tyX3_ok hown (hts (.classLink RX6 40 RX3) (List.mem_of_getElem? (i := 21) rfl)) (hts (.instantiable RX3 2) (List.mem_of_getElem? (i := 22) rfl)) (hts (.initialized RX3) (List.mem_of_getElem? (i := 23) rfl)) hK.1.1 rfl (fun j hj => by rcases (by omega : j = 0 ∨ j = 1) with rfl | rfl <;> rfl) (Nat.le_of_ble_eq_true rfl) (Nat.le_of_ble_eq_true rfl) hz dX6_init_60 (fun H16 hz16 hN16 hq16 => ?_)
  have hO := hO.kept (hq16 (o + 0) (by omega))
  have hS : iS (o + 0) s.heap H16 locs15 := ⟨fun q hq => (hq16 q (by omega)).trans (hS.1 q hq), hS.2⟩
  have hR := bkR_kept hR (fun q h1 h2 => hq16 q h2)
  refine W.widen (k := 172) (n := 8275) (Nat.le_of_ble_eq_true rfl) (Nat.le_of_ble_eq_true rfl) ?_
  refine lv_dup hx hb dX6_init_63 rfl ?_
  refine i_call (mc := 10) (ms := 476) (a := o + 0) (va_runIN (As := []) (rest := [.ref (o + 172), .ref (o + 0)]) ⟨hx, hb, hml, hown, hts⟩ (c_X3_init l D E o 172 isD_172) ⟨va_cnB (host := "RiverMeeting") 0 hts gX6_init_X3_init_n42 rfl rfl rfl (hK.1.2 15 _ rfl) (hts (.initialized RX3) (List.mem_of_getElem? (i := 23) rfl)) (by decide +kernel) ⟨Nat.le_of_ble_eq_true rfl, Nat.le_of_ble_eq_true rfl⟩, rfl, (hts (.instanceMethod yX3_init) (List.mem_of_getElem? (i := 73) rfl))⟩ ⟨biBlind, fun U hU hW => ⟨rfl, by rw [hU]; exact hz16, by rw [hU]; exact hN16, bKa.warm hW hK⟩⟩ rfl rfl hl.1 rfl (lv_room (Nat.le_of_ble_eq_true rfl)) dX6_init_64 ⟨Nat.le_of_ble_eq_true rfl, Nat.le_of_ble_eq_true rfl⟩) hS (by omega) (fun H17 locs17 hz17 hR17 hq17 hS => ?_)
  have hO := hO.kept (hq17 (o + 0) (by omega))
  have hR := bkR_join (bkR_kept hR (fun q h1 h2 => hq17 q h2)) (bkR_cong (fun k h1 h2 => zW_row (by omega)) hR17)
  have hz : H17.size = o + 183 := hz17
  refine W.widen (k := 182) (n := 8751) (Nat.le_of_ble_eq_true rfl) (Nat.le_of_ble_eq_true rfl) ?_
  refine i_putF (D := D) (ci := 6) (v := .ref (o + 172)) (ty := .object "RiverMeeting$Slot") (C := RX6) (T := TX6) (N := 7) hx hb hts hinX6 tyX6 tyX6_ok nmX6 hown hK.1.1 hO hS (Nat.le_refl _) rfl 5 (by decide) (hts (.fieldLink RX6 43 "RiverMeeting" "firstSlot" "LRiverMeeting$Slot;") (List.mem_of_getElem? (i := 24) rfl)) (fun _ h9 => h9) rfl hini rfl (by decide +kernel) rfl rfl (Nat.le_of_ble_eq_true rfl) dX6_init_67 (fun H18 locs18 hO hz18 hq18 hS => ?_)
  have hO : va_at D vwCl (o + 0, .inr (6, [.ref (o + 1), .ref (o + 3), .ref (o + 13), .ref (o + 23), .ref (o + 30), .ref (o + 172), .null])) H18 := hO
  have hR := bkR_kept hR (fun q h1 h2 => hq18 q (by omega))
  have hz : H18.size = o + 183 := hz18.trans hz
  refine lv_aload_n hx hb dX6_init_70 rfl (lv_at hl 0 rfl) ?_
  refine i_new (o := o) (n := 183) (ci := 3) (fs := [.null, .int 0]) (C := RX3) (T := TX3) (N := 2) hx hb hts hinX3 tyX3 tyX3_ok hown (hts (.classLink RX6 40 RX3) (List.mem_of_getElem? (i := 21) rfl)) (hts (.instantiable RX3 2) (List.mem_of_getElem? (i := 22) rfl)) (hts (.initialized RX3) (List.mem_of_getElem? (i := 23) rfl)) hK.1.1 rfl (fun j hj => by rcases (by omega : j = 0 ∨ j = 1) with rfl | rfl <;> rfl) (Nat.le_of_ble_eq_true rfl) (Nat.le_of_ble_eq_true rfl) hz dX6_init_71 (fun H19 hz19 hN19 hq19 => ?_)
  have hO := hO.kept (hq19 (o + 0) (by omega))
  have hS : iS (o + 0) s.heap H19 locs18 := ⟨fun q hq => (hq19 q (by omega)).trans (hS.1 q hq), hS.2⟩
  have hR := bkR_kept hR (fun q h1 h2 => hq19 q h2)
  refine W.widen (k := 183) (n := 8753) (Nat.le_of_ble_eq_true rfl) (Nat.le_of_ble_eq_true rfl) ?_
  refine lv_dup hx hb dX6_init_74 rfl ?_
  refine i_call (mc := 10) (ms := 476) (a := o + 0) (va_runIN (As := []) (rest := [.ref (o + 183), .ref (o + 0)]) ⟨hx, hb, hml, hown, hts⟩ (c_X3_init l D E o 183 isD_183) ⟨va_cnB (host := "RiverMeeting") 0 hts gX6_init_X3_init_n42 rfl rfl rfl (hK.1.2 15 _ rfl) (hts (.initialized RX3) (List.mem_of_getElem? (i := 23) rfl)) (by decide +kernel) ⟨Nat.le_of_ble_eq_true rfl, Nat.le_of_ble_eq_true rfl⟩, rfl, (hts (.instanceMethod yX3_init) (List.mem_of_getElem? (i := 73) rfl))⟩ ⟨biBlind, fun U hU hW => ⟨rfl, by rw [hU]; exact hz19, by rw [hU]; exact hN19, bKa.warm hW hK⟩⟩ rfl rfl hl.1 rfl (lv_room (Nat.le_of_ble_eq_true rfl)) dX6_init_75 ⟨Nat.le_of_ble_eq_true rfl, Nat.le_of_ble_eq_true rfl⟩) hS (by omega) (fun H20 locs20 hz20 hR20 hq20 hS => ?_)
  have hO := hO.kept (hq20 (o + 0) (by omega))
  have hR := bkR_join (bkR_kept hR (fun q h1 h2 => hq20 q h2)) (bkR_cong (fun k h1 h2 => zW_row (by omega)) hR20)
  have hz : H20.size = o + 194 := hz20
  refine W.widen (k := 193) (n := 9229) (Nat.le_of_ble_eq_true rfl) (Nat.le_of_ble_eq_true rfl) ?_
  refine i_putF (D := D) (ci := 6) (v := .ref (o + 183)) (ty := .object "RiverMeeting$Slot") (C := RX6) (T := TX6) (N := 7) hx hb hts hinX6 tyX6 tyX6_ok nmX6 hown hK.1.1 hO hS (Nat.le_refl _) rfl 6 (by decide) (hts (.fieldLink RX6 47 "RiverMeeting" "secondSlot" "LRiverMeeting$Slot;") (List.mem_of_getElem? (i := 25) rfl)) (fun _ h9 => h9) rfl hini rfl (by decide +kernel) rfl rfl (Nat.le_of_ble_eq_true rfl) dX6_init_78 (fun H21 locs21 hO hz21 hq21 hS => ?_)
  have hO : va_at D vwCl (o + 0, .inr (6, [.ref (o + 1), .ref (o + 3), .ref (o + 13), .ref (o + 23), .ref (o + 30), .ref (o + 172), .ref (o + 183)])) H21 := hO
  have hR := bkR_kept hR (fun q h1 h2 => hq21 q (by omega))
  have hz : H21.size = o + 194 := hz21.trans hz
  have hB : bk D E LRM o (zW 192) H21 := bk_all LRM_len (bkR_join (bkR_one lay_0 hO) hR)
  refine lv_aload_n hx hb dX6_init_81 rfl (lv_at hl 0 rfl) ?_
  refine b_get (D := D) (E := E) (L := LRM) (o := o) (M := zW 192) (v := .ref (o + 3)) (C := RX6) (T := TX6) (N := 7) hx hb hts hinX6 hown hK.1.1 hB 0 lay_0 rfl 1 (by decide) (hts (.fieldLink RX6 19 "RiverMeeting" "present" "LRiverMeeting$Game;") (List.mem_of_getElem? (i := 11) rfl)) (fun _ h9 => h9) rfl dX6_init_82 ?_
  refine i_mV (A1 := rA o) (a := o + 0) (b_runV (As := []) (rest := []) ⟨hx, hb, hml, hown, hts⟩ (c_X0_startAnew l D E o (zW 192) 3 isG_3) (cwV 0 hts gX6_init_X0_startAnew rfl rfl rfl (by decide +kernel) ⟨Nat.le_of_ble_eq_true rfl, Nat.le_of_ble_eq_true rfl⟩) hK.1 (bk_recv hK.1.1 hB isG_3.1 rfl) hB rfl hl rfl (Nat.le_of_ble_eq_true rfl) dX6_init_85 ⟨Nat.le_of_ble_eq_true rfl, Nat.le_of_ble_eq_true rfl⟩) hS (fun q h => h.1) (fun M1 hM1 H9 locs9 hB hz9 hS => ?_)
  subst hM1
  exact i_ret (n := 194) hx hb hr hlocks hS (hz9.trans hz) (bk_R hB) dX6_init_88
