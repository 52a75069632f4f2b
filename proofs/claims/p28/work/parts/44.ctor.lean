set_option maxHeartbeats 4000000 in
set_option maxRecDepth 100000 in
theorem c_X4_init (l : Launch) (D : va_G) (E : Nat → ClassId) (o : Nat) : Met l yX4_init wsX4_init { frames := 1, cells := 1, slots := 120, locals := 30 } (bPi D E o 1 (.inr (4, [.null, .int 0]))) (bQi D E LRM o 1 3 Z0) 1 120 (fun q => o + 1 ≤ q) := by
  refine Met.ofW (cc := cX4_init) (maxL := 1) (ret := none) (by decide) rfl ?_
  intro p e s m args below meth c s₁ B hml hv
  obtain ⟨rfl, hz, hO, hK⟩ := hv
  have hx := B.exec
  have hb := B.bytes
  have hr := B.returns
  have hts := atoms_spec (ws := wsX4_init) B.pre
  have hown : s.vm.findClass RX4 = some m.cls := findClass_of_methodNamed B.named
  have hlocks := B.notSynchronized
  have hini : meth.name = "<init>" := (name_of_methodNamed B.named B.method).1
  have hinX4 : ∀ w ∈ wsX40, w ∈ wsX4_init := by decide +kernel
  have hS : iS (o + 1) s.heap s.heap [] := ⟨fun _ _ => rfl, fun _ h => by cases h⟩
  have hl := lv_entry ([.ref (o + 1)]) (n := 1) (Nat.le_of_ble_eq_true rfl)
  rw [lg_entry_eq]
  generalize (lg_sl ([.ref (o + 1)]) ++ List.replicate (1 - (lg_sl ([.ref (o + 1)])).length) Slot.unset).toArray = ls at hl ⊢
  have hl : lv_has ls 1 [(0, .ref (o + 1))] := hl
  have hz : s.heap.size = o + 2 := hz
  have hR : bkR D E LRM o (2) (2) Z0 s.heap := bkR_nil (Nat.le_refl _)
  refine lv_aload_n hx hb dX4_init_0 rfl (lv_at hl 0 rfl) ?_
  refine W.objInit hx hb hown (hts (.methodLink RX4 3 objectInit) (List.mem_of_getElem? (i := 1) rfl)) (hts (.instanceMethod objectInit) (List.mem_of_getElem? (i := 2) rfl)) (hts (.code objectInit ⟨#[0xb1]⟩ 1 none) (List.mem_of_getElem? (i := 3) rfl)) rfl (by rw [hml]; exact hl.1) rfl dX4_init_1 (Nat.le_of_ble_eq_true rfl) (Nat.le_of_ble_eq_true rfl) ?_
  refine W.eq (g2 := F0 m 4 ls []) rfl ?_
  refine lv_aload_n hx hb dX4_init_4 rfl (lv_at hl 0 rfl) ?_
  refine lv_bipush (v := 120) hx hb dX4_init_5 (by decide) ?_
  refine i_newa (D := D) (E := E) (L := LRM) (M := Z0) (o := o) (n := 2) (t := 2) (N := 120) (j := 2) (atype := .char) hx hb (hts (.arrayClass .char) (List.mem_of_getElem? (i := 4) rfl)) rfl hK.2 rfl (by decide) rfl (Nat.le_of_ble_eq_true rfl) (Nat.le_of_ble_eq_true rfl) (Nat.le_of_ble_eq_true rfl) hz lay_2 rfl dX4_init_7 (fun H1 hz1 hR1 hq1 => ?_)
  have hO := hO.kept (hq1 (o + 1) (by omega))
  have hS : iS (o + 1) s.heap H1 [] := ⟨fun q hq => (hq1 q (by omega)).trans (hS.1 q hq), hS.2⟩
  have hR := bkR_join (bkR_kept hR (fun q h1 h2 => hq1 q h2)) hR1
  have hz : H1.size = o + 3 := hz1
  refine W.widen (k := 1) (n := 120) (Nat.le_of_ble_eq_true rfl) (Nat.le_of_ble_eq_true rfl) ?_
  refine i_putF (D := D) (ci := 4) (v := .ref (o + 2)) (ty := .array .char) (C := RX4) (T := TX4) (N := 2) hx hb hts hinX4 tyX4 tyX4_ok nmX4 hown hK.1.1 hO hS (Nat.le_refl _) rfl 0 (by decide) (hts (.fieldLink RX4 9 "RiverMeeting$TextBuffer" "signs" "[C") (List.mem_of_getElem? (i := 5) rfl)) (fun _ h9 => h9) rfl hini rfl (by decide +kernel) rfl rfl (Nat.le_of_ble_eq_true rfl) dX4_init_9 (fun H2 locs2 hO hz2 hq2 hS => ?_)
  have hO : va_at D vwCl (o + 1, .inr (4, [.ref (o + 2), .int 0])) H2 := hO
  have hR := bkR_kept hR (fun q h1 h2 => hq2 q (by omega))
  have hz : H2.size = o + 3 := hz2.trans hz
  exact i_ret hx hb hr hlocks hS hz (bkR_join (bkR_one lay_1 hO) hR) dX4_init_12
set_option maxHeartbeats 4000000 in
set_option maxRecDepth 100000 in
theorem c_X2_init (l : Launch) (D : va_G) (E : Nat → ClassId) (o : Nat) (w : Nat) (hw : isS w) : Met l yX2_init wsX2_init { frames := 1, cells := 3, slots := 192, locals := 30 } (bPi D E o w (.inr (2, [.null, .null, .null, .int 0, .int 0, .int 0, .int 0, .int 0]))) (bQi D E LRM o w (w + 4) Z0) 3 192 (fun q => o + w ≤ q) := by
  refine Met.ofW (cc := cX2_init) (maxL := 1) (ret := none) (by decide) rfl ?_
  intro p e s m args below meth c s₁ B hml hv
  obtain ⟨rfl, hz, hO, hK⟩ := hv
  have hx := B.exec
  have hb := B.bytes
  have hr := B.returns
  have hts := atoms_spec (ws := wsX2_init) B.pre
  have hown : s.vm.findClass RX2 = some m.cls := findClass_of_methodNamed B.named
  have hlocks := B.notSynchronized
  have hini : meth.name = "<init>" := (name_of_methodNamed B.named B.method).1
  have hinX2 : ∀ w ∈ wsX20, w ∈ wsX2_init := by decide +kernel
  have hS : iS (o + w) s.heap s.heap [] := ⟨fun _ _ => rfl, fun _ h => by cases h⟩
  have hl := lv_entry ([.ref (o + w)]) (n := 1) (Nat.le_of_ble_eq_true rfl)
  rw [lg_entry_eq]
  generalize (lg_sl ([.ref (o + w)]) ++ List.replicate (1 - (lg_sl ([.ref (o + w)])).length) Slot.unset).toArray = ls at hl ⊢
  have hl : lv_has ls 1 [(0, .ref (o + w))] := hl
  have hz : s.heap.size = o + (w + 1) := hz
  have hR : bkR D E LRM o (w + 1) (w + 1) Z0 s.heap := bkR_nil (Nat.le_refl _)
  refine lv_aload_n hx hb dX2_init_0 rfl (lv_at hl 0 rfl) ?_
  refine W.objInit hx hb hown (hts (.methodLink RX2 3 objectInit) (List.mem_of_getElem? (i := 1) rfl)) (hts (.instanceMethod objectInit) (List.mem_of_getElem? (i := 2) rfl)) (hts (.code objectInit ⟨#[0xb1]⟩ 1 none) (List.mem_of_getElem? (i := 3) rfl)) rfl (by rw [hml]; exact hl.1) rfl dX2_init_1 (Nat.le_of_ble_eq_true rfl) (Nat.le_of_ble_eq_true rfl) ?_
  refine W.eq (g2 := F0 m 4 ls []) rfl ?_
  refine lv_aload_n hx hb dX2_init_4 rfl (lv_at hl 0 rfl) ?_
  refine lv_bipush (v := 64) hx hb dX2_init_5 (by decide) ?_
  refine i_newa (D := D) (E := E) (L := LRM) (M := Z0) (o := o) (n := w + 1) (t := 0) (N := 64) (j := 0) (atype := .int) hx hb (hts (.arrayClass .int) (List.mem_of_getElem? (i := 4) rfl)) rfl hK.2 rfl (by decide) rfl (Nat.le_of_ble_eq_true rfl) (Nat.le_of_ble_eq_true rfl) (Nat.le_of_ble_eq_true rfl) hz hw.2.1 rfl dX2_init_7 (fun H1 hz1 hR1 hq1 => ?_)
  have hO := hO.kept (hq1 (o + w) (by omega))
  have hS : iS (o + w) s.heap H1 [] := ⟨fun q hq => (hq1 q (by omega)).trans (hS.1 q hq), hS.2⟩
  have hR := bkR_join (bkR_kept hR (fun q h1 h2 => hq1 q h2)) hR1
  have hz : H1.size = o + (w + 2) := hz1
  refine W.widen (k := 1) (n := 64) (Nat.le_of_ble_eq_true rfl) (Nat.le_of_ble_eq_true rfl) ?_
  refine i_putF (D := D) (ci := 2) (v := .ref (o + (w + 1))) (ty := .array .int) (C := RX2) (T := TX2) (N := 8) hx hb hts hinX2 tyX2 tyX2_ok nmX2 hown hK.1.1 hO hS (Nat.le_refl _) rfl 0 (by decide) (hts (.fieldLink RX2 9 "RiverMeeting$Side" "costs" "[I") (List.mem_of_getElem? (i := 5) rfl)) (fun _ h9 => h9) rfl hini rfl (by decide +kernel) rfl rfl (Nat.le_of_ble_eq_true rfl) dX2_init_9 (fun H2 locs2 hO hz2 hq2 hS => ?_)
  have hO : va_at D vwCl (o + w, .inr (2, [.ref (o + (w + 1)), .null, .null, .int 0, .int 0, .int 0, .int 0, .int 0])) H2 := hO
  have hR := bkR_kept hR (fun q h1 h2 => hq2 q (by omega))
  have hz : H2.size = o + (w + 2) := hz2.trans hz
  refine lv_aload_n hx hb dX2_init_12 rfl (lv_at hl 0 rfl) ?_
  refine lv_bipush (v := 64) hx hb dX2_init_13 (by decide) ?_
  refine i_newa (D := D) (E := E) (L := LRM) (M := Z0) (o := o) (n := w + 2) (t := 0) (N := 64) (j := 0) (atype := .int) hx hb (hts (.arrayClass .int) (List.mem_of_getElem? (i := 4) rfl)) rfl hK.2 rfl (by decide) rfl (Nat.le_of_ble_eq_true rfl) (Nat.le_of_ble_eq_true rfl) (Nat.le_of_ble_eq_true rfl) hz hw.2.2.1 rfl dX2_init_15 (fun H3 hz3 hR3 hq3 => ?_)
  have hO := hO.kept (hq3 (o + w) (by omega))
  have hS : iS (o + w) s.heap H3 locs2 := ⟨fun q hq => (hq3 q (by omega)).trans (hS.1 q hq), hS.2⟩
  have hR := bkR_join (bkR_kept hR (fun q h1 h2 => hq3 q h2)) hR3
  have hz : H3.size = o + (w + 3) := hz3
  refine W.widen (k := 2) (n := 128) (Nat.le_of_ble_eq_true rfl) (Nat.le_of_ble_eq_true rfl) ?_
  refine i_putF (D := D) (ci := 2) (v := .ref (o + (w + 2))) (ty := .array .int) (C := RX2) (T := TX2) (N := 8) hx hb hts hinX2 tyX2 tyX2_ok nmX2 hown hK.1.1 hO hS (Nat.le_refl _) rfl 1 (by decide) (hts (.fieldLink RX2 15 "RiverMeeting$Side" "places" "[I") (List.mem_of_getElem? (i := 6) rfl)) (fun _ h9 => h9) rfl hini rfl (by decide +kernel) rfl rfl (Nat.le_of_ble_eq_true rfl) dX2_init_17 (fun H4 locs4 hO hz4 hq4 hS => ?_)
  have hO : va_at D vwCl (o + w, .inr (2, [.ref (o + (w + 1)), .ref (o + (w + 2)), .null, .int 0, .int 0, .int 0, .int 0, .int 0])) H4 := hO
  have hR := bkR_kept hR (fun q h1 h2 => hq4 q (by omega))
  have hz : H4.size = o + (w + 3) := hz4.trans hz
  refine lv_aload_n hx hb dX2_init_20 rfl (lv_at hl 0 rfl) ?_
  refine lv_bipush (v := 64) hx hb dX2_init_21 (by decide) ?_
  refine i_newa (D := D) (E := E) (L := LRM) (M := Z0) (o := o) (n := w + 3) (t := 1) (N := 64) (j := 1) (atype := .boolean) hx hb (hts (.arrayClass .boolean) (List.mem_of_getElem? (i := 7) rfl)) rfl hK.2 rfl (by decide) rfl (Nat.le_of_ble_eq_true rfl) (Nat.le_of_ble_eq_true rfl) (Nat.le_of_ble_eq_true rfl) hz hw.2.2.2 rfl dX2_init_23 (fun H5 hz5 hR5 hq5 => ?_)
  have hO := hO.kept (hq5 (o + w) (by omega))
  have hS : iS (o + w) s.heap H5 locs4 := ⟨fun q hq => (hq5 q (by omega)).trans (hS.1 q hq), hS.2⟩
  have hR := bkR_join (bkR_kept hR (fun q h1 h2 => hq5 q h2)) hR5
  have hz : H5.size = o + (w + 4) := hz5
  refine W.widen (k := 3) (n := 192) (Nat.le_of_ble_eq_true rfl) (Nat.le_of_ble_eq_true rfl) ?_
  refine i_putF (D := D) (ci := 2) (v := .ref (o + (w + 3))) (ty := .array .boolean) (C := RX2) (T := TX2) (N := 8) hx hb hts hinX2 tyX2 tyX2_ok nmX2 hown hK.1.1 hO hS (Nat.le_refl _) rfl 2 (by decide) (hts (.fieldLink RX2 18 "RiverMeeting$Side" "bed" "[Z") (List.mem_of_getElem? (i := 8) rfl)) (fun _ h9 => h9) rfl hini rfl (by decide +kernel) rfl rfl (Nat.le_of_ble_eq_true rfl) dX2_init_25 (fun H6 locs6 hO hz6 hq6 hS => ?_)
  have hO : va_at D vwCl (o + w, .inr (2, [.ref (o + (w + 1)), .ref (o + (w + 2)), .ref (o + (w + 3)), .int 0, .int 0, .int 0, .int 0, .int 0])) H6 := hO
  have hR := bkR_kept hR (fun q h1 h2 => hq6 q (by omega))
  have hz : H6.size = o + (w + 4) := hz6.trans hz
  exact i_ret hx hb hr hlocks hS hz (bkR_join (bkR_one hw.1 hO) hR) dX2_init_28
set_option maxHeartbeats 4000000 in
set_option maxRecDepth 100000 in
theorem c_X0_init (l : Launch) (D : va_G) (E : Nat → ClassId) (o : Nat) (g : Nat) (hg : isG g) : Met l yX0_init wsX0_init { frames := 2, cells := 9, slots := 464, locals := 60 } (bPi D E o g (.inr (0, [.null, .null, .null, .int 0, .int 0, .int 0, .int 0, .int 0, .int 0, .int 0, .int 0, .int 0]))) (bQi D E LRM o g (g + 10) Z0) 9 464 (fun q => o + g ≤ q) := by
  refine Met.ofW (cc := cX0_init) (maxL := 1) (ret := none) (by decide) rfl ?_
  intro p e s m args below meth c s₁ B hml hv
  obtain ⟨rfl, hz, hO, hK⟩ := hv
  have hx := B.exec
  have hb := B.bytes
  have hr := B.returns
  have hts := atoms_spec (ws := wsX0_init) B.pre
  have hown : s.vm.findClass RX0 = some m.cls := findClass_of_methodNamed B.named
  have hlocks := B.notSynchronized
  have hini : meth.name = "<init>" := (name_of_methodNamed B.named B.method).1
  have hinX0 : ∀ w ∈ wsX00, w ∈ wsX0_init := by decide +kernel
  have hinX2 : ∀ w ∈ wsX20, w ∈ wsX0_init := by decide +kernel
  have hS : iS (o + g) s.heap s.heap [] := ⟨fun _ _ => rfl, fun _ h => by cases h⟩
  have hl := lv_entry ([.ref (o + g)]) (n := 1) (Nat.le_of_ble_eq_true rfl)
  rw [lg_entry_eq]
  generalize (lg_sl ([.ref (o + g)]) ++ List.replicate (1 - (lg_sl ([.ref (o + g)])).length) Slot.unset).toArray = ls at hl ⊢
  have hl : lv_has ls 1 [(0, .ref (o + g))] := hl
  have hz : s.heap.size = o + (g + 1) := hz
  have hR : bkR D E LRM o (g + 1) (g + 1) Z0 s.heap := bkR_nil (Nat.le_refl _)
  refine lv_aload_n hx hb dX0_init_0 rfl (lv_at hl 0 rfl) ?_
  refine W.objInit hx hb hown (hts (.methodLink RX0 3 objectInit) (List.mem_of_getElem? (i := 1) rfl)) (hts (.instanceMethod objectInit) (List.mem_of_getElem? (i := 2) rfl)) (hts (.code objectInit ⟨#[0xb1]⟩ 1 none) (List.mem_of_getElem? (i := 3) rfl)) rfl (by rw [hml]; exact hl.1) rfl dX0_init_1 (Nat.le_of_ble_eq_true rfl) (Nat.le_of_ble_eq_true rfl) ?_
  refine W.eq (g2 := F0 m 4 ls []) rfl ?_
  refine lv_aload_n hx hb dX0_init_4 rfl (lv_at hl 0 rfl) ?_
  refine i_new (o := o) (n := g + 1) (ci := 2) (fs := [.null, .null, .null, .int 0, .int 0, .int 0, .int 0, .int 0]) (C := RX2) (T := TX2) (N := 8) hx hb hts hinX2 tyX2 tyX2_ok hown (hts (.classLink RX0 9 RX2) (List.mem_of_getElem? (i := 4) rfl)) (hts (.instantiable RX2 8) (List.mem_of_getElem? (i := 5) rfl)) (hts (.initialized RX2) (List.mem_of_getElem? (i := 6) rfl)) hK.1.1 rfl (fun j hj => by rcases (by omega : j = 0 ∨ j = 1 ∨ j = 2 ∨ j = 3 ∨ j = 4 ∨ j = 5 ∨ j = 6 ∨ j = 7) with rfl | rfl | rfl | rfl | rfl | rfl | rfl | rfl <;> rfl) (Nat.le_of_ble_eq_true rfl) (Nat.le_of_ble_eq_true rfl) hz dX0_init_5 (fun H1 hz1 hN1 hq1 => ?_)
  have hO := hO.kept (hq1 (o + g) (by omega))
  have hS : iS (o + g) s.heap H1 [] := ⟨fun q hq => (hq1 q (by omega)).trans (hS.1 q hq), hS.2⟩
  have hR := bkR_kept hR (fun q h1 h2 => hq1 q h2)
  refine W.widen (k := 1) (n := 8) (Nat.le_of_ble_eq_true rfl) (Nat.le_of_ble_eq_true rfl) ?_
  refine lv_dup hx hb dX0_init_8 rfl ?_
  refine i_call (mc := 3) (ms := 192) (a := o + g) (va_runIN (As := []) (rest := [.ref (o + (g + 1)), .ref (o + g)]) ⟨hx, hb, hml, hown, hts⟩ (c_X2_init l D E o (g + 1) hg.2.1) ⟨va_cnB (host := "RiverMeeting") 0 hts gX0_init_X2_init_n11 rfl rfl rfl (hK.1.2 12 _ rfl) (hts (.initialized RX2) (List.mem_of_getElem? (i := 6) rfl)) (by decide +kernel) ⟨Nat.le_of_ble_eq_true rfl, Nat.le_of_ble_eq_true rfl⟩, rfl, (hts (.instanceMethod yX2_init) (List.mem_of_getElem? (i := 11) rfl))⟩ ⟨biBlind, fun U hU hW => ⟨rfl, by rw [hU]; exact hz1, by rw [hU]; exact hN1, bKa.warm hW hK⟩⟩ rfl rfl hl.1 rfl (lv_room (Nat.le_of_ble_eq_true rfl)) dX0_init_9 ⟨Nat.le_of_ble_eq_true rfl, Nat.le_of_ble_eq_true rfl⟩) hS (by omega) (fun H2 locs2 hz2 hR2 hq2 hS => ?_)
  have hO := hO.kept (hq2 (o + g) (by omega))
  have hR := bkR_join (bkR_kept hR (fun q h1 h2 => hq2 q h2)) hR2
  have hz : H2.size = o + (g + 5) := hz2
  refine W.widen (k := 4) (n := 200) (Nat.le_of_ble_eq_true rfl) (Nat.le_of_ble_eq_true rfl) ?_
  refine i_putF (D := D) (ci := 0) (v := .ref (o + (g + 1))) (ty := .object "RiverMeeting$Side") (C := RX0) (T := TX0) (N := 12) hx hb hts hinX0 tyX0 tyX0_ok nmX0 hown hK.1.1 hO hS (Nat.le_refl _) rfl 0 (by decide) (hts (.fieldLink RX0 12 "RiverMeeting$Game" "first" "LRiverMeeting$Side;") (List.mem_of_getElem? (i := 7) rfl)) (fun _ h9 => h9) rfl hini rfl (by decide +kernel) rfl rfl (Nat.le_of_ble_eq_true rfl) dX0_init_12 (fun H3 locs3 hO hz3 hq3 hS => ?_)
  have hO : va_at D vwCl (o + g, .inr (0, [.ref (o + (g + 1)), .null, .null, .int 0, .int 0, .int 0, .int 0, .int 0, .int 0, .int 0, .int 0, .int 0])) H3 := hO
  have hR := bkR_kept hR (fun q h1 h2 => hq3 q (by omega))
  have hz : H3.size = o + (g + 5) := hz3.trans hz
  refine lv_aload_n hx hb dX0_init_15 rfl (lv_at hl 0 rfl) ?_
  refine i_new (o := o) (n := g + 5) (ci := 2) (fs := [.null, .null, .null, .int 0, .int 0, .int 0, .int 0, .int 0]) (C := RX2) (T := TX2) (N := 8) hx hb hts hinX2 tyX2 tyX2_ok hown (hts (.classLink RX0 9 RX2) (List.mem_of_getElem? (i := 4) rfl)) (hts (.instantiable RX2 8) (List.mem_of_getElem? (i := 5) rfl)) (hts (.initialized RX2) (List.mem_of_getElem? (i := 6) rfl)) hK.1.1 rfl (fun j hj => by rcases (by omega : j = 0 ∨ j = 1 ∨ j = 2 ∨ j = 3 ∨ j = 4 ∨ j = 5 ∨ j = 6 ∨ j = 7) with rfl | rfl | rfl | rfl | rfl | rfl | rfl | rfl <;> rfl) (Nat.le_of_ble_eq_true rfl) (Nat.le_of_ble_eq_true rfl) hz dX0_init_16 (fun H4 hz4 hN4 hq4 => ?_)
  have hO := hO.kept (hq4 (o + g) (by omega))
  have hS : iS (o + g) s.heap H4 locs3 := ⟨fun q hq => (hq4 q (by omega)).trans (hS.1 q hq), hS.2⟩
  have hR := bkR_kept hR (fun q h1 h2 => hq4 q h2)
  refine W.widen (k := 5) (n := 208) (Nat.le_of_ble_eq_true rfl) (Nat.le_of_ble_eq_true rfl) ?_
  refine lv_dup hx hb dX0_init_19 rfl ?_
  refine i_call (mc := 3) (ms := 192) (a := o + g) (va_runIN (As := []) (rest := [.ref (o + (g + 5)), .ref (o + g)]) ⟨hx, hb, hml, hown, hts⟩ (c_X2_init l D E o (g + 5) hg.2.2.1) ⟨va_cnB (host := "RiverMeeting") 0 hts gX0_init_X2_init_n11 rfl rfl rfl (hK.1.2 12 _ rfl) (hts (.initialized RX2) (List.mem_of_getElem? (i := 6) rfl)) (by decide +kernel) ⟨Nat.le_of_ble_eq_true rfl, Nat.le_of_ble_eq_true rfl⟩, rfl, (hts (.instanceMethod yX2_init) (List.mem_of_getElem? (i := 11) rfl))⟩ ⟨biBlind, fun U hU hW => ⟨rfl, by rw [hU]; exact hz4, by rw [hU]; exact hN4, bKa.warm hW hK⟩⟩ rfl rfl hl.1 rfl (lv_room (Nat.le_of_ble_eq_true rfl)) dX0_init_20 ⟨Nat.le_of_ble_eq_true rfl, Nat.le_of_ble_eq_true rfl⟩) hS (by omega) (fun H5 locs5 hz5 hR5 hq5 hS => ?_)
  have hO := hO.kept (hq5 (o + g) (by omega))
  have hR := bkR_join (bkR_kept hR (fun q h1 h2 => hq5 q h2)) hR5
  have hz : H5.size = o + (g + 9) := hz5
  refine W.widen (k := 8) (n := 400) (Nat.le_of_ble_eq_true rfl) (Nat.le_of_ble_eq_true rfl) ?_
  refine i_putF (D := D) (ci := 0) (v := .ref (o + (g + 5))) (ty := .object "RiverMeeting$Side") (C := RX0) (T := TX0) (N := 12) hx hb hts hinX0 tyX0 tyX0_ok nmX0 hown hK.1.1 hO hS (Nat.le_refl _) rfl 1 (by decide) (hts (.fieldLink RX0 18 "RiverMeeting$Game" "second" "LRiverMeeting$Side;") (List.mem_of_getElem? (i := 8) rfl)) (fun _ h9 => h9) rfl hini rfl (by decide +kernel) rfl rfl (Nat.le_of_ble_eq_true rfl) dX0_init_23 (fun H6 locs6 hO hz6 hq6 hS => ?_)
  have hO : va_at D vwCl (o + g, .inr (0, [.ref (o + (g + 1)), .ref (o + (g + 5)), .null, .int 0, .int 0, .int 0, .int 0, .int 0, .int 0, .int 0, .int 0, .int 0])) H6 := hO
  have hR := bkR_kept hR (fun q h1 h2 => hq6 q (by omega))
  have hz : H6.size = o + (g + 9) := hz6.trans hz
  refine lv_aload_n hx hb dX0_init_26 rfl (lv_at hl 0 rfl) ?_
  refine lv_bipush (v := 64) hx hb dX0_init_27 (by decide) ?_
  refine i_newa (D := D) (E := E) (L := LRM) (M := Z0) (o := o) (n := g + 9) (t := 0) (N := 64) (j := 0) (atype := .int) hx hb (hts (.arrayClass .int) (List.mem_of_getElem? (i := 9) rfl)) rfl hK.2 rfl (by decide) rfl (Nat.le_of_ble_eq_true rfl) (Nat.le_of_ble_eq_true rfl) (Nat.le_of_ble_eq_true rfl) hz hg.2.2.2 rfl dX0_init_29 (fun H7 hz7 hR7 hq7 => ?_)
  have hO := hO.kept (hq7 (o + g) (by omega))
  have hS : iS (o + g) s.heap H7 locs6 := ⟨fun q hq => (hq7 q (by omega)).trans (hS.1 q hq), hS.2⟩
  have hR := bkR_join (bkR_kept hR (fun q h1 h2 => hq7 q h2)) hR7
  have hz : H7.size = o + (g + 10) := hz7
  refine W.widen (k := 9) (n := 464) (Nat.le_of_ble_eq_true rfl) (Nat.le_of_ble_eq_true rfl) ?_
  refine i_putF (D := D) (ci := 0) (v := .ref (o + (g + 9))) (ty := .array .int) (C := RX0) (T := TX0) (N := 12) hx hb hts hinX0 tyX0 tyX0_ok nmX0 hown hK.1.1 hO hS (Nat.le_refl _) rfl 2 (by decide) (hts (.fieldLink RX0 21 "RiverMeeting$Game" "stood" "[I") (List.mem_of_getElem? (i := 10) rfl)) (fun _ h9 => h9) rfl hini rfl (by decide +kernel) rfl rfl (Nat.le_of_ble_eq_true rfl) dX0_init_31 (fun H8 locs8 hO hz8 hq8 hS => ?_)
  have hO : va_at D vwCl (o + g, .inr (0, [.ref (o + (g + 1)), .ref (o + (g + 5)), .ref (o + (g + 9)), .int 0, .int 0, .int 0, .int 0, .int 0, .int 0, .int 0, .int 0, .int 0])) H8 := hO
  have hR := bkR_kept hR (fun q h1 h2 => hq8 q (by omega))
  have hz : H8.size = o + (g + 10) := hz8.trans hz
  exact i_ret hx hb hr hlocks hS hz (bkR_join (bkR_one hg.1 hO) hR) dX0_init_34
set_option maxHeartbeats 4000000 in
set_option maxRecDepth 100000 in
theorem c_X3_init (l : Launch) (D : va_G) (E : Nat → ClassId) (o : Nat) (u : Nat) (hu : isD u) : Met l yX3_init wsX3_init { frames := 3, cells := 10, slots := 476, locals := 90 } (bPi D E o u (.inr (3, [.null, .int 0]))) (bQi D E LRM o u (u + 11) Z0) 10 476 (fun q => o + u ≤ q) := by
  refine Met.ofW (cc := cX3_init) (maxL := 1) (ret := none) (by decide) rfl ?_
  intro p e s m args below meth c s₁ B hml hv
  obtain ⟨rfl, hz, hO, hK⟩ := hv
  have hx := B.exec
  have hb := B.bytes
  have hr := B.returns
  have hts := atoms_spec (ws := wsX3_init) B.pre
  have hown : s.vm.findClass RX3 = some m.cls := findClass_of_methodNamed B.named
  have hlocks := B.notSynchronized
  have hini : meth.name = "<init>" := (name_of_methodNamed B.named B.method).1
  have hinX0 : ∀ w ∈ wsX00, w ∈ wsX3_init := by decide +kernel
  have hinX3 : ∀ w ∈ wsX30, w ∈ wsX3_init := by decide +kernel
  have hS : iS (o + u) s.heap s.heap [] := ⟨fun _ _ => rfl, fun _ h => by cases h⟩
  have hl := lv_entry ([.ref (o + u)]) (n := 1) (Nat.le_of_ble_eq_true rfl)
  rw [lg_entry_eq]
  generalize (lg_sl ([.ref (o + u)]) ++ List.replicate (1 - (lg_sl ([.ref (o + u)])).length) Slot.unset).toArray = ls at hl ⊢
  have hl : lv_has ls 1 [(0, .ref (o + u))] := hl
  have hz : s.heap.size = o + (u + 1) := hz
  have hR : bkR D E LRM o (u + 1) (u + 1) Z0 s.heap := bkR_nil (Nat.le_refl _)
  refine lv_aload_n hx hb dX3_init_0 rfl (lv_at hl 0 rfl) ?_
  refine W.objInit hx hb hown (hts (.methodLink RX3 1 objectInit) (List.mem_of_getElem? (i := 1) rfl)) (hts (.instanceMethod objectInit) (List.mem_of_getElem? (i := 2) rfl)) (hts (.code objectInit ⟨#[0xb1]⟩ 1 none) (List.mem_of_getElem? (i := 3) rfl)) rfl (by rw [hml]; exact hl.1) rfl dX3_init_1 (Nat.le_of_ble_eq_true rfl) (Nat.le_of_ble_eq_true rfl) ?_
  refine W.eq (g2 := F0 m 4 ls []) rfl ?_
  refine lv_aload_n hx hb dX3_init_4 rfl (lv_at hl 0 rfl) ?_
  refine i_new (o := o) (n := u + 1) (ci := 0) (fs := [.null, .null, .null, .int 0, .int 0, .int 0, .int 0, .int 0, .int 0, .int 0, .int 0, .int 0]) (C := RX0) (T := TX0) (N := 12) hx hb hts hinX0 tyX0 tyX0_ok hown (hts (.classLink RX3 7 RX0) (List.mem_of_getElem? (i := 4) rfl)) (hts (.instantiable RX0 12) (List.mem_of_getElem? (i := 5) rfl)) (hts (.initialized RX0) (List.mem_of_getElem? (i := 6) rfl)) hK.1.1 rfl (fun j hj => by rcases (by omega : j = 0 ∨ j = 1 ∨ j = 2 ∨ j = 3 ∨ j = 4 ∨ j = 5 ∨ j = 6 ∨ j = 7 ∨ j = 8 ∨ j = 9 ∨ j = 10 ∨ j = 11) with rfl | rfl | rfl | rfl | rfl | rfl | rfl | rfl | rfl | rfl | rfl | rfl <;> rfl) (Nat.le_of_ble_eq_true rfl) (Nat.le_of_ble_eq_true rfl) hz dX3_init_5 (fun H1 hz1 hN1 hq1 => ?_)
  have hO := hO.kept (hq1 (o + u) (by omega))
  have hS : iS (o + u) s.heap H1 [] := ⟨fun q hq => (hq1 q (by omega)).trans (hS.1 q hq), hS.2⟩
  have hR := bkR_kept hR (fun q h1 h2 => hq1 q h2)
  refine W.widen (k := 1) (n := 12) (Nat.le_of_ble_eq_true rfl) (Nat.le_of_ble_eq_true rfl) ?_
  refine lv_dup hx hb dX3_init_8 rfl ?_
  refine i_call (mc := 9) (ms := 464) (a := o + u) (va_runIN (As := []) (rest := [.ref (o + (u + 1)), .ref (o + u)]) ⟨hx, hb, hml, hown, hts⟩ (c_X0_init l D E o (u + 1) hu.2) ⟨va_cnB (host := "RiverMeeting") 0 hts gX3_init_X0_init_n9 rfl rfl rfl (hK.1.2 3 _ rfl) (hts (.initialized RX0) (List.mem_of_getElem? (i := 6) rfl)) (by decide +kernel) ⟨Nat.le_of_ble_eq_true rfl, Nat.le_of_ble_eq_true rfl⟩, rfl, (hts (.instanceMethod yX0_init) (List.mem_of_getElem? (i := 8) rfl))⟩ ⟨biBlind, fun U hU hW => ⟨rfl, by rw [hU]; exact hz1, by rw [hU]; exact hN1, bKa.warm hW hK⟩⟩ rfl rfl hl.1 rfl (lv_room (Nat.le_of_ble_eq_true rfl)) dX3_init_9 ⟨Nat.le_of_ble_eq_true rfl, Nat.le_of_ble_eq_true rfl⟩) hS (by omega) (fun H2 locs2 hz2 hR2 hq2 hS => ?_)
  have hO := hO.kept (hq2 (o + u) (by omega))
  have hR := bkR_join (bkR_kept hR (fun q h1 h2 => hq2 q h2)) hR2
  have hz : H2.size = o + (u + 11) := hz2
  refine W.widen (k := 10) (n := 476) (Nat.le_of_ble_eq_true rfl) (Nat.le_of_ble_eq_true rfl) ?_
  refine i_putF (D := D) (ci := 3) (v := .ref (o + (u + 1))) (ty := .object "RiverMeeting$Game") (C := RX3) (T := TX3) (N := 2) hx hb hts hinX3 tyX3 tyX3_ok nmX3 hown hK.1.1 hO hS (Nat.le_refl _) rfl 0 (by decide) (hts (.fieldLink RX3 10 "RiverMeeting$Slot" "kept" "LRiverMeeting$Game;") (List.mem_of_getElem? (i := 7) rfl)) (fun _ h9 => h9) rfl hini rfl (by decide +kernel) rfl rfl (Nat.le_of_ble_eq_true rfl) dX3_init_12 (fun H3 locs3 hO hz3 hq3 hS => ?_)
  have hO : va_at D vwCl (o + u, .inr (3, [.ref (o + (u + 1)), .int 0])) H3 := hO
  have hR := bkR_kept hR (fun q h1 h2 => hq3 q (by omega))
  have hz : H3.size = o + (u + 11) := hz3.trans hz
  exact i_ret hx hb hr hlocks hS hz (bkR_join (bkR_one hu.1 hO) hR) dX3_init_15
