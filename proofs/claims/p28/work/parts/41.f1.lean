def f_X6_game (M : bM) (x1 : Int64) : Int32 × bM := (let M11 : bM := f_X1_remember M 3; (let M12 : bM := f_X0_beginGame M11 3 x1; ((M12 3 5), M12)))
theorem u_f_X6_game (M : bM) (x1 : Int64) : f_X6_game M x1 = (let M11 : bM := f_X1_remember M 3; (let M12 : bM := f_X0_beginGame M11 3 x1; ((M12 3 5), M12))) := rfl
theorem p_X6_game_e13 (M : bM) (x1 : Int64) (M11 : bM) (hM11 : f_X1_remember M 3 = M11) (M12 : bM) (hM12 : f_X0_beginGame M11 3 x1 = M12) : f_X6_game M x1 = ((M12 3 5), M12) := by subst hM12 hM11; exact u_f_X6_game M x1
set_option maxHeartbeats 4000000 in
set_option maxRecDepth 100000 in
theorem c_X6_game (l : Launch) (D : va_G) (E : Nat → ClassId) (o : Nat) (M : bM) (x1 : Int64) (hn : vp_in (M 30 1) 14) : Met l yX6_game wsX6_game (rmF 4) (bPc D E [.ref (o + 0), .long x1] (fun H => bk D E LRM o M H)) (bQ (aI fun r H => ∃ M1 : bM, (r = (f_X6_game M x1).1 ∧ M1 = (f_X6_game M x1).2) ∧ bk D E LRM o M1 H) (rA o)) 0 0 (rA o) := by
  refine Met.ofW (cc := cX6_game) (maxL := 3) (ret := (some .int)) (by decide) rfl ?_
  intro p e s m args below meth c s₁ B hml hv
  obtain ⟨rfl, hB, hK⟩ := hv
  have hx := B.exec
  have hb := B.bytes
  have hr := B.returns
  have hts := atoms_spec (ws := wsX6_game) B.pre
  have hown : s.vm.findClass RX6 = some m.cls := findClass_of_methodNamed B.named
  have hlocks := B.notSynchronized
  have hS : bS (rA o) s.heap s.heap [] := bS.rf
  have hl := lv_entry ([.ref (o + 0), .long x1]) (n := 3) (Nat.le_of_ble_eq_true rfl)
  rw [lg_entry_eq]
  generalize (lg_sl ([.ref (o + 0), .long x1]) ++ List.replicate (3 - (lg_sl ([.ref (o + 0), .long x1])).length) Slot.unset).toArray = ls at hl ⊢
  have hl : lv_has ls 3 [(0, .ref (o + 0)), (1, .long x1)] := hl
  have hB : bk D E LRM o M s.heap := hB
  have hinX0 : ∀ w ∈ wsX00, w ∈ wsX6_game := by decide +kernel
  have hinX6 : ∀ w ∈ wsX60, w ∈ wsX6_game := by decide +kernel
  refine lv_aload_n hx hb dX6_game_0 rfl (lv_at hl 0 rfl) ?_
  refine b_get (D := D) (E := E) (L := LRM) (o := o) (M := M) (v := .ref (o + 30)) (C := RX6) (T := TX6) (N := 7) hx hb hts hinX6 hown hK.1 hB 0 lay_0 rfl 4 (by decide) (hts (.fieldLink RX6 36 "RiverMeeting" "history" "LRiverMeeting$History;") (List.mem_of_getElem? (i := 1) rfl)) (fun _ h9 => h9) rfl dX6_game_1 ?_
  refine lv_aload_n hx hb dX6_game_4 rfl (lv_at hl 0 rfl) ?_
  refine b_get (D := D) (E := E) (L := LRM) (o := o) (M := M) (v := .ref (o + 3)) (C := RX6) (T := TX6) (N := 7) hx hb hts hinX6 hown hK.1 hB 0 lay_0 rfl 1 (by decide) (hts (.fieldLink RX6 19 "RiverMeeting" "present" "LRiverMeeting$Game;") (List.mem_of_getElem? (i := 2) rfl)) (fun _ h9 => h9) rfl dX6_game_5 ?_
  refine b_mV (b_runV (As := [.ref (o + 3)]) (rest := []) ⟨hx, hb, hml, hown, hts⟩ (c_X1_remember l D E o M 3 isG_3 hn) (cwV 1 hts gX6_game_X1_remember rfl rfl rfl (by decide +kernel) ⟨Nat.le_of_ble_eq_true rfl, Nat.le_of_ble_eq_true rfl⟩) hK (bk_recv hK.1 hB lay_30 rfl) hB rfl hl rfl (Nat.le_of_ble_eq_true rfl) dX6_game_8 ⟨Nat.zero_le _, Nat.zero_le _⟩) hS (fun q h => h) (fun M11 hM11 H locs hB _ hS => ?_)
  refine lv_aload_n hx hb dX6_game_11 rfl (lv_at hl 0 rfl) ?_
  refine b_get (D := D) (E := E) (L := LRM) (o := o) (M := M11) (v := .ref (o + 3)) (C := RX6) (T := TX6) (N := 7) hx hb hts hinX6 hown hK.1 hB 0 lay_0 rfl 1 (by decide) (hts (.fieldLink RX6 19 "RiverMeeting" "present" "LRiverMeeting$Game;") (List.mem_of_getElem? (i := 2) rfl)) (fun _ h9 => h9) rfl dX6_game_12 ?_
  refine lv_lload_n hx hb dX6_game_15 rfl (lv_at hl 1 rfl) ?_
  refine b_mV (b_runV (As := [.long x1]) (rest := []) ⟨hx, hb, hml, hown, hts⟩ (c_X0_beginGame l D E o M11 3 x1 isG_3) (cwV 1 hts gX6_game_X0_beginGame rfl rfl rfl (by decide +kernel) ⟨Nat.le_of_ble_eq_true rfl, Nat.le_of_ble_eq_true rfl⟩) hK (bk_recv hK.1 hB isG_3.1 rfl) hB rfl hl rfl (Nat.le_of_ble_eq_true rfl) dX6_game_16 ⟨Nat.zero_le _, Nat.zero_le _⟩) hS (fun q h => h) (fun M12 hM12 H locs hB _ hS => ?_)
  refine lv_aload_n hx hb dX6_game_19 rfl (lv_at hl 0 rfl) ?_
  refine b_get (D := D) (E := E) (L := LRM) (o := o) (M := M12) (v := .ref (o + 3)) (C := RX6) (T := TX6) (N := 7) hx hb hts hinX6 hown hK.1 hB 0 lay_0 rfl 1 (by decide) (hts (.fieldLink RX6 19 "RiverMeeting" "present" "LRiverMeeting$Game;") (List.mem_of_getElem? (i := 2) rfl)) (fun _ h9 => h9) rfl dX6_game_20 ?_
  refine b_get (D := D) (E := E) (L := LRM) (o := o) (M := M12) (v := .int (M12 3 5)) (C := RX0) (T := TX0) (N := 12) hx hb hts hinX0 hown hK.1 hB 3 isG_3.1 rfl 5 (by decide) (hts (.fieldLink RX6 104 "RiverMeeting$Game" "games" "I") (List.mem_of_getElem? (i := 3) rfl)) (fun _ h9 => h9) rfl dX6_game_23 ?_
  have e13 := p_X6_game_e13 M x1 M11 hM11.symm M12 hM12.symm
  exact b_iret hx hb hr hlocks hS ⟨_, rfl, _, ⟨(congrArg Prod.fst e13).symm, (congrArg Prod.snd e13).symm⟩, hB⟩ dX6_game_26
def f_X6_leastWished (M : bM) : Int32 × bM := (let r12 : Int32 := (f_X5_dearestForBoth M 3).1; (let M11 : bM := (f_X5_dearestForBoth M 3).2; (r12, M11)))
theorem u_f_X6_leastWished (M : bM) : f_X6_leastWished M = (let r12 : Int32 := (f_X5_dearestForBoth M 3).1; (let M11 : bM := (f_X5_dearestForBoth M 3).2; (r12, M11))) := rfl
theorem p_X6_leastWished_e13 (M : bM) (r12 : Int32) (hr12 : (f_X5_dearestForBoth M 3).1 = r12) (M11 : bM) (hM11 : (f_X5_dearestForBoth M 3).2 = M11) : f_X6_leastWished M = (r12, M11) := by subst hM11 hr12; exact u_f_X6_leastWished M
set_option maxHeartbeats 4000000 in
set_option maxRecDepth 100000 in
theorem c_X6_leastWished (l : Launch) (D : va_G) (E : Nat → ClassId) (o : Nat) (M : bM)  : Met l yX6_leastWished wsX6_leastWished (rmF 3) (bPc D E [.ref (o + 0)] (fun H => bk D E LRM o M H)) (bQ (aI fun r H => ∃ M1 : bM, (r = (f_X6_leastWished M).1 ∧ M1 = (f_X6_leastWished M).2) ∧ bk D E LRM o M1 H) (rA o)) 0 0 (rA o) := by
  refine Met.ofW (cc := cX6_leastWished) (maxL := 1) (ret := (some .int)) (by decide) rfl ?_
  intro p e s m args below meth c s₁ B hml hv
  obtain ⟨rfl, hB, hK⟩ := hv
  have hx := B.exec
  have hb := B.bytes
  have hr := B.returns
  have hts := atoms_spec (ws := wsX6_leastWished) B.pre
  have hown : s.vm.findClass RX6 = some m.cls := findClass_of_methodNamed B.named
  have hlocks := B.notSynchronized
  have hS : bS (rA o) s.heap s.heap [] := bS.rf
  have hl := lv_entry ([.ref (o + 0)]) (n := 1) (Nat.le_of_ble_eq_true rfl)
  rw [lg_entry_eq]
  generalize (lg_sl ([.ref (o + 0)]) ++ List.replicate (1 - (lg_sl ([.ref (o + 0)])).length) Slot.unset).toArray = ls at hl ⊢
  have hl : lv_has ls 1 [(0, .ref (o + 0))] := hl
  have hB : bk D E LRM o M s.heap := hB
  have hinX6 : ∀ w ∈ wsX60, w ∈ wsX6_leastWished := by decide +kernel
  refine lv_aload_n hx hb dX6_leastWished_0 rfl (lv_at hl 0 rfl) ?_
  refine b_get (D := D) (E := E) (L := LRM) (o := o) (M := M) (v := .ref (o + 23)) (C := RX6) (T := TX6) (N := 7) hx hb hts hinX6 hown hK.1 hB 0 lay_0 rfl 3 (by decide) (hts (.fieldLink RX6 29 "RiverMeeting" "ways" "LRiverMeeting$Ways;") (List.mem_of_getElem? (i := 1) rfl)) (fun _ h9 => h9) rfl dX6_leastWished_1 ?_
  refine lv_aload_n hx hb dX6_leastWished_4 rfl (lv_at hl 0 rfl) ?_
  refine b_get (D := D) (E := E) (L := LRM) (o := o) (M := M) (v := .ref (o + 3)) (C := RX6) (T := TX6) (N := 7) hx hb hts hinX6 hown hK.1 hB 0 lay_0 rfl 1 (by decide) (hts (.fieldLink RX6 19 "RiverMeeting" "present" "LRiverMeeting$Game;") (List.mem_of_getElem? (i := 2) rfl)) (fun _ h9 => h9) rfl dX6_leastWished_5 ?_
  refine b_mI (b_runV (As := [.ref (o + 3)]) (rest := []) ⟨hx, hb, hml, hown, hts⟩ (c_X5_dearestForBoth l D E o M 3 isG_3) (cwV 1 hts gX6_leastWished_X5_dearestForBoth rfl rfl rfl (by decide +kernel) ⟨Nat.le_of_ble_eq_true rfl, Nat.le_of_ble_eq_true rfl⟩) hK (bk_recv hK.1 hB lay_23 rfl) hB rfl hl rfl (Nat.le_of_ble_eq_true rfl) dX6_leastWished_8 ⟨Nat.zero_le _, Nat.zero_le _⟩) hS (fun q h => h) (fun r12 M11 hM11 H locs hB _ hS => ?_)
  obtain ⟨hr12, hM11⟩ := hM11
  have e13 := p_X6_leastWished_e13 M r12 hr12.symm M11 hM11.symm
  exact b_iret hx hb hr hlocks hS ⟨_, rfl, _, ⟨(congrArg Prod.fst e13).symm, (congrArg Prod.snd e13).symm⟩, hB⟩ dX6_leastWished_11
def f_X6_best (M : bM) : Int32 × bM := (let r12 : Int32 := (f_X5_bestStep M 3).1; (let M11 : bM := (f_X5_bestStep M 3).2; (r12, M11)))
theorem u_f_X6_best (M : bM) : f_X6_best M = (let r12 : Int32 := (f_X5_bestStep M 3).1; (let M11 : bM := (f_X5_bestStep M 3).2; (r12, M11))) := rfl
theorem p_X6_best_e13 (M : bM) (r12 : Int32) (hr12 : (f_X5_bestStep M 3).1 = r12) (M11 : bM) (hM11 : (f_X5_bestStep M 3).2 = M11) : f_X6_best M = (r12, M11) := by subst hM11 hr12; exact u_f_X6_best M
set_option maxHeartbeats 4000000 in
set_option maxRecDepth 100000 in
theorem c_X6_best (l : Launch) (D : va_G) (E : Nat → ClassId) (o : Nat) (M : bM)  : Met l yX6_best wsX6_best (rmF 4) (bPc D E [.ref (o + 0)] (fun H => bk D E LRM o M H)) (bQ (aI fun r H => ∃ M1 : bM, (r = (f_X6_best M).1 ∧ M1 = (f_X6_best M).2) ∧ bk D E LRM o M1 H) (rA o)) 0 0 (rA o) := by
  refine Met.ofW (cc := cX6_best) (maxL := 1) (ret := (some .int)) (by decide) rfl ?_
  intro p e s m args below meth c s₁ B hml hv
  obtain ⟨rfl, hB, hK⟩ := hv
  have hx := B.exec
  have hb := B.bytes
  have hr := B.returns
  have hts := atoms_spec (ws := wsX6_best) B.pre
  have hown : s.vm.findClass RX6 = some m.cls := findClass_of_methodNamed B.named
  have hlocks := B.notSynchronized
  have hS : bS (rA o) s.heap s.heap [] := bS.rf
  have hl := lv_entry ([.ref (o + 0)]) (n := 1) (Nat.le_of_ble_eq_true rfl)
  rw [lg_entry_eq]
  generalize (lg_sl ([.ref (o + 0)]) ++ List.replicate (1 - (lg_sl ([.ref (o + 0)])).length) Slot.unset).toArray = ls at hl ⊢
  have hl : lv_has ls 1 [(0, .ref (o + 0))] := hl
  have hB : bk D E LRM o M s.heap := hB
  have hinX6 : ∀ w ∈ wsX60, w ∈ wsX6_best := by decide +kernel
  refine lv_aload_n hx hb dX6_best_0 rfl (lv_at hl 0 rfl) ?_
  refine b_get (D := D) (E := E) (L := LRM) (o := o) (M := M) (v := .ref (o + 23)) (C := RX6) (T := TX6) (N := 7) hx hb hts hinX6 hown hK.1 hB 0 lay_0 rfl 3 (by decide) (hts (.fieldLink RX6 29 "RiverMeeting" "ways" "LRiverMeeting$Ways;") (List.mem_of_getElem? (i := 1) rfl)) (fun _ h9 => h9) rfl dX6_best_1 ?_
  refine lv_aload_n hx hb dX6_best_4 rfl (lv_at hl 0 rfl) ?_
  refine b_get (D := D) (E := E) (L := LRM) (o := o) (M := M) (v := .ref (o + 3)) (C := RX6) (T := TX6) (N := 7) hx hb hts hinX6 hown hK.1 hB 0 lay_0 rfl 1 (by decide) (hts (.fieldLink RX6 19 "RiverMeeting" "present" "LRiverMeeting$Game;") (List.mem_of_getElem? (i := 2) rfl)) (fun _ h9 => h9) rfl dX6_best_5 ?_
  refine b_mI (b_runV (As := [.ref (o + 3)]) (rest := []) ⟨hx, hb, hml, hown, hts⟩ (c_X5_bestStep l D E o M 3 isG_3) (cwV 1 hts gX6_best_X5_bestStep rfl rfl rfl (by decide +kernel) ⟨Nat.le_of_ble_eq_true rfl, Nat.le_of_ble_eq_true rfl⟩) hK (bk_recv hK.1 hB lay_23 rfl) hB rfl hl rfl (Nat.le_of_ble_eq_true rfl) dX6_best_8 ⟨Nat.zero_le _, Nat.zero_le _⟩) hS (fun q h => h) (fun r12 M11 hM11 H locs hB _ hS => ?_)
  obtain ⟨hr12, hM11⟩ := hM11
  have e13 := p_X6_best_e13 M r12 hr12.symm M11 hM11.symm
  exact b_iret hx hb hr hlocks hS ⟨_, rfl, _, ⟨(congrArg Prod.fst e13).symm, (congrArg Prod.snd e13).symm⟩, hB⟩ dX6_best_11
def f_X6_append (M : bM) (x1 : Int32) : Nat × Int32 × bM := (if x1 < 0 then (1, 0, M) else (if x1 ≤ 255 then (let r14 : Int32 := f_X4_isFull M; (if r14 = 0 then (let r17 : Int32 := (f_X4_add M ((x1.toUInt32 % 65536).toInt32)).1; (let M16 : bM := (f_X4_add M ((x1.toUInt32 % 65536).toInt32)).2; (0, r17, M16))) else (2, 0, M))) else (1, 0, M)))
theorem u_f_X6_append (M : bM) (x1 : Int32) : f_X6_append M x1 = (if x1 < 0 then (1, 0, M) else (if x1 ≤ 255 then (let r14 : Int32 := f_X4_isFull M; (if r14 = 0 then (let r17 : Int32 := (f_X4_add M ((x1.toUInt32 % 65536).toInt32)).1; (let M16 : bM := (f_X4_add M ((x1.toUInt32 % 65536).toInt32)).2; (0, r17, M16))) else (2, 0, M))) else (1, 0, M))) := rfl
theorem p_X6_append_e12 (M : bM) (x1 : Int32) (c11 : x1 < 0) : f_X6_append M x1 = (1, 0, M) := by exact Eq.trans (u_f_X6_append M x1) (if_pos c11)
theorem p_X6_append_e18 (M : bM) (x1 : Int32) (c11 : ¬ x1 < 0) (c13 : x1 ≤ 255) (r14 : Int32) (hr14 : f_X4_isFull M = r14) (c15 : r14 = 0) (r17 : Int32) (hr17 : (f_X4_add M ((x1.toUInt32 % 65536).toInt32)).1 = r17) (M16 : bM) (hM16 : (f_X4_add M ((x1.toUInt32 % 65536).toInt32)).2 = M16) : f_X6_append M x1 = (0, r17, M16) := by subst hM16 hr17 hr14; exact Eq.trans (u_f_X6_append M x1) (Eq.trans (if_neg c11) (Eq.trans (if_pos c13) (if_pos c15)))
theorem p_X6_append_e19 (M : bM) (x1 : Int32) (c11 : ¬ x1 < 0) (c13 : x1 ≤ 255) (r14 : Int32) (hr14 : f_X4_isFull M = r14) (c15 : ¬ r14 = 0) : f_X6_append M x1 = (2, 0, M) := by subst hr14; exact Eq.trans (u_f_X6_append M x1) (Eq.trans (if_neg c11) (Eq.trans (if_pos c13) (if_neg c15)))
theorem p_X6_append_e20 (M : bM) (x1 : Int32) (c11 : ¬ x1 < 0) (c13 : ¬ x1 ≤ 255) : f_X6_append M x1 = (1, 0, M) := by exact Eq.trans (u_f_X6_append M x1) (Eq.trans (if_neg c11) (if_neg c13))
set_option maxHeartbeats 4000000 in
set_option maxRecDepth 100000 in
theorem c_X6_append (l : Launch) (hst : l.stackTraces = false) (D : va_G) (E : Nat → ClassId) (o : Nat) (M : bM) (x1 : Int32) : vx_Met l yX6_append wsX6_append (rmX 6) (bPx D E [.ref (o + 0), .int x1] (fun H => bk D E LRM o M H) (rA o)) (bQ (aI fun r H => ∃ M1 : bM, f_X6_append M x1 = (0, r, M1) ∧ bk D E LRM o M1 H) (rA o)) (bX D E LRM o (fun e M1 => e ≠ 0 ∧ f_X6_append M x1 = (e, 0, M1)) (rA o)) 1 6 (rA o) := by
  refine vx_ofW (cc := cX6_append) (maxL := 2) (ret := (some .int)) (by decide) rfl ?_
  intro p e s m args below meth c s₁ B hml ht hv
  obtain ⟨rfl, hB, hKX, hZ⟩ := hv
  have hK := hKX.1
  have hx := B.exec
  have hb := B.bytes
  have hr := B.returns
  have hts := atoms_spec (ws := wsX6_append) B.pre
  have hown : s.vm.findClass RX6 = some m.cls := findClass_of_methodNamed B.named
  have hlocks := B.notSynchronized
  have hS : bS (rA o) s.heap s.heap [] := bS.rf
  have hl := lv_entry ([.ref (o + 0), .int x1]) (n := 2) (Nat.le_of_ble_eq_true rfl)
  rw [lg_entry_eq]
  generalize (lg_sl ([.ref (o + 0), .int x1]) ++ List.replicate (2 - (lg_sl ([.ref (o + 0), .int x1])).length) Slot.unset).toArray = ls at hl ⊢
  have hl : lv_has ls 2 [(0, .ref (o + 0)), (1, .int x1)] := hl
  have hB : bk D E LRM o M s.heap := hB
  have hinX6 : ∀ w ∈ wsX60, w ∈ wsX6_append := by decide +kernel
  refine lv_iload_n hx hb dX6_append_0 rfl (lv_at hl 1 rfl) ?_
  refine lv_if_lt (tgt := 11) hx hb dX6_append_1 (by decide) (fun c11 => ?_) (fun c11 => ?_)
  · have e12 := p_X6_append_e12 M x1 c11
    obtain ⟨sa, hsa⟩ := hKX.2.2 0 _ rfl
    exact vx_throwS (cls := xIAE) (names := xNames) (ik := 53) (is := 55) (ic := 57) (A := rA o) hx hb hst hown fit1 fitN (hts (.classLink RX6 53 "java/lang/IllegalArgumentException") (List.mem_of_getElem? (i := 1) rfl)) (hts (.initialized "java/lang/IllegalArgumentException") (List.mem_of_getElem? (i := 2) rfl)) hsa (vx_hat (B := thrB) (fun w hw => hts w (List.mem_cons_of_mem _ (List.mem_append_left _ (List.mem_append_right _ hw)))) ng1 (bT.words hKX.2.1)) ot1 hZ.1 hZ.2 (bS_va hS) (hl.1.trans hml.symm) dX6_append_11 dX6_append_14 dX6_append_15 dX6_append_17 dX6_append_20 (fun x hx9 => (ht x hx9).elim) (by decide) (Nat.le_of_ble_eq_true rfl) (Nat.le_refl _) (Nat.le_refl _) hlocks (x_throw (en := 1) hB hS (bk_lt hB) ⟨by decide, e12⟩ rfl) hS.2.2 (Nat.le_refl _) (Nat.le_refl _)
  · refine lv_iload_n hx hb dX6_append_4 rfl (lv_at hl 1 rfl) ?_
    refine lv_sipush (v := 255) hx hb dX6_append_5 (by decide) ?_
    refine lv_icmp_le (tgt := 21) hx hb dX6_append_8 (by decide) (fun c13 => ?_) (fun c13 => ?_)
    · refine lv_aload_n hx hb dX6_append_21 rfl (lv_at hl 0 rfl) ?_
      refine b_get (D := D) (E := E) (L := LRM) (o := o) (M := M) (v := .ref (o + 1)) (C := RX6) (T := TX6) (N := 7) hx hb hts hinX6 hown hK.1 hB 0 lay_0 rfl 0 (by decide) (hts (.fieldLink RX6 10 "RiverMeeting" "text" "LRiverMeeting$TextBuffer;") (List.mem_of_getElem? (i := 5) rfl)) (fun _ h9 => h9) rfl dX6_append_22 ?_
      refine b_pI (b_runV (As := []) (rest := []) ⟨hx, hb, hml, hown, hts⟩ (c_X4_isFull l D E o M) (cwV 0 hts gX6_append_X4_isFull rfl rfl rfl (by decide +kernel) ⟨Nat.le_of_ble_eq_true rfl, Nat.le_of_ble_eq_true rfl⟩) hK (bk_recv hK.1 hB lay_1 rfl) hB rfl hl rfl (Nat.le_of_ble_eq_true rfl) dX6_append_25 ⟨Nat.zero_le _, Nat.zero_le _⟩) hS (fun r14 hr14 locs hS => ?_)
      refine lv_if_eq (tgt := 41) hx hb dX6_append_28 (by decide) (fun c15 => ?_) (fun c15 => ?_)
      · refine lv_aload_n hx hb dX6_append_41 rfl (lv_at hl 0 rfl) ?_
        refine b_get (D := D) (E := E) (L := LRM) (o := o) (M := M) (v := .ref (o + 1)) (C := RX6) (T := TX6) (N := 7) hx hb hts hinX6 hown hK.1 hB 0 lay_0 rfl 0 (by decide) (hts (.fieldLink RX6 10 "RiverMeeting" "text" "LRiverMeeting$TextBuffer;") (List.mem_of_getElem? (i := 5) rfl)) (fun _ h9 => h9) rfl dX6_append_42 ?_
        refine lv_iload_n hx hb dX6_append_45 rfl (lv_at hl 1 rfl) ?_
        refine lv_i2c hx hb dX6_append_46 rfl ?_
        refine b_mI (b_runV (As := [.int ((x1.toUInt32 % 65536).toInt32)]) (rest := []) ⟨hx, hb, hml, hown, hts⟩ (c_X4_add l D E o M ((x1.toUInt32 % 65536).toInt32)) (cwV 1 hts gX6_append_X4_add rfl rfl rfl (by decide +kernel) ⟨Nat.le_of_ble_eq_true rfl, Nat.le_of_ble_eq_true rfl⟩) hK (bk_recv hK.1 hB lay_1 rfl) hB rfl hl rfl (Nat.le_of_ble_eq_true rfl) dX6_append_47 ⟨Nat.zero_le _, Nat.zero_le _⟩) hS (fun q h => h) (fun r17 M16 hM16 H locs hB _ hS => ?_)
        obtain ⟨hr17, hM16⟩ := hM16
        have e18 := p_X6_append_e18 M x1 c11 c13 r14 hr14.symm c15 r17 hr17.symm M16 hM16.symm
        exact x_iret hx hb hr hlocks hS ⟨_, rfl, _, e18, hB⟩ dX6_append_50
      · have e19 := p_X6_append_e19 M x1 c11 c13 r14 hr14.symm c15
        obtain ⟨sa, hsa⟩ := hKX.2.2 1 _ rfl
        exact vx_throwS (cls := xISE) (names := xNames) (ik := 64) (is := 66) (ic := 68) (A := rA o) hx hb hst hown fit2 fitN (hts (.classLink RX6 64 "java/lang/IllegalStateException") (List.mem_of_getElem? (i := 3) rfl)) (hts (.initialized "java/lang/IllegalStateException") (List.mem_of_getElem? (i := 4) rfl)) hsa (vx_hat (B := thrB) (fun w hw => hts w (List.mem_cons_of_mem _ (List.mem_append_right _ hw))) ng2 (bT.words hKX.2.1)) ot2 hZ.1 hZ.2 (bS_va hS) (hl.1.trans hml.symm) dX6_append_31 dX6_append_34 dX6_append_35 dX6_append_37 dX6_append_40 (fun x hx9 => (ht x hx9).elim) (by decide) (Nat.le_of_ble_eq_true rfl) (Nat.le_refl _) (Nat.le_refl _) hlocks (x_throw (en := 2) hB hS (bk_lt hB) ⟨by decide, e19⟩ rfl) hS.2.2 (Nat.le_refl _) (Nat.le_refl _)
    · have e20 := p_X6_append_e20 M x1 c11 c13
      obtain ⟨sa, hsa⟩ := hKX.2.2 0 _ rfl
      exact vx_throwS (cls := xIAE) (names := xNames) (ik := 53) (is := 55) (ic := 57) (A := rA o) hx hb hst hown fit1 fitN (hts (.classLink RX6 53 "java/lang/IllegalArgumentException") (List.mem_of_getElem? (i := 1) rfl)) (hts (.initialized "java/lang/IllegalArgumentException") (List.mem_of_getElem? (i := 2) rfl)) hsa (vx_hat (B := thrB) (fun w hw => hts w (List.mem_cons_of_mem _ (List.mem_append_left _ (List.mem_append_right _ hw)))) ng1 (bT.words hKX.2.1)) ot1 hZ.1 hZ.2 (bS_va hS) (hl.1.trans hml.symm) dX6_append_11 dX6_append_14 dX6_append_15 dX6_append_17 dX6_append_20 (fun x hx9 => (ht x hx9).elim) (by decide) (Nat.le_of_ble_eq_true rfl) (Nat.le_refl _) (Nat.le_refl _) hlocks (x_throw (en := 1) hB hS (bk_lt hB) ⟨by decide, e20⟩ rfl) hS.2.2 (Nat.le_refl _) (Nat.le_refl _)
def f_X6_about (M : bM) (x1 : Int32) : Nat × Int32 × bM := (if x1 = 0 then (0, (M 3 5), M) else (if x1 = 1 then (let r14 : Int32 := f_X0_phase M 3; (0, r14, M)) else (if x1 = 2 then (let r17 : Int32 := f_X0_isOver M 3; (if r17 = 0 then (0, (M 3 7), M) else (0, (-1), M))) else (if x1 = 3 then (0, (M 3 6), M) else (if x1 = 4 then (let r24 : Int32 := f_X0_countDams M 3; (0, r24, M)) else (if x1 = 5 then (0, (M 3 8), M) else (if x1 = 6 then (0, (M 3 9), M) else (if x1 = 7 then (0, (M 3 10), M) else (if x1 = 8 then (0, (M 3 11), M) else (1, 0, M))))))))))
theorem u_f_X6_about (M : bM) (x1 : Int32) : f_X6_about M x1 = (if x1 = 0 then (0, (M 3 5), M) else (if x1 = 1 then (let r14 : Int32 := f_X0_phase M 3; (0, r14, M)) else (if x1 = 2 then (let r17 : Int32 := f_X0_isOver M 3; (if r17 = 0 then (0, (M 3 7), M) else (0, (-1), M))) else (if x1 = 3 then (0, (M 3 6), M) else (if x1 = 4 then (let r24 : Int32 := f_X0_countDams M 3; (0, r24, M)) else (if x1 = 5 then (0, (M 3 8), M) else (if x1 = 6 then (0, (M 3 9), M) else (if x1 = 7 then (0, (M 3 10), M) else (if x1 = 8 then (0, (M 3 11), M) else (1, 0, M)))))))))) := rfl
theorem p_X6_about_e12 (M : bM) (x1 : Int32) (c11 : x1 = 0) : f_X6_about M x1 = (0, (M 3 5), M) := by exact Eq.trans (u_f_X6_about M x1) (if_pos c11)
theorem p_X6_about_e15 (M : bM) (x1 : Int32) (c11 : ¬ x1 = 0) (c13 : x1 = 1) (r14 : Int32) (hr14 : f_X0_phase M 3 = r14) : f_X6_about M x1 = (0, r14, M) := by subst hr14; exact Eq.trans (u_f_X6_about M x1) (Eq.trans (if_neg c11) (if_pos c13))
theorem p_X6_about_e19 (M : bM) (x1 : Int32) (c11 : ¬ x1 = 0) (c13 : ¬ x1 = 1) (c16 : x1 = 2) (r17 : Int32) (hr17 : f_X0_isOver M 3 = r17) (c18 : r17 = 0) : f_X6_about M x1 = (0, (M 3 7), M) := by subst hr17; exact Eq.trans (u_f_X6_about M x1) (Eq.trans (if_neg c11) (Eq.trans (if_neg c13) (Eq.trans (if_pos c16) (if_pos c18))))
theorem p_X6_about_e20 (M : bM) (x1 : Int32) (c11 : ¬ x1 = 0) (c13 : ¬ x1 = 1) (c16 : x1 = 2) (r17 : Int32) (hr17 : f_X0_isOver M 3 = r17) (c18 : ¬ r17 = 0) : f_X6_about M x1 = (0, (-1), M) := by subst hr17; exact Eq.trans (u_f_X6_about M x1) (Eq.trans (if_neg c11) (Eq.trans (if_neg c13) (Eq.trans (if_pos c16) (if_neg c18))))
theorem p_X6_about_e22 (M : bM) (x1 : Int32) (c11 : ¬ x1 = 0) (c13 : ¬ x1 = 1) (c16 : ¬ x1 = 2) (c21 : x1 = 3) : f_X6_about M x1 = (0, (M 3 6), M) := by exact Eq.trans (u_f_X6_about M x1) (Eq.trans (if_neg c11) (Eq.trans (if_neg c13) (Eq.trans (if_neg c16) (if_pos c21))))
theorem p_X6_about_e25 (M : bM) (x1 : Int32) (c11 : ¬ x1 = 0) (c13 : ¬ x1 = 1) (c16 : ¬ x1 = 2) (c21 : ¬ x1 = 3) (c23 : x1 = 4) (r24 : Int32) (hr24 : f_X0_countDams M 3 = r24) : f_X6_about M x1 = (0, r24, M) := by subst hr24; exact Eq.trans (u_f_X6_about M x1) (Eq.trans (if_neg c11) (Eq.trans (if_neg c13) (Eq.trans (if_neg c16) (Eq.trans (if_neg c21) (if_pos c23)))))
theorem p_X6_about_e27 (M : bM) (x1 : Int32) (c11 : ¬ x1 = 0) (c13 : ¬ x1 = 1) (c16 : ¬ x1 = 2) (c21 : ¬ x1 = 3) (c23 : ¬ x1 = 4) (c26 : x1 = 5) : f_X6_about M x1 = (0, (M 3 8), M) := by exact Eq.trans (u_f_X6_about M x1) (Eq.trans (if_neg c11) (Eq.trans (if_neg c13) (Eq.trans (if_neg c16) (Eq.trans (if_neg c21) (Eq.trans (if_neg c23) (if_pos c26))))))
theorem p_X6_about_e29 (M : bM) (x1 : Int32) (c11 : ¬ x1 = 0) (c13 : ¬ x1 = 1) (c16 : ¬ x1 = 2) (c21 : ¬ x1 = 3) (c23 : ¬ x1 = 4) (c26 : ¬ x1 = 5) (c28 : x1 = 6) : f_X6_about M x1 = (0, (M 3 9), M) := by exact Eq.trans (u_f_X6_about M x1) (Eq.trans (if_neg c11) (Eq.trans (if_neg c13) (Eq.trans (if_neg c16) (Eq.trans (if_neg c21) (Eq.trans (if_neg c23) (Eq.trans (if_neg c26) (if_pos c28)))))))
theorem p_X6_about_e31 (M : bM) (x1 : Int32) (c11 : ¬ x1 = 0) (c13 : ¬ x1 = 1) (c16 : ¬ x1 = 2) (c21 : ¬ x1 = 3) (c23 : ¬ x1 = 4) (c26 : ¬ x1 = 5) (c28 : ¬ x1 = 6) (c30 : x1 = 7) : f_X6_about M x1 = (0, (M 3 10), M) := by exact Eq.trans (u_f_X6_about M x1) (Eq.trans (if_neg c11) (Eq.trans (if_neg c13) (Eq.trans (if_neg c16) (Eq.trans (if_neg c21) (Eq.trans (if_neg c23) (Eq.trans (if_neg c26) (Eq.trans (if_neg c28) (if_pos c30))))))))
theorem p_X6_about_e33 (M : bM) (x1 : Int32) (c11 : ¬ x1 = 0) (c13 : ¬ x1 = 1) (c16 : ¬ x1 = 2) (c21 : ¬ x1 = 3) (c23 : ¬ x1 = 4) (c26 : ¬ x1 = 5) (c28 : ¬ x1 = 6) (c30 : ¬ x1 = 7) (c32 : x1 = 8) : f_X6_about M x1 = (0, (M 3 11), M) := by exact Eq.trans (u_f_X6_about M x1) (Eq.trans (if_neg c11) (Eq.trans (if_neg c13) (Eq.trans (if_neg c16) (Eq.trans (if_neg c21) (Eq.trans (if_neg c23) (Eq.trans (if_neg c26) (Eq.trans (if_neg c28) (Eq.trans (if_neg c30) (if_pos c32)))))))))
theorem p_X6_about_e34 (M : bM) (x1 : Int32) (c11 : ¬ x1 = 0) (c13 : ¬ x1 = 1) (c16 : ¬ x1 = 2) (c21 : ¬ x1 = 3) (c23 : ¬ x1 = 4) (c26 : ¬ x1 = 5) (c28 : ¬ x1 = 6) (c30 : ¬ x1 = 7) (c32 : ¬ x1 = 8) : f_X6_about M x1 = (1, 0, M) := by exact Eq.trans (u_f_X6_about M x1) (Eq.trans (if_neg c11) (Eq.trans (if_neg c13) (Eq.trans (if_neg c16) (Eq.trans (if_neg c21) (Eq.trans (if_neg c23) (Eq.trans (if_neg c26) (Eq.trans (if_neg c28) (Eq.trans (if_neg c30) (if_neg c32)))))))))
set_option maxHeartbeats 4000000 in
set_option maxRecDepth 100000 in
theorem c_X6_about (l : Launch) (hst : l.stackTraces = false) (D : va_G) (E : Nat → ClassId) (o : Nat) (M : bM) (x1 : Int32) : vx_Met l yX6_about wsX6_about (rmX 6) (bPx D E [.ref (o + 0), .int x1] (fun H => bk D E LRM o M H) (rA o)) (bQ (aI fun r H => ∃ M1 : bM, f_X6_about M x1 = (0, r, M1) ∧ bk D E LRM o M1 H) (rA o)) (bX D E LRM o (fun e M1 => e ≠ 0 ∧ f_X6_about M x1 = (e, 0, M1)) (rA o)) 1 6 (rA o) := by
  refine vx_ofW (cc := cX6_about) (maxL := 2) (ret := (some .int)) (by decide) rfl ?_
  intro p e s m args below meth c s₁ B hml ht hv
  obtain ⟨rfl, hB, hKX, hZ⟩ := hv
  have hK := hKX.1
  have hx := B.exec
  have hb := B.bytes
  have hr := B.returns
  have hts := atoms_spec (ws := wsX6_about) B.pre
  have hown : s.vm.findClass RX6 = some m.cls := findClass_of_methodNamed B.named
  have hlocks := B.notSynchronized
  have hS : bS (rA o) s.heap s.heap [] := bS.rf
  have hl := lv_entry ([.ref (o + 0), .int x1]) (n := 2) (Nat.le_of_ble_eq_true rfl)
  rw [lg_entry_eq]
  generalize (lg_sl ([.ref (o + 0), .int x1]) ++ List.replicate (2 - (lg_sl ([.ref (o + 0), .int x1])).length) Slot.unset).toArray = ls at hl ⊢
  have hl : lv_has ls 2 [(0, .ref (o + 0)), (1, .int x1)] := hl
  have hB : bk D E LRM o M s.heap := hB
  have hinX0 : ∀ w ∈ wsX00, w ∈ wsX6_about := by decide +kernel
  have hinX6 : ∀ w ∈ wsX60, w ∈ wsX6_about := by decide +kernel
  refine lv_iload_n hx hb dX6_about_0 rfl (lv_at hl 1 rfl) ?_
  by_cases c11 : x1 = 0
  · refine b_tabI (tgt := 52) hx hb 0 dX6_about_1 (by rw [c11]; rfl) (by decide) (by decide) rfl (by decide) ?_
    refine lv_aload_n hx hb dX6_about_52 rfl (lv_at hl 0 rfl) ?_
    refine b_get (D := D) (E := E) (L := LRM) (o := o) (M := M) (v := .ref (o + 3)) (C := RX6) (T := TX6) (N := 7) hx hb hts hinX6 hown hK.1 hB 0 lay_0 rfl 1 (by decide) (hts (.fieldLink RX6 19 "RiverMeeting" "present" "LRiverMeeting$Game;") (List.mem_of_getElem? (i := 3) rfl)) (fun _ h9 => h9) rfl dX6_about_53 ?_
    refine b_get (D := D) (E := E) (L := LRM) (o := o) (M := M) (v := .int (M 3 5)) (C := RX0) (T := TX0) (N := 12) hx hb hts hinX0 hown hK.1 hB 3 isG_3.1 rfl 5 (by decide) (hts (.fieldLink RX6 104 "RiverMeeting$Game" "games" "I") (List.mem_of_getElem? (i := 4) rfl)) (fun _ h9 => h9) rfl dX6_about_56 ?_
    have e12 := p_X6_about_e12 M x1 c11
    exact x_iret hx hb hr hlocks hS ⟨_, rfl, _, e12, hB⟩ dX6_about_59
  by_cases c13 : x1 = 1
  · refine b_tabI (tgt := 60) hx hb 1 dX6_about_1 (by rw [c13]; rfl) (by decide) (by decide) rfl (by decide) ?_
    refine lv_aload_n hx hb dX6_about_60 rfl (lv_at hl 0 rfl) ?_
    refine b_get (D := D) (E := E) (L := LRM) (o := o) (M := M) (v := .ref (o + 3)) (C := RX6) (T := TX6) (N := 7) hx hb hts hinX6 hown hK.1 hB 0 lay_0 rfl 1 (by decide) (hts (.fieldLink RX6 19 "RiverMeeting" "present" "LRiverMeeting$Game;") (List.mem_of_getElem? (i := 3) rfl)) (fun _ h9 => h9) rfl dX6_about_61 ?_
    refine b_pI (b_runV (As := []) (rest := []) ⟨hx, hb, hml, hown, hts⟩ (c_X0_phase l D E o M 3 isG_3) (cwV 0 hts gX6_about_X0_phase rfl rfl rfl (by decide +kernel) ⟨Nat.le_of_ble_eq_true rfl, Nat.le_of_ble_eq_true rfl⟩) hK (bk_recv hK.1 hB isG_3.1 rfl) hB rfl hl rfl (Nat.le_of_ble_eq_true rfl) dX6_about_64 ⟨Nat.zero_le _, Nat.zero_le _⟩) hS (fun r14 hr14 locs hS => ?_)
    have e15 := p_X6_about_e15 M x1 c11 c13 r14 hr14.symm
    exact x_iret hx hb hr hlocks hS ⟨_, rfl, _, e15, hB⟩ dX6_about_67
  by_cases c16 : x1 = 2
  · refine b_tabI (tgt := 68) hx hb 2 dX6_about_1 (by rw [c16]; rfl) (by decide) (by decide) rfl (by decide) ?_
    refine lv_aload_n hx hb dX6_about_68 rfl (lv_at hl 0 rfl) ?_
    refine b_get (D := D) (E := E) (L := LRM) (o := o) (M := M) (v := .ref (o + 3)) (C := RX6) (T := TX6) (N := 7) hx hb hts hinX6 hown hK.1 hB 0 lay_0 rfl 1 (by decide) (hts (.fieldLink RX6 19 "RiverMeeting" "present" "LRiverMeeting$Game;") (List.mem_of_getElem? (i := 3) rfl)) (fun _ h9 => h9) rfl dX6_about_69 ?_
    refine b_pI (b_runV (As := []) (rest := []) ⟨hx, hb, hml, hown, hts⟩ (c_X0_isOver l D E o M 3 isG_3) (cwV 0 hts gX6_about_X0_isOver rfl rfl rfl (by decide +kernel) ⟨Nat.le_of_ble_eq_true rfl, Nat.le_of_ble_eq_true rfl⟩) hK (bk_recv hK.1 hB isG_3.1 rfl) hB rfl hl rfl (Nat.le_of_ble_eq_true rfl) dX6_about_72 ⟨Nat.zero_le _, Nat.zero_le _⟩) hS (fun r17 hr17 locs hS => ?_)
    refine lv_if_eq (tgt := 82) hx hb dX6_about_75 (by decide) (fun c18 => ?_) (fun c18 => ?_)
    · refine lv_aload_n hx hb dX6_about_82 rfl (lv_at hl 0 rfl) ?_
      refine b_get (D := D) (E := E) (L := LRM) (o := o) (M := M) (v := .ref (o + 3)) (C := RX6) (T := TX6) (N := 7) hx hb hts hinX6 hown hK.1 hB 0 lay_0 rfl 1 (by decide) (hts (.fieldLink RX6 19 "RiverMeeting" "present" "LRiverMeeting$Game;") (List.mem_of_getElem? (i := 3) rfl)) (fun _ h9 => h9) rfl dX6_about_83 ?_
      refine b_get (D := D) (E := E) (L := LRM) (o := o) (M := M) (v := .int (M 3 7)) (C := RX0) (T := TX0) (N := 12) hx hb hts hinX0 hown hK.1 hB 3 isG_3.1 rfl 7 (by decide) (hts (.fieldLink RX6 113 "RiverMeeting$Game" "mover" "I") (List.mem_of_getElem? (i := 5) rfl)) (fun _ h9 => h9) rfl dX6_about_86 ?_
      have e19 := p_X6_about_e19 M x1 c11 c13 c16 r17 hr17.symm c18
      exact x_iret hx hb hr hlocks hS ⟨_, rfl, _, e19, hB⟩ dX6_about_89
    · refine lv_iconst (v := (-1)) hx hb dX6_about_78 (by decide) ?_
      refine lv_goto (tgt := 89) hx hb dX6_about_79 (by decide) ?_
      have e20 := p_X6_about_e20 M x1 c11 c13 c16 r17 hr17.symm c18
      exact x_iret hx hb hr hlocks hS ⟨_, rfl, _, e20, hB⟩ dX6_about_89
  by_cases c21 : x1 = 3
  · refine b_tabI (tgt := 90) hx hb 3 dX6_about_1 (by rw [c21]; rfl) (by decide) (by decide) rfl (by decide) ?_
    refine lv_aload_n hx hb dX6_about_90 rfl (lv_at hl 0 rfl) ?_
    refine b_get (D := D) (E := E) (L := LRM) (o := o) (M := M) (v := .ref (o + 3)) (C := RX6) (T := TX6) (N := 7) hx hb hts hinX6 hown hK.1 hB 0 lay_0 rfl 1 (by decide) (hts (.fieldLink RX6 19 "RiverMeeting" "present" "LRiverMeeting$Game;") (List.mem_of_getElem? (i := 3) rfl)) (fun _ h9 => h9) rfl dX6_about_91 ?_
    refine b_get (D := D) (E := E) (L := LRM) (o := o) (M := M) (v := .int (M 3 6)) (C := RX0) (T := TX0) (N := 12) hx hb hts hinX0 hown hK.1 hB 3 isG_3.1 rfl 6 (by decide) (hts (.fieldLink RX6 116 "RiverMeeting$Game" "turns" "I") (List.mem_of_getElem? (i := 6) rfl)) (fun _ h9 => h9) rfl dX6_about_94 ?_
    have e22 := p_X6_about_e22 M x1 c11 c13 c16 c21
    exact x_iret hx hb hr hlocks hS ⟨_, rfl, _, e22, hB⟩ dX6_about_97
  by_cases c23 : x1 = 4
  · refine b_tabI (tgt := 98) hx hb 4 dX6_about_1 (by rw [c23]; rfl) (by decide) (by decide) rfl (by decide) ?_
    refine lv_aload_n hx hb dX6_about_98 rfl (lv_at hl 0 rfl) ?_
    refine b_get (D := D) (E := E) (L := LRM) (o := o) (M := M) (v := .ref (o + 3)) (C := RX6) (T := TX6) (N := 7) hx hb hts hinX6 hown hK.1 hB 0 lay_0 rfl 1 (by decide) (hts (.fieldLink RX6 19 "RiverMeeting" "present" "LRiverMeeting$Game;") (List.mem_of_getElem? (i := 3) rfl)) (fun _ h9 => h9) rfl dX6_about_99 ?_
    refine b_pI (b_runV (As := []) (rest := []) ⟨hx, hb, hml, hown, hts⟩ (c_X0_countDams l D E o M 3 isG_3) (cwV 0 hts gX6_about_X0_countDams rfl rfl rfl (by decide +kernel) ⟨Nat.le_of_ble_eq_true rfl, Nat.le_of_ble_eq_true rfl⟩) hK (bk_recv hK.1 hB isG_3.1 rfl) hB rfl hl rfl (Nat.le_of_ble_eq_true rfl) dX6_about_102 ⟨Nat.zero_le _, Nat.zero_le _⟩) hS (fun r24 hr24 locs hS => ?_)
    have e25 := p_X6_about_e25 M x1 c11 c13 c16 c21 c23 r24 hr24.symm
    exact x_iret hx hb hr hlocks hS ⟨_, rfl, _, e25, hB⟩ dX6_about_105
  by_cases c26 : x1 = 5
  · refine b_tabI (tgt := 106) hx hb 5 dX6_about_1 (by rw [c26]; rfl) (by decide) (by decide) rfl (by decide) ?_
    refine lv_aload_n hx hb dX6_about_106 rfl (lv_at hl 0 rfl) ?_
    refine b_get (D := D) (E := E) (L := LRM) (o := o) (M := M) (v := .ref (o + 3)) (C := RX6) (T := TX6) (N := 7) hx hb hts hinX6 hown hK.1 hB 0 lay_0 rfl 1 (by decide) (hts (.fieldLink RX6 19 "RiverMeeting" "present" "LRiverMeeting$Game;") (List.mem_of_getElem? (i := 3) rfl)) (fun _ h9 => h9) rfl dX6_about_107 ?_
    refine b_get (D := D) (E := E) (L := LRM) (o := o) (M := M) (v := .int (M 3 8)) (C := RX0) (T := TX0) (N := 12) hx hb hts hinX0 hown hK.1 hB 3 isG_3.1 rfl 8 (by decide) (hts (.fieldLink RX6 122 "RiverMeeting$Game" "meeting" "I") (List.mem_of_getElem? (i := 7) rfl)) (fun _ h9 => h9) rfl dX6_about_110 ?_
    have e27 := p_X6_about_e27 M x1 c11 c13 c16 c21 c23 c26
    exact x_iret hx hb hr hlocks hS ⟨_, rfl, _, e27, hB⟩ dX6_about_113
  by_cases c28 : x1 = 6
  · refine b_tabI (tgt := 114) hx hb 6 dX6_about_1 (by rw [c28]; rfl) (by decide) (by decide) rfl (by decide) ?_
    refine lv_aload_n hx hb dX6_about_114 rfl (lv_at hl 0 rfl) ?_
    refine b_get (D := D) (E := E) (L := LRM) (o := o) (M := M) (v := .ref (o + 3)) (C := RX6) (T := TX6) (N := 7) hx hb hts hinX6 hown hK.1 hB 0 lay_0 rfl 1 (by decide) (hts (.fieldLink RX6 19 "RiverMeeting" "present" "LRiverMeeting$Game;") (List.mem_of_getElem? (i := 3) rfl)) (fun _ h9 => h9) rfl dX6_about_115 ?_
    refine b_get (D := D) (E := E) (L := LRM) (o := o) (M := M) (v := .int (M 3 9)) (C := RX0) (T := TX0) (N := 12) hx hb hts hinX0 hown hK.1 hB 3 isG_3.1 rfl 9 (by decide) (hts (.fieldLink RX6 125 "RiverMeeting$Game" "winner" "I") (List.mem_of_getElem? (i := 8) rfl)) (fun _ h9 => h9) rfl dX6_about_118 ?_
    have e29 := p_X6_about_e29 M x1 c11 c13 c16 c21 c23 c26 c28
    exact x_iret hx hb hr hlocks hS ⟨_, rfl, _, e29, hB⟩ dX6_about_121
  by_cases c30 : x1 = 7
  · refine b_tabI (tgt := 122) hx hb 7 dX6_about_1 (by rw [c30]; rfl) (by decide) (by decide) rfl (by decide) ?_
    refine lv_aload_n hx hb dX6_about_122 rfl (lv_at hl 0 rfl) ?_
    refine b_get (D := D) (E := E) (L := LRM) (o := o) (M := M) (v := .ref (o + 3)) (C := RX6) (T := TX6) (N := 7) hx hb hts hinX6 hown hK.1 hB 0 lay_0 rfl 1 (by decide) (hts (.fieldLink RX6 19 "RiverMeeting" "present" "LRiverMeeting$Game;") (List.mem_of_getElem? (i := 3) rfl)) (fun _ h9 => h9) rfl dX6_about_123 ?_
    refine b_get (D := D) (E := E) (L := LRM) (o := o) (M := M) (v := .int (M 3 10)) (C := RX0) (T := TX0) (N := 12) hx hb hts hinX0 hown hK.1 hB 3 isG_3.1 rfl 10 (by decide) (hts (.fieldLink RX6 128 "RiverMeeting$Game" "refusals" "I") (List.mem_of_getElem? (i := 9) rfl)) (fun _ h9 => h9) rfl dX6_about_126 ?_
    have e31 := p_X6_about_e31 M x1 c11 c13 c16 c21 c23 c26 c28 c30
    exact x_iret hx hb hr hlocks hS ⟨_, rfl, _, e31, hB⟩ dX6_about_129
  by_cases c32 : x1 = 8
  · refine b_tabI (tgt := 130) hx hb 8 dX6_about_1 (by rw [c32]; rfl) (by decide) (by decide) rfl (by decide) ?_
    refine lv_aload_n hx hb dX6_about_130 rfl (lv_at hl 0 rfl) ?_
    refine b_get (D := D) (E := E) (L := LRM) (o := o) (M := M) (v := .ref (o + 3)) (C := RX6) (T := TX6) (N := 7) hx hb hts hinX6 hown hK.1 hB 0 lay_0 rfl 1 (by decide) (hts (.fieldLink RX6 19 "RiverMeeting" "present" "LRiverMeeting$Game;") (List.mem_of_getElem? (i := 3) rfl)) (fun _ h9 => h9) rfl dX6_about_131 ?_
    refine b_get (D := D) (E := E) (L := LRM) (o := o) (M := M) (v := .int (M 3 11)) (C := RX0) (T := TX0) (N := 12) hx hb hts hinX0 hown hK.1 hB 3 isG_3.1 rfl 11 (by decide) (hts (.fieldLink RX6 131 "RiverMeeting$Game" "floods" "I") (List.mem_of_getElem? (i := 10) rfl)) (fun _ h9 => h9) rfl dX6_about_134 ?_
    have e33 := p_X6_about_e33 M x1 c11 c13 c16 c21 c23 c26 c28 c30 c32
    exact x_iret hx hb hr hlocks hS ⟨_, rfl, _, e33, hB⟩ dX6_about_137
  refine b_tabD (tgt := 138) hx hb [0, 1, 2, 3, 4, 5, 6, 7, 8] dX6_about_1 (by decide) (by decide) (List.forall_mem_cons.mpr ⟨lv_neT c11 (a := 0) rfl, (List.forall_mem_cons.mpr ⟨lv_neT c13 (a := 1) rfl, (List.forall_mem_cons.mpr ⟨lv_neT c16 (a := 2) rfl, (List.forall_mem_cons.mpr ⟨lv_neT c21 (a := 3) rfl, (List.forall_mem_cons.mpr ⟨lv_neT c23 (a := 4) rfl, (List.forall_mem_cons.mpr ⟨lv_neT c26 (a := 5) rfl, (List.forall_mem_cons.mpr ⟨lv_neT c28 (a := 6) rfl, (List.forall_mem_cons.mpr ⟨lv_neT c30 (a := 7) rfl, (List.forall_mem_cons.mpr ⟨lv_neT c32 (a := 8) rfl, (fun v h => absurd h List.not_mem_nil)⟩)⟩)⟩)⟩)⟩)⟩)⟩)⟩)⟩) (by decide) ?_
  have e34 := p_X6_about_e34 M x1 c11 c13 c16 c21 c23 c26 c28 c30 c32
  obtain ⟨sa, hsa⟩ := hKX.2.2 3 _ rfl
  exact vx_throwS (cls := xIAE) (names := xNames) (ik := 53) (is := 134) (ic := 57) (A := rA o) hx hb hst hown fit1 fitN (hts (.classLink RX6 53 "java/lang/IllegalArgumentException") (List.mem_of_getElem? (i := 1) rfl)) (hts (.initialized "java/lang/IllegalArgumentException") (List.mem_of_getElem? (i := 2) rfl)) hsa (vx_hat (B := thrB) (fun w hw => hts w (List.mem_cons_of_mem _ (List.mem_append_right _ hw))) ng1 (bT.words hKX.2.1)) ot1 hZ.1 hZ.2 (bS_va hS) (hl.1.trans hml.symm) dX6_about_138 dX6_about_141 dX6_about_142 dX6_about_144 dX6_about_147 (fun x hx9 => (ht x hx9).elim) (by decide) (Nat.le_of_ble_eq_true rfl) (Nat.le_refl _) (Nat.le_refl _) hlocks (x_throw (en := 1) hB hS (bk_lt hB) ⟨by decide, e34⟩ rfl) hS.2.2 (Nat.le_refl _) (Nat.le_refl _)
def f_X6_playerOf (M : bM) (x1 : Int32) (x2 : Int32) : Nat × Int32 × bM := (let r11 : Int32 := f_X6_isPlayer x1; (if r11 = 0 then (3, 0, M) else (let k14 : Nat := f_X0_sideOf M 3 x1; (if x2 = 0 then (0, (M k14 3), M) else (if x2 = 1 then (let r18 : Int32 := f_X2_head M k14; (0, r18, M)) else (if x2 = 2 then (0, (M k14 4), M) else (if x2 = 3 then (0, (M k14 5), M) else (if x2 = 4 then (0, (M k14 6), M) else (if x2 = 5 then (0, (M k14 7), M) else (1, 0, M))))))))))
theorem u_f_X6_playerOf (M : bM) (x1 : Int32) (x2 : Int32) : f_X6_playerOf M x1 x2 = (let r11 : Int32 := f_X6_isPlayer x1; (if r11 = 0 then (3, 0, M) else (let k14 : Nat := f_X0_sideOf M 3 x1; (if x2 = 0 then (0, (M k14 3), M) else (if x2 = 1 then (let r18 : Int32 := f_X2_head M k14; (0, r18, M)) else (if x2 = 2 then (0, (M k14 4), M) else (if x2 = 3 then (0, (M k14 5), M) else (if x2 = 4 then (0, (M k14 6), M) else (if x2 = 5 then (0, (M k14 7), M) else (1, 0, M)))))))))) := rfl
theorem p_X6_playerOf_e16 (M : bM) (x1 : Int32) (x2 : Int32) (r11 : Int32) (hr11 : f_X6_isPlayer x1 = r11) (c12 : ¬ r11 = 0) (k14 : Nat) (hk14 : f_X0_sideOf M 3 x1 = k14) (c15 : x2 = 0) : f_X6_playerOf M x1 x2 = (0, (M k14 3), M) := by subst hk14 hr11; exact Eq.trans (u_f_X6_playerOf M x1 x2) (Eq.trans (if_neg c12) (if_pos c15))
theorem p_X6_playerOf_e19 (M : bM) (x1 : Int32) (x2 : Int32) (r11 : Int32) (hr11 : f_X6_isPlayer x1 = r11) (c12 : ¬ r11 = 0) (k14 : Nat) (hk14 : f_X0_sideOf M 3 x1 = k14) (c15 : ¬ x2 = 0) (c17 : x2 = 1) (r18 : Int32) (hr18 : f_X2_head M k14 = r18) : f_X6_playerOf M x1 x2 = (0, r18, M) := by subst hr18 hk14 hr11; exact Eq.trans (u_f_X6_playerOf M x1 x2) (Eq.trans (if_neg c12) (Eq.trans (if_neg c15) (if_pos c17)))
theorem p_X6_playerOf_e21 (M : bM) (x1 : Int32) (x2 : Int32) (r11 : Int32) (hr11 : f_X6_isPlayer x1 = r11) (c12 : ¬ r11 = 0) (k14 : Nat) (hk14 : f_X0_sideOf M 3 x1 = k14) (c15 : ¬ x2 = 0) (c17 : ¬ x2 = 1) (c20 : x2 = 2) : f_X6_playerOf M x1 x2 = (0, (M k14 4), M) := by subst hk14 hr11; exact Eq.trans (u_f_X6_playerOf M x1 x2) (Eq.trans (if_neg c12) (Eq.trans (if_neg c15) (Eq.trans (if_neg c17) (if_pos c20))))
theorem p_X6_playerOf_e23 (M : bM) (x1 : Int32) (x2 : Int32) (r11 : Int32) (hr11 : f_X6_isPlayer x1 = r11) (c12 : ¬ r11 = 0) (k14 : Nat) (hk14 : f_X0_sideOf M 3 x1 = k14) (c15 : ¬ x2 = 0) (c17 : ¬ x2 = 1) (c20 : ¬ x2 = 2) (c22 : x2 = 3) : f_X6_playerOf M x1 x2 = (0, (M k14 5), M) := by subst hk14 hr11; exact Eq.trans (u_f_X6_playerOf M x1 x2) (Eq.trans (if_neg c12) (Eq.trans (if_neg c15) (Eq.trans (if_neg c17) (Eq.trans (if_neg c20) (if_pos c22)))))
theorem p_X6_playerOf_e25 (M : bM) (x1 : Int32) (x2 : Int32) (r11 : Int32) (hr11 : f_X6_isPlayer x1 = r11) (c12 : ¬ r11 = 0) (k14 : Nat) (hk14 : f_X0_sideOf M 3 x1 = k14) (c15 : ¬ x2 = 0) (c17 : ¬ x2 = 1) (c20 : ¬ x2 = 2) (c22 : ¬ x2 = 3) (c24 : x2 = 4) : f_X6_playerOf M x1 x2 = (0, (M k14 6), M) := by subst hk14 hr11; exact Eq.trans (u_f_X6_playerOf M x1 x2) (Eq.trans (if_neg c12) (Eq.trans (if_neg c15) (Eq.trans (if_neg c17) (Eq.trans (if_neg c20) (Eq.trans (if_neg c22) (if_pos c24))))))
theorem p_X6_playerOf_e27 (M : bM) (x1 : Int32) (x2 : Int32) (r11 : Int32) (hr11 : f_X6_isPlayer x1 = r11) (c12 : ¬ r11 = 0) (k14 : Nat) (hk14 : f_X0_sideOf M 3 x1 = k14) (c15 : ¬ x2 = 0) (c17 : ¬ x2 = 1) (c20 : ¬ x2 = 2) (c22 : ¬ x2 = 3) (c24 : ¬ x2 = 4) (c26 : x2 = 5) : f_X6_playerOf M x1 x2 = (0, (M k14 7), M) := by subst hk14 hr11; exact Eq.trans (u_f_X6_playerOf M x1 x2) (Eq.trans (if_neg c12) (Eq.trans (if_neg c15) (Eq.trans (if_neg c17) (Eq.trans (if_neg c20) (Eq.trans (if_neg c22) (Eq.trans (if_neg c24) (if_pos c26)))))))
theorem p_X6_playerOf_e28 (M : bM) (x1 : Int32) (x2 : Int32) (r11 : Int32) (hr11 : f_X6_isPlayer x1 = r11) (c12 : ¬ r11 = 0) (k14 : Nat) (hk14 : f_X0_sideOf M 3 x1 = k14) (c15 : ¬ x2 = 0) (c17 : ¬ x2 = 1) (c20 : ¬ x2 = 2) (c22 : ¬ x2 = 3) (c24 : ¬ x2 = 4) (c26 : ¬ x2 = 5) : f_X6_playerOf M x1 x2 = (1, 0, M) := by subst hk14 hr11; exact Eq.trans (u_f_X6_playerOf M x1 x2) (Eq.trans (if_neg c12) (Eq.trans (if_neg c15) (Eq.trans (if_neg c17) (Eq.trans (if_neg c20) (Eq.trans (if_neg c22) (Eq.trans (if_neg c24) (if_neg c26)))))))
theorem p_X6_playerOf_e29 (M : bM) (x1 : Int32) (x2 : Int32) (r11 : Int32) (hr11 : f_X6_isPlayer x1 = r11) (c12 : r11 = 0) : f_X6_playerOf M x1 x2 = (3, 0, M) := by subst hr11; exact Eq.trans (u_f_X6_playerOf M x1 x2) (if_pos c12)
set_option maxHeartbeats 4000000 in
set_option maxRecDepth 100000 in
theorem c_X6_playerOf (l : Launch) (hst : l.stackTraces = false) (D : va_G) (E : Nat → ClassId) (o : Nat) (M : bM) (x1 : Int32) (x2 : Int32) : vx_Met l yX6_playerOf wsX6_playerOf (rmX 6) (bPx D E [.ref (o + 0), .int x1, .int x2] (fun H => bk D E LRM o M H) (rA o)) (bQ (aI fun r H => ∃ M1 : bM, f_X6_playerOf M x1 x2 = (0, r, M1) ∧ bk D E LRM o M1 H) (rA o)) (bX D E LRM o (fun e M1 => e ≠ 0 ∧ f_X6_playerOf M x1 x2 = (e, 0, M1)) (rA o)) 1 6 (rA o) := by
  refine vx_ofW (cc := cX6_playerOf) (maxL := 4) (ret := (some .int)) (by decide) rfl ?_
  intro p e s m args below meth c s₁ B hml ht hv
  obtain ⟨rfl, hB, hKX, hZ⟩ := hv
  have hK := hKX.1
  have hx := B.exec
  have hb := B.bytes
  have hr := B.returns
  have hts := atoms_spec (ws := wsX6_playerOf) B.pre
  have hown : s.vm.findClass RX6 = some m.cls := findClass_of_methodNamed B.named
  have hlocks := B.notSynchronized
  have hS : bS (rA o) s.heap s.heap [] := bS.rf
  have hl := lv_entry ([.ref (o + 0), .int x1, .int x2]) (n := 4) (Nat.le_of_ble_eq_true rfl)
  rw [lg_entry_eq]
  generalize (lg_sl ([.ref (o + 0), .int x1, .int x2]) ++ List.replicate (4 - (lg_sl ([.ref (o + 0), .int x1, .int x2])).length) Slot.unset).toArray = ls at hl ⊢
  have hl : lv_has ls 4 [(0, .ref (o + 0)), (1, .int x1), (2, .int x2)] := hl
  have hB : bk D E LRM o M s.heap := hB
  have hinX2 : ∀ w ∈ wsX20, w ∈ wsX6_playerOf := by decide +kernel
  have hinX6 : ∀ w ∈ wsX60, w ∈ wsX6_playerOf := by decide +kernel
  refine lv_iload_n hx hb dX6_playerOf_0 rfl (lv_at hl 1 rfl) ?_
  refine b_pI (b_runS (As := [.int x1]) (rest := []) ⟨hx, hb, hml, hown, hts⟩ (c_X6_isPlayer l D E x1) (va_cwS 1 hts gX6_playerOf_X6_isPlayer rfl rfl rfl (by decide +kernel) ⟨Nat.le_of_ble_eq_true rfl, Nat.le_of_ble_eq_true rfl⟩) hK trivial rfl hl rfl (Nat.le_of_ble_eq_true rfl) dX6_playerOf_1 ⟨Nat.zero_le _, Nat.zero_le _⟩) hS (fun r11 hr11 locs hS => ?_)
  refine lv_if_ne (tgt := 17) hx hb dX6_playerOf_4 (by decide) (fun c12 => ?_) (fun c12 => ?_)
  · refine lv_aload_n hx hb dX6_playerOf_17 rfl (lv_at hl 0 rfl) ?_
    refine b_get (D := D) (E := E) (L := LRM) (o := o) (M := M) (v := .ref (o + 3)) (C := RX6) (T := TX6) (N := 7) hx hb hts hinX6 hown hK.1 hB 0 lay_0 rfl 1 (by decide) (hts (.fieldLink RX6 19 "RiverMeeting" "present" "LRiverMeeting$Game;") (List.mem_of_getElem? (i := 5) rfl)) (fun _ h9 => h9) rfl dX6_playerOf_18 ?_
    refine lv_iload_n hx hb dX6_playerOf_21 rfl (lv_at hl 1 rfl) ?_
    refine b_pR (b_runV (As := [.int x1]) (rest := []) ⟨hx, hb, hml, hown, hts⟩ (c_X0_sideOf l D E o M 3 x1 isG_3) (cwV 1 hts gX6_playerOf_X0_sideOf rfl rfl rfl (by decide +kernel) ⟨Nat.le_of_ble_eq_true rfl, Nat.le_of_ble_eq_true rfl⟩) hK (bk_recv hK.1 hB isG_3.1 rfl) hB rfl hl rfl (Nat.le_of_ble_eq_true rfl) dX6_playerOf_22 ⟨Nat.zero_le _, Nat.zero_le _⟩) hS (fun r13 hr13 locs hS => ?_)
    obtain ⟨k14, hk14⟩ : ∃ y : Nat, y = f_X0_sideOf M 3 x1 := ⟨_, rfl⟩
    rw [← hk14] at hr13; subst hr13
    have hfk14 : isS k14 := by rw [hk14]; exact (isS_sideOf isG_3)
    refine lv_astore_n (lv' := [(3, .ref (o + k14)), (0, .ref (o + 0)), (1, .int x1), (2, .int x2)]) hx hb dX6_playerOf_25 rfl hl (by decide) rfl (fun ls hl => ?_)
    refine lv_iload_n hx hb dX6_playerOf_26 rfl (lv_at hl 3 rfl) ?_
    by_cases c15 : x2 = 0
    · refine b_tabI (tgt := 64) hx hb 0 dX6_playerOf_27 (by rw [c15]; rfl) (by decide) (by decide) rfl (by decide) ?_
      refine lv_aload_n hx hb dX6_playerOf_64 rfl (lv_at hl 0 rfl) ?_
      refine b_get (D := D) (E := E) (L := LRM) (o := o) (M := M) (v := .int (M k14 3)) (C := RX2) (T := TX2) (N := 8) hx hb hts hinX2 hown hK.1 hB k14 hfk14.1 rfl 3 (by decide) (hts (.fieldLink RX6 148 "RiverMeeting$Side" "length" "I") (List.mem_of_getElem? (i := 6) rfl)) (fun _ h9 => h9) rfl dX6_playerOf_65 ?_
      have e16 := p_X6_playerOf_e16 M x1 x2 r11 hr11.symm c12 k14 hk14.symm c15
      exact x_iret hx hb hr hlocks hS ⟨_, rfl, _, e16, hB⟩ dX6_playerOf_68
    by_cases c17 : x2 = 1
    · refine b_tabI (tgt := 69) hx hb 1 dX6_playerOf_27 (by rw [c17]; rfl) (by decide) (by decide) rfl (by decide) ?_
      refine lv_aload_n hx hb dX6_playerOf_69 rfl (lv_at hl 0 rfl) ?_
      refine b_pI (b_runV (As := []) (rest := []) ⟨hx, hb, hml, hown, hts⟩ (c_X2_head l D E o M k14 hfk14) (cwV 0 hts gX6_playerOf_X2_head rfl rfl rfl (by decide +kernel) ⟨Nat.le_of_ble_eq_true rfl, Nat.le_of_ble_eq_true rfl⟩) hK (bk_recv hK.1 hB hfk14.1 rfl) hB rfl hl rfl (Nat.le_of_ble_eq_true rfl) dX6_playerOf_70 ⟨Nat.zero_le _, Nat.zero_le _⟩) hS (fun r18 hr18 locs hS => ?_)
      have e19 := p_X6_playerOf_e19 M x1 x2 r11 hr11.symm c12 k14 hk14.symm c15 c17 r18 hr18.symm
      exact x_iret hx hb hr hlocks hS ⟨_, rfl, _, e19, hB⟩ dX6_playerOf_73
    by_cases c20 : x2 = 2
    · refine b_tabI (tgt := 74) hx hb 2 dX6_playerOf_27 (by rw [c20]; rfl) (by decide) (by decide) rfl (by decide) ?_
      refine lv_aload_n hx hb dX6_playerOf_74 rfl (lv_at hl 0 rfl) ?_
      refine b_get (D := D) (E := E) (L := LRM) (o := o) (M := M) (v := .int (M k14 4)) (C := RX2) (T := TX2) (N := 8) hx hb hts hinX2 hown hK.1 hB k14 hfk14.1 rfl 4 (by decide) (hts (.fieldLink RX6 154 "RiverMeeting$Side" "paid" "I") (List.mem_of_getElem? (i := 7) rfl)) (fun _ h9 => h9) rfl dX6_playerOf_75 ?_
      have e21 := p_X6_playerOf_e21 M x1 x2 r11 hr11.symm c12 k14 hk14.symm c15 c17 c20
      exact x_iret hx hb hr hlocks hS ⟨_, rfl, _, e21, hB⟩ dX6_playerOf_78
    by_cases c22 : x2 = 3
    · refine b_tabI (tgt := 79) hx hb 3 dX6_playerOf_27 (by rw [c22]; rfl) (by decide) (by decide) rfl (by decide) ?_
      refine lv_aload_n hx hb dX6_playerOf_79 rfl (lv_at hl 0 rfl) ?_
      refine b_get (D := D) (E := E) (L := LRM) (o := o) (M := M) (v := .int (M k14 5)) (C := RX2) (T := TX2) (N := 8) hx hb hts hinX2 hown hK.1 hB k14 hfk14.1 rfl 5 (by decide) (hts (.fieldLink RX6 157 "RiverMeeting$Side" "built" "I") (List.mem_of_getElem? (i := 8) rfl)) (fun _ h9 => h9) rfl dX6_playerOf_80 ?_
      have e23 := p_X6_playerOf_e23 M x1 x2 r11 hr11.symm c12 k14 hk14.symm c15 c17 c20 c22
      exact x_iret hx hb hr hlocks hS ⟨_, rfl, _, e23, hB⟩ dX6_playerOf_83
    by_cases c24 : x2 = 4
    · refine b_tabI (tgt := 84) hx hb 4 dX6_playerOf_27 (by rw [c24]; rfl) (by decide) (by decide) rfl (by decide) ?_
      refine lv_aload_n hx hb dX6_playerOf_84 rfl (lv_at hl 0 rfl) ?_
      refine b_get (D := D) (E := E) (L := LRM) (o := o) (M := M) (v := .int (M k14 6)) (C := RX2) (T := TX2) (N := 8) hx hb hts hinX2 hown hK.1 hB k14 hfk14.1 rfl 6 (by decide) (hts (.fieldLink RX6 160 "RiverMeeting$Side" "won" "I") (List.mem_of_getElem? (i := 9) rfl)) (fun _ h9 => h9) rfl dX6_playerOf_85 ?_
      have e25 := p_X6_playerOf_e25 M x1 x2 r11 hr11.symm c12 k14 hk14.symm c15 c17 c20 c22 c24
      exact x_iret hx hb hr hlocks hS ⟨_, rfl, _, e25, hB⟩ dX6_playerOf_88
    by_cases c26 : x2 = 5
    · refine b_tabI (tgt := 89) hx hb 5 dX6_playerOf_27 (by rw [c26]; rfl) (by decide) (by decide) rfl (by decide) ?_
      refine lv_aload_n hx hb dX6_playerOf_89 rfl (lv_at hl 0 rfl) ?_
      refine b_get (D := D) (E := E) (L := LRM) (o := o) (M := M) (v := .int (M k14 7)) (C := RX2) (T := TX2) (N := 8) hx hb hts hinX2 hown hK.1 hB k14 hfk14.1 rfl 7 (by decide) (hts (.fieldLink RX6 163 "RiverMeeting$Side" "paidEver" "I") (List.mem_of_getElem? (i := 10) rfl)) (fun _ h9 => h9) rfl dX6_playerOf_90 ?_
      have e27 := p_X6_playerOf_e27 M x1 x2 r11 hr11.symm c12 k14 hk14.symm c15 c17 c20 c22 c24 c26
      exact x_iret hx hb hr hlocks hS ⟨_, rfl, _, e27, hB⟩ dX6_playerOf_93
    refine b_tabD (tgt := 94) hx hb [0, 1, 2, 3, 4, 5] dX6_playerOf_27 (by decide) (by decide) (List.forall_mem_cons.mpr ⟨lv_neT c15 (a := 0) rfl, (List.forall_mem_cons.mpr ⟨lv_neT c17 (a := 1) rfl, (List.forall_mem_cons.mpr ⟨lv_neT c20 (a := 2) rfl, (List.forall_mem_cons.mpr ⟨lv_neT c22 (a := 3) rfl, (List.forall_mem_cons.mpr ⟨lv_neT c24 (a := 4) rfl, (List.forall_mem_cons.mpr ⟨lv_neT c26 (a := 5) rfl, (fun v h => absurd h List.not_mem_nil)⟩)⟩)⟩)⟩)⟩)⟩) (by decide) ?_
    have e28 := p_X6_playerOf_e28 M x1 x2 r11 hr11.symm c12 k14 hk14.symm c15 c17 c20 c22 c24 c26
    obtain ⟨sa, hsa⟩ := hKX.2.2 5 _ rfl
    exact vx_throwS (cls := xIAE) (names := xNames) (ik := 53) (is := 166) (ic := 57) (A := rA o) hx hb hst hown fit1 fitN (hts (.classLink RX6 53 "java/lang/IllegalArgumentException") (List.mem_of_getElem? (i := 3) rfl)) (hts (.initialized "java/lang/IllegalArgumentException") (List.mem_of_getElem? (i := 4) rfl)) hsa (vx_hat (B := thrB) (fun w hw => hts w (List.mem_cons_of_mem _ (List.mem_append_right _ hw))) ng1 (bT.words hKX.2.1)) ot1 hZ.1 hZ.2 (bS_va hS) (hl.1.trans hml.symm) dX6_playerOf_94 dX6_playerOf_97 dX6_playerOf_98 dX6_playerOf_100 dX6_playerOf_103 (fun x hx9 => (ht x hx9).elim) (by decide) (Nat.le_of_ble_eq_true rfl) (Nat.le_refl _) (Nat.le_refl _) hlocks (x_throw (en := 1) hB hS (bk_lt hB) ⟨by decide, e28⟩ rfl) hS.2.2 (Nat.le_refl _) (Nat.le_refl _)
  · have e29 := p_X6_playerOf_e29 M x1 x2 r11 hr11.symm c12
    obtain ⟨sa, hsa⟩ := hKX.2.2 4 _ rfl
    exact vx_throwS (cls := xIOB) (names := xNames) (ik := 139) (is := 141) (ic := 143) (A := rA o) hx hb hst hown fit3 fitN (hts (.classLink RX6 139 "java/lang/IndexOutOfBoundsException") (List.mem_of_getElem? (i := 1) rfl)) (hts (.initialized "java/lang/IndexOutOfBoundsException") (List.mem_of_getElem? (i := 2) rfl)) hsa (vx_hat (B := thrB) (fun w hw => hts w (List.mem_cons_of_mem _ (List.mem_append_left _ (List.mem_append_right _ hw)))) ng3 (bT.words hKX.2.1)) ot3 hZ.1 hZ.2 (bS_va hS) (hl.1.trans hml.symm) dX6_playerOf_7 dX6_playerOf_10 dX6_playerOf_11 dX6_playerOf_13 dX6_playerOf_16 (fun x hx9 => (ht x hx9).elim) (by decide) (Nat.le_of_ble_eq_true rfl) (Nat.le_refl _) (Nat.le_refl _) hlocks (x_throw (en := 3) hB hS (bk_lt hB) ⟨by decide, e29⟩ rfl) hS.2.2 (Nat.le_refl _) (Nat.le_refl _)
def f_X6_cellOf (M : bM) (x1 : Int32) (x2 : Int32) (x3 : Int32) : Nat × Int32 × bM := (let r11 : Int32 := f_X6_cellAt x1 x2; (if r11 = (-1) then (3, 0, M) else (if x3 = 0 then (let r14 : Int32 := f_X2_costOf M 4 r11; (0, r14, M)) else (if x3 = 1 then (let r17 : Int32 := f_X2_costOf M 8 r11; (0, r17, M)) else (if x3 = 2 then (let r20 : Int32 := f_X0_contentOf M 3 r11; (0, r20, M)) else (if x3 = 3 then (let r23 : Int32 := f_X0_stoodAt M 3 r11; (0, r23, M)) else (1, 0, M)))))))
theorem u_f_X6_cellOf (M : bM) (x1 : Int32) (x2 : Int32) (x3 : Int32) : f_X6_cellOf M x1 x2 x3 = (let r11 : Int32 := f_X6_cellAt x1 x2; (if r11 = (-1) then (3, 0, M) else (if x3 = 0 then (let r14 : Int32 := f_X2_costOf M 4 r11; (0, r14, M)) else (if x3 = 1 then (let r17 : Int32 := f_X2_costOf M 8 r11; (0, r17, M)) else (if x3 = 2 then (let r20 : Int32 := f_X0_contentOf M 3 r11; (0, r20, M)) else (if x3 = 3 then (let r23 : Int32 := f_X0_stoodAt M 3 r11; (0, r23, M)) else (1, 0, M))))))) := rfl
theorem p_X6_cellOf_e15 (M : bM) (x1 : Int32) (x2 : Int32) (x3 : Int32) (r11 : Int32) (hr11 : f_X6_cellAt x1 x2 = r11) (c12 : ¬ r11 = (-1)) (c13 : x3 = 0) (r14 : Int32) (hr14 : f_X2_costOf M 4 r11 = r14) : f_X6_cellOf M x1 x2 x3 = (0, r14, M) := by subst hr14 hr11; exact Eq.trans (u_f_X6_cellOf M x1 x2 x3) (Eq.trans (if_neg c12) (if_pos c13))
theorem p_X6_cellOf_e18 (M : bM) (x1 : Int32) (x2 : Int32) (x3 : Int32) (r11 : Int32) (hr11 : f_X6_cellAt x1 x2 = r11) (c12 : ¬ r11 = (-1)) (c13 : ¬ x3 = 0) (c16 : x3 = 1) (r17 : Int32) (hr17 : f_X2_costOf M 8 r11 = r17) : f_X6_cellOf M x1 x2 x3 = (0, r17, M) := by subst hr17 hr11; exact Eq.trans (u_f_X6_cellOf M x1 x2 x3) (Eq.trans (if_neg c12) (Eq.trans (if_neg c13) (if_pos c16)))
theorem p_X6_cellOf_e21 (M : bM) (x1 : Int32) (x2 : Int32) (x3 : Int32) (r11 : Int32) (hr11 : f_X6_cellAt x1 x2 = r11) (c12 : ¬ r11 = (-1)) (c13 : ¬ x3 = 0) (c16 : ¬ x3 = 1) (c19 : x3 = 2) (r20 : Int32) (hr20 : f_X0_contentOf M 3 r11 = r20) : f_X6_cellOf M x1 x2 x3 = (0, r20, M) := by subst hr20 hr11; exact Eq.trans (u_f_X6_cellOf M x1 x2 x3) (Eq.trans (if_neg c12) (Eq.trans (if_neg c13) (Eq.trans (if_neg c16) (if_pos c19))))
theorem p_X6_cellOf_e24 (M : bM) (x1 : Int32) (x2 : Int32) (x3 : Int32) (r11 : Int32) (hr11 : f_X6_cellAt x1 x2 = r11) (c12 : ¬ r11 = (-1)) (c13 : ¬ x3 = 0) (c16 : ¬ x3 = 1) (c19 : ¬ x3 = 2) (c22 : x3 = 3) (r23 : Int32) (hr23 : f_X0_stoodAt M 3 r11 = r23) : f_X6_cellOf M x1 x2 x3 = (0, r23, M) := by subst hr23 hr11; exact Eq.trans (u_f_X6_cellOf M x1 x2 x3) (Eq.trans (if_neg c12) (Eq.trans (if_neg c13) (Eq.trans (if_neg c16) (Eq.trans (if_neg c19) (if_pos c22)))))
theorem p_X6_cellOf_e25 (M : bM) (x1 : Int32) (x2 : Int32) (x3 : Int32) (r11 : Int32) (hr11 : f_X6_cellAt x1 x2 = r11) (c12 : ¬ r11 = (-1)) (c13 : ¬ x3 = 0) (c16 : ¬ x3 = 1) (c19 : ¬ x3 = 2) (c22 : ¬ x3 = 3) : f_X6_cellOf M x1 x2 x3 = (1, 0, M) := by subst hr11; exact Eq.trans (u_f_X6_cellOf M x1 x2 x3) (Eq.trans (if_neg c12) (Eq.trans (if_neg c13) (Eq.trans (if_neg c16) (Eq.trans (if_neg c19) (if_neg c22)))))
theorem p_X6_cellOf_e26 (M : bM) (x1 : Int32) (x2 : Int32) (x3 : Int32) (r11 : Int32) (hr11 : f_X6_cellAt x1 x2 = r11) (c12 : r11 = (-1)) : f_X6_cellOf M x1 x2 x3 = (3, 0, M) := by subst hr11; exact Eq.trans (u_f_X6_cellOf M x1 x2 x3) (if_pos c12)
set_option maxHeartbeats 4000000 in
set_option maxRecDepth 100000 in
theorem c_X6_cellOf (l : Launch) (hst : l.stackTraces = false) (D : va_G) (E : Nat → ClassId) (o : Nat) (M : bM) (x1 : Int32) (x2 : Int32) (x3 : Int32) : vx_Met l yX6_cellOf wsX6_cellOf (rmX 6) (bPx D E [.ref (o + 0), .int x1, .int x2, .int x3] (fun H => bk D E LRM o M H) (rA o)) (bQ (aI fun r H => ∃ M1 : bM, f_X6_cellOf M x1 x2 x3 = (0, r, M1) ∧ bk D E LRM o M1 H) (rA o)) (bX D E LRM o (fun e M1 => e ≠ 0 ∧ f_X6_cellOf M x1 x2 x3 = (e, 0, M1)) (rA o)) 1 6 (rA o) := by
  refine vx_ofW (cc := cX6_cellOf) (maxL := 5) (ret := (some .int)) (by decide) rfl ?_
  intro p e s m args below meth c s₁ B hml ht hv
  obtain ⟨rfl, hB, hKX, hZ⟩ := hv
  have hK := hKX.1
  have hx := B.exec
  have hb := B.bytes
  have hr := B.returns
  have hts := atoms_spec (ws := wsX6_cellOf) B.pre
  have hown : s.vm.findClass RX6 = some m.cls := findClass_of_methodNamed B.named
  have hlocks := B.notSynchronized
  have hS : bS (rA o) s.heap s.heap [] := bS.rf
  have hl := lv_entry ([.ref (o + 0), .int x1, .int x2, .int x3]) (n := 5) (Nat.le_of_ble_eq_true rfl)
  rw [lg_entry_eq]
  generalize (lg_sl ([.ref (o + 0), .int x1, .int x2, .int x3]) ++ List.replicate (5 - (lg_sl ([.ref (o + 0), .int x1, .int x2, .int x3])).length) Slot.unset).toArray = ls at hl ⊢
  have hl : lv_has ls 5 [(0, .ref (o + 0)), (1, .int x1), (2, .int x2), (3, .int x3)] := hl
  have hB : bk D E LRM o M s.heap := hB
  have hinX0 : ∀ w ∈ wsX00, w ∈ wsX6_cellOf := by decide +kernel
  have hinX6 : ∀ w ∈ wsX60, w ∈ wsX6_cellOf := by decide +kernel
  refine lv_iload_n hx hb dX6_cellOf_0 rfl (lv_at hl 1 rfl) ?_
  refine lv_iload_n hx hb dX6_cellOf_1 rfl (lv_at hl 2 rfl) ?_
  refine b_pI (b_runS (As := [.int x1, .int x2]) (rest := []) ⟨hx, hb, hml, hown, hts⟩ (c_X6_cellAt l D E x1 x2) (va_cwS 2 hts gX6_cellOf_X6_cellAt rfl rfl rfl (by decide +kernel) ⟨Nat.le_of_ble_eq_true rfl, Nat.le_of_ble_eq_true rfl⟩) hK trivial rfl hl rfl (Nat.le_of_ble_eq_true rfl) dX6_cellOf_2 ⟨Nat.zero_le _, Nat.zero_le _⟩) hS (fun r11 hr11 locs hS => ?_)
  refine lv_istore (lv' := [(4, .int r11), (0, .ref (o + 0)), (1, .int x1), (2, .int x2), (3, .int x3)]) hx hb dX6_cellOf_5 hl (by decide) rfl (fun ls hl => ?_)
  refine lv_iload hx hb dX6_cellOf_7 (lv_at hl 0 rfl) ?_
  refine lv_iconst (v := (-1)) hx hb dX6_cellOf_9 (by decide) ?_
  refine lv_icmp_ne (tgt := 23) hx hb dX6_cellOf_10 (by decide) (fun c12 => ?_) (fun c12 => ?_)
  · refine lv_iload_n hx hb dX6_cellOf_23 rfl (lv_at hl 4 rfl) ?_
    by_cases c13 : x3 = 0
    · refine b_tabI (tgt := 56) hx hb 0 dX6_cellOf_24 (by rw [c13]; rfl) (by decide) (by decide) rfl (by decide) ?_
      refine lv_aload_n hx hb dX6_cellOf_56 rfl (lv_at hl 1 rfl) ?_
      refine b_get (D := D) (E := E) (L := LRM) (o := o) (M := M) (v := .ref (o + 3)) (C := RX6) (T := TX6) (N := 7) hx hb hts hinX6 hown hK.1 hB 0 lay_0 rfl 1 (by decide) (hts (.fieldLink RX6 19 "RiverMeeting" "present" "LRiverMeeting$Game;") (List.mem_of_getElem? (i := 5) rfl)) (fun _ h9 => h9) rfl dX6_cellOf_57 ?_
      refine b_get (D := D) (E := E) (L := LRM) (o := o) (M := M) (v := .ref (o + 4)) (C := RX0) (T := TX0) (N := 12) hx hb hts hinX0 hown hK.1 hB 3 isG_3.1 rfl 0 (by decide) (hts (.fieldLink RX6 174 "RiverMeeting$Game" "first" "LRiverMeeting$Side;") (List.mem_of_getElem? (i := 6) rfl)) (fun _ h9 => h9) rfl dX6_cellOf_60 ?_
      refine lv_iload hx hb dX6_cellOf_63 (lv_at hl 0 rfl) ?_
      refine b_pI (b_runV (As := [.int r11]) (rest := []) ⟨hx, hb, hml, hown, hts⟩ (c_X2_costOf l D E o M 4 r11 isG_3.2.1) (cwV 1 hts gX6_cellOf_X2_costOf rfl rfl rfl (by decide +kernel) ⟨Nat.le_of_ble_eq_true rfl, Nat.le_of_ble_eq_true rfl⟩) hK (bk_recv hK.1 hB isG_3.2.1.1 rfl) hB rfl hl rfl (Nat.le_of_ble_eq_true rfl) dX6_cellOf_65 ⟨Nat.zero_le _, Nat.zero_le _⟩) hS (fun r14 hr14 locs hS => ?_)
      have e15 := p_X6_cellOf_e15 M x1 x2 x3 r11 hr11.symm c12 c13 r14 hr14.symm
      exact x_iret hx hb hr hlocks hS ⟨_, rfl, _, e15, hB⟩ dX6_cellOf_68
    by_cases c16 : x3 = 1
    · refine b_tabI (tgt := 69) hx hb 1 dX6_cellOf_24 (by rw [c16]; rfl) (by decide) (by decide) rfl (by decide) ?_
      refine lv_aload_n hx hb dX6_cellOf_69 rfl (lv_at hl 1 rfl) ?_
      refine b_get (D := D) (E := E) (L := LRM) (o := o) (M := M) (v := .ref (o + 3)) (C := RX6) (T := TX6) (N := 7) hx hb hts hinX6 hown hK.1 hB 0 lay_0 rfl 1 (by decide) (hts (.fieldLink RX6 19 "RiverMeeting" "present" "LRiverMeeting$Game;") (List.mem_of_getElem? (i := 5) rfl)) (fun _ h9 => h9) rfl dX6_cellOf_70 ?_
      refine b_get (D := D) (E := E) (L := LRM) (o := o) (M := M) (v := .ref (o + 8)) (C := RX0) (T := TX0) (N := 12) hx hb hts hinX0 hown hK.1 hB 3 isG_3.1 rfl 1 (by decide) (hts (.fieldLink RX6 182 "RiverMeeting$Game" "second" "LRiverMeeting$Side;") (List.mem_of_getElem? (i := 7) rfl)) (fun _ h9 => h9) rfl dX6_cellOf_73 ?_
      refine lv_iload hx hb dX6_cellOf_76 (lv_at hl 0 rfl) ?_
      refine b_pI (b_runV (As := [.int r11]) (rest := []) ⟨hx, hb, hml, hown, hts⟩ (c_X2_costOf l D E o M 8 r11 isG_3.2.2.1) (cwV 1 hts gX6_cellOf_X2_costOf rfl rfl rfl (by decide +kernel) ⟨Nat.le_of_ble_eq_true rfl, Nat.le_of_ble_eq_true rfl⟩) hK (bk_recv hK.1 hB isG_3.2.2.1.1 rfl) hB rfl hl rfl (Nat.le_of_ble_eq_true rfl) dX6_cellOf_78 ⟨Nat.zero_le _, Nat.zero_le _⟩) hS (fun r17 hr17 locs hS => ?_)
      have e18 := p_X6_cellOf_e18 M x1 x2 x3 r11 hr11.symm c12 c13 c16 r17 hr17.symm
      exact x_iret hx hb hr hlocks hS ⟨_, rfl, _, e18, hB⟩ dX6_cellOf_81
    by_cases c19 : x3 = 2
    · refine b_tabI (tgt := 82) hx hb 2 dX6_cellOf_24 (by rw [c19]; rfl) (by decide) (by decide) rfl (by decide) ?_
      refine lv_aload_n hx hb dX6_cellOf_82 rfl (lv_at hl 1 rfl) ?_
      refine b_get (D := D) (E := E) (L := LRM) (o := o) (M := M) (v := .ref (o + 3)) (C := RX6) (T := TX6) (N := 7) hx hb hts hinX6 hown hK.1 hB 0 lay_0 rfl 1 (by decide) (hts (.fieldLink RX6 19 "RiverMeeting" "present" "LRiverMeeting$Game;") (List.mem_of_getElem? (i := 5) rfl)) (fun _ h9 => h9) rfl dX6_cellOf_83 ?_
      refine lv_iload hx hb dX6_cellOf_86 (lv_at hl 0 rfl) ?_
      refine b_pI (b_runV (As := [.int r11]) (rest := []) ⟨hx, hb, hml, hown, hts⟩ (c_X0_contentOf l D E o M 3 r11 isG_3) (cwV 1 hts gX6_cellOf_X0_contentOf rfl rfl rfl (by decide +kernel) ⟨Nat.le_of_ble_eq_true rfl, Nat.le_of_ble_eq_true rfl⟩) hK (bk_recv hK.1 hB isG_3.1 rfl) hB rfl hl rfl (Nat.le_of_ble_eq_true rfl) dX6_cellOf_88 ⟨Nat.zero_le _, Nat.zero_le _⟩) hS (fun r20 hr20 locs hS => ?_)
      have e21 := p_X6_cellOf_e21 M x1 x2 x3 r11 hr11.symm c12 c13 c16 c19 r20 hr20.symm
      exact x_iret hx hb hr hlocks hS ⟨_, rfl, _, e21, hB⟩ dX6_cellOf_91
    by_cases c22 : x3 = 3
    · refine b_tabI (tgt := 92) hx hb 3 dX6_cellOf_24 (by rw [c22]; rfl) (by decide) (by decide) rfl (by decide) ?_
      refine lv_aload_n hx hb dX6_cellOf_92 rfl (lv_at hl 1 rfl) ?_
      refine b_get (D := D) (E := E) (L := LRM) (o := o) (M := M) (v := .ref (o + 3)) (C := RX6) (T := TX6) (N := 7) hx hb hts hinX6 hown hK.1 hB 0 lay_0 rfl 1 (by decide) (hts (.fieldLink RX6 19 "RiverMeeting" "present" "LRiverMeeting$Game;") (List.mem_of_getElem? (i := 5) rfl)) (fun _ h9 => h9) rfl dX6_cellOf_93 ?_
      refine lv_iload hx hb dX6_cellOf_96 (lv_at hl 0 rfl) ?_
      refine b_pI (b_runV (As := [.int r11]) (rest := []) ⟨hx, hb, hml, hown, hts⟩ (c_X0_stoodAt l D E o M 3 r11 isG_3) (cwV 1 hts gX6_cellOf_X0_stoodAt rfl rfl rfl (by decide +kernel) ⟨Nat.le_of_ble_eq_true rfl, Nat.le_of_ble_eq_true rfl⟩) hK (bk_recv hK.1 hB isG_3.1 rfl) hB rfl hl rfl (Nat.le_of_ble_eq_true rfl) dX6_cellOf_98 ⟨Nat.zero_le _, Nat.zero_le _⟩) hS (fun r23 hr23 locs hS => ?_)
      have e24 := p_X6_cellOf_e24 M x1 x2 x3 r11 hr11.symm c12 c13 c16 c19 c22 r23 hr23.symm
      exact x_iret hx hb hr hlocks hS ⟨_, rfl, _, e24, hB⟩ dX6_cellOf_101
    refine b_tabD (tgt := 102) hx hb [0, 1, 2, 3] dX6_cellOf_24 (by decide) (by decide) (List.forall_mem_cons.mpr ⟨lv_neT c13 (a := 0) rfl, (List.forall_mem_cons.mpr ⟨lv_neT c16 (a := 1) rfl, (List.forall_mem_cons.mpr ⟨lv_neT c19 (a := 2) rfl, (List.forall_mem_cons.mpr ⟨lv_neT c22 (a := 3) rfl, (fun v h => absurd h List.not_mem_nil)⟩)⟩)⟩)⟩) (by decide) ?_
    have e25 := p_X6_cellOf_e25 M x1 x2 x3 r11 hr11.symm c12 c13 c16 c19 c22
    obtain ⟨sa, hsa⟩ := hKX.2.2 7 _ rfl
    exact vx_throwS (cls := xIAE) (names := xNames) (ik := 53) (is := 191) (ic := 57) (A := rA o) hx hb hst hown fit1 fitN (hts (.classLink RX6 53 "java/lang/IllegalArgumentException") (List.mem_of_getElem? (i := 3) rfl)) (hts (.initialized "java/lang/IllegalArgumentException") (List.mem_of_getElem? (i := 4) rfl)) hsa (vx_hat (B := thrB) (fun w hw => hts w (List.mem_cons_of_mem _ (List.mem_append_right _ hw))) ng1 (bT.words hKX.2.1)) ot1 hZ.1 hZ.2 (bS_va hS) (hl.1.trans hml.symm) dX6_cellOf_102 dX6_cellOf_105 dX6_cellOf_106 dX6_cellOf_108 dX6_cellOf_111 (fun x hx9 => (ht x hx9).elim) (by decide) (Nat.le_of_ble_eq_true rfl) (Nat.le_refl _) (Nat.le_refl _) hlocks (x_throw (en := 1) hB hS (bk_lt hB) ⟨by decide, e25⟩ rfl) hS.2.2 (Nat.le_refl _) (Nat.le_refl _)
  · have e26 := p_X6_cellOf_e26 M x1 x2 x3 r11 hr11.symm c12
    obtain ⟨sa, hsa⟩ := hKX.2.2 6 _ rfl
    exact vx_throwS (cls := xIOB) (names := xNames) (ik := 139) (is := 172) (ic := 143) (A := rA o) hx hb hst hown fit3 fitN (hts (.classLink RX6 139 "java/lang/IndexOutOfBoundsException") (List.mem_of_getElem? (i := 1) rfl)) (hts (.initialized "java/lang/IndexOutOfBoundsException") (List.mem_of_getElem? (i := 2) rfl)) hsa (vx_hat (B := thrB) (fun w hw => hts w (List.mem_cons_of_mem _ (List.mem_append_left _ (List.mem_append_right _ hw)))) ng3 (bT.words hKX.2.1)) ot3 hZ.1 hZ.2 (bS_va hS) (hl.1.trans hml.symm) dX6_cellOf_13 dX6_cellOf_16 dX6_cellOf_17 dX6_cellOf_19 dX6_cellOf_22 (fun x hx9 => (ht x hx9).elim) (by decide) (Nat.le_of_ble_eq_true rfl) (Nat.le_refl _) (Nat.le_refl _) hlocks (x_throw (en := 3) hB hS (bk_lt hB) ⟨by decide, e26⟩ rfl) hS.2.2 (Nat.le_refl _) (Nat.le_refl _)
def f_X6_course (M : bM) (x1 : Int32) (x2 : Int32) : Nat × Int32 × bM := (let r11 : Int32 := f_X6_isPlayer x1; (if r11 = 0 then (3, 0, M) else (let k14 : Nat := f_X0_sideOf M 3 x1; (let r15 : Int32 := f_X2_placeAt M k14 x2; (if r15 = (-1) then (3, 0, M) else (0, r15, M))))))
theorem u_f_X6_course (M : bM) (x1 : Int32) (x2 : Int32) : f_X6_course M x1 x2 = (let r11 : Int32 := f_X6_isPlayer x1; (if r11 = 0 then (3, 0, M) else (let k14 : Nat := f_X0_sideOf M 3 x1; (let r15 : Int32 := f_X2_placeAt M k14 x2; (if r15 = (-1) then (3, 0, M) else (0, r15, M)))))) := rfl
theorem p_X6_course_e17 (M : bM) (x1 : Int32) (x2 : Int32) (r11 : Int32) (hr11 : f_X6_isPlayer x1 = r11) (c12 : ¬ r11 = 0) (k14 : Nat) (hk14 : f_X0_sideOf M 3 x1 = k14) (r15 : Int32) (hr15 : f_X2_placeAt M k14 x2 = r15) (c16 : ¬ r15 = (-1)) : f_X6_course M x1 x2 = (0, r15, M) := by subst hr15 hk14 hr11; exact Eq.trans (u_f_X6_course M x1 x2) (Eq.trans (if_neg c12) (if_neg c16))
theorem p_X6_course_e18 (M : bM) (x1 : Int32) (x2 : Int32) (r11 : Int32) (hr11 : f_X6_isPlayer x1 = r11) (c12 : ¬ r11 = 0) (k14 : Nat) (hk14 : f_X0_sideOf M 3 x1 = k14) (r15 : Int32) (hr15 : f_X2_placeAt M k14 x2 = r15) (c16 : r15 = (-1)) : f_X6_course M x1 x2 = (3, 0, M) := by subst hr15 hk14 hr11; exact Eq.trans (u_f_X6_course M x1 x2) (Eq.trans (if_neg c12) (if_pos c16))
theorem p_X6_course_e19 (M : bM) (x1 : Int32) (x2 : Int32) (r11 : Int32) (hr11 : f_X6_isPlayer x1 = r11) (c12 : r11 = 0) : f_X6_course M x1 x2 = (3, 0, M) := by subst hr11; exact Eq.trans (u_f_X6_course M x1 x2) (if_pos c12)
set_option maxHeartbeats 4000000 in
set_option maxRecDepth 100000 in
theorem c_X6_course (l : Launch) (hst : l.stackTraces = false) (D : va_G) (E : Nat → ClassId) (o : Nat) (M : bM) (x1 : Int32) (x2 : Int32) : vx_Met l yX6_course wsX6_course (rmX 6) (bPx D E [.ref (o + 0), .int x1, .int x2] (fun H => bk D E LRM o M H) (rA o)) (bQ (aI fun r H => ∃ M1 : bM, f_X6_course M x1 x2 = (0, r, M1) ∧ bk D E LRM o M1 H) (rA o)) (bX D E LRM o (fun e M1 => e ≠ 0 ∧ f_X6_course M x1 x2 = (e, 0, M1)) (rA o)) 1 6 (rA o) := by
  refine vx_ofW (cc := cX6_course) (maxL := 4) (ret := (some .int)) (by decide) rfl ?_
  intro p e s m args below meth c s₁ B hml ht hv
  obtain ⟨rfl, hB, hKX, hZ⟩ := hv
  have hK := hKX.1
  have hx := B.exec
  have hb := B.bytes
  have hr := B.returns
  have hts := atoms_spec (ws := wsX6_course) B.pre
  have hown : s.vm.findClass RX6 = some m.cls := findClass_of_methodNamed B.named
  have hlocks := B.notSynchronized
  have hS : bS (rA o) s.heap s.heap [] := bS.rf
  have hl := lv_entry ([.ref (o + 0), .int x1, .int x2]) (n := 4) (Nat.le_of_ble_eq_true rfl)
  rw [lg_entry_eq]
  generalize (lg_sl ([.ref (o + 0), .int x1, .int x2]) ++ List.replicate (4 - (lg_sl ([.ref (o + 0), .int x1, .int x2])).length) Slot.unset).toArray = ls at hl ⊢
  have hl : lv_has ls 4 [(0, .ref (o + 0)), (1, .int x1), (2, .int x2)] := hl
  have hB : bk D E LRM o M s.heap := hB
  have hinX6 : ∀ w ∈ wsX60, w ∈ wsX6_course := by decide +kernel
  refine lv_iload_n hx hb dX6_course_0 rfl (lv_at hl 1 rfl) ?_
  refine b_pI (b_runS (As := [.int x1]) (rest := []) ⟨hx, hb, hml, hown, hts⟩ (c_X6_isPlayer l D E x1) (va_cwS 1 hts gX6_course_X6_isPlayer rfl rfl rfl (by decide +kernel) ⟨Nat.le_of_ble_eq_true rfl, Nat.le_of_ble_eq_true rfl⟩) hK trivial rfl hl rfl (Nat.le_of_ble_eq_true rfl) dX6_course_1 ⟨Nat.zero_le _, Nat.zero_le _⟩) hS (fun r11 hr11 locs hS => ?_)
  refine lv_if_ne (tgt := 17) hx hb dX6_course_4 (by decide) (fun c12 => ?_) (fun c12 => ?_)
  · refine lv_aload_n hx hb dX6_course_17 rfl (lv_at hl 0 rfl) ?_
    refine b_get (D := D) (E := E) (L := LRM) (o := o) (M := M) (v := .ref (o + 3)) (C := RX6) (T := TX6) (N := 7) hx hb hts hinX6 hown hK.1 hB 0 lay_0 rfl 1 (by decide) (hts (.fieldLink RX6 19 "RiverMeeting" "present" "LRiverMeeting$Game;") (List.mem_of_getElem? (i := 3) rfl)) (fun _ h9 => h9) rfl dX6_course_18 ?_
    refine lv_iload_n hx hb dX6_course_21 rfl (lv_at hl 1 rfl) ?_
    refine b_pR (b_runV (As := [.int x1]) (rest := []) ⟨hx, hb, hml, hown, hts⟩ (c_X0_sideOf l D E o M 3 x1 isG_3) (cwV 1 hts gX6_course_X0_sideOf rfl rfl rfl (by decide +kernel) ⟨Nat.le_of_ble_eq_true rfl, Nat.le_of_ble_eq_true rfl⟩) hK (bk_recv hK.1 hB isG_3.1 rfl) hB rfl hl rfl (Nat.le_of_ble_eq_true rfl) dX6_course_22 ⟨Nat.zero_le _, Nat.zero_le _⟩) hS (fun r13 hr13 locs hS => ?_)
    obtain ⟨k14, hk14⟩ : ∃ y : Nat, y = f_X0_sideOf M 3 x1 := ⟨_, rfl⟩
    rw [← hk14] at hr13; subst hr13
    have hfk14 : isS k14 := by rw [hk14]; exact (isS_sideOf isG_3)
    refine lv_iload_n hx hb dX6_course_25 rfl (lv_at hl 2 rfl) ?_
    refine b_pI (b_runV (As := [.int x2]) (rest := []) ⟨hx, hb, hml, hown, hts⟩ (c_X2_placeAt l D E o M k14 x2 hfk14) (cwV 1 hts gX6_course_X2_placeAt rfl rfl rfl (by decide +kernel) ⟨Nat.le_of_ble_eq_true rfl, Nat.le_of_ble_eq_true rfl⟩) hK (bk_recv hK.1 hB hfk14.1 rfl) hB rfl hl rfl (Nat.le_of_ble_eq_true rfl) dX6_course_26 ⟨Nat.zero_le _, Nat.zero_le _⟩) hS (fun r15 hr15 locs hS => ?_)
    refine lv_istore_n (lv' := [(3, .int r15), (0, .ref (o + 0)), (1, .int x1), (2, .int x2)]) hx hb dX6_course_29 rfl hl (by decide) rfl (fun ls hl => ?_)
    refine lv_iload_n hx hb dX6_course_30 rfl (lv_at hl 0 rfl) ?_
    refine lv_iconst (v := (-1)) hx hb dX6_course_31 (by decide) ?_
    refine lv_icmp_ne (tgt := 45) hx hb dX6_course_32 (by decide) (fun c16 => ?_) (fun c16 => ?_)
    · refine lv_iload_n hx hb dX6_course_45 rfl (lv_at hl 0 rfl) ?_
      have e17 := p_X6_course_e17 M x1 x2 r11 hr11.symm c12 k14 hk14.symm r15 hr15.symm c16
      exact x_iret hx hb hr hlocks hS ⟨_, rfl, _, e17, hB⟩ dX6_course_46
    · have e18 := p_X6_course_e18 M x1 x2 r11 hr11.symm c12 k14 hk14.symm r15 hr15.symm c16
      obtain ⟨sa, hsa⟩ := hKX.2.2 8 _ rfl
      exact vx_throwS (cls := xIOB) (names := xNames) (ik := 139) (is := 196) (ic := 143) (A := rA o) hx hb hst hown fit3 fitN (hts (.classLink RX6 139 "java/lang/IndexOutOfBoundsException") (List.mem_of_getElem? (i := 1) rfl)) (hts (.initialized "java/lang/IndexOutOfBoundsException") (List.mem_of_getElem? (i := 2) rfl)) hsa (vx_hat (B := thrB) (fun w hw => hts w (List.mem_cons_of_mem _ (List.mem_append_right _ hw))) ng3 (bT.words hKX.2.1)) ot3 hZ.1 hZ.2 (bS_va hS) (hl.1.trans hml.symm) dX6_course_35 dX6_course_38 dX6_course_39 dX6_course_41 dX6_course_44 (fun x hx9 => (ht x hx9).elim) (by decide) (Nat.le_of_ble_eq_true rfl) (Nat.le_refl _) (Nat.le_refl _) hlocks (x_throw (en := 3) hB hS (bk_lt hB) ⟨by decide, e18⟩ rfl) hS.2.2 (Nat.le_refl _) (Nat.le_refl _)
  · have e19 := p_X6_course_e19 M x1 x2 r11 hr11.symm c12
    obtain ⟨sa, hsa⟩ := hKX.2.2 4 _ rfl
    exact vx_throwS (cls := xIOB) (names := xNames) (ik := 139) (is := 141) (ic := 143) (A := rA o) hx hb hst hown fit3 fitN (hts (.classLink RX6 139 "java/lang/IndexOutOfBoundsException") (List.mem_of_getElem? (i := 1) rfl)) (hts (.initialized "java/lang/IndexOutOfBoundsException") (List.mem_of_getElem? (i := 2) rfl)) hsa (vx_hat (B := thrB) (fun w hw => hts w (List.mem_cons_of_mem _ (List.mem_append_right _ hw))) ng3 (bT.words hKX.2.1)) ot3 hZ.1 hZ.2 (bS_va hS) (hl.1.trans hml.symm) dX6_course_7 dX6_course_10 dX6_course_11 dX6_course_13 dX6_course_16 (fun x hx9 => (ht x hx9).elim) (by decide) (Nat.le_of_ble_eq_true rfl) (Nat.le_refl _) (Nat.le_refl _) hlocks (x_throw (en := 3) hB hS (bk_lt hB) ⟨by decide, e19⟩ rfl) hS.2.2 (Nat.le_refl _) (Nat.le_refl _)
def f_X6_setting (M : bM) (x1 : Int32) : Nat × Int32 × bM := (if x1 = 0 then (let r12 : Int32 := f_X0_settingOf M 3 x1; (0, r12, M)) else (if x1 = 1 then (let r15 : Int32 := f_X0_settingOf M 3 x1; (0, r15, M)) else (1, 0, M)))
theorem u_f_X6_setting (M : bM) (x1 : Int32) : f_X6_setting M x1 = (if x1 = 0 then (let r12 : Int32 := f_X0_settingOf M 3 x1; (0, r12, M)) else (if x1 = 1 then (let r15 : Int32 := f_X0_settingOf M 3 x1; (0, r15, M)) else (1, 0, M))) := rfl
theorem p_X6_setting_e13 (M : bM) (x1 : Int32) (c11 : x1 = 0) (r12 : Int32) (hr12 : f_X0_settingOf M 3 x1 = r12) : f_X6_setting M x1 = (0, r12, M) := by subst hr12; exact Eq.trans (u_f_X6_setting M x1) (if_pos c11)
theorem p_X6_setting_e16 (M : bM) (x1 : Int32) (c11 : ¬ x1 = 0) (c14 : x1 = 1) (r15 : Int32) (hr15 : f_X0_settingOf M 3 x1 = r15) : f_X6_setting M x1 = (0, r15, M) := by subst hr15; exact Eq.trans (u_f_X6_setting M x1) (Eq.trans (if_neg c11) (if_pos c14))
theorem p_X6_setting_e17 (M : bM) (x1 : Int32) (c11 : ¬ x1 = 0) (c14 : ¬ x1 = 1) : f_X6_setting M x1 = (1, 0, M) := by exact Eq.trans (u_f_X6_setting M x1) (Eq.trans (if_neg c11) (if_neg c14))
set_option maxHeartbeats 4000000 in
set_option maxRecDepth 100000 in
theorem c_X6_setting (l : Launch) (hst : l.stackTraces = false) (D : va_G) (E : Nat → ClassId) (o : Nat) (M : bM) (x1 : Int32) : vx_Met l yX6_setting wsX6_setting (rmX 6) (bPx D E [.ref (o + 0), .int x1] (fun H => bk D E LRM o M H) (rA o)) (bQ (aI fun r H => ∃ M1 : bM, f_X6_setting M x1 = (0, r, M1) ∧ bk D E LRM o M1 H) (rA o)) (bX D E LRM o (fun e M1 => e ≠ 0 ∧ f_X6_setting M x1 = (e, 0, M1)) (rA o)) 1 6 (rA o) := by
  refine vx_ofW (cc := cX6_setting) (maxL := 2) (ret := (some .int)) (by decide) rfl ?_
  intro p e s m args below meth c s₁ B hml ht hv
  obtain ⟨rfl, hB, hKX, hZ⟩ := hv
  have hK := hKX.1
  have hx := B.exec
  have hb := B.bytes
  have hr := B.returns
  have hts := atoms_spec (ws := wsX6_setting) B.pre
  have hown : s.vm.findClass RX6 = some m.cls := findClass_of_methodNamed B.named
  have hlocks := B.notSynchronized
  have hS : bS (rA o) s.heap s.heap [] := bS.rf
  have hl := lv_entry ([.ref (o + 0), .int x1]) (n := 2) (Nat.le_of_ble_eq_true rfl)
  rw [lg_entry_eq]
  generalize (lg_sl ([.ref (o + 0), .int x1]) ++ List.replicate (2 - (lg_sl ([.ref (o + 0), .int x1])).length) Slot.unset).toArray = ls at hl ⊢
  have hl : lv_has ls 2 [(0, .ref (o + 0)), (1, .int x1)] := hl
  have hB : bk D E LRM o M s.heap := hB
  have hinX6 : ∀ w ∈ wsX60, w ∈ wsX6_setting := by decide +kernel
  refine lv_iload_n hx hb dX6_setting_0 rfl (lv_at hl 1 rfl) ?_
  refine lv_if_eq (tgt := 19) hx hb dX6_setting_1 (by decide) (fun c11 => ?_) (fun c11 => ?_)
  · refine lv_aload_n hx hb dX6_setting_19 rfl (lv_at hl 0 rfl) ?_
    refine b_get (D := D) (E := E) (L := LRM) (o := o) (M := M) (v := .ref (o + 3)) (C := RX6) (T := TX6) (N := 7) hx hb hts hinX6 hown hK.1 hB 0 lay_0 rfl 1 (by decide) (hts (.fieldLink RX6 19 "RiverMeeting" "present" "LRiverMeeting$Game;") (List.mem_of_getElem? (i := 3) rfl)) (fun _ h9 => h9) rfl dX6_setting_20 ?_
    refine lv_iload_n hx hb dX6_setting_23 rfl (lv_at hl 1 rfl) ?_
    refine b_pI (b_runV (As := [.int x1]) (rest := []) ⟨hx, hb, hml, hown, hts⟩ (c_X0_settingOf l D E o M 3 x1 isG_3) (cwV 1 hts gX6_setting_X0_settingOf rfl rfl rfl (by decide +kernel) ⟨Nat.le_of_ble_eq_true rfl, Nat.le_of_ble_eq_true rfl⟩) hK (bk_recv hK.1 hB isG_3.1 rfl) hB rfl hl rfl (Nat.le_of_ble_eq_true rfl) dX6_setting_24 ⟨Nat.zero_le _, Nat.zero_le _⟩) hS (fun r12 hr12 locs hS => ?_)
    have e13 := p_X6_setting_e13 M x1 c11 r12 hr12.symm
    exact x_iret hx hb hr hlocks hS ⟨_, rfl, _, e13, hB⟩ dX6_setting_27
  · refine lv_iload_n hx hb dX6_setting_4 rfl (lv_at hl 1 rfl) ?_
    refine lv_iconst (v := 1) hx hb dX6_setting_5 (by decide) ?_
    refine lv_icmp_eq (tgt := 19) hx hb dX6_setting_6 (by decide) (fun c14 => ?_) (fun c14 => ?_)
    · refine lv_aload_n hx hb dX6_setting_19 rfl (lv_at hl 0 rfl) ?_
      refine b_get (D := D) (E := E) (L := LRM) (o := o) (M := M) (v := .ref (o + 3)) (C := RX6) (T := TX6) (N := 7) hx hb hts hinX6 hown hK.1 hB 0 lay_0 rfl 1 (by decide) (hts (.fieldLink RX6 19 "RiverMeeting" "present" "LRiverMeeting$Game;") (List.mem_of_getElem? (i := 3) rfl)) (fun _ h9 => h9) rfl dX6_setting_20 ?_
      refine lv_iload_n hx hb dX6_setting_23 rfl (lv_at hl 1 rfl) ?_
      refine b_pI (b_runV (As := [.int x1]) (rest := []) ⟨hx, hb, hml, hown, hts⟩ (c_X0_settingOf l D E o M 3 x1 isG_3) (cwV 1 hts gX6_setting_X0_settingOf rfl rfl rfl (by decide +kernel) ⟨Nat.le_of_ble_eq_true rfl, Nat.le_of_ble_eq_true rfl⟩) hK (bk_recv hK.1 hB isG_3.1 rfl) hB rfl hl rfl (Nat.le_of_ble_eq_true rfl) dX6_setting_24 ⟨Nat.zero_le _, Nat.zero_le _⟩) hS (fun r15 hr15 locs hS => ?_)
      have e16 := p_X6_setting_e16 M x1 c11 c14 r15 hr15.symm
      exact x_iret hx hb hr hlocks hS ⟨_, rfl, _, e16, hB⟩ dX6_setting_27
    · have e17 := p_X6_setting_e17 M x1 c11 c14
      obtain ⟨sa, hsa⟩ := hKX.2.2 9 _ rfl
      exact vx_throwS (cls := xIAE) (names := xNames) (ik := 53) (is := 198) (ic := 57) (A := rA o) hx hb hst hown fit1 fitN (hts (.classLink RX6 53 "java/lang/IllegalArgumentException") (List.mem_of_getElem? (i := 1) rfl)) (hts (.initialized "java/lang/IllegalArgumentException") (List.mem_of_getElem? (i := 2) rfl)) hsa (vx_hat (B := thrB) (fun w hw => hts w (List.mem_cons_of_mem _ (List.mem_append_right _ hw))) ng1 (bT.words hKX.2.1)) ot1 hZ.1 hZ.2 (bS_va hS) (hl.1.trans hml.symm) dX6_setting_9 dX6_setting_12 dX6_setting_13 dX6_setting_15 dX6_setting_18 (fun x hx9 => (ht x hx9).elim) (by decide) (Nat.le_of_ble_eq_true rfl) (Nat.le_refl _) (Nat.le_refl _) hlocks (x_throw (en := 1) hB hS (bk_lt hB) ⟨by decide, e17⟩ rfl) hS.2.2 (Nat.le_refl _) (Nat.le_refl _)
def f_X6_step (M : bM) (x1 : Int32) : Nat × Int32 × bM := (let r11 : Int32 := f_X6_isDirection x1; (if r11 = 0 then (1, 0, M) else (let r13 : Int32 := f_X0_isOver M 3; (if r13 = 0 then (let M15 : bM := f_X1_remember M 3; (let r17 : Int32 := (f_X0_tryStep M15 3 x1).1; (let M16 : bM := (f_X0_tryStep M15 3 x1).2; (0, r17, M16)))) else (2, 0, M)))))
theorem u_f_X6_step (M : bM) (x1 : Int32) : f_X6_step M x1 = (let r11 : Int32 := f_X6_isDirection x1; (if r11 = 0 then (1, 0, M) else (let r13 : Int32 := f_X0_isOver M 3; (if r13 = 0 then (let M15 : bM := f_X1_remember M 3; (let r17 : Int32 := (f_X0_tryStep M15 3 x1).1; (let M16 : bM := (f_X0_tryStep M15 3 x1).2; (0, r17, M16)))) else (2, 0, M))))) := rfl
theorem p_X6_step_e18 (M : bM) (x1 : Int32) (r11 : Int32) (hr11 : f_X6_isDirection x1 = r11) (c12 : ¬ r11 = 0) (r13 : Int32) (hr13 : f_X0_isOver M 3 = r13) (c14 : r13 = 0) (M15 : bM) (hM15 : f_X1_remember M 3 = M15) (r17 : Int32) (hr17 : (f_X0_tryStep M15 3 x1).1 = r17) (M16 : bM) (hM16 : (f_X0_tryStep M15 3 x1).2 = M16) : f_X6_step M x1 = (0, r17, M16) := by subst hM16 hr17 hM15 hr13 hr11; exact Eq.trans (u_f_X6_step M x1) (Eq.trans (if_neg c12) (if_pos c14))
theorem p_X6_step_e19 (M : bM) (x1 : Int32) (r11 : Int32) (hr11 : f_X6_isDirection x1 = r11) (c12 : ¬ r11 = 0) (r13 : Int32) (hr13 : f_X0_isOver M 3 = r13) (c14 : ¬ r13 = 0) : f_X6_step M x1 = (2, 0, M) := by subst hr13 hr11; exact Eq.trans (u_f_X6_step M x1) (Eq.trans (if_neg c12) (if_neg c14))
theorem p_X6_step_e20 (M : bM) (x1 : Int32) (r11 : Int32) (hr11 : f_X6_isDirection x1 = r11) (c12 : r11 = 0) : f_X6_step M x1 = (1, 0, M) := by subst hr11; exact Eq.trans (u_f_X6_step M x1) (if_pos c12)
set_option maxHeartbeats 4000000 in
set_option maxRecDepth 100000 in
theorem c_X6_step (l : Launch) (hst : l.stackTraces = false) (D : va_G) (E : Nat → ClassId) (o : Nat) (M : bM) (x1 : Int32) (hn : vp_in (M 30 1) 14) : vx_Met l yX6_step wsX6_step (rmX 6) (bPx D E [.ref (o + 0), .int x1] (fun H => bk D E LRM o M H) (rA o)) (bQ (aI fun r H => ∃ M1 : bM, f_X6_step M x1 = (0, r, M1) ∧ bk D E LRM o M1 H) (rA o)) (bX D E LRM o (fun e M1 => e ≠ 0 ∧ f_X6_step M x1 = (e, 0, M1)) (rA o)) 1 6 (rA o) := by
  refine vx_ofW (cc := cX6_step) (maxL := 2) (ret := (some .int)) (by decide) rfl ?_
  intro p e s m args below meth c s₁ B hml ht hv
  obtain ⟨rfl, hB, hKX, hZ⟩ := hv
  have hK := hKX.1
  have hx := B.exec
  have hb := B.bytes
  have hr := B.returns
  have hts := atoms_spec (ws := wsX6_step) B.pre
  have hown : s.vm.findClass RX6 = some m.cls := findClass_of_methodNamed B.named
  have hlocks := B.notSynchronized
  have hS : bS (rA o) s.heap s.heap [] := bS.rf
  have hl := lv_entry ([.ref (o + 0), .int x1]) (n := 2) (Nat.le_of_ble_eq_true rfl)
  rw [lg_entry_eq]
  generalize (lg_sl ([.ref (o + 0), .int x1]) ++ List.replicate (2 - (lg_sl ([.ref (o + 0), .int x1])).length) Slot.unset).toArray = ls at hl ⊢
  have hl : lv_has ls 2 [(0, .ref (o + 0)), (1, .int x1)] := hl
  have hB : bk D E LRM o M s.heap := hB
  have hinX6 : ∀ w ∈ wsX60, w ∈ wsX6_step := by decide +kernel
  refine lv_iload_n hx hb dX6_step_0 rfl (lv_at hl 1 rfl) ?_
  refine b_pI (b_runS (As := [.int x1]) (rest := []) ⟨hx, hb, hml, hown, hts⟩ (c_X6_isDirection l D E x1) (va_cwS 1 hts gX6_step_X6_isDirection rfl rfl rfl (by decide +kernel) ⟨Nat.le_of_ble_eq_true rfl, Nat.le_of_ble_eq_true rfl⟩) hK trivial rfl hl rfl (Nat.le_of_ble_eq_true rfl) dX6_step_1 ⟨Nat.zero_le _, Nat.zero_le _⟩) hS (fun r11 hr11 locs hS => ?_)
  refine lv_if_ne (tgt := 17) hx hb dX6_step_4 (by decide) (fun c12 => ?_) (fun c12 => ?_)
  · refine lv_aload_n hx hb dX6_step_17 rfl (lv_at hl 0 rfl) ?_
    refine b_get (D := D) (E := E) (L := LRM) (o := o) (M := M) (v := .ref (o + 3)) (C := RX6) (T := TX6) (N := 7) hx hb hts hinX6 hown hK.1 hB 0 lay_0 rfl 1 (by decide) (hts (.fieldLink RX6 19 "RiverMeeting" "present" "LRiverMeeting$Game;") (List.mem_of_getElem? (i := 5) rfl)) (fun _ h9 => h9) rfl dX6_step_18 ?_
    refine b_pI (b_runV (As := []) (rest := []) ⟨hx, hb, hml, hown, hts⟩ (c_X0_isOver l D E o M 3 isG_3) (cwV 0 hts gX6_step_X0_isOver rfl rfl rfl (by decide +kernel) ⟨Nat.le_of_ble_eq_true rfl, Nat.le_of_ble_eq_true rfl⟩) hK (bk_recv hK.1 hB isG_3.1 rfl) hB rfl hl rfl (Nat.le_of_ble_eq_true rfl) dX6_step_21 ⟨Nat.zero_le _, Nat.zero_le _⟩) hS (fun r13 hr13 locs hS => ?_)
    refine lv_if_eq (tgt := 37) hx hb dX6_step_24 (by decide) (fun c14 => ?_) (fun c14 => ?_)
    · refine lv_aload_n hx hb dX6_step_37 rfl (lv_at hl 0 rfl) ?_
      refine b_get (D := D) (E := E) (L := LRM) (o := o) (M := M) (v := .ref (o + 30)) (C := RX6) (T := TX6) (N := 7) hx hb hts hinX6 hown hK.1 hB 0 lay_0 rfl 4 (by decide) (hts (.fieldLink RX6 36 "RiverMeeting" "history" "LRiverMeeting$History;") (List.mem_of_getElem? (i := 6) rfl)) (fun _ h9 => h9) rfl dX6_step_38 ?_
      refine lv_aload_n hx hb dX6_step_41 rfl (lv_at hl 0 rfl) ?_
      refine b_get (D := D) (E := E) (L := LRM) (o := o) (M := M) (v := .ref (o + 3)) (C := RX6) (T := TX6) (N := 7) hx hb hts hinX6 hown hK.1 hB 0 lay_0 rfl 1 (by decide) (hts (.fieldLink RX6 19 "RiverMeeting" "present" "LRiverMeeting$Game;") (List.mem_of_getElem? (i := 5) rfl)) (fun _ h9 => h9) rfl dX6_step_42 ?_
      refine b_mV (b_runV (As := [.ref (o + 3)]) (rest := []) ⟨hx, hb, hml, hown, hts⟩ (c_X1_remember l D E o M 3 isG_3 hn) (cwV 1 hts gX6_step_X1_remember rfl rfl rfl (by decide +kernel) ⟨Nat.le_of_ble_eq_true rfl, Nat.le_of_ble_eq_true rfl⟩) hK (bk_recv hK.1 hB lay_30 rfl) hB rfl hl rfl (Nat.le_of_ble_eq_true rfl) dX6_step_45 ⟨Nat.zero_le _, Nat.zero_le _⟩) hS (fun q h => h) (fun M15 hM15 H locs hB _ hS => ?_)
      refine lv_aload_n hx hb dX6_step_48 rfl (lv_at hl 0 rfl) ?_
      refine b_get (D := D) (E := E) (L := LRM) (o := o) (M := M15) (v := .ref (o + 3)) (C := RX6) (T := TX6) (N := 7) hx hb hts hinX6 hown hK.1 hB 0 lay_0 rfl 1 (by decide) (hts (.fieldLink RX6 19 "RiverMeeting" "present" "LRiverMeeting$Game;") (List.mem_of_getElem? (i := 5) rfl)) (fun _ h9 => h9) rfl dX6_step_49 ?_
      refine lv_iload_n hx hb dX6_step_52 rfl (lv_at hl 1 rfl) ?_
      refine b_mI (b_runV (As := [.int x1]) (rest := []) ⟨hx, hb, hml, hown, hts⟩ (c_X0_tryStep l D E o M15 3 x1 isG_3) (cwV 1 hts gX6_step_X0_tryStep rfl rfl rfl (by decide +kernel) ⟨Nat.le_of_ble_eq_true rfl, Nat.le_of_ble_eq_true rfl⟩) hK (bk_recv hK.1 hB isG_3.1 rfl) hB rfl hl rfl (Nat.le_of_ble_eq_true rfl) dX6_step_53 ⟨Nat.zero_le _, Nat.zero_le _⟩) hS (fun q h => h) (fun r17 M16 hM16 H locs hB _ hS => ?_)
      obtain ⟨hr17, hM16⟩ := hM16
      have e18 := p_X6_step_e18 M x1 r11 hr11.symm c12 r13 hr13.symm c14 M15 hM15.symm r17 hr17.symm M16 hM16.symm
      exact x_iret hx hb hr hlocks hS ⟨_, rfl, _, e18, hB⟩ dX6_step_56
    · have e19 := p_X6_step_e19 M x1 r11 hr11.symm c12 r13 hr13.symm c14
      obtain ⟨sa, hsa⟩ := hKX.2.2 11 _ rfl
      exact vx_throwS (cls := xISE) (names := xNames) (ik := 64) (is := 216) (ic := 68) (A := rA o) hx hb hst hown fit2 fitN (hts (.classLink RX6 64 "java/lang/IllegalStateException") (List.mem_of_getElem? (i := 3) rfl)) (hts (.initialized "java/lang/IllegalStateException") (List.mem_of_getElem? (i := 4) rfl)) hsa (vx_hat (B := thrB) (fun w hw => hts w (List.mem_cons_of_mem _ (List.mem_append_right _ hw))) ng2 (bT.words hKX.2.1)) ot2 hZ.1 hZ.2 (bS_va hS) (hl.1.trans hml.symm) dX6_step_27 dX6_step_30 dX6_step_31 dX6_step_33 dX6_step_36 (fun x hx9 => (ht x hx9).elim) (by decide) (Nat.le_of_ble_eq_true rfl) (Nat.le_refl _) (Nat.le_refl _) hlocks (x_throw (en := 2) hB hS (bk_lt hB) ⟨by decide, e19⟩ rfl) hS.2.2 (Nat.le_refl _) (Nat.le_refl _)
  · have e20 := p_X6_step_e20 M x1 r11 hr11.symm c12
    obtain ⟨sa, hsa⟩ := hKX.2.2 10 _ rfl
    exact vx_throwS (cls := xIAE) (names := xNames) (ik := 53) (is := 214) (ic := 57) (A := rA o) hx hb hst hown fit1 fitN (hts (.classLink RX6 53 "java/lang/IllegalArgumentException") (List.mem_of_getElem? (i := 1) rfl)) (hts (.initialized "java/lang/IllegalArgumentException") (List.mem_of_getElem? (i := 2) rfl)) hsa (vx_hat (B := thrB) (fun w hw => hts w (List.mem_cons_of_mem _ (List.mem_append_left _ (List.mem_append_right _ hw)))) ng1 (bT.words hKX.2.1)) ot1 hZ.1 hZ.2 (bS_va hS) (hl.1.trans hml.symm) dX6_step_7 dX6_step_10 dX6_step_11 dX6_step_13 dX6_step_16 (fun x hx9 => (ht x hx9).elim) (by decide) (Nat.le_of_ble_eq_true rfl) (Nat.le_refl _) (Nat.le_refl _) hlocks (x_throw (en := 1) hB hS (bk_lt hB) ⟨by decide, e20⟩ rfl) hS.2.2 (Nat.le_refl _) (Nat.le_refl _)
def f_X6_dam (M : bM) (x1 : Int32) (x2 : Int32) : Nat × Int32 × bM := (let r11 : Int32 := f_X6_cellAt x1 x2; (if r11 = (-1) then (3, 0, M) else (let r13 : Int32 := f_X0_isOver M 3; (if r13 = 0 then (let M15 : bM := f_X1_remember M 3; (let r17 : Int32 := (f_X0_tryDam M15 3 r11).1; (let M16 : bM := (f_X0_tryDam M15 3 r11).2; (0, r17, M16)))) else (2, 0, M)))))
theorem u_f_X6_dam (M : bM) (x1 : Int32) (x2 : Int32) : f_X6_dam M x1 x2 = (let r11 : Int32 := f_X6_cellAt x1 x2; (if r11 = (-1) then (3, 0, M) else (let r13 : Int32 := f_X0_isOver M 3; (if r13 = 0 then (let M15 : bM := f_X1_remember M 3; (let r17 : Int32 := (f_X0_tryDam M15 3 r11).1; (let M16 : bM := (f_X0_tryDam M15 3 r11).2; (0, r17, M16)))) else (2, 0, M))))) := rfl
theorem p_X6_dam_e18 (M : bM) (x1 : Int32) (x2 : Int32) (r11 : Int32) (hr11 : f_X6_cellAt x1 x2 = r11) (c12 : ¬ r11 = (-1)) (r13 : Int32) (hr13 : f_X0_isOver M 3 = r13) (c14 : r13 = 0) (M15 : bM) (hM15 : f_X1_remember M 3 = M15) (r17 : Int32) (hr17 : (f_X0_tryDam M15 3 r11).1 = r17) (M16 : bM) (hM16 : (f_X0_tryDam M15 3 r11).2 = M16) : f_X6_dam M x1 x2 = (0, r17, M16) := by subst hM16 hr17 hM15 hr13 hr11; exact Eq.trans (u_f_X6_dam M x1 x2) (Eq.trans (if_neg c12) (if_pos c14))
theorem p_X6_dam_e19 (M : bM) (x1 : Int32) (x2 : Int32) (r11 : Int32) (hr11 : f_X6_cellAt x1 x2 = r11) (c12 : ¬ r11 = (-1)) (r13 : Int32) (hr13 : f_X0_isOver M 3 = r13) (c14 : ¬ r13 = 0) : f_X6_dam M x1 x2 = (2, 0, M) := by subst hr13 hr11; exact Eq.trans (u_f_X6_dam M x1 x2) (Eq.trans (if_neg c12) (if_neg c14))
theorem p_X6_dam_e20 (M : bM) (x1 : Int32) (x2 : Int32) (r11 : Int32) (hr11 : f_X6_cellAt x1 x2 = r11) (c12 : r11 = (-1)) : f_X6_dam M x1 x2 = (3, 0, M) := by subst hr11; exact Eq.trans (u_f_X6_dam M x1 x2) (if_pos c12)
set_option maxHeartbeats 4000000 in
set_option maxRecDepth 100000 in
theorem c_X6_dam (l : Launch) (hst : l.stackTraces = false) (D : va_G) (E : Nat → ClassId) (o : Nat) (M : bM) (x1 : Int32) (x2 : Int32) (hn : vp_in (M 30 1) 14) : vx_Met l yX6_dam wsX6_dam (rmX 6) (bPx D E [.ref (o + 0), .int x1, .int x2] (fun H => bk D E LRM o M H) (rA o)) (bQ (aI fun r H => ∃ M1 : bM, f_X6_dam M x1 x2 = (0, r, M1) ∧ bk D E LRM o M1 H) (rA o)) (bX D E LRM o (fun e M1 => e ≠ 0 ∧ f_X6_dam M x1 x2 = (e, 0, M1)) (rA o)) 1 6 (rA o) := by
  refine vx_ofW (cc := cX6_dam) (maxL := 4) (ret := (some .int)) (by decide) rfl ?_
  intro p e s m args below meth c s₁ B hml ht hv
  obtain ⟨rfl, hB, hKX, hZ⟩ := hv
  have hK := hKX.1
  have hx := B.exec
  have hb := B.bytes
  have hr := B.returns
  have hts := atoms_spec (ws := wsX6_dam) B.pre
  have hown : s.vm.findClass RX6 = some m.cls := findClass_of_methodNamed B.named
  have hlocks := B.notSynchronized
  have hS : bS (rA o) s.heap s.heap [] := bS.rf
  have hl := lv_entry ([.ref (o + 0), .int x1, .int x2]) (n := 4) (Nat.le_of_ble_eq_true rfl)
  rw [lg_entry_eq]
  generalize (lg_sl ([.ref (o + 0), .int x1, .int x2]) ++ List.replicate (4 - (lg_sl ([.ref (o + 0), .int x1, .int x2])).length) Slot.unset).toArray = ls at hl ⊢
  have hl : lv_has ls 4 [(0, .ref (o + 0)), (1, .int x1), (2, .int x2)] := hl
  have hB : bk D E LRM o M s.heap := hB
  have hinX6 : ∀ w ∈ wsX60, w ∈ wsX6_dam := by decide +kernel
  refine lv_iload_n hx hb dX6_dam_0 rfl (lv_at hl 1 rfl) ?_
  refine lv_iload_n hx hb dX6_dam_1 rfl (lv_at hl 2 rfl) ?_
  refine b_pI (b_runS (As := [.int x1, .int x2]) (rest := []) ⟨hx, hb, hml, hown, hts⟩ (c_X6_cellAt l D E x1 x2) (va_cwS 2 hts gX6_dam_X6_cellAt rfl rfl rfl (by decide +kernel) ⟨Nat.le_of_ble_eq_true rfl, Nat.le_of_ble_eq_true rfl⟩) hK trivial rfl hl rfl (Nat.le_of_ble_eq_true rfl) dX6_dam_2 ⟨Nat.zero_le _, Nat.zero_le _⟩) hS (fun r11 hr11 locs hS => ?_)
  refine lv_istore_n (lv' := [(3, .int r11), (0, .ref (o + 0)), (1, .int x1), (2, .int x2)]) hx hb dX6_dam_5 rfl hl (by decide) rfl (fun ls hl => ?_)
  refine lv_iload_n hx hb dX6_dam_6 rfl (lv_at hl 0 rfl) ?_
  refine lv_iconst (v := (-1)) hx hb dX6_dam_7 (by decide) ?_
  refine lv_icmp_ne (tgt := 21) hx hb dX6_dam_8 (by decide) (fun c12 => ?_) (fun c12 => ?_)
  · refine lv_aload_n hx hb dX6_dam_21 rfl (lv_at hl 1 rfl) ?_
    refine b_get (D := D) (E := E) (L := LRM) (o := o) (M := M) (v := .ref (o + 3)) (C := RX6) (T := TX6) (N := 7) hx hb hts hinX6 hown hK.1 hB 0 lay_0 rfl 1 (by decide) (hts (.fieldLink RX6 19 "RiverMeeting" "present" "LRiverMeeting$Game;") (List.mem_of_getElem? (i := 5) rfl)) (fun _ h9 => h9) rfl dX6_dam_22 ?_
    refine b_pI (b_runV (As := []) (rest := []) ⟨hx, hb, hml, hown, hts⟩ (c_X0_isOver l D E o M 3 isG_3) (cwV 0 hts gX6_dam_X0_isOver rfl rfl rfl (by decide +kernel) ⟨Nat.le_of_ble_eq_true rfl, Nat.le_of_ble_eq_true rfl⟩) hK (bk_recv hK.1 hB isG_3.1 rfl) hB rfl hl rfl (Nat.le_of_ble_eq_true rfl) dX6_dam_25 ⟨Nat.zero_le _, Nat.zero_le _⟩) hS (fun r13 hr13 locs hS => ?_)
    refine lv_if_eq (tgt := 41) hx hb dX6_dam_28 (by decide) (fun c14 => ?_) (fun c14 => ?_)
    · refine lv_aload_n hx hb dX6_dam_41 rfl (lv_at hl 1 rfl) ?_
      refine b_get (D := D) (E := E) (L := LRM) (o := o) (M := M) (v := .ref (o + 30)) (C := RX6) (T := TX6) (N := 7) hx hb hts hinX6 hown hK.1 hB 0 lay_0 rfl 4 (by decide) (hts (.fieldLink RX6 36 "RiverMeeting" "history" "LRiverMeeting$History;") (List.mem_of_getElem? (i := 6) rfl)) (fun _ h9 => h9) rfl dX6_dam_42 ?_
      refine lv_aload_n hx hb dX6_dam_45 rfl (lv_at hl 1 rfl) ?_
      refine b_get (D := D) (E := E) (L := LRM) (o := o) (M := M) (v := .ref (o + 3)) (C := RX6) (T := TX6) (N := 7) hx hb hts hinX6 hown hK.1 hB 0 lay_0 rfl 1 (by decide) (hts (.fieldLink RX6 19 "RiverMeeting" "present" "LRiverMeeting$Game;") (List.mem_of_getElem? (i := 5) rfl)) (fun _ h9 => h9) rfl dX6_dam_46 ?_
      refine b_mV (b_runV (As := [.ref (o + 3)]) (rest := []) ⟨hx, hb, hml, hown, hts⟩ (c_X1_remember l D E o M 3 isG_3 hn) (cwV 1 hts gX6_dam_X1_remember rfl rfl rfl (by decide +kernel) ⟨Nat.le_of_ble_eq_true rfl, Nat.le_of_ble_eq_true rfl⟩) hK (bk_recv hK.1 hB lay_30 rfl) hB rfl hl rfl (Nat.le_of_ble_eq_true rfl) dX6_dam_49 ⟨Nat.zero_le _, Nat.zero_le _⟩) hS (fun q h => h) (fun M15 hM15 H locs hB _ hS => ?_)
      refine lv_aload_n hx hb dX6_dam_52 rfl (lv_at hl 1 rfl) ?_
      refine b_get (D := D) (E := E) (L := LRM) (o := o) (M := M15) (v := .ref (o + 3)) (C := RX6) (T := TX6) (N := 7) hx hb hts hinX6 hown hK.1 hB 0 lay_0 rfl 1 (by decide) (hts (.fieldLink RX6 19 "RiverMeeting" "present" "LRiverMeeting$Game;") (List.mem_of_getElem? (i := 5) rfl)) (fun _ h9 => h9) rfl dX6_dam_53 ?_
      refine lv_iload_n hx hb dX6_dam_56 rfl (lv_at hl 0 rfl) ?_
      refine lv_aload_n hx hb dX6_dam_57 rfl (lv_at hl 1 rfl) ?_
      refine b_get (D := D) (E := E) (L := LRM) (o := o) (M := M15) (v := .ref (o + 23)) (C := RX6) (T := TX6) (N := 7) hx hb hts hinX6 hown hK.1 hB 0 lay_0 rfl 3 (by decide) (hts (.fieldLink RX6 29 "RiverMeeting" "ways" "LRiverMeeting$Ways;") (List.mem_of_getElem? (i := 7) rfl)) (fun _ h9 => h9) rfl dX6_dam_58 ?_
      refine b_mI (b_runV (As := [.int r11, .ref (o + 23)]) (rest := []) ⟨hx, hb, hml, hown, hts⟩ (c_X0_tryDam l D E o M15 3 r11 isG_3) (cwV 2 hts gX6_dam_X0_tryDam rfl rfl rfl (by decide +kernel) ⟨Nat.le_of_ble_eq_true rfl, Nat.le_of_ble_eq_true rfl⟩) hK (bk_recv hK.1 hB isG_3.1 rfl) hB rfl hl rfl (Nat.le_of_ble_eq_true rfl) dX6_dam_61 ⟨Nat.zero_le _, Nat.zero_le _⟩) hS (fun q h => h) (fun r17 M16 hM16 H locs hB _ hS => ?_)
      obtain ⟨hr17, hM16⟩ := hM16
      have e18 := p_X6_dam_e18 M x1 x2 r11 hr11.symm c12 r13 hr13.symm c14 M15 hM15.symm r17 hr17.symm M16 hM16.symm
      exact x_iret hx hb hr hlocks hS ⟨_, rfl, _, e18, hB⟩ dX6_dam_64
    · have e19 := p_X6_dam_e19 M x1 x2 r11 hr11.symm c12 r13 hr13.symm c14
      obtain ⟨sa, hsa⟩ := hKX.2.2 11 _ rfl
      exact vx_throwS (cls := xISE) (names := xNames) (ik := 64) (is := 216) (ic := 68) (A := rA o) hx hb hst hown fit2 fitN (hts (.classLink RX6 64 "java/lang/IllegalStateException") (List.mem_of_getElem? (i := 3) rfl)) (hts (.initialized "java/lang/IllegalStateException") (List.mem_of_getElem? (i := 4) rfl)) hsa (vx_hat (B := thrB) (fun w hw => hts w (List.mem_cons_of_mem _ (List.mem_append_right _ hw))) ng2 (bT.words hKX.2.1)) ot2 hZ.1 hZ.2 (bS_va hS) (hl.1.trans hml.symm) dX6_dam_31 dX6_dam_34 dX6_dam_35 dX6_dam_37 dX6_dam_40 (fun x hx9 => (ht x hx9).elim) (by decide) (Nat.le_of_ble_eq_true rfl) (Nat.le_refl _) (Nat.le_refl _) hlocks (x_throw (en := 2) hB hS (bk_lt hB) ⟨by decide, e19⟩ rfl) hS.2.2 (Nat.le_refl _) (Nat.le_refl _)
  · have e20 := p_X6_dam_e20 M x1 x2 r11 hr11.symm c12
    obtain ⟨sa, hsa⟩ := hKX.2.2 6 _ rfl
    exact vx_throwS (cls := xIOB) (names := xNames) (ik := 139) (is := 172) (ic := 143) (A := rA o) hx hb hst hown fit3 fitN (hts (.classLink RX6 139 "java/lang/IndexOutOfBoundsException") (List.mem_of_getElem? (i := 1) rfl)) (hts (.initialized "java/lang/IndexOutOfBoundsException") (List.mem_of_getElem? (i := 2) rfl)) hsa (vx_hat (B := thrB) (fun w hw => hts w (List.mem_cons_of_mem _ (List.mem_append_left _ (List.mem_append_right _ hw)))) ng3 (bT.words hKX.2.1)) ot3 hZ.1 hZ.2 (bS_va hS) (hl.1.trans hml.symm) dX6_dam_11 dX6_dam_14 dX6_dam_15 dX6_dam_17 dX6_dam_20 (fun x hx9 => (ht x hx9).elim) (by decide) (Nat.le_of_ble_eq_true rfl) (Nat.le_refl _) (Nat.le_refl _) hlocks (x_throw (en := 3) hB hS (bk_lt hB) ⟨by decide, e20⟩ rfl) hS.2.2 (Nat.le_refl _) (Nat.le_refl _)
def f_X6_flood (M : bM) : Nat × Int32 × bM := (let r11 : Int32 := f_X0_canFlood M 3; (if r11 = 0 then (2, 0, M) else (let M13 : bM := f_X1_remember M 3; (let r15 : Int32 := (f_X0_washAway M13 3).1; (let M14 : bM := (f_X0_washAway M13 3).2; (0, r15, M14))))))
theorem u_f_X6_flood (M : bM) : f_X6_flood M = (let r11 : Int32 := f_X0_canFlood M 3; (if r11 = 0 then (2, 0, M) else (let M13 : bM := f_X1_remember M 3; (let r15 : Int32 := (f_X0_washAway M13 3).1; (let M14 : bM := (f_X0_washAway M13 3).2; (0, r15, M14)))))) := rfl
theorem p_X6_flood_e16 (M : bM) (r11 : Int32) (hr11 : f_X0_canFlood M 3 = r11) (c12 : ¬ r11 = 0) (M13 : bM) (hM13 : f_X1_remember M 3 = M13) (r15 : Int32) (hr15 : (f_X0_washAway M13 3).1 = r15) (M14 : bM) (hM14 : (f_X0_washAway M13 3).2 = M14) : f_X6_flood M = (0, r15, M14) := by subst hM14 hr15 hM13 hr11; exact Eq.trans (u_f_X6_flood M) (if_neg c12)
theorem p_X6_flood_e17 (M : bM) (r11 : Int32) (hr11 : f_X0_canFlood M 3 = r11) (c12 : r11 = 0) : f_X6_flood M = (2, 0, M) := by subst hr11; exact Eq.trans (u_f_X6_flood M) (if_pos c12)
set_option maxHeartbeats 4000000 in
set_option maxRecDepth 100000 in
theorem c_X6_flood (l : Launch) (hst : l.stackTraces = false) (D : va_G) (E : Nat → ClassId) (o : Nat) (M : bM) (hn : vp_in (M 30 1) 14) : vx_Met l yX6_flood wsX6_flood (rmX 6) (bPx D E [.ref (o + 0)] (fun H => bk D E LRM o M H) (rA o)) (bQ (aI fun r H => ∃ M1 : bM, f_X6_flood M = (0, r, M1) ∧ bk D E LRM o M1 H) (rA o)) (bX D E LRM o (fun e M1 => e ≠ 0 ∧ f_X6_flood M = (e, 0, M1)) (rA o)) 1 6 (rA o) := by
  refine vx_ofW (cc := cX6_flood) (maxL := 1) (ret := (some .int)) (by decide) rfl ?_
  intro p e s m args below meth c s₁ B hml ht hv
  obtain ⟨rfl, hB, hKX, hZ⟩ := hv
  have hK := hKX.1
  have hx := B.exec
  have hb := B.bytes
  have hr := B.returns
  have hts := atoms_spec (ws := wsX6_flood) B.pre
  have hown : s.vm.findClass RX6 = some m.cls := findClass_of_methodNamed B.named
  have hlocks := B.notSynchronized
  have hS : bS (rA o) s.heap s.heap [] := bS.rf
  have hl := lv_entry ([.ref (o + 0)]) (n := 1) (Nat.le_of_ble_eq_true rfl)
  rw [lg_entry_eq]
  generalize (lg_sl ([.ref (o + 0)]) ++ List.replicate (1 - (lg_sl ([.ref (o + 0)])).length) Slot.unset).toArray = ls at hl ⊢
  have hl : lv_has ls 1 [(0, .ref (o + 0))] := hl
  have hB : bk D E LRM o M s.heap := hB
  have hinX6 : ∀ w ∈ wsX60, w ∈ wsX6_flood := by decide +kernel
  refine lv_aload_n hx hb dX6_flood_0 rfl (lv_at hl 0 rfl) ?_
  refine b_get (D := D) (E := E) (L := LRM) (o := o) (M := M) (v := .ref (o + 3)) (C := RX6) (T := TX6) (N := 7) hx hb hts hinX6 hown hK.1 hB 0 lay_0 rfl 1 (by decide) (hts (.fieldLink RX6 19 "RiverMeeting" "present" "LRiverMeeting$Game;") (List.mem_of_getElem? (i := 3) rfl)) (fun _ h9 => h9) rfl dX6_flood_1 ?_
  refine b_pI (b_runV (As := []) (rest := []) ⟨hx, hb, hml, hown, hts⟩ (c_X0_canFlood l D E o M 3 isG_3) (cwV 0 hts gX6_flood_X0_canFlood rfl rfl rfl (by decide +kernel) ⟨Nat.le_of_ble_eq_true rfl, Nat.le_of_ble_eq_true rfl⟩) hK (bk_recv hK.1 hB isG_3.1 rfl) hB rfl hl rfl (Nat.le_of_ble_eq_true rfl) dX6_flood_4 ⟨Nat.zero_le _, Nat.zero_le _⟩) hS (fun r11 hr11 locs hS => ?_)
  refine lv_if_ne (tgt := 20) hx hb dX6_flood_7 (by decide) (fun c12 => ?_) (fun c12 => ?_)
  · refine lv_aload_n hx hb dX6_flood_20 rfl (lv_at hl 0 rfl) ?_
    refine b_get (D := D) (E := E) (L := LRM) (o := o) (M := M) (v := .ref (o + 30)) (C := RX6) (T := TX6) (N := 7) hx hb hts hinX6 hown hK.1 hB 0 lay_0 rfl 4 (by decide) (hts (.fieldLink RX6 36 "RiverMeeting" "history" "LRiverMeeting$History;") (List.mem_of_getElem? (i := 4) rfl)) (fun _ h9 => h9) rfl dX6_flood_21 ?_
    refine lv_aload_n hx hb dX6_flood_24 rfl (lv_at hl 0 rfl) ?_
    refine b_get (D := D) (E := E) (L := LRM) (o := o) (M := M) (v := .ref (o + 3)) (C := RX6) (T := TX6) (N := 7) hx hb hts hinX6 hown hK.1 hB 0 lay_0 rfl 1 (by decide) (hts (.fieldLink RX6 19 "RiverMeeting" "present" "LRiverMeeting$Game;") (List.mem_of_getElem? (i := 3) rfl)) (fun _ h9 => h9) rfl dX6_flood_25 ?_
    refine b_mV (b_runV (As := [.ref (o + 3)]) (rest := []) ⟨hx, hb, hml, hown, hts⟩ (c_X1_remember l D E o M 3 isG_3 hn) (cwV 1 hts gX6_flood_X1_remember rfl rfl rfl (by decide +kernel) ⟨Nat.le_of_ble_eq_true rfl, Nat.le_of_ble_eq_true rfl⟩) hK (bk_recv hK.1 hB lay_30 rfl) hB rfl hl rfl (Nat.le_of_ble_eq_true rfl) dX6_flood_28 ⟨Nat.zero_le _, Nat.zero_le _⟩) hS (fun q h => h) (fun M13 hM13 H locs hB _ hS => ?_)
    refine lv_aload_n hx hb dX6_flood_31 rfl (lv_at hl 0 rfl) ?_
    refine b_get (D := D) (E := E) (L := LRM) (o := o) (M := M13) (v := .ref (o + 3)) (C := RX6) (T := TX6) (N := 7) hx hb hts hinX6 hown hK.1 hB 0 lay_0 rfl 1 (by decide) (hts (.fieldLink RX6 19 "RiverMeeting" "present" "LRiverMeeting$Game;") (List.mem_of_getElem? (i := 3) rfl)) (fun _ h9 => h9) rfl dX6_flood_32 ?_
    refine b_mI (b_runV (As := []) (rest := []) ⟨hx, hb, hml, hown, hts⟩ (c_X0_washAway l D E o M13 3 isG_3) (cwV 0 hts gX6_flood_X0_washAway rfl rfl rfl (by decide +kernel) ⟨Nat.le_of_ble_eq_true rfl, Nat.le_of_ble_eq_true rfl⟩) hK (bk_recv hK.1 hB isG_3.1 rfl) hB rfl hl rfl (Nat.le_of_ble_eq_true rfl) dX6_flood_35 ⟨Nat.zero_le _, Nat.zero_le _⟩) hS (fun q h => h) (fun r15 M14 hM14 H locs hB _ hS => ?_)
    obtain ⟨hr15, hM14⟩ := hM14
    have e16 := p_X6_flood_e16 M r11 hr11.symm c12 M13 hM13.symm r15 hr15.symm M14 hM14.symm
    exact x_iret hx hb hr hlocks hS ⟨_, rfl, _, e16, hB⟩ dX6_flood_38
  · have e17 := p_X6_flood_e17 M r11 hr11.symm c12
    obtain ⟨sa, hsa⟩ := hKX.2.2 12 _ rfl
    exact vx_throwS (cls := xISE) (names := xNames) (ik := 64) (is := 228) (ic := 68) (A := rA o) hx hb hst hown fit2 fitN (hts (.classLink RX6 64 "java/lang/IllegalStateException") (List.mem_of_getElem? (i := 1) rfl)) (hts (.initialized "java/lang/IllegalStateException") (List.mem_of_getElem? (i := 2) rfl)) hsa (vx_hat (B := thrB) (fun w hw => hts w (List.mem_cons_of_mem _ (List.mem_append_right _ hw))) ng2 (bT.words hKX.2.1)) ot2 hZ.1 hZ.2 (bS_va hS) (hl.1.trans hml.symm) dX6_flood_10 dX6_flood_13 dX6_flood_14 dX6_flood_16 dX6_flood_19 (fun x hx9 => (ht x hx9).elim) (by decide) (Nat.le_of_ble_eq_true rfl) (Nat.le_refl _) (Nat.le_refl _) hlocks (x_throw (en := 2) hB hS (bk_lt hB) ⟨by decide, e17⟩ rfl) hS.2.2 (Nat.le_refl _) (Nat.le_refl _)
def f_X6_set (M : bM) (x1 : Int32) (x2 : Int32) : Nat × Int32 × bM := (let r11 : Int32 := f_X6_isSettingValue x1 x2; (if r11 = 0 then (1, 0, M) else (let M13 : bM := f_X1_remember M 3; (let r15 : Int32 := (f_X0_changeSetting M13 3 x1 x2).1; (let M14 : bM := (f_X0_changeSetting M13 3 x1 x2).2; (0, r15, M14))))))
theorem u_f_X6_set (M : bM) (x1 : Int32) (x2 : Int32) : f_X6_set M x1 x2 = (let r11 : Int32 := f_X6_isSettingValue x1 x2; (if r11 = 0 then (1, 0, M) else (let M13 : bM := f_X1_remember M 3; (let r15 : Int32 := (f_X0_changeSetting M13 3 x1 x2).1; (let M14 : bM := (f_X0_changeSetting M13 3 x1 x2).2; (0, r15, M14)))))) := rfl
theorem p_X6_set_e16 (M : bM) (x1 : Int32) (x2 : Int32) (r11 : Int32) (hr11 : f_X6_isSettingValue x1 x2 = r11) (c12 : ¬ r11 = 0) (M13 : bM) (hM13 : f_X1_remember M 3 = M13) (r15 : Int32) (hr15 : (f_X0_changeSetting M13 3 x1 x2).1 = r15) (M14 : bM) (hM14 : (f_X0_changeSetting M13 3 x1 x2).2 = M14) : f_X6_set M x1 x2 = (0, r15, M14) := by subst hM14 hr15 hM13 hr11; exact Eq.trans (u_f_X6_set M x1 x2) (if_neg c12)
theorem p_X6_set_e17 (M : bM) (x1 : Int32) (x2 : Int32) (r11 : Int32) (hr11 : f_X6_isSettingValue x1 x2 = r11) (c12 : r11 = 0) : f_X6_set M x1 x2 = (1, 0, M) := by subst hr11; exact Eq.trans (u_f_X6_set M x1 x2) (if_pos c12)
set_option maxHeartbeats 4000000 in
set_option maxRecDepth 100000 in
theorem c_X6_set (l : Launch) (hst : l.stackTraces = false) (D : va_G) (E : Nat → ClassId) (o : Nat) (M : bM) (x1 : Int32) (x2 : Int32) (hn : vp_in (M 30 1) 14) : vx_Met l yX6_set wsX6_set (rmX 6) (bPx D E [.ref (o + 0), .int x1, .int x2] (fun H => bk D E LRM o M H) (rA o)) (bQ (aI fun r H => ∃ M1 : bM, f_X6_set M x1 x2 = (0, r, M1) ∧ bk D E LRM o M1 H) (rA o)) (bX D E LRM o (fun e M1 => e ≠ 0 ∧ f_X6_set M x1 x2 = (e, 0, M1)) (rA o)) 1 6 (rA o) := by
  refine vx_ofW (cc := cX6_set) (maxL := 3) (ret := (some .int)) (by decide) rfl ?_
  intro p e s m args below meth c s₁ B hml ht hv
  obtain ⟨rfl, hB, hKX, hZ⟩ := hv
  have hK := hKX.1
  have hx := B.exec
  have hb := B.bytes
  have hr := B.returns
  have hts := atoms_spec (ws := wsX6_set) B.pre
  have hown : s.vm.findClass RX6 = some m.cls := findClass_of_methodNamed B.named
  have hlocks := B.notSynchronized
  have hS : bS (rA o) s.heap s.heap [] := bS.rf
  have hl := lv_entry ([.ref (o + 0), .int x1, .int x2]) (n := 3) (Nat.le_of_ble_eq_true rfl)
  rw [lg_entry_eq]
  generalize (lg_sl ([.ref (o + 0), .int x1, .int x2]) ++ List.replicate (3 - (lg_sl ([.ref (o + 0), .int x1, .int x2])).length) Slot.unset).toArray = ls at hl ⊢
  have hl : lv_has ls 3 [(0, .ref (o + 0)), (1, .int x1), (2, .int x2)] := hl
  have hB : bk D E LRM o M s.heap := hB
  have hinX6 : ∀ w ∈ wsX60, w ∈ wsX6_set := by decide +kernel
  refine lv_iload_n hx hb dX6_set_0 rfl (lv_at hl 1 rfl) ?_
  refine lv_iload_n hx hb dX6_set_1 rfl (lv_at hl 2 rfl) ?_
  refine b_pI (b_runS (As := [.int x1, .int x2]) (rest := []) ⟨hx, hb, hml, hown, hts⟩ (c_X6_isSettingValue l D E x1 x2) (va_cwS 2 hts gX6_set_X6_isSettingValue rfl rfl rfl (by decide +kernel) ⟨Nat.le_of_ble_eq_true rfl, Nat.le_of_ble_eq_true rfl⟩) hK trivial rfl hl rfl (Nat.le_of_ble_eq_true rfl) dX6_set_2 ⟨Nat.zero_le _, Nat.zero_le _⟩) hS (fun r11 hr11 locs hS => ?_)
  refine lv_if_ne (tgt := 18) hx hb dX6_set_5 (by decide) (fun c12 => ?_) (fun c12 => ?_)
  · refine lv_aload_n hx hb dX6_set_18 rfl (lv_at hl 0 rfl) ?_
    refine b_get (D := D) (E := E) (L := LRM) (o := o) (M := M) (v := .ref (o + 30)) (C := RX6) (T := TX6) (N := 7) hx hb hts hinX6 hown hK.1 hB 0 lay_0 rfl 4 (by decide) (hts (.fieldLink RX6 36 "RiverMeeting" "history" "LRiverMeeting$History;") (List.mem_of_getElem? (i := 3) rfl)) (fun _ h9 => h9) rfl dX6_set_19 ?_
    refine lv_aload_n hx hb dX6_set_22 rfl (lv_at hl 0 rfl) ?_
    refine b_get (D := D) (E := E) (L := LRM) (o := o) (M := M) (v := .ref (o + 3)) (C := RX6) (T := TX6) (N := 7) hx hb hts hinX6 hown hK.1 hB 0 lay_0 rfl 1 (by decide) (hts (.fieldLink RX6 19 "RiverMeeting" "present" "LRiverMeeting$Game;") (List.mem_of_getElem? (i := 4) rfl)) (fun _ h9 => h9) rfl dX6_set_23 ?_
    refine b_mV (b_runV (As := [.ref (o + 3)]) (rest := []) ⟨hx, hb, hml, hown, hts⟩ (c_X1_remember l D E o M 3 isG_3 hn) (cwV 1 hts gX6_set_X1_remember rfl rfl rfl (by decide +kernel) ⟨Nat.le_of_ble_eq_true rfl, Nat.le_of_ble_eq_true rfl⟩) hK (bk_recv hK.1 hB lay_30 rfl) hB rfl hl rfl (Nat.le_of_ble_eq_true rfl) dX6_set_26 ⟨Nat.zero_le _, Nat.zero_le _⟩) hS (fun q h => h) (fun M13 hM13 H locs hB _ hS => ?_)
    refine lv_aload_n hx hb dX6_set_29 rfl (lv_at hl 0 rfl) ?_
    refine b_get (D := D) (E := E) (L := LRM) (o := o) (M := M13) (v := .ref (o + 3)) (C := RX6) (T := TX6) (N := 7) hx hb hts hinX6 hown hK.1 hB 0 lay_0 rfl 1 (by decide) (hts (.fieldLink RX6 19 "RiverMeeting" "present" "LRiverMeeting$Game;") (List.mem_of_getElem? (i := 4) rfl)) (fun _ h9 => h9) rfl dX6_set_30 ?_
    refine lv_iload_n hx hb dX6_set_33 rfl (lv_at hl 1 rfl) ?_
    refine lv_iload_n hx hb dX6_set_34 rfl (lv_at hl 2 rfl) ?_
    refine b_mI (b_runV (As := [.int x1, .int x2]) (rest := []) ⟨hx, hb, hml, hown, hts⟩ (c_X0_changeSetting l D E o M13 3 x1 x2 isG_3) (cwV 2 hts gX6_set_X0_changeSetting rfl rfl rfl (by decide +kernel) ⟨Nat.le_of_ble_eq_true rfl, Nat.le_of_ble_eq_true rfl⟩) hK (bk_recv hK.1 hB isG_3.1 rfl) hB rfl hl rfl (Nat.le_of_ble_eq_true rfl) dX6_set_35 ⟨Nat.zero_le _, Nat.zero_le _⟩) hS (fun q h => h) (fun r15 M14 hM14 H locs hB _ hS => ?_)
    obtain ⟨hr15, hM14⟩ := hM14
    have e16 := p_X6_set_e16 M x1 x2 r11 hr11.symm c12 M13 hM13.symm r15 hr15.symm M14 hM14.symm
    exact x_iret hx hb hr hlocks hS ⟨_, rfl, _, e16, hB⟩ dX6_set_38
  · have e17 := p_X6_set_e17 M x1 x2 r11 hr11.symm c12
    obtain ⟨sa, hsa⟩ := hKX.2.2 13 _ rfl
    exact vx_throwS (cls := xIAE) (names := xNames) (ik := 53) (is := 237) (ic := 57) (A := rA o) hx hb hst hown fit1 fitN (hts (.classLink RX6 53 "java/lang/IllegalArgumentException") (List.mem_of_getElem? (i := 1) rfl)) (hts (.initialized "java/lang/IllegalArgumentException") (List.mem_of_getElem? (i := 2) rfl)) hsa (vx_hat (B := thrB) (fun w hw => hts w (List.mem_cons_of_mem _ (List.mem_append_right _ hw))) ng1 (bT.words hKX.2.1)) ot1 hZ.1 hZ.2 (bS_va hS) (hl.1.trans hml.symm) dX6_set_8 dX6_set_11 dX6_set_12 dX6_set_14 dX6_set_17 (fun x hx9 => (ht x hx9).elim) (by decide) (Nat.le_of_ble_eq_true rfl) (Nat.le_refl _) (Nat.le_refl _) hlocks (x_throw (en := 1) hB hS (bk_lt hB) ⟨by decide, e17⟩ rfl) hS.2.2 (Nat.le_refl _) (Nat.le_refl _)
def f_X6_undo (M : bM) : Nat × Int32 × bM := (if 0 < (M 30 2) then (let M12 : bM := f_X1_takeBack M 3; (0, (M12 30 2), M12)) else (2, 0, M))
theorem u_f_X6_undo (M : bM) : f_X6_undo M = (if 0 < (M 30 2) then (let M12 : bM := f_X1_takeBack M 3; (0, (M12 30 2), M12)) else (2, 0, M)) := rfl
theorem p_X6_undo_e13 (M : bM) (c11 : 0 < (M 30 2)) (M12 : bM) (hM12 : f_X1_takeBack M 3 = M12) : f_X6_undo M = (0, (M12 30 2), M12) := by subst hM12; exact Eq.trans (u_f_X6_undo M) (if_pos c11)
theorem p_X6_undo_e14 (M : bM) (c11 : ¬ 0 < (M 30 2)) : f_X6_undo M = (2, 0, M) := by exact Eq.trans (u_f_X6_undo M) (if_neg c11)
set_option maxHeartbeats 4000000 in
set_option maxRecDepth 100000 in
theorem c_X6_undo (l : Launch) (hst : l.stackTraces = false) (D : va_G) (E : Nat → ClassId) (o : Nat) (M : bM) (hn : vp_in (M 30 1) 14) : vx_Met l yX6_undo wsX6_undo (rmX 6) (bPx D E [.ref (o + 0)] (fun H => bk D E LRM o M H) (rA o)) (bQ (aI fun r H => ∃ M1 : bM, f_X6_undo M = (0, r, M1) ∧ bk D E LRM o M1 H) (rA o)) (bX D E LRM o (fun e M1 => e ≠ 0 ∧ f_X6_undo M = (e, 0, M1)) (rA o)) 1 6 (rA o) := by
  refine vx_ofW (cc := cX6_undo) (maxL := 1) (ret := (some .int)) (by decide) rfl ?_
  intro p e s m args below meth c s₁ B hml ht hv
  obtain ⟨rfl, hB, hKX, hZ⟩ := hv
  have hK := hKX.1
  have hx := B.exec
  have hb := B.bytes
  have hr := B.returns
  have hts := atoms_spec (ws := wsX6_undo) B.pre
  have hown : s.vm.findClass RX6 = some m.cls := findClass_of_methodNamed B.named
  have hlocks := B.notSynchronized
  have hS : bS (rA o) s.heap s.heap [] := bS.rf
  have hl := lv_entry ([.ref (o + 0)]) (n := 1) (Nat.le_of_ble_eq_true rfl)
  rw [lg_entry_eq]
  generalize (lg_sl ([.ref (o + 0)]) ++ List.replicate (1 - (lg_sl ([.ref (o + 0)])).length) Slot.unset).toArray = ls at hl ⊢
  have hl : lv_has ls 1 [(0, .ref (o + 0))] := hl
  have hB : bk D E LRM o M s.heap := hB
  have hinX1 : ∀ w ∈ wsX10, w ∈ wsX6_undo := by decide +kernel
  have hinX6 : ∀ w ∈ wsX60, w ∈ wsX6_undo := by decide +kernel
  refine lv_aload_n hx hb dX6_undo_0 rfl (lv_at hl 0 rfl) ?_
  refine b_get (D := D) (E := E) (L := LRM) (o := o) (M := M) (v := .ref (o + 30)) (C := RX6) (T := TX6) (N := 7) hx hb hts hinX6 hown hK.1 hB 0 lay_0 rfl 4 (by decide) (hts (.fieldLink RX6 36 "RiverMeeting" "history" "LRiverMeeting$History;") (List.mem_of_getElem? (i := 3) rfl)) (fun _ h9 => h9) rfl dX6_undo_1 ?_
  refine b_get (D := D) (E := E) (L := LRM) (o := o) (M := M) (v := .int (M 30 2)) (C := RX1) (T := TX1) (N := 3) hx hb hts hinX1 hown hK.1 hB 30 lay_30 rfl 2 (by decide) (hts (.fieldLink RX6 242 "RiverMeeting$History" "count" "I") (List.mem_of_getElem? (i := 4) rfl)) (fun _ h9 => h9) rfl dX6_undo_4 ?_
  refine lv_if_gt (tgt := 20) hx hb dX6_undo_7 (by decide) (fun c11 => ?_) (fun c11 => ?_)
  · refine lv_aload_n hx hb dX6_undo_20 rfl (lv_at hl 0 rfl) ?_
    refine b_get (D := D) (E := E) (L := LRM) (o := o) (M := M) (v := .ref (o + 30)) (C := RX6) (T := TX6) (N := 7) hx hb hts hinX6 hown hK.1 hB 0 lay_0 rfl 4 (by decide) (hts (.fieldLink RX6 36 "RiverMeeting" "history" "LRiverMeeting$History;") (List.mem_of_getElem? (i := 3) rfl)) (fun _ h9 => h9) rfl dX6_undo_21 ?_
    refine lv_aload_n hx hb dX6_undo_24 rfl (lv_at hl 0 rfl) ?_
    refine b_get (D := D) (E := E) (L := LRM) (o := o) (M := M) (v := .ref (o + 3)) (C := RX6) (T := TX6) (N := 7) hx hb hts hinX6 hown hK.1 hB 0 lay_0 rfl 1 (by decide) (hts (.fieldLink RX6 19 "RiverMeeting" "present" "LRiverMeeting$Game;") (List.mem_of_getElem? (i := 5) rfl)) (fun _ h9 => h9) rfl dX6_undo_25 ?_
    refine b_mV (b_runV (As := [.ref (o + 3)]) (rest := []) ⟨hx, hb, hml, hown, hts⟩ (c_X1_takeBack l D E o M 3 isG_3 hn) (cwV 1 hts gX6_undo_X1_takeBack rfl rfl rfl (by decide +kernel) ⟨Nat.le_of_ble_eq_true rfl, Nat.le_of_ble_eq_true rfl⟩) hK (bk_recv hK.1 hB lay_30 rfl) hB rfl hl rfl (Nat.le_of_ble_eq_true rfl) dX6_undo_28 ⟨Nat.zero_le _, Nat.zero_le _⟩) hS (fun q h => h) (fun M12 hM12 H locs hB _ hS => ?_)
    refine lv_aload_n hx hb dX6_undo_31 rfl (lv_at hl 0 rfl) ?_
    refine b_get (D := D) (E := E) (L := LRM) (o := o) (M := M12) (v := .ref (o + 30)) (C := RX6) (T := TX6) (N := 7) hx hb hts hinX6 hown hK.1 hB 0 lay_0 rfl 4 (by decide) (hts (.fieldLink RX6 36 "RiverMeeting" "history" "LRiverMeeting$History;") (List.mem_of_getElem? (i := 3) rfl)) (fun _ h9 => h9) rfl dX6_undo_32 ?_
    refine b_get (D := D) (E := E) (L := LRM) (o := o) (M := M12) (v := .int (M12 30 2)) (C := RX1) (T := TX1) (N := 3) hx hb hts hinX1 hown hK.1 hB 30 lay_30 rfl 2 (by decide) (hts (.fieldLink RX6 242 "RiverMeeting$History" "count" "I") (List.mem_of_getElem? (i := 4) rfl)) (fun _ h9 => h9) rfl dX6_undo_35 ?_
    have e13 := p_X6_undo_e13 M c11 M12 hM12.symm
    exact x_iret hx hb hr hlocks hS ⟨_, rfl, _, e13, hB⟩ dX6_undo_38
  · have e14 := p_X6_undo_e14 M c11
    obtain ⟨sa, hsa⟩ := hKX.2.2 14 _ rfl
    exact vx_throwS (cls := xISE) (names := xNames) (ik := 64) (is := 245) (ic := 68) (A := rA o) hx hb hst hown fit2 fitN (hts (.classLink RX6 64 "java/lang/IllegalStateException") (List.mem_of_getElem? (i := 1) rfl)) (hts (.initialized "java/lang/IllegalStateException") (List.mem_of_getElem? (i := 2) rfl)) hsa (vx_hat (B := thrB) (fun w hw => hts w (List.mem_cons_of_mem _ (List.mem_append_right _ hw))) ng2 (bT.words hKX.2.1)) ot2 hZ.1 hZ.2 (bS_va hS) (hl.1.trans hml.symm) dX6_undo_10 dX6_undo_13 dX6_undo_14 dX6_undo_16 dX6_undo_19 (fun x hx9 => (ht x hx9).elim) (by decide) (Nat.le_of_ble_eq_true rfl) (Nat.le_refl _) (Nat.le_refl _) hlocks (x_throw (en := 2) hB hS (bk_lt hB) ⟨by decide, e14⟩ rfl) hS.2.2 (Nat.le_refl _) (Nat.le_refl _)
def f_X6_why (M : bM) (x1 : Int32) : Nat × Int32 × bM := (let r11 : Int32 := f_X6_isDirection x1; (if r11 = 0 then (1, 0, M) else (let r13 : Int32 := f_X0_isOver M 3; (if r13 = 0 then (let r15 : Int32 := f_X0_reasonAgainstStep M 3 x1; (0, r15, M)) else (0, (-1), M)))))
theorem u_f_X6_why (M : bM) (x1 : Int32) : f_X6_why M x1 = (let r11 : Int32 := f_X6_isDirection x1; (if r11 = 0 then (1, 0, M) else (let r13 : Int32 := f_X0_isOver M 3; (if r13 = 0 then (let r15 : Int32 := f_X0_reasonAgainstStep M 3 x1; (0, r15, M)) else (0, (-1), M))))) := rfl
theorem p_X6_why_e16 (M : bM) (x1 : Int32) (r11 : Int32) (hr11 : f_X6_isDirection x1 = r11) (c12 : ¬ r11 = 0) (r13 : Int32) (hr13 : f_X0_isOver M 3 = r13) (c14 : r13 = 0) (r15 : Int32) (hr15 : f_X0_reasonAgainstStep M 3 x1 = r15) : f_X6_why M x1 = (0, r15, M) := by subst hr15 hr13 hr11; exact Eq.trans (u_f_X6_why M x1) (Eq.trans (if_neg c12) (if_pos c14))
theorem p_X6_why_e17 (M : bM) (x1 : Int32) (r11 : Int32) (hr11 : f_X6_isDirection x1 = r11) (c12 : ¬ r11 = 0) (r13 : Int32) (hr13 : f_X0_isOver M 3 = r13) (c14 : ¬ r13 = 0) : f_X6_why M x1 = (0, (-1), M) := by subst hr13 hr11; exact Eq.trans (u_f_X6_why M x1) (Eq.trans (if_neg c12) (if_neg c14))
theorem p_X6_why_e18 (M : bM) (x1 : Int32) (r11 : Int32) (hr11 : f_X6_isDirection x1 = r11) (c12 : r11 = 0) : f_X6_why M x1 = (1, 0, M) := by subst hr11; exact Eq.trans (u_f_X6_why M x1) (if_pos c12)
set_option maxHeartbeats 4000000 in
set_option maxRecDepth 100000 in
theorem c_X6_why (l : Launch) (hst : l.stackTraces = false) (D : va_G) (E : Nat → ClassId) (o : Nat) (M : bM) (x1 : Int32) : vx_Met l yX6_why wsX6_why (rmX 6) (bPx D E [.ref (o + 0), .int x1] (fun H => bk D E LRM o M H) (rA o)) (bQ (aI fun r H => ∃ M1 : bM, f_X6_why M x1 = (0, r, M1) ∧ bk D E LRM o M1 H) (rA o)) (bX D E LRM o (fun e M1 => e ≠ 0 ∧ f_X6_why M x1 = (e, 0, M1)) (rA o)) 1 6 (rA o) := by
  refine vx_ofW (cc := cX6_why) (maxL := 2) (ret := (some .int)) (by decide) rfl ?_
  intro p e s m args below meth c s₁ B hml ht hv
  obtain ⟨rfl, hB, hKX, hZ⟩ := hv
  have hK := hKX.1
  have hx := B.exec
  have hb := B.bytes
  have hr := B.returns
  have hts := atoms_spec (ws := wsX6_why) B.pre
  have hown : s.vm.findClass RX6 = some m.cls := findClass_of_methodNamed B.named
  have hlocks := B.notSynchronized
  have hS : bS (rA o) s.heap s.heap [] := bS.rf
  have hl := lv_entry ([.ref (o + 0), .int x1]) (n := 2) (Nat.le_of_ble_eq_true rfl)
  rw [lg_entry_eq]
  generalize (lg_sl ([.ref (o + 0), .int x1]) ++ List.replicate (2 - (lg_sl ([.ref (o + 0), .int x1])).length) Slot.unset).toArray = ls at hl ⊢
  have hl : lv_has ls 2 [(0, .ref (o + 0)), (1, .int x1)] := hl
  have hB : bk D E LRM o M s.heap := hB
  have hinX6 : ∀ w ∈ wsX60, w ∈ wsX6_why := by decide +kernel
  refine lv_iload_n hx hb dX6_why_0 rfl (lv_at hl 1 rfl) ?_
  refine b_pI (b_runS (As := [.int x1]) (rest := []) ⟨hx, hb, hml, hown, hts⟩ (c_X6_isDirection l D E x1) (va_cwS 1 hts gX6_why_X6_isDirection rfl rfl rfl (by decide +kernel) ⟨Nat.le_of_ble_eq_true rfl, Nat.le_of_ble_eq_true rfl⟩) hK trivial rfl hl rfl (Nat.le_of_ble_eq_true rfl) dX6_why_1 ⟨Nat.zero_le _, Nat.zero_le _⟩) hS (fun r11 hr11 locs hS => ?_)
  refine lv_if_ne (tgt := 17) hx hb dX6_why_4 (by decide) (fun c12 => ?_) (fun c12 => ?_)
  · refine lv_aload_n hx hb dX6_why_17 rfl (lv_at hl 0 rfl) ?_
    refine b_get (D := D) (E := E) (L := LRM) (o := o) (M := M) (v := .ref (o + 3)) (C := RX6) (T := TX6) (N := 7) hx hb hts hinX6 hown hK.1 hB 0 lay_0 rfl 1 (by decide) (hts (.fieldLink RX6 19 "RiverMeeting" "present" "LRiverMeeting$Game;") (List.mem_of_getElem? (i := 3) rfl)) (fun _ h9 => h9) rfl dX6_why_18 ?_
    refine b_pI (b_runV (As := []) (rest := []) ⟨hx, hb, hml, hown, hts⟩ (c_X0_isOver l D E o M 3 isG_3) (cwV 0 hts gX6_why_X0_isOver rfl rfl rfl (by decide +kernel) ⟨Nat.le_of_ble_eq_true rfl, Nat.le_of_ble_eq_true rfl⟩) hK (bk_recv hK.1 hB isG_3.1 rfl) hB rfl hl rfl (Nat.le_of_ble_eq_true rfl) dX6_why_21 ⟨Nat.zero_le _, Nat.zero_le _⟩) hS (fun r13 hr13 locs hS => ?_)
    refine lv_if_eq (tgt := 31) hx hb dX6_why_24 (by decide) (fun c14 => ?_) (fun c14 => ?_)
    · refine lv_aload_n hx hb dX6_why_31 rfl (lv_at hl 0 rfl) ?_
      refine b_get (D := D) (E := E) (L := LRM) (o := o) (M := M) (v := .ref (o + 3)) (C := RX6) (T := TX6) (N := 7) hx hb hts hinX6 hown hK.1 hB 0 lay_0 rfl 1 (by decide) (hts (.fieldLink RX6 19 "RiverMeeting" "present" "LRiverMeeting$Game;") (List.mem_of_getElem? (i := 3) rfl)) (fun _ h9 => h9) rfl dX6_why_32 ?_
      refine lv_iload_n hx hb dX6_why_35 rfl (lv_at hl 1 rfl) ?_
      refine b_pI (b_runV (As := [.int x1]) (rest := []) ⟨hx, hb, hml, hown, hts⟩ (c_X0_reasonAgainstStep l D E o M 3 x1 isG_3) (cwV 1 hts gX6_why_X0_reasonAgainstStep rfl rfl rfl (by decide +kernel) ⟨Nat.le_of_ble_eq_true rfl, Nat.le_of_ble_eq_true rfl⟩) hK (bk_recv hK.1 hB isG_3.1 rfl) hB rfl hl rfl (Nat.le_of_ble_eq_true rfl) dX6_why_36 ⟨Nat.zero_le _, Nat.zero_le _⟩) hS (fun r15 hr15 locs hS => ?_)
      have e16 := p_X6_why_e16 M x1 r11 hr11.symm c12 r13 hr13.symm c14 r15 hr15.symm
      exact x_iret hx hb hr hlocks hS ⟨_, rfl, _, e16, hB⟩ dX6_why_39
    · refine lv_iconst (v := (-1)) hx hb dX6_why_27 (by decide) ?_
      refine lv_goto (tgt := 39) hx hb dX6_why_28 (by decide) ?_
      have e17 := p_X6_why_e17 M x1 r11 hr11.symm c12 r13 hr13.symm c14
      exact x_iret hx hb hr hlocks hS ⟨_, rfl, _, e17, hB⟩ dX6_why_39
  · have e18 := p_X6_why_e18 M x1 r11 hr11.symm c12
    obtain ⟨sa, hsa⟩ := hKX.2.2 10 _ rfl
    exact vx_throwS (cls := xIAE) (names := xNames) (ik := 53) (is := 214) (ic := 57) (A := rA o) hx hb hst hown fit1 fitN (hts (.classLink RX6 53 "java/lang/IllegalArgumentException") (List.mem_of_getElem? (i := 1) rfl)) (hts (.initialized "java/lang/IllegalArgumentException") (List.mem_of_getElem? (i := 2) rfl)) hsa (vx_hat (B := thrB) (fun w hw => hts w (List.mem_cons_of_mem _ (List.mem_append_right _ hw))) ng1 (bT.words hKX.2.1)) ot1 hZ.1 hZ.2 (bS_va hS) (hl.1.trans hml.symm) dX6_why_7 dX6_why_10 dX6_why_11 dX6_why_13 dX6_why_16 (fun x hx9 => (ht x hx9).elim) (by decide) (Nat.le_of_ble_eq_true rfl) (Nat.le_refl _) (Nat.le_refl _) hlocks (x_throw (en := 1) hB hS (bk_lt hB) ⟨by decide, e18⟩ rfl) hS.2.2 (Nat.le_refl _) (Nat.le_refl _)
def f_X6_whyDam (M : bM) (x1 : Int32) (x2 : Int32) : Nat × Int32 × bM := (let r11 : Int32 := f_X6_cellAt x1 x2; (if r11 = (-1) then (3, 0, M) else (let r13 : Int32 := f_X0_isOver M 3; (if r13 = 0 then (let r16 : Int32 := (f_X0_reasonAgainstDam M 3 r11).1; (let M15 : bM := (f_X0_reasonAgainstDam M 3 r11).2; (0, r16, M15))) else (0, (-1), M)))))
theorem u_f_X6_whyDam (M : bM) (x1 : Int32) (x2 : Int32) : f_X6_whyDam M x1 x2 = (let r11 : Int32 := f_X6_cellAt x1 x2; (if r11 = (-1) then (3, 0, M) else (let r13 : Int32 := f_X0_isOver M 3; (if r13 = 0 then (let r16 : Int32 := (f_X0_reasonAgainstDam M 3 r11).1; (let M15 : bM := (f_X0_reasonAgainstDam M 3 r11).2; (0, r16, M15))) else (0, (-1), M))))) := rfl
theorem p_X6_whyDam_e17 (M : bM) (x1 : Int32) (x2 : Int32) (r11 : Int32) (hr11 : f_X6_cellAt x1 x2 = r11) (c12 : ¬ r11 = (-1)) (r13 : Int32) (hr13 : f_X0_isOver M 3 = r13) (c14 : r13 = 0) (r16 : Int32) (hr16 : (f_X0_reasonAgainstDam M 3 r11).1 = r16) (M15 : bM) (hM15 : (f_X0_reasonAgainstDam M 3 r11).2 = M15) : f_X6_whyDam M x1 x2 = (0, r16, M15) := by subst hM15 hr16 hr13 hr11; exact Eq.trans (u_f_X6_whyDam M x1 x2) (Eq.trans (if_neg c12) (if_pos c14))
theorem p_X6_whyDam_e18 (M : bM) (x1 : Int32) (x2 : Int32) (r11 : Int32) (hr11 : f_X6_cellAt x1 x2 = r11) (c12 : ¬ r11 = (-1)) (r13 : Int32) (hr13 : f_X0_isOver M 3 = r13) (c14 : ¬ r13 = 0) : f_X6_whyDam M x1 x2 = (0, (-1), M) := by subst hr13 hr11; exact Eq.trans (u_f_X6_whyDam M x1 x2) (Eq.trans (if_neg c12) (if_neg c14))
theorem p_X6_whyDam_e19 (M : bM) (x1 : Int32) (x2 : Int32) (r11 : Int32) (hr11 : f_X6_cellAt x1 x2 = r11) (c12 : r11 = (-1)) : f_X6_whyDam M x1 x2 = (3, 0, M) := by subst hr11; exact Eq.trans (u_f_X6_whyDam M x1 x2) (if_pos c12)
set_option maxHeartbeats 4000000 in
set_option maxRecDepth 100000 in
theorem c_X6_whyDam (l : Launch) (hst : l.stackTraces = false) (D : va_G) (E : Nat → ClassId) (o : Nat) (M : bM) (x1 : Int32) (x2 : Int32) : vx_Met l yX6_whyDam wsX6_whyDam (rmX 6) (bPx D E [.ref (o + 0), .int x1, .int x2] (fun H => bk D E LRM o M H) (rA o)) (bQ (aI fun r H => ∃ M1 : bM, f_X6_whyDam M x1 x2 = (0, r, M1) ∧ bk D E LRM o M1 H) (rA o)) (bX D E LRM o (fun e M1 => e ≠ 0 ∧ f_X6_whyDam M x1 x2 = (e, 0, M1)) (rA o)) 1 6 (rA o) := by
  refine vx_ofW (cc := cX6_whyDam) (maxL := 4) (ret := (some .int)) (by decide) rfl ?_
  intro p e s m args below meth c s₁ B hml ht hv
  obtain ⟨rfl, hB, hKX, hZ⟩ := hv
  have hK := hKX.1
  have hx := B.exec
  have hb := B.bytes
  have hr := B.returns
  have hts := atoms_spec (ws := wsX6_whyDam) B.pre
  have hown : s.vm.findClass RX6 = some m.cls := findClass_of_methodNamed B.named
  have hlocks := B.notSynchronized
  have hS : bS (rA o) s.heap s.heap [] := bS.rf
  have hl := lv_entry ([.ref (o + 0), .int x1, .int x2]) (n := 4) (Nat.le_of_ble_eq_true rfl)
  rw [lg_entry_eq]
  generalize (lg_sl ([.ref (o + 0), .int x1, .int x2]) ++ List.replicate (4 - (lg_sl ([.ref (o + 0), .int x1, .int x2])).length) Slot.unset).toArray = ls at hl ⊢
  have hl : lv_has ls 4 [(0, .ref (o + 0)), (1, .int x1), (2, .int x2)] := hl
  have hB : bk D E LRM o M s.heap := hB
  have hinX6 : ∀ w ∈ wsX60, w ∈ wsX6_whyDam := by decide +kernel
  refine lv_iload_n hx hb dX6_whyDam_0 rfl (lv_at hl 1 rfl) ?_
  refine lv_iload_n hx hb dX6_whyDam_1 rfl (lv_at hl 2 rfl) ?_
  refine b_pI (b_runS (As := [.int x1, .int x2]) (rest := []) ⟨hx, hb, hml, hown, hts⟩ (c_X6_cellAt l D E x1 x2) (va_cwS 2 hts gX6_whyDam_X6_cellAt rfl rfl rfl (by decide +kernel) ⟨Nat.le_of_ble_eq_true rfl, Nat.le_of_ble_eq_true rfl⟩) hK trivial rfl hl rfl (Nat.le_of_ble_eq_true rfl) dX6_whyDam_2 ⟨Nat.zero_le _, Nat.zero_le _⟩) hS (fun r11 hr11 locs hS => ?_)
  refine lv_istore_n (lv' := [(3, .int r11), (0, .ref (o + 0)), (1, .int x1), (2, .int x2)]) hx hb dX6_whyDam_5 rfl hl (by decide) rfl (fun ls hl => ?_)
  refine lv_iload_n hx hb dX6_whyDam_6 rfl (lv_at hl 0 rfl) ?_
  refine lv_iconst (v := (-1)) hx hb dX6_whyDam_7 (by decide) ?_
  refine lv_icmp_ne (tgt := 21) hx hb dX6_whyDam_8 (by decide) (fun c12 => ?_) (fun c12 => ?_)
  · refine lv_aload_n hx hb dX6_whyDam_21 rfl (lv_at hl 1 rfl) ?_
    refine b_get (D := D) (E := E) (L := LRM) (o := o) (M := M) (v := .ref (o + 3)) (C := RX6) (T := TX6) (N := 7) hx hb hts hinX6 hown hK.1 hB 0 lay_0 rfl 1 (by decide) (hts (.fieldLink RX6 19 "RiverMeeting" "present" "LRiverMeeting$Game;") (List.mem_of_getElem? (i := 3) rfl)) (fun _ h9 => h9) rfl dX6_whyDam_22 ?_
    refine b_pI (b_runV (As := []) (rest := []) ⟨hx, hb, hml, hown, hts⟩ (c_X0_isOver l D E o M 3 isG_3) (cwV 0 hts gX6_whyDam_X0_isOver rfl rfl rfl (by decide +kernel) ⟨Nat.le_of_ble_eq_true rfl, Nat.le_of_ble_eq_true rfl⟩) hK (bk_recv hK.1 hB isG_3.1 rfl) hB rfl hl rfl (Nat.le_of_ble_eq_true rfl) dX6_whyDam_25 ⟨Nat.zero_le _, Nat.zero_le _⟩) hS (fun r13 hr13 locs hS => ?_)
    refine lv_if_eq (tgt := 35) hx hb dX6_whyDam_28 (by decide) (fun c14 => ?_) (fun c14 => ?_)
    · refine lv_aload_n hx hb dX6_whyDam_35 rfl (lv_at hl 1 rfl) ?_
      refine b_get (D := D) (E := E) (L := LRM) (o := o) (M := M) (v := .ref (o + 3)) (C := RX6) (T := TX6) (N := 7) hx hb hts hinX6 hown hK.1 hB 0 lay_0 rfl 1 (by decide) (hts (.fieldLink RX6 19 "RiverMeeting" "present" "LRiverMeeting$Game;") (List.mem_of_getElem? (i := 3) rfl)) (fun _ h9 => h9) rfl dX6_whyDam_36 ?_
      refine lv_iload_n hx hb dX6_whyDam_39 rfl (lv_at hl 0 rfl) ?_
      refine lv_aload_n hx hb dX6_whyDam_40 rfl (lv_at hl 1 rfl) ?_
      refine b_get (D := D) (E := E) (L := LRM) (o := o) (M := M) (v := .ref (o + 23)) (C := RX6) (T := TX6) (N := 7) hx hb hts hinX6 hown hK.1 hB 0 lay_0 rfl 3 (by decide) (hts (.fieldLink RX6 29 "RiverMeeting" "ways" "LRiverMeeting$Ways;") (List.mem_of_getElem? (i := 4) rfl)) (fun _ h9 => h9) rfl dX6_whyDam_41 ?_
      refine b_mI (b_runV (As := [.int r11, .ref (o + 23)]) (rest := []) ⟨hx, hb, hml, hown, hts⟩ (c_X0_reasonAgainstDam l D E o M 3 r11 isG_3) (cwV 2 hts gX6_whyDam_X0_reasonAgainstDam rfl rfl rfl (by decide +kernel) ⟨Nat.le_of_ble_eq_true rfl, Nat.le_of_ble_eq_true rfl⟩) hK (bk_recv hK.1 hB isG_3.1 rfl) hB rfl hl rfl (Nat.le_of_ble_eq_true rfl) dX6_whyDam_44 ⟨Nat.zero_le _, Nat.zero_le _⟩) hS (fun q h => h) (fun r16 M15 hM15 H locs hB _ hS => ?_)
      obtain ⟨hr16, hM15⟩ := hM15
      have e17 := p_X6_whyDam_e17 M x1 x2 r11 hr11.symm c12 r13 hr13.symm c14 r16 hr16.symm M15 hM15.symm
      exact x_iret hx hb hr hlocks hS ⟨_, rfl, _, e17, hB⟩ dX6_whyDam_47
    · refine lv_iconst (v := (-1)) hx hb dX6_whyDam_31 (by decide) ?_
      refine lv_goto (tgt := 47) hx hb dX6_whyDam_32 (by decide) ?_
      have e18 := p_X6_whyDam_e18 M x1 x2 r11 hr11.symm c12 r13 hr13.symm c14
      exact x_iret hx hb hr hlocks hS ⟨_, rfl, _, e18, hB⟩ dX6_whyDam_47
  · have e19 := p_X6_whyDam_e19 M x1 x2 r11 hr11.symm c12
    obtain ⟨sa, hsa⟩ := hKX.2.2 6 _ rfl
    exact vx_throwS (cls := xIOB) (names := xNames) (ik := 139) (is := 172) (ic := 143) (A := rA o) hx hb hst hown fit3 fitN (hts (.classLink RX6 139 "java/lang/IndexOutOfBoundsException") (List.mem_of_getElem? (i := 1) rfl)) (hts (.initialized "java/lang/IndexOutOfBoundsException") (List.mem_of_getElem? (i := 2) rfl)) hsa (vx_hat (B := thrB) (fun w hw => hts w (List.mem_cons_of_mem _ (List.mem_append_right _ hw))) ng3 (bT.words hKX.2.1)) ot3 hZ.1 hZ.2 (bS_va hS) (hl.1.trans hml.symm) dX6_whyDam_11 dX6_whyDam_14 dX6_whyDam_15 dX6_whyDam_17 dX6_whyDam_20 (fun x hx9 => (ht x hx9).elim) (by decide) (Nat.le_of_ble_eq_true rfl) (Nat.le_refl _) (Nat.le_refl _) hlocks (x_throw (en := 3) hB hS (bk_lt hB) ⟨by decide, e19⟩ rfl) hS.2.2 (Nat.le_refl _) (Nat.le_refl _)
def f_X6_cheapest (M : bM) (x1 : Int32) (x2 : Int32) : Nat × Int32 × bM := (let r11 : Int32 := f_X6_isPlayer x1; (if r11 = 0 then (3, 0, M) else (if x2 = 0 then (let k15 : Nat := f_X0_sideOf M 3 x1; (let M16 : bM := f_X5_openFree M 3; (if x2 = 0 then (let r22 : Int32 := f_X2_head M16 k15; (let r24 : Int32 := (f_X5_cheapestCellFirst M16 (k15 + 1) r22).1; (let M23 : bM := (f_X5_cheapestCellFirst M16 (k15 + 1) r22).2; (0, r24, M23)))) else (let r18 : Int32 := f_X2_head M16 k15; (let r20 : Int32 := (f_X5_cheapestByRounds M16 (k15 + 1) r18).1; (let M19 : bM := (f_X5_cheapestByRounds M16 (k15 + 1) r18).2; (0, r20, M19))))))) else (if x2 = 1 then (let k28 : Nat := f_X0_sideOf M 3 x1; (let M29 : bM := f_X5_openFree M 3; (if x2 = 0 then (let r35 : Int32 := f_X2_head M29 k28; (let r37 : Int32 := (f_X5_cheapestCellFirst M29 (k28 + 1) r35).1; (let M36 : bM := (f_X5_cheapestCellFirst M29 (k28 + 1) r35).2; (0, r37, M36)))) else (let r31 : Int32 := f_X2_head M29 k28; (let r33 : Int32 := (f_X5_cheapestByRounds M29 (k28 + 1) r31).1; (let M32 : bM := (f_X5_cheapestByRounds M29 (k28 + 1) r31).2; (0, r33, M32))))))) else (1, 0, M)))))
theorem u_f_X6_cheapest (M : bM) (x1 : Int32) (x2 : Int32) : f_X6_cheapest M x1 x2 = (let r11 : Int32 := f_X6_isPlayer x1; (if r11 = 0 then (3, 0, M) else (if x2 = 0 then (let k15 : Nat := f_X0_sideOf M 3 x1; (let M16 : bM := f_X5_openFree M 3; (if x2 = 0 then (let r22 : Int32 := f_X2_head M16 k15; (let r24 : Int32 := (f_X5_cheapestCellFirst M16 (k15 + 1) r22).1; (let M23 : bM := (f_X5_cheapestCellFirst M16 (k15 + 1) r22).2; (0, r24, M23)))) else (let r18 : Int32 := f_X2_head M16 k15; (let r20 : Int32 := (f_X5_cheapestByRounds M16 (k15 + 1) r18).1; (let M19 : bM := (f_X5_cheapestByRounds M16 (k15 + 1) r18).2; (0, r20, M19))))))) else (if x2 = 1 then (let k28 : Nat := f_X0_sideOf M 3 x1; (let M29 : bM := f_X5_openFree M 3; (if x2 = 0 then (let r35 : Int32 := f_X2_head M29 k28; (let r37 : Int32 := (f_X5_cheapestCellFirst M29 (k28 + 1) r35).1; (let M36 : bM := (f_X5_cheapestCellFirst M29 (k28 + 1) r35).2; (0, r37, M36)))) else (let r31 : Int32 := f_X2_head M29 k28; (let r33 : Int32 := (f_X5_cheapestByRounds M29 (k28 + 1) r31).1; (let M32 : bM := (f_X5_cheapestByRounds M29 (k28 + 1) r31).2; (0, r33, M32))))))) else (1, 0, M))))) := rfl
theorem p_X6_cheapest_e21 (M : bM) (x1 : Int32) (x2 : Int32) (r11 : Int32) (hr11 : f_X6_isPlayer x1 = r11) (c12 : ¬ r11 = 0) (c13 : x2 = 0) (k15 : Nat) (hk15 : f_X0_sideOf M 3 x1 = k15) (M16 : bM) (hM16 : f_X5_openFree M 3 = M16) (c17 : ¬ x2 = 0) (r18 : Int32) (hr18 : f_X2_head M16 k15 = r18) (r20 : Int32) (hr20 : (f_X5_cheapestByRounds M16 (k15 + 1) r18).1 = r20) (M19 : bM) (hM19 : (f_X5_cheapestByRounds M16 (k15 + 1) r18).2 = M19) : f_X6_cheapest M x1 x2 = (0, r20, M19) := by subst hM19 hr20 hr18 hM16 hk15 hr11; exact Eq.trans (u_f_X6_cheapest M x1 x2) (Eq.trans (if_neg c12) (Eq.trans (if_pos c13) (if_neg c17)))
theorem p_X6_cheapest_e25 (M : bM) (x1 : Int32) (x2 : Int32) (r11 : Int32) (hr11 : f_X6_isPlayer x1 = r11) (c12 : ¬ r11 = 0) (c13 : x2 = 0) (k15 : Nat) (hk15 : f_X0_sideOf M 3 x1 = k15) (M16 : bM) (hM16 : f_X5_openFree M 3 = M16) (c17 : x2 = 0) (r22 : Int32) (hr22 : f_X2_head M16 k15 = r22) (r24 : Int32) (hr24 : (f_X5_cheapestCellFirst M16 (k15 + 1) r22).1 = r24) (M23 : bM) (hM23 : (f_X5_cheapestCellFirst M16 (k15 + 1) r22).2 = M23) : f_X6_cheapest M x1 x2 = (0, r24, M23) := by subst hM23 hr24 hr22 hM16 hk15 hr11; exact Eq.trans (u_f_X6_cheapest M x1 x2) (Eq.trans (if_neg c12) (Eq.trans (if_pos c13) (if_pos c17)))
theorem p_X6_cheapest_e34 (M : bM) (x1 : Int32) (x2 : Int32) (r11 : Int32) (hr11 : f_X6_isPlayer x1 = r11) (c12 : ¬ r11 = 0) (c13 : ¬ x2 = 0) (c26 : x2 = 1) (k28 : Nat) (hk28 : f_X0_sideOf M 3 x1 = k28) (M29 : bM) (hM29 : f_X5_openFree M 3 = M29) (c30 : ¬ x2 = 0) (r31 : Int32) (hr31 : f_X2_head M29 k28 = r31) (r33 : Int32) (hr33 : (f_X5_cheapestByRounds M29 (k28 + 1) r31).1 = r33) (M32 : bM) (hM32 : (f_X5_cheapestByRounds M29 (k28 + 1) r31).2 = M32) : f_X6_cheapest M x1 x2 = (0, r33, M32) := by subst hM32 hr33 hr31 hM29 hk28 hr11; exact Eq.trans (u_f_X6_cheapest M x1 x2) (Eq.trans (if_neg c12) (Eq.trans (if_neg c13) (Eq.trans (if_pos c26) (if_neg c30))))
theorem p_X6_cheapest_e38 (M : bM) (x1 : Int32) (x2 : Int32) (r11 : Int32) (hr11 : f_X6_isPlayer x1 = r11) (c12 : ¬ r11 = 0) (c13 : ¬ x2 = 0) (c26 : x2 = 1) (k28 : Nat) (hk28 : f_X0_sideOf M 3 x1 = k28) (M29 : bM) (hM29 : f_X5_openFree M 3 = M29) (c30 : x2 = 0) (r35 : Int32) (hr35 : f_X2_head M29 k28 = r35) (r37 : Int32) (hr37 : (f_X5_cheapestCellFirst M29 (k28 + 1) r35).1 = r37) (M36 : bM) (hM36 : (f_X5_cheapestCellFirst M29 (k28 + 1) r35).2 = M36) : f_X6_cheapest M x1 x2 = (0, r37, M36) := by subst hM36 hr37 hr35 hM29 hk28 hr11; exact Eq.trans (u_f_X6_cheapest M x1 x2) (Eq.trans (if_neg c12) (Eq.trans (if_neg c13) (Eq.trans (if_pos c26) (if_pos c30))))
theorem p_X6_cheapest_e39 (M : bM) (x1 : Int32) (x2 : Int32) (r11 : Int32) (hr11 : f_X6_isPlayer x1 = r11) (c12 : ¬ r11 = 0) (c13 : ¬ x2 = 0) (c26 : ¬ x2 = 1) : f_X6_cheapest M x1 x2 = (1, 0, M) := by subst hr11; exact Eq.trans (u_f_X6_cheapest M x1 x2) (Eq.trans (if_neg c12) (Eq.trans (if_neg c13) (if_neg c26)))
theorem p_X6_cheapest_e40 (M : bM) (x1 : Int32) (x2 : Int32) (r11 : Int32) (hr11 : f_X6_isPlayer x1 = r11) (c12 : r11 = 0) : f_X6_cheapest M x1 x2 = (3, 0, M) := by subst hr11; exact Eq.trans (u_f_X6_cheapest M x1 x2) (if_pos c12)
set_option maxHeartbeats 4000000 in
set_option maxRecDepth 100000 in
theorem c_X6_cheapest (l : Launch) (hst : l.stackTraces = false) (D : va_G) (E : Nat → ClassId) (o : Nat) (M : bM) (x1 : Int32) (x2 : Int32) : vx_Met l yX6_cheapest wsX6_cheapest (rmX 6) (bPx D E [.ref (o + 0), .int x1, .int x2] (fun H => bk D E LRM o M H) (rA o)) (bQ (aI fun r H => ∃ M1 : bM, f_X6_cheapest M x1 x2 = (0, r, M1) ∧ bk D E LRM o M1 H) (rA o)) (bX D E LRM o (fun e M1 => e ≠ 0 ∧ f_X6_cheapest M x1 x2 = (e, 0, M1)) (rA o)) 1 6 (rA o) := by
  refine vx_ofW (cc := cX6_cheapest) (maxL := 4) (ret := (some .int)) (by decide) rfl ?_
  intro p e s m args below meth c s₁ B hml ht hv
  obtain ⟨rfl, hB, hKX, hZ⟩ := hv
  have hK := hKX.1
  have hx := B.exec
  have hb := B.bytes
  have hr := B.returns
  have hts := atoms_spec (ws := wsX6_cheapest) B.pre
  have hown : s.vm.findClass RX6 = some m.cls := findClass_of_methodNamed B.named
  have hlocks := B.notSynchronized
  have hS : bS (rA o) s.heap s.heap [] := bS.rf
  have hl := lv_entry ([.ref (o + 0), .int x1, .int x2]) (n := 4) (Nat.le_of_ble_eq_true rfl)
  rw [lg_entry_eq]
  generalize (lg_sl ([.ref (o + 0), .int x1, .int x2]) ++ List.replicate (4 - (lg_sl ([.ref (o + 0), .int x1, .int x2])).length) Slot.unset).toArray = ls at hl ⊢
  have hl : lv_has ls 4 [(0, .ref (o + 0)), (1, .int x1), (2, .int x2)] := hl
  have hB : bk D E LRM o M s.heap := hB
  have hinX2 : ∀ w ∈ wsX20, w ∈ wsX6_cheapest := by decide +kernel
  have hinX6 : ∀ w ∈ wsX60, w ∈ wsX6_cheapest := by decide +kernel
  refine lv_iload_n hx hb dX6_cheapest_0 rfl (lv_at hl 1 rfl) ?_
  refine b_pI (b_runS (As := [.int x1]) (rest := []) ⟨hx, hb, hml, hown, hts⟩ (c_X6_isPlayer l D E x1) (va_cwS 1 hts gX6_cheapest_X6_isPlayer rfl rfl rfl (by decide +kernel) ⟨Nat.le_of_ble_eq_true rfl, Nat.le_of_ble_eq_true rfl⟩) hK trivial rfl hl rfl (Nat.le_of_ble_eq_true rfl) dX6_cheapest_1 ⟨Nat.zero_le _, Nat.zero_le _⟩) hS (fun r11 hr11 locs hS => ?_)
  refine lv_if_ne (tgt := 17) hx hb dX6_cheapest_4 (by decide) (fun c12 => ?_) (fun c12 => ?_)
  · refine lv_iload_n hx hb dX6_cheapest_17 rfl (lv_at hl 2 rfl) ?_
    refine lv_if_eq (tgt := 37) hx hb dX6_cheapest_18 (by decide) (fun c13 => ?_) (fun c13 => ?_)
    · refine lv_aload_n hx hb dX6_cheapest_37 rfl (lv_at hl 0 rfl) ?_
      refine b_get (D := D) (E := E) (L := LRM) (o := o) (M := M) (v := .ref (o + 3)) (C := RX6) (T := TX6) (N := 7) hx hb hts hinX6 hown hK.1 hB 0 lay_0 rfl 1 (by decide) (hts (.fieldLink RX6 19 "RiverMeeting" "present" "LRiverMeeting$Game;") (List.mem_of_getElem? (i := 5) rfl)) (fun _ h9 => h9) rfl dX6_cheapest_38 ?_
      refine lv_iload_n hx hb dX6_cheapest_41 rfl (lv_at hl 1 rfl) ?_
      refine b_pR (b_runV (As := [.int x1]) (rest := []) ⟨hx, hb, hml, hown, hts⟩ (c_X0_sideOf l D E o M 3 x1 isG_3) (cwV 1 hts gX6_cheapest_X0_sideOf rfl rfl rfl (by decide +kernel) ⟨Nat.le_of_ble_eq_true rfl, Nat.le_of_ble_eq_true rfl⟩) hK (bk_recv hK.1 hB isG_3.1 rfl) hB rfl hl rfl (Nat.le_of_ble_eq_true rfl) dX6_cheapest_42 ⟨Nat.zero_le _, Nat.zero_le _⟩) hS (fun r14 hr14 locs hS => ?_)
      obtain ⟨k15, hk15⟩ : ∃ y : Nat, y = f_X0_sideOf M 3 x1 := ⟨_, rfl⟩
      rw [← hk15] at hr14; subst hr14
      have hfk15 : isS k15 := by rw [hk15]; exact (isS_sideOf isG_3)
      refine lv_astore_n (lv' := [(3, .ref (o + k15)), (0, .ref (o + 0)), (1, .int x1), (2, .int x2)]) hx hb dX6_cheapest_45 rfl hl (by decide) rfl (fun ls hl => ?_)
      refine lv_aload_n hx hb dX6_cheapest_46 rfl (lv_at hl 1 rfl) ?_
      refine b_get (D := D) (E := E) (L := LRM) (o := o) (M := M) (v := .ref (o + 23)) (C := RX6) (T := TX6) (N := 7) hx hb hts hinX6 hown hK.1 hB 0 lay_0 rfl 3 (by decide) (hts (.fieldLink RX6 29 "RiverMeeting" "ways" "LRiverMeeting$Ways;") (List.mem_of_getElem? (i := 6) rfl)) (fun _ h9 => h9) rfl dX6_cheapest_47 ?_
      refine lv_aload_n hx hb dX6_cheapest_50 rfl (lv_at hl 1 rfl) ?_
      refine b_get (D := D) (E := E) (L := LRM) (o := o) (M := M) (v := .ref (o + 3)) (C := RX6) (T := TX6) (N := 7) hx hb hts hinX6 hown hK.1 hB 0 lay_0 rfl 1 (by decide) (hts (.fieldLink RX6 19 "RiverMeeting" "present" "LRiverMeeting$Game;") (List.mem_of_getElem? (i := 5) rfl)) (fun _ h9 => h9) rfl dX6_cheapest_51 ?_
      refine b_mV (b_runV (As := [.ref (o + 3)]) (rest := []) ⟨hx, hb, hml, hown, hts⟩ (c_X5_openFree l D E o M 3 isG_3) (cwV 1 hts gX6_cheapest_X5_openFree rfl rfl rfl (by decide +kernel) ⟨Nat.le_of_ble_eq_true rfl, Nat.le_of_ble_eq_true rfl⟩) hK (bk_recv hK.1 hB lay_23 rfl) hB rfl hl rfl (Nat.le_of_ble_eq_true rfl) dX6_cheapest_54 ⟨Nat.zero_le _, Nat.zero_le _⟩) hS (fun q h => h) (fun M16 hM16 H locs hB _ hS => ?_)
      refine lv_iload_n hx hb dX6_cheapest_57 rfl (lv_at hl 3 rfl) ?_
      refine lv_if_ne (tgt := 77) hx hb dX6_cheapest_58 (by decide) (fun c17 => ?_) (fun c17 => ?_)
      · refine lv_aload_n hx hb dX6_cheapest_77 rfl (lv_at hl 1 rfl) ?_
        refine b_get (D := D) (E := E) (L := LRM) (o := o) (M := M16) (v := .ref (o + 23)) (C := RX6) (T := TX6) (N := 7) hx hb hts hinX6 hown hK.1 hB 0 lay_0 rfl 3 (by decide) (hts (.fieldLink RX6 29 "RiverMeeting" "ways" "LRiverMeeting$Ways;") (List.mem_of_getElem? (i := 6) rfl)) (fun _ h9 => h9) rfl dX6_cheapest_78 ?_
        refine lv_aload_n hx hb dX6_cheapest_81 rfl (lv_at hl 0 rfl) ?_
        refine b_get (D := D) (E := E) (L := LRM) (o := o) (M := M16) (v := .ref (o + (k15 + 1))) (C := RX2) (T := TX2) (N := 8) hx hb hts hinX2 hown hK.1 hB k15 hfk15.1 rfl 0 (by decide) (hts (.fieldLink RX6 261 "RiverMeeting$Side" "costs" "[I") (List.mem_of_getElem? (i := 7) rfl)) (fun _ h9 => h9) rfl dX6_cheapest_82 ?_
        refine lv_aload_n hx hb dX6_cheapest_85 rfl (lv_at hl 0 rfl) ?_
        refine b_pI (b_runV (As := []) (rest := [.ref (o + (k15 + 1)), .ref (o + 23)]) ⟨hx, hb, hml, hown, hts⟩ (c_X2_head l D E o M16 k15 hfk15) (cwV 0 hts gX6_cheapest_X2_head rfl rfl rfl (by decide +kernel) ⟨Nat.le_of_ble_eq_true rfl, Nat.le_of_ble_eq_true rfl⟩) hK (bk_recv hK.1 hB hfk15.1 rfl) hB rfl hl rfl (Nat.le_of_ble_eq_true rfl) dX6_cheapest_86 ⟨Nat.zero_le _, Nat.zero_le _⟩) hS (fun r18 hr18 locs hS => ?_)
        refine b_mI (b_runV (As := [.ref (o + (k15 + 1)), .int r18]) (rest := []) ⟨hx, hb, hml, hown, hts⟩ (c_X5_cheapestByRounds l D E o M16 (k15 + 1) r18 hfk15.2.1) (cwV 2 hts gX6_cheapest_X5_cheapestByRounds rfl rfl rfl (by decide +kernel) ⟨Nat.le_of_ble_eq_true rfl, Nat.le_of_ble_eq_true rfl⟩) hK (bk_recv hK.1 hB lay_23 rfl) hB rfl hl rfl (Nat.le_of_ble_eq_true rfl) dX6_cheapest_89 ⟨Nat.zero_le _, Nat.zero_le _⟩) hS (fun q h => h) (fun r20 M19 hM19 H locs hB _ hS => ?_)
        obtain ⟨hr20, hM19⟩ := hM19
        have e21 := p_X6_cheapest_e21 M x1 x2 r11 hr11.symm c12 c13 k15 hk15.symm M16 hM16.symm c17 r18 hr18.symm r20 hr20.symm M19 hM19.symm
        exact x_iret hx hb hr hlocks hS ⟨_, rfl, _, e21, hB⟩ dX6_cheapest_92
      · refine lv_aload_n hx hb dX6_cheapest_61 rfl (lv_at hl 1 rfl) ?_
        refine b_get (D := D) (E := E) (L := LRM) (o := o) (M := M16) (v := .ref (o + 23)) (C := RX6) (T := TX6) (N := 7) hx hb hts hinX6 hown hK.1 hB 0 lay_0 rfl 3 (by decide) (hts (.fieldLink RX6 29 "RiverMeeting" "ways" "LRiverMeeting$Ways;") (List.mem_of_getElem? (i := 6) rfl)) (fun _ h9 => h9) rfl dX6_cheapest_62 ?_
        refine lv_aload_n hx hb dX6_cheapest_65 rfl (lv_at hl 0 rfl) ?_
        refine b_get (D := D) (E := E) (L := LRM) (o := o) (M := M16) (v := .ref (o + (k15 + 1))) (C := RX2) (T := TX2) (N := 8) hx hb hts hinX2 hown hK.1 hB k15 hfk15.1 rfl 0 (by decide) (hts (.fieldLink RX6 261 "RiverMeeting$Side" "costs" "[I") (List.mem_of_getElem? (i := 7) rfl)) (fun _ h9 => h9) rfl dX6_cheapest_66 ?_
        refine lv_aload_n hx hb dX6_cheapest_69 rfl (lv_at hl 0 rfl) ?_
        refine b_pI (b_runV (As := []) (rest := [.ref (o + (k15 + 1)), .ref (o + 23)]) ⟨hx, hb, hml, hown, hts⟩ (c_X2_head l D E o M16 k15 hfk15) (cwV 0 hts gX6_cheapest_X2_head rfl rfl rfl (by decide +kernel) ⟨Nat.le_of_ble_eq_true rfl, Nat.le_of_ble_eq_true rfl⟩) hK (bk_recv hK.1 hB hfk15.1 rfl) hB rfl hl rfl (Nat.le_of_ble_eq_true rfl) dX6_cheapest_70 ⟨Nat.zero_le _, Nat.zero_le _⟩) hS (fun r22 hr22 locs hS => ?_)
        refine b_mI (b_runV (As := [.ref (o + (k15 + 1)), .int r22]) (rest := []) ⟨hx, hb, hml, hown, hts⟩ (c_X5_cheapestCellFirst l D E o M16 (k15 + 1) r22 hfk15.2.1) (cwV 2 hts gX6_cheapest_X5_cheapestCellFirst rfl rfl rfl (by decide +kernel) ⟨Nat.le_of_ble_eq_true rfl, Nat.le_of_ble_eq_true rfl⟩) hK (bk_recv hK.1 hB lay_23 rfl) hB rfl hl rfl (Nat.le_of_ble_eq_true rfl) dX6_cheapest_73 ⟨Nat.zero_le _, Nat.zero_le _⟩) hS (fun q h => h) (fun r24 M23 hM23 H locs hB _ hS => ?_)
        obtain ⟨hr24, hM23⟩ := hM23
        have e25 := p_X6_cheapest_e25 M x1 x2 r11 hr11.symm c12 c13 k15 hk15.symm M16 hM16.symm c17 r22 hr22.symm r24 hr24.symm M23 hM23.symm
        exact x_iret hx hb hr hlocks hS ⟨_, rfl, _, e25, hB⟩ dX6_cheapest_76
    · refine lv_iload_n hx hb dX6_cheapest_21 rfl (lv_at hl 2 rfl) ?_
      refine lv_iconst (v := 1) hx hb dX6_cheapest_22 (by decide) ?_
      refine lv_icmp_eq (tgt := 37) hx hb dX6_cheapest_23 (by decide) (fun c26 => ?_) (fun c26 => ?_)
      · refine lv_aload_n hx hb dX6_cheapest_37 rfl (lv_at hl 0 rfl) ?_
        refine b_get (D := D) (E := E) (L := LRM) (o := o) (M := M) (v := .ref (o + 3)) (C := RX6) (T := TX6) (N := 7) hx hb hts hinX6 hown hK.1 hB 0 lay_0 rfl 1 (by decide) (hts (.fieldLink RX6 19 "RiverMeeting" "present" "LRiverMeeting$Game;") (List.mem_of_getElem? (i := 5) rfl)) (fun _ h9 => h9) rfl dX6_cheapest_38 ?_
        refine lv_iload_n hx hb dX6_cheapest_41 rfl (lv_at hl 1 rfl) ?_
        refine b_pR (b_runV (As := [.int x1]) (rest := []) ⟨hx, hb, hml, hown, hts⟩ (c_X0_sideOf l D E o M 3 x1 isG_3) (cwV 1 hts gX6_cheapest_X0_sideOf rfl rfl rfl (by decide +kernel) ⟨Nat.le_of_ble_eq_true rfl, Nat.le_of_ble_eq_true rfl⟩) hK (bk_recv hK.1 hB isG_3.1 rfl) hB rfl hl rfl (Nat.le_of_ble_eq_true rfl) dX6_cheapest_42 ⟨Nat.zero_le _, Nat.zero_le _⟩) hS (fun r27 hr27 locs hS => ?_)
        obtain ⟨k28, hk28⟩ : ∃ y : Nat, y = f_X0_sideOf M 3 x1 := ⟨_, rfl⟩
        rw [← hk28] at hr27; subst hr27
        have hfk28 : isS k28 := by rw [hk28]; exact (isS_sideOf isG_3)
        refine lv_astore_n (lv' := [(3, .ref (o + k28)), (0, .ref (o + 0)), (1, .int x1), (2, .int x2)]) hx hb dX6_cheapest_45 rfl hl (by decide) rfl (fun ls hl => ?_)
        refine lv_aload_n hx hb dX6_cheapest_46 rfl (lv_at hl 1 rfl) ?_
        refine b_get (D := D) (E := E) (L := LRM) (o := o) (M := M) (v := .ref (o + 23)) (C := RX6) (T := TX6) (N := 7) hx hb hts hinX6 hown hK.1 hB 0 lay_0 rfl 3 (by decide) (hts (.fieldLink RX6 29 "RiverMeeting" "ways" "LRiverMeeting$Ways;") (List.mem_of_getElem? (i := 6) rfl)) (fun _ h9 => h9) rfl dX6_cheapest_47 ?_
        refine lv_aload_n hx hb dX6_cheapest_50 rfl (lv_at hl 1 rfl) ?_
        refine b_get (D := D) (E := E) (L := LRM) (o := o) (M := M) (v := .ref (o + 3)) (C := RX6) (T := TX6) (N := 7) hx hb hts hinX6 hown hK.1 hB 0 lay_0 rfl 1 (by decide) (hts (.fieldLink RX6 19 "RiverMeeting" "present" "LRiverMeeting$Game;") (List.mem_of_getElem? (i := 5) rfl)) (fun _ h9 => h9) rfl dX6_cheapest_51 ?_
        refine b_mV (b_runV (As := [.ref (o + 3)]) (rest := []) ⟨hx, hb, hml, hown, hts⟩ (c_X5_openFree l D E o M 3 isG_3) (cwV 1 hts gX6_cheapest_X5_openFree rfl rfl rfl (by decide +kernel) ⟨Nat.le_of_ble_eq_true rfl, Nat.le_of_ble_eq_true rfl⟩) hK (bk_recv hK.1 hB lay_23 rfl) hB rfl hl rfl (Nat.le_of_ble_eq_true rfl) dX6_cheapest_54 ⟨Nat.zero_le _, Nat.zero_le _⟩) hS (fun q h => h) (fun M29 hM29 H locs hB _ hS => ?_)
        refine lv_iload_n hx hb dX6_cheapest_57 rfl (lv_at hl 3 rfl) ?_
        refine lv_if_ne (tgt := 77) hx hb dX6_cheapest_58 (by decide) (fun c30 => ?_) (fun c30 => ?_)
        · refine lv_aload_n hx hb dX6_cheapest_77 rfl (lv_at hl 1 rfl) ?_
          refine b_get (D := D) (E := E) (L := LRM) (o := o) (M := M29) (v := .ref (o + 23)) (C := RX6) (T := TX6) (N := 7) hx hb hts hinX6 hown hK.1 hB 0 lay_0 rfl 3 (by decide) (hts (.fieldLink RX6 29 "RiverMeeting" "ways" "LRiverMeeting$Ways;") (List.mem_of_getElem? (i := 6) rfl)) (fun _ h9 => h9) rfl dX6_cheapest_78 ?_
          refine lv_aload_n hx hb dX6_cheapest_81 rfl (lv_at hl 0 rfl) ?_
          refine b_get (D := D) (E := E) (L := LRM) (o := o) (M := M29) (v := .ref (o + (k28 + 1))) (C := RX2) (T := TX2) (N := 8) hx hb hts hinX2 hown hK.1 hB k28 hfk28.1 rfl 0 (by decide) (hts (.fieldLink RX6 261 "RiverMeeting$Side" "costs" "[I") (List.mem_of_getElem? (i := 7) rfl)) (fun _ h9 => h9) rfl dX6_cheapest_82 ?_
          refine lv_aload_n hx hb dX6_cheapest_85 rfl (lv_at hl 0 rfl) ?_
          refine b_pI (b_runV (As := []) (rest := [.ref (o + (k28 + 1)), .ref (o + 23)]) ⟨hx, hb, hml, hown, hts⟩ (c_X2_head l D E o M29 k28 hfk28) (cwV 0 hts gX6_cheapest_X2_head rfl rfl rfl (by decide +kernel) ⟨Nat.le_of_ble_eq_true rfl, Nat.le_of_ble_eq_true rfl⟩) hK (bk_recv hK.1 hB hfk28.1 rfl) hB rfl hl rfl (Nat.le_of_ble_eq_true rfl) dX6_cheapest_86 ⟨Nat.zero_le _, Nat.zero_le _⟩) hS (fun r31 hr31 locs hS => ?_)
          refine b_mI (b_runV (As := [.ref (o + (k28 + 1)), .int r31]) (rest := []) ⟨hx, hb, hml, hown, hts⟩ (c_X5_cheapestByRounds l D E o M29 (k28 + 1) r31 hfk28.2.1) (cwV 2 hts gX6_cheapest_X5_cheapestByRounds rfl rfl rfl (by decide +kernel) ⟨Nat.le_of_ble_eq_true rfl, Nat.le_of_ble_eq_true rfl⟩) hK (bk_recv hK.1 hB lay_23 rfl) hB rfl hl rfl (Nat.le_of_ble_eq_true rfl) dX6_cheapest_89 ⟨Nat.zero_le _, Nat.zero_le _⟩) hS (fun q h => h) (fun r33 M32 hM32 H locs hB _ hS => ?_)
          obtain ⟨hr33, hM32⟩ := hM32
          have e34 := p_X6_cheapest_e34 M x1 x2 r11 hr11.symm c12 c13 c26 k28 hk28.symm M29 hM29.symm c30 r31 hr31.symm r33 hr33.symm M32 hM32.symm
          exact x_iret hx hb hr hlocks hS ⟨_, rfl, _, e34, hB⟩ dX6_cheapest_92
        · refine lv_aload_n hx hb dX6_cheapest_61 rfl (lv_at hl 1 rfl) ?_
          refine b_get (D := D) (E := E) (L := LRM) (o := o) (M := M29) (v := .ref (o + 23)) (C := RX6) (T := TX6) (N := 7) hx hb hts hinX6 hown hK.1 hB 0 lay_0 rfl 3 (by decide) (hts (.fieldLink RX6 29 "RiverMeeting" "ways" "LRiverMeeting$Ways;") (List.mem_of_getElem? (i := 6) rfl)) (fun _ h9 => h9) rfl dX6_cheapest_62 ?_
          refine lv_aload_n hx hb dX6_cheapest_65 rfl (lv_at hl 0 rfl) ?_
          refine b_get (D := D) (E := E) (L := LRM) (o := o) (M := M29) (v := .ref (o + (k28 + 1))) (C := RX2) (T := TX2) (N := 8) hx hb hts hinX2 hown hK.1 hB k28 hfk28.1 rfl 0 (by decide) (hts (.fieldLink RX6 261 "RiverMeeting$Side" "costs" "[I") (List.mem_of_getElem? (i := 7) rfl)) (fun _ h9 => h9) rfl dX6_cheapest_66 ?_
          refine lv_aload_n hx hb dX6_cheapest_69 rfl (lv_at hl 0 rfl) ?_
          refine b_pI (b_runV (As := []) (rest := [.ref (o + (k28 + 1)), .ref (o + 23)]) ⟨hx, hb, hml, hown, hts⟩ (c_X2_head l D E o M29 k28 hfk28) (cwV 0 hts gX6_cheapest_X2_head rfl rfl rfl (by decide +kernel) ⟨Nat.le_of_ble_eq_true rfl, Nat.le_of_ble_eq_true rfl⟩) hK (bk_recv hK.1 hB hfk28.1 rfl) hB rfl hl rfl (Nat.le_of_ble_eq_true rfl) dX6_cheapest_70 ⟨Nat.zero_le _, Nat.zero_le _⟩) hS (fun r35 hr35 locs hS => ?_)
          refine b_mI (b_runV (As := [.ref (o + (k28 + 1)), .int r35]) (rest := []) ⟨hx, hb, hml, hown, hts⟩ (c_X5_cheapestCellFirst l D E o M29 (k28 + 1) r35 hfk28.2.1) (cwV 2 hts gX6_cheapest_X5_cheapestCellFirst rfl rfl rfl (by decide +kernel) ⟨Nat.le_of_ble_eq_true rfl, Nat.le_of_ble_eq_true rfl⟩) hK (bk_recv hK.1 hB lay_23 rfl) hB rfl hl rfl (Nat.le_of_ble_eq_true rfl) dX6_cheapest_73 ⟨Nat.zero_le _, Nat.zero_le _⟩) hS (fun q h => h) (fun r37 M36 hM36 H locs hB _ hS => ?_)
          obtain ⟨hr37, hM36⟩ := hM36
          have e38 := p_X6_cheapest_e38 M x1 x2 r11 hr11.symm c12 c13 c26 k28 hk28.symm M29 hM29.symm c30 r35 hr35.symm r37 hr37.symm M36 hM36.symm
          exact x_iret hx hb hr hlocks hS ⟨_, rfl, _, e38, hB⟩ dX6_cheapest_76
      · have e39 := p_X6_cheapest_e39 M x1 x2 r11 hr11.symm c12 c13 c26
        obtain ⟨sa, hsa⟩ := hKX.2.2 15 _ rfl
        exact vx_throwSW (cls := xIAE) (names := xNames) (ik := 53) (is := 256) (ic := 57) (A := rA o) hx hb hst hown fit1 fitN (hts (.classLink RX6 53 "java/lang/IllegalArgumentException") (List.mem_of_getElem? (i := 3) rfl)) (hts (.initialized "java/lang/IllegalArgumentException") (List.mem_of_getElem? (i := 4) rfl)) hsa (vx_hat (B := thrB) (fun w hw => hts w (List.mem_cons_of_mem _ (List.mem_append_right _ hw))) ng1 (bT.words hKX.2.1)) ot1 hZ.1 hZ.2 (bS_va hS) (hl.1.trans hml.symm) dX6_cheapest_26 dX6_cheapest_29 dX6_cheapest_30 dX6_cheapest_33 dX6_cheapest_36 (fun x hx9 => (ht x hx9).elim) (by decide) (Nat.le_of_ble_eq_true rfl) (Nat.le_refl _) (Nat.le_refl _) hlocks (x_throw (en := 1) hB hS (bk_lt hB) ⟨by decide, e39⟩ rfl) hS.2.2 (Nat.le_refl _) (Nat.le_refl _)
  · have e40 := p_X6_cheapest_e40 M x1 x2 r11 hr11.symm c12
    obtain ⟨sa, hsa⟩ := hKX.2.2 4 _ rfl
    exact vx_throwS (cls := xIOB) (names := xNames) (ik := 139) (is := 141) (ic := 143) (A := rA o) hx hb hst hown fit3 fitN (hts (.classLink RX6 139 "java/lang/IndexOutOfBoundsException") (List.mem_of_getElem? (i := 1) rfl)) (hts (.initialized "java/lang/IndexOutOfBoundsException") (List.mem_of_getElem? (i := 2) rfl)) hsa (vx_hat (B := thrB) (fun w hw => hts w (List.mem_cons_of_mem _ (List.mem_append_left _ (List.mem_append_right _ hw)))) ng3 (bT.words hKX.2.1)) ot3 hZ.1 hZ.2 (bS_va hS) (hl.1.trans hml.symm) dX6_cheapest_7 dX6_cheapest_10 dX6_cheapest_11 dX6_cheapest_13 dX6_cheapest_16 (fun x hx9 => (ht x hx9).elim) (by decide) (Nat.le_of_ble_eq_true rfl) (Nat.le_refl _) (Nat.le_refl _) hlocks (x_throw (en := 3) hB hS (bk_lt hB) ⟨by decide, e40⟩ rfl) hS.2.2 (Nat.le_refl _) (Nat.le_refl _)
def f_X6_meetsIn (M : bM) (x1 : Int32) : Nat × Int32 × bM := (let r11 : Int32 := f_X6_isPlayer x1; (if r11 = 0 then (3, 0, M) else (if (M 3 8) = (-1) then (let r15 : Int32 := (f_X5_stepsToMeet M 3 x1).1; (let M14 : bM := (f_X5_stepsToMeet M 3 x1).2; (0, r15, M14))) else (0, 0, M))))
theorem u_f_X6_meetsIn (M : bM) (x1 : Int32) : f_X6_meetsIn M x1 = (let r11 : Int32 := f_X6_isPlayer x1; (if r11 = 0 then (3, 0, M) else (if (M 3 8) = (-1) then (let r15 : Int32 := (f_X5_stepsToMeet M 3 x1).1; (let M14 : bM := (f_X5_stepsToMeet M 3 x1).2; (0, r15, M14))) else (0, 0, M)))) := rfl
theorem p_X6_meetsIn_e16 (M : bM) (x1 : Int32) (r11 : Int32) (hr11 : f_X6_isPlayer x1 = r11) (c12 : ¬ r11 = 0) (c13 : (M 3 8) = (-1)) (r15 : Int32) (hr15 : (f_X5_stepsToMeet M 3 x1).1 = r15) (M14 : bM) (hM14 : (f_X5_stepsToMeet M 3 x1).2 = M14) : f_X6_meetsIn M x1 = (0, r15, M14) := by subst hM14 hr15 hr11; exact Eq.trans (u_f_X6_meetsIn M x1) (Eq.trans (if_neg c12) (if_pos c13))
theorem p_X6_meetsIn_e17 (M : bM) (x1 : Int32) (r11 : Int32) (hr11 : f_X6_isPlayer x1 = r11) (c12 : ¬ r11 = 0) (c13 : ¬ (M 3 8) = (-1)) : f_X6_meetsIn M x1 = (0, 0, M) := by subst hr11; exact Eq.trans (u_f_X6_meetsIn M x1) (Eq.trans (if_neg c12) (if_neg c13))
theorem p_X6_meetsIn_e18 (M : bM) (x1 : Int32) (r11 : Int32) (hr11 : f_X6_isPlayer x1 = r11) (c12 : r11 = 0) : f_X6_meetsIn M x1 = (3, 0, M) := by subst hr11; exact Eq.trans (u_f_X6_meetsIn M x1) (if_pos c12)
set_option maxHeartbeats 4000000 in
set_option maxRecDepth 100000 in
theorem c_X6_meetsIn (l : Launch) (hst : l.stackTraces = false) (D : va_G) (E : Nat → ClassId) (o : Nat) (M : bM) (x1 : Int32) : vx_Met l yX6_meetsIn wsX6_meetsIn (rmX 6) (bPx D E [.ref (o + 0), .int x1] (fun H => bk D E LRM o M H) (rA o)) (bQ (aI fun r H => ∃ M1 : bM, f_X6_meetsIn M x1 = (0, r, M1) ∧ bk D E LRM o M1 H) (rA o)) (bX D E LRM o (fun e M1 => e ≠ 0 ∧ f_X6_meetsIn M x1 = (e, 0, M1)) (rA o)) 1 6 (rA o) := by
  refine vx_ofW (cc := cX6_meetsIn) (maxL := 2) (ret := (some .int)) (by decide) rfl ?_
  intro p e s m args below meth c s₁ B hml ht hv
  obtain ⟨rfl, hB, hKX, hZ⟩ := hv
  have hK := hKX.1
  have hx := B.exec
  have hb := B.bytes
  have hr := B.returns
  have hts := atoms_spec (ws := wsX6_meetsIn) B.pre
  have hown : s.vm.findClass RX6 = some m.cls := findClass_of_methodNamed B.named
  have hlocks := B.notSynchronized
  have hS : bS (rA o) s.heap s.heap [] := bS.rf
  have hl := lv_entry ([.ref (o + 0), .int x1]) (n := 2) (Nat.le_of_ble_eq_true rfl)
  rw [lg_entry_eq]
  generalize (lg_sl ([.ref (o + 0), .int x1]) ++ List.replicate (2 - (lg_sl ([.ref (o + 0), .int x1])).length) Slot.unset).toArray = ls at hl ⊢
  have hl : lv_has ls 2 [(0, .ref (o + 0)), (1, .int x1)] := hl
  have hB : bk D E LRM o M s.heap := hB
  have hinX0 : ∀ w ∈ wsX00, w ∈ wsX6_meetsIn := by decide +kernel
  have hinX6 : ∀ w ∈ wsX60, w ∈ wsX6_meetsIn := by decide +kernel
  refine lv_iload_n hx hb dX6_meetsIn_0 rfl (lv_at hl 1 rfl) ?_
  refine b_pI (b_runS (As := [.int x1]) (rest := []) ⟨hx, hb, hml, hown, hts⟩ (c_X6_isPlayer l D E x1) (va_cwS 1 hts gX6_meetsIn_X6_isPlayer rfl rfl rfl (by decide +kernel) ⟨Nat.le_of_ble_eq_true rfl, Nat.le_of_ble_eq_true rfl⟩) hK trivial rfl hl rfl (Nat.le_of_ble_eq_true rfl) dX6_meetsIn_1 ⟨Nat.zero_le _, Nat.zero_le _⟩) hS (fun r11 hr11 locs hS => ?_)
  refine lv_if_ne (tgt := 17) hx hb dX6_meetsIn_4 (by decide) (fun c12 => ?_) (fun c12 => ?_)
  · refine lv_aload_n hx hb dX6_meetsIn_17 rfl (lv_at hl 0 rfl) ?_
    refine b_get (D := D) (E := E) (L := LRM) (o := o) (M := M) (v := .ref (o + 3)) (C := RX6) (T := TX6) (N := 7) hx hb hts hinX6 hown hK.1 hB 0 lay_0 rfl 1 (by decide) (hts (.fieldLink RX6 19 "RiverMeeting" "present" "LRiverMeeting$Game;") (List.mem_of_getElem? (i := 3) rfl)) (fun _ h9 => h9) rfl dX6_meetsIn_18 ?_
    refine b_get (D := D) (E := E) (L := LRM) (o := o) (M := M) (v := .int (M 3 8)) (C := RX0) (T := TX0) (N := 12) hx hb hts hinX0 hown hK.1 hB 3 isG_3.1 rfl 8 (by decide) (hts (.fieldLink RX6 122 "RiverMeeting$Game" "meeting" "I") (List.mem_of_getElem? (i := 4) rfl)) (fun _ h9 => h9) rfl dX6_meetsIn_21 ?_
    refine lv_iconst (v := (-1)) hx hb dX6_meetsIn_24 (by decide) ?_
    refine lv_icmp_eq (tgt := 30) hx hb dX6_meetsIn_25 (by decide) (fun c13 => ?_) (fun c13 => ?_)
    · refine lv_aload_n hx hb dX6_meetsIn_30 rfl (lv_at hl 0 rfl) ?_
      refine b_get (D := D) (E := E) (L := LRM) (o := o) (M := M) (v := .ref (o + 23)) (C := RX6) (T := TX6) (N := 7) hx hb hts hinX6 hown hK.1 hB 0 lay_0 rfl 3 (by decide) (hts (.fieldLink RX6 29 "RiverMeeting" "ways" "LRiverMeeting$Ways;") (List.mem_of_getElem? (i := 5) rfl)) (fun _ h9 => h9) rfl dX6_meetsIn_31 ?_
      refine lv_aload_n hx hb dX6_meetsIn_34 rfl (lv_at hl 0 rfl) ?_
      refine b_get (D := D) (E := E) (L := LRM) (o := o) (M := M) (v := .ref (o + 3)) (C := RX6) (T := TX6) (N := 7) hx hb hts hinX6 hown hK.1 hB 0 lay_0 rfl 1 (by decide) (hts (.fieldLink RX6 19 "RiverMeeting" "present" "LRiverMeeting$Game;") (List.mem_of_getElem? (i := 3) rfl)) (fun _ h9 => h9) rfl dX6_meetsIn_35 ?_
      refine lv_iload_n hx hb dX6_meetsIn_38 rfl (lv_at hl 1 rfl) ?_
      refine b_mI (b_runV (As := [.ref (o + 3), .int x1]) (rest := []) ⟨hx, hb, hml, hown, hts⟩ (c_X5_stepsToMeet l D E o M 3 x1 isG_3) (cwV 2 hts gX6_meetsIn_X5_stepsToMeet rfl rfl rfl (by decide +kernel) ⟨Nat.le_of_ble_eq_true rfl, Nat.le_of_ble_eq_true rfl⟩) hK (bk_recv hK.1 hB lay_23 rfl) hB rfl hl rfl (Nat.le_of_ble_eq_true rfl) dX6_meetsIn_39 ⟨Nat.zero_le _, Nat.zero_le _⟩) hS (fun q h => h) (fun r15 M14 hM14 H locs hB _ hS => ?_)
      obtain ⟨hr15, hM14⟩ := hM14
      have e16 := p_X6_meetsIn_e16 M x1 r11 hr11.symm c12 c13 r15 hr15.symm M14 hM14.symm
      exact x_iret hx hb hr hlocks hS ⟨_, rfl, _, e16, hB⟩ dX6_meetsIn_42
    · refine lv_iconst (v := 0) hx hb dX6_meetsIn_28 (by decide) ?_
      have e17 := p_X6_meetsIn_e17 M x1 r11 hr11.symm c12 c13
      exact x_iret hx hb hr hlocks hS ⟨_, rfl, _, e17, hB⟩ dX6_meetsIn_29
  · have e18 := p_X6_meetsIn_e18 M x1 r11 hr11.symm c12
    obtain ⟨sa, hsa⟩ := hKX.2.2 4 _ rfl
    exact vx_throwS (cls := xIOB) (names := xNames) (ik := 139) (is := 141) (ic := 143) (A := rA o) hx hb hst hown fit3 fitN (hts (.classLink RX6 139 "java/lang/IndexOutOfBoundsException") (List.mem_of_getElem? (i := 1) rfl)) (hts (.initialized "java/lang/IndexOutOfBoundsException") (List.mem_of_getElem? (i := 2) rfl)) hsa (vx_hat (B := thrB) (fun w hw => hts w (List.mem_cons_of_mem _ (List.mem_append_right _ hw))) ng3 (bT.words hKX.2.1)) ot3 hZ.1 hZ.2 (bS_va hS) (hl.1.trans hml.symm) dX6_meetsIn_7 dX6_meetsIn_10 dX6_meetsIn_11 dX6_meetsIn_13 dX6_meetsIn_16 (fun x hx9 => (ht x hx9).elim) (by decide) (Nat.le_of_ble_eq_true rfl) (Nat.le_refl _) (Nat.le_refl _) hlocks (x_throw (en := 3) hB hS (bk_lt hB) ⟨by decide, e18⟩ rfl) hS.2.2 (Nat.le_refl _) (Nat.le_refl _)
def f_X6_save (M : bM) (x1 : Int32) : Nat × Int32 × bM := (if x1 = 0 then (let k13 : Nat := f_X6_slotOf M x1; (let M14 : bM := f_X0_copyFrom M (k13 + 1) 3; (let M15 : bM := up2 M14 k13 1 1; (0, (M15 3 6), M15)))) else (if x1 = 1 then (let k19 : Nat := f_X6_slotOf M x1; (let M20 : bM := f_X0_copyFrom M (k19 + 1) 3; (let M21 : bM := up2 M20 k19 1 1; (0, (M21 3 6), M21)))) else (3, 0, M)))
theorem u_f_X6_save (M : bM) (x1 : Int32) : f_X6_save M x1 = (if x1 = 0 then (let k13 : Nat := f_X6_slotOf M x1; (let M14 : bM := f_X0_copyFrom M (k13 + 1) 3; (let M15 : bM := up2 M14 k13 1 1; (0, (M15 3 6), M15)))) else (if x1 = 1 then (let k19 : Nat := f_X6_slotOf M x1; (let M20 : bM := f_X0_copyFrom M (k19 + 1) 3; (let M21 : bM := up2 M20 k19 1 1; (0, (M21 3 6), M21)))) else (3, 0, M))) := rfl
theorem p_X6_save_e16 (M : bM) (x1 : Int32) (c11 : x1 = 0) (k13 : Nat) (hk13 : f_X6_slotOf M x1 = k13) (M14 : bM) (hM14 : f_X0_copyFrom M (k13 + 1) 3 = M14) (M15 : bM) (hM15 : up2 M14 k13 1 1 = M15) : f_X6_save M x1 = (0, (M15 3 6), M15) := by subst hM15 hM14 hk13; exact Eq.trans (u_f_X6_save M x1) (if_pos c11)
theorem p_X6_save_e22 (M : bM) (x1 : Int32) (c11 : ¬ x1 = 0) (c17 : x1 = 1) (k19 : Nat) (hk19 : f_X6_slotOf M x1 = k19) (M20 : bM) (hM20 : f_X0_copyFrom M (k19 + 1) 3 = M20) (M21 : bM) (hM21 : up2 M20 k19 1 1 = M21) : f_X6_save M x1 = (0, (M21 3 6), M21) := by subst hM21 hM20 hk19; exact Eq.trans (u_f_X6_save M x1) (Eq.trans (if_neg c11) (if_pos c17))
theorem p_X6_save_e23 (M : bM) (x1 : Int32) (c11 : ¬ x1 = 0) (c17 : ¬ x1 = 1) : f_X6_save M x1 = (3, 0, M) := by exact Eq.trans (u_f_X6_save M x1) (Eq.trans (if_neg c11) (if_neg c17))
set_option maxHeartbeats 4000000 in
set_option maxRecDepth 100000 in
theorem c_X6_save (l : Launch) (hst : l.stackTraces = false) (D : va_G) (E : Nat → ClassId) (o : Nat) (M : bM) (x1 : Int32) : vx_Met l yX6_save wsX6_save (rmX 6) (bPx D E [.ref (o + 0), .int x1] (fun H => bk D E LRM o M H) (rA o)) (bQ (aI fun r H => ∃ M1 : bM, f_X6_save M x1 = (0, r, M1) ∧ bk D E LRM o M1 H) (rA o)) (bX D E LRM o (fun e M1 => e ≠ 0 ∧ f_X6_save M x1 = (e, 0, M1)) (rA o)) 1 6 (rA o) := by
  refine vx_ofW (cc := cX6_save) (maxL := 3) (ret := (some .int)) (by decide) rfl ?_
  intro p e s m args below meth c s₁ B hml ht hv
  obtain ⟨rfl, hB, hKX, hZ⟩ := hv
  have hK := hKX.1
  have hx := B.exec
  have hb := B.bytes
  have hr := B.returns
  have hts := atoms_spec (ws := wsX6_save) B.pre
  have hown : s.vm.findClass RX6 = some m.cls := findClass_of_methodNamed B.named
  have hlocks := B.notSynchronized
  have hS : bS (rA o) s.heap s.heap [] := bS.rf
  have hl := lv_entry ([.ref (o + 0), .int x1]) (n := 3) (Nat.le_of_ble_eq_true rfl)
  rw [lg_entry_eq]
  generalize (lg_sl ([.ref (o + 0), .int x1]) ++ List.replicate (3 - (lg_sl ([.ref (o + 0), .int x1])).length) Slot.unset).toArray = ls at hl ⊢
  have hl : lv_has ls 3 [(0, .ref (o + 0)), (1, .int x1)] := hl
  have hB : bk D E LRM o M s.heap := hB
  have hinX0 : ∀ w ∈ wsX00, w ∈ wsX6_save := by decide +kernel
  have hinX3 : ∀ w ∈ wsX30, w ∈ wsX6_save := by decide +kernel
  have hinX6 : ∀ w ∈ wsX60, w ∈ wsX6_save := by decide +kernel
  refine lv_iload_n hx hb dX6_save_0 rfl (lv_at hl 1 rfl) ?_
  refine lv_if_eq (tgt := 20) hx hb dX6_save_1 (by decide) (fun c11 => ?_) (fun c11 => ?_)
  · refine lv_aload_n hx hb dX6_save_20 rfl (lv_at hl 0 rfl) ?_
    refine lv_iload_n hx hb dX6_save_21 rfl (lv_at hl 1 rfl) ?_
    refine b_pR (b_runV (As := [.int x1]) (rest := []) ⟨hx, hb, hml, hown, hts⟩ (c_X6_slotOf l D E o M x1) (cwV 1 hts gX6_save_X6_slotOf rfl rfl rfl (by decide +kernel) ⟨Nat.le_of_ble_eq_true rfl, Nat.le_of_ble_eq_true rfl⟩) hK (bk_recv hK.1 hB lay_0 rfl) hB rfl hl rfl (Nat.le_of_ble_eq_true rfl) dX6_save_22 ⟨Nat.zero_le _, Nat.zero_le _⟩) hS (fun r12 hr12 locs hS => ?_)
    obtain ⟨k13, hk13⟩ : ∃ y : Nat, y = f_X6_slotOf M x1 := ⟨_, rfl⟩
    rw [← hk13] at hr12; subst hr12
    have hfk13 : isD k13 := by rw [hk13]; exact isD_slotOf
    refine lv_astore_n (lv' := [(2, .ref (o + k13)), (0, .ref (o + 0)), (1, .int x1)]) hx hb dX6_save_25 rfl hl (by decide) rfl (fun ls hl => ?_)
    refine lv_aload_n hx hb dX6_save_26 rfl (lv_at hl 0 rfl) ?_
    refine b_get (D := D) (E := E) (L := LRM) (o := o) (M := M) (v := .ref (o + (k13 + 1))) (C := RX3) (T := TX3) (N := 2) hx hb hts hinX3 hown hK.1 hB k13 hfk13.1 rfl 0 (by decide) (hts (.fieldLink RX6 321 "RiverMeeting$Slot" "kept" "LRiverMeeting$Game;") (List.mem_of_getElem? (i := 3) rfl)) (fun _ h9 => h9) rfl dX6_save_27 ?_
    refine lv_aload_n hx hb dX6_save_30 rfl (lv_at hl 1 rfl) ?_
    refine b_get (D := D) (E := E) (L := LRM) (o := o) (M := M) (v := .ref (o + 3)) (C := RX6) (T := TX6) (N := 7) hx hb hts hinX6 hown hK.1 hB 0 lay_0 rfl 1 (by decide) (hts (.fieldLink RX6 19 "RiverMeeting" "present" "LRiverMeeting$Game;") (List.mem_of_getElem? (i := 4) rfl)) (fun _ h9 => h9) rfl dX6_save_31 ?_
    refine b_mV (b_runV (As := [.ref (o + 3)]) (rest := []) ⟨hx, hb, hml, hown, hts⟩ (c_X0_copyFrom l D E o M (k13 + 1) 3 hfk13.2 isG_3) (cwV 1 hts gX6_save_X0_copyFrom rfl rfl rfl (by decide +kernel) ⟨Nat.le_of_ble_eq_true rfl, Nat.le_of_ble_eq_true rfl⟩) hK (bk_recv hK.1 hB hfk13.2.1 rfl) hB rfl hl rfl (Nat.le_of_ble_eq_true rfl) dX6_save_34 ⟨Nat.zero_le _, Nat.zero_le _⟩) hS (fun q h => h) (fun M14 hM14 H locs hB _ hS => ?_)
    refine lv_aload_n hx hb dX6_save_37 rfl (lv_at hl 0 rfl) ?_
    refine lv_iconst (v := 1) hx hb dX6_save_38 (by decide) ?_
    refine b_put (D := D) (E := E) (L := LRM) (o := o) (M := M14) (v := 1) (ty := .boolean) (C := RX3) (T := TX3) (N := 2) hx hb hts hinX3 tyX3 tyX3_ok nmX3 hown hK.1 hB hS k13 (rA_of hfk13.1) hfk13.1 rfl 1 (by decide) rfl (hts (.fieldLink RX6 85 "RiverMeeting$Slot" "used" "Z") (List.mem_of_getElem? (i := 5) rfl)) (fun _ h9 => h9) rfl (by decide +kernel) (by decide) rfl dX6_save_39 (fun M15 hM15 H locs hB _ hS => ?_)
    refine lv_aload_n hx hb dX6_save_42 rfl (lv_at hl 1 rfl) ?_
    refine b_get (D := D) (E := E) (L := LRM) (o := o) (M := M15) (v := .ref (o + 3)) (C := RX6) (T := TX6) (N := 7) hx hb hts hinX6 hown hK.1 hB 0 lay_0 rfl 1 (by decide) (hts (.fieldLink RX6 19 "RiverMeeting" "present" "LRiverMeeting$Game;") (List.mem_of_getElem? (i := 4) rfl)) (fun _ h9 => h9) rfl dX6_save_43 ?_
    refine b_get (D := D) (E := E) (L := LRM) (o := o) (M := M15) (v := .int (M15 3 6)) (C := RX0) (T := TX0) (N := 12) hx hb hts hinX0 hown hK.1 hB 3 isG_3.1 rfl 6 (by decide) (hts (.fieldLink RX6 116 "RiverMeeting$Game" "turns" "I") (List.mem_of_getElem? (i := 6) rfl)) (fun _ h9 => h9) rfl dX6_save_46 ?_
    have e16 := p_X6_save_e16 M x1 c11 k13 hk13.symm M14 hM14.symm M15 hM15.symm
    exact x_iret hx hb hr hlocks hS ⟨_, rfl, _, e16, hB⟩ dX6_save_49
  · refine lv_iload_n hx hb dX6_save_4 rfl (lv_at hl 1 rfl) ?_
    refine lv_iconst (v := 1) hx hb dX6_save_5 (by decide) ?_
    refine lv_icmp_eq (tgt := 20) hx hb dX6_save_6 (by decide) (fun c17 => ?_) (fun c17 => ?_)
    · refine lv_aload_n hx hb dX6_save_20 rfl (lv_at hl 0 rfl) ?_
      refine lv_iload_n hx hb dX6_save_21 rfl (lv_at hl 1 rfl) ?_
      refine b_pR (b_runV (As := [.int x1]) (rest := []) ⟨hx, hb, hml, hown, hts⟩ (c_X6_slotOf l D E o M x1) (cwV 1 hts gX6_save_X6_slotOf rfl rfl rfl (by decide +kernel) ⟨Nat.le_of_ble_eq_true rfl, Nat.le_of_ble_eq_true rfl⟩) hK (bk_recv hK.1 hB lay_0 rfl) hB rfl hl rfl (Nat.le_of_ble_eq_true rfl) dX6_save_22 ⟨Nat.zero_le _, Nat.zero_le _⟩) hS (fun r18 hr18 locs hS => ?_)
      obtain ⟨k19, hk19⟩ : ∃ y : Nat, y = f_X6_slotOf M x1 := ⟨_, rfl⟩
      rw [← hk19] at hr18; subst hr18
      have hfk19 : isD k19 := by rw [hk19]; exact isD_slotOf
      refine lv_astore_n (lv' := [(2, .ref (o + k19)), (0, .ref (o + 0)), (1, .int x1)]) hx hb dX6_save_25 rfl hl (by decide) rfl (fun ls hl => ?_)
      refine lv_aload_n hx hb dX6_save_26 rfl (lv_at hl 0 rfl) ?_
      refine b_get (D := D) (E := E) (L := LRM) (o := o) (M := M) (v := .ref (o + (k19 + 1))) (C := RX3) (T := TX3) (N := 2) hx hb hts hinX3 hown hK.1 hB k19 hfk19.1 rfl 0 (by decide) (hts (.fieldLink RX6 321 "RiverMeeting$Slot" "kept" "LRiverMeeting$Game;") (List.mem_of_getElem? (i := 3) rfl)) (fun _ h9 => h9) rfl dX6_save_27 ?_
      refine lv_aload_n hx hb dX6_save_30 rfl (lv_at hl 1 rfl) ?_
      refine b_get (D := D) (E := E) (L := LRM) (o := o) (M := M) (v := .ref (o + 3)) (C := RX6) (T := TX6) (N := 7) hx hb hts hinX6 hown hK.1 hB 0 lay_0 rfl 1 (by decide) (hts (.fieldLink RX6 19 "RiverMeeting" "present" "LRiverMeeting$Game;") (List.mem_of_getElem? (i := 4) rfl)) (fun _ h9 => h9) rfl dX6_save_31 ?_
      refine b_mV (b_runV (As := [.ref (o + 3)]) (rest := []) ⟨hx, hb, hml, hown, hts⟩ (c_X0_copyFrom l D E o M (k19 + 1) 3 hfk19.2 isG_3) (cwV 1 hts gX6_save_X0_copyFrom rfl rfl rfl (by decide +kernel) ⟨Nat.le_of_ble_eq_true rfl, Nat.le_of_ble_eq_true rfl⟩) hK (bk_recv hK.1 hB hfk19.2.1 rfl) hB rfl hl rfl (Nat.le_of_ble_eq_true rfl) dX6_save_34 ⟨Nat.zero_le _, Nat.zero_le _⟩) hS (fun q h => h) (fun M20 hM20 H locs hB _ hS => ?_)
      refine lv_aload_n hx hb dX6_save_37 rfl (lv_at hl 0 rfl) ?_
      refine lv_iconst (v := 1) hx hb dX6_save_38 (by decide) ?_
      refine b_put (D := D) (E := E) (L := LRM) (o := o) (M := M20) (v := 1) (ty := .boolean) (C := RX3) (T := TX3) (N := 2) hx hb hts hinX3 tyX3 tyX3_ok nmX3 hown hK.1 hB hS k19 (rA_of hfk19.1) hfk19.1 rfl 1 (by decide) rfl (hts (.fieldLink RX6 85 "RiverMeeting$Slot" "used" "Z") (List.mem_of_getElem? (i := 5) rfl)) (fun _ h9 => h9) rfl (by decide +kernel) (by decide) rfl dX6_save_39 (fun M21 hM21 H locs hB _ hS => ?_)
      refine lv_aload_n hx hb dX6_save_42 rfl (lv_at hl 1 rfl) ?_
      refine b_get (D := D) (E := E) (L := LRM) (o := o) (M := M21) (v := .ref (o + 3)) (C := RX6) (T := TX6) (N := 7) hx hb hts hinX6 hown hK.1 hB 0 lay_0 rfl 1 (by decide) (hts (.fieldLink RX6 19 "RiverMeeting" "present" "LRiverMeeting$Game;") (List.mem_of_getElem? (i := 4) rfl)) (fun _ h9 => h9) rfl dX6_save_43 ?_
      refine b_get (D := D) (E := E) (L := LRM) (o := o) (M := M21) (v := .int (M21 3 6)) (C := RX0) (T := TX0) (N := 12) hx hb hts hinX0 hown hK.1 hB 3 isG_3.1 rfl 6 (by decide) (hts (.fieldLink RX6 116 "RiverMeeting$Game" "turns" "I") (List.mem_of_getElem? (i := 6) rfl)) (fun _ h9 => h9) rfl dX6_save_46 ?_
      have e22 := p_X6_save_e22 M x1 c11 c17 k19 hk19.symm M20 hM20.symm M21 hM21.symm
      exact x_iret hx hb hr hlocks hS ⟨_, rfl, _, e22, hB⟩ dX6_save_49
    · have e23 := p_X6_save_e23 M x1 c11 c17
      obtain ⟨sa, hsa⟩ := hKX.2.2 20 _ rfl
      exact vx_throwSW (cls := xIOB) (names := xNames) (ik := 139) (is := 315) (ic := 143) (A := rA o) hx hb hst hown fit3 fitN (hts (.classLink RX6 139 "java/lang/IndexOutOfBoundsException") (List.mem_of_getElem? (i := 1) rfl)) (hts (.initialized "java/lang/IndexOutOfBoundsException") (List.mem_of_getElem? (i := 2) rfl)) hsa (vx_hat (B := thrB) (fun w hw => hts w (List.mem_cons_of_mem _ (List.mem_append_right _ hw))) ng3 (bT.words hKX.2.1)) ot3 hZ.1 hZ.2 (bS_va hS) (hl.1.trans hml.symm) dX6_save_9 dX6_save_12 dX6_save_13 dX6_save_16 dX6_save_19 (fun x hx9 => (ht x hx9).elim) (by decide) (Nat.le_of_ble_eq_true rfl) (Nat.le_refl _) (Nat.le_refl _) hlocks (x_throw (en := 3) hB hS (bk_lt hB) ⟨by decide, e23⟩ rfl) hS.2.2 (Nat.le_refl _) (Nat.le_refl _)
def f_X6_restore (M : bM) (x1 : Int32) : Nat × Int32 × bM := (if x1 = 0 then (let k13 : Nat := f_X6_slotOf M x1; (if (M k13 1) = 0 then (2, 0, M) else (let M15 : bM := f_X0_copyFrom M 3 (k13 + 1); (let M16 : bM := f_X1_forgetAll M15; (0, (M16 3 6), M16))))) else (if x1 = 1 then (let k21 : Nat := f_X6_slotOf M x1; (if (M k21 1) = 0 then (2, 0, M) else (let M23 : bM := f_X0_copyFrom M 3 (k21 + 1); (let M24 : bM := f_X1_forgetAll M23; (0, (M24 3 6), M24))))) else (3, 0, M)))
theorem u_f_X6_restore (M : bM) (x1 : Int32) : f_X6_restore M x1 = (if x1 = 0 then (let k13 : Nat := f_X6_slotOf M x1; (if (M k13 1) = 0 then (2, 0, M) else (let M15 : bM := f_X0_copyFrom M 3 (k13 + 1); (let M16 : bM := f_X1_forgetAll M15; (0, (M16 3 6), M16))))) else (if x1 = 1 then (let k21 : Nat := f_X6_slotOf M x1; (if (M k21 1) = 0 then (2, 0, M) else (let M23 : bM := f_X0_copyFrom M 3 (k21 + 1); (let M24 : bM := f_X1_forgetAll M23; (0, (M24 3 6), M24))))) else (3, 0, M))) := rfl
theorem p_X6_restore_e17 (M : bM) (x1 : Int32) (c11 : x1 = 0) (k13 : Nat) (hk13 : f_X6_slotOf M x1 = k13) (c14 : ¬ (M k13 1) = 0) (M15 : bM) (hM15 : f_X0_copyFrom M 3 (k13 + 1) = M15) (M16 : bM) (hM16 : f_X1_forgetAll M15 = M16) : f_X6_restore M x1 = (0, (M16 3 6), M16) := by subst hM16 hM15 hk13; exact Eq.trans (u_f_X6_restore M x1) (Eq.trans (if_pos c11) (if_neg c14))
theorem p_X6_restore_e18 (M : bM) (x1 : Int32) (c11 : x1 = 0) (k13 : Nat) (hk13 : f_X6_slotOf M x1 = k13) (c14 : (M k13 1) = 0) : f_X6_restore M x1 = (2, 0, M) := by subst hk13; exact Eq.trans (u_f_X6_restore M x1) (Eq.trans (if_pos c11) (if_pos c14))
theorem p_X6_restore_e25 (M : bM) (x1 : Int32) (c11 : ¬ x1 = 0) (c19 : x1 = 1) (k21 : Nat) (hk21 : f_X6_slotOf M x1 = k21) (c22 : ¬ (M k21 1) = 0) (M23 : bM) (hM23 : f_X0_copyFrom M 3 (k21 + 1) = M23) (M24 : bM) (hM24 : f_X1_forgetAll M23 = M24) : f_X6_restore M x1 = (0, (M24 3 6), M24) := by subst hM24 hM23 hk21; exact Eq.trans (u_f_X6_restore M x1) (Eq.trans (if_neg c11) (Eq.trans (if_pos c19) (if_neg c22)))
theorem p_X6_restore_e26 (M : bM) (x1 : Int32) (c11 : ¬ x1 = 0) (c19 : x1 = 1) (k21 : Nat) (hk21 : f_X6_slotOf M x1 = k21) (c22 : (M k21 1) = 0) : f_X6_restore M x1 = (2, 0, M) := by subst hk21; exact Eq.trans (u_f_X6_restore M x1) (Eq.trans (if_neg c11) (Eq.trans (if_pos c19) (if_pos c22)))
theorem p_X6_restore_e27 (M : bM) (x1 : Int32) (c11 : ¬ x1 = 0) (c19 : ¬ x1 = 1) : f_X6_restore M x1 = (3, 0, M) := by exact Eq.trans (u_f_X6_restore M x1) (Eq.trans (if_neg c11) (if_neg c19))
set_option maxHeartbeats 4000000 in
set_option maxRecDepth 100000 in
theorem c_X6_restore (l : Launch) (hst : l.stackTraces = false) (D : va_G) (E : Nat → ClassId) (o : Nat) (M : bM) (x1 : Int32) : vx_Met l yX6_restore wsX6_restore (rmX 6) (bPx D E [.ref (o + 0), .int x1] (fun H => bk D E LRM o M H) (rA o)) (bQ (aI fun r H => ∃ M1 : bM, f_X6_restore M x1 = (0, r, M1) ∧ bk D E LRM o M1 H) (rA o)) (bX D E LRM o (fun e M1 => e ≠ 0 ∧ f_X6_restore M x1 = (e, 0, M1)) (rA o)) 1 6 (rA o) := by
  refine vx_ofW (cc := cX6_restore) (maxL := 3) (ret := (some .int)) (by decide) rfl ?_
  intro p e s m args below meth c s₁ B hml ht hv
  obtain ⟨rfl, hB, hKX, hZ⟩ := hv
  have hK := hKX.1
  have hx := B.exec
  have hb := B.bytes
  have hr := B.returns
  have hts := atoms_spec (ws := wsX6_restore) B.pre
  have hown : s.vm.findClass RX6 = some m.cls := findClass_of_methodNamed B.named
  have hlocks := B.notSynchronized
  have hS : bS (rA o) s.heap s.heap [] := bS.rf
  have hl := lv_entry ([.ref (o + 0), .int x1]) (n := 3) (Nat.le_of_ble_eq_true rfl)
  rw [lg_entry_eq]
  generalize (lg_sl ([.ref (o + 0), .int x1]) ++ List.replicate (3 - (lg_sl ([.ref (o + 0), .int x1])).length) Slot.unset).toArray = ls at hl ⊢
  have hl : lv_has ls 3 [(0, .ref (o + 0)), (1, .int x1)] := hl
  have hB : bk D E LRM o M s.heap := hB
  have hinX0 : ∀ w ∈ wsX00, w ∈ wsX6_restore := by decide +kernel
  have hinX3 : ∀ w ∈ wsX30, w ∈ wsX6_restore := by decide +kernel
  have hinX6 : ∀ w ∈ wsX60, w ∈ wsX6_restore := by decide +kernel
  refine lv_iload_n hx hb dX6_restore_0 rfl (lv_at hl 1 rfl) ?_
  refine lv_if_eq (tgt := 20) hx hb dX6_restore_1 (by decide) (fun c11 => ?_) (fun c11 => ?_)
  · refine lv_aload_n hx hb dX6_restore_20 rfl (lv_at hl 0 rfl) ?_
    refine lv_iload_n hx hb dX6_restore_21 rfl (lv_at hl 1 rfl) ?_
    refine b_pR (b_runV (As := [.int x1]) (rest := []) ⟨hx, hb, hml, hown, hts⟩ (c_X6_slotOf l D E o M x1) (cwV 1 hts gX6_restore_X6_slotOf rfl rfl rfl (by decide +kernel) ⟨Nat.le_of_ble_eq_true rfl, Nat.le_of_ble_eq_true rfl⟩) hK (bk_recv hK.1 hB lay_0 rfl) hB rfl hl rfl (Nat.le_of_ble_eq_true rfl) dX6_restore_22 ⟨Nat.zero_le _, Nat.zero_le _⟩) hS (fun r12 hr12 locs hS => ?_)
    obtain ⟨k13, hk13⟩ : ∃ y : Nat, y = f_X6_slotOf M x1 := ⟨_, rfl⟩
    rw [← hk13] at hr12; subst hr12
    have hfk13 : isD k13 := by rw [hk13]; exact isD_slotOf
    refine lv_astore_n (lv' := [(2, .ref (o + k13)), (0, .ref (o + 0)), (1, .int x1)]) hx hb dX6_restore_25 rfl hl (by decide) rfl (fun ls hl => ?_)
    refine lv_aload_n hx hb dX6_restore_26 rfl (lv_at hl 0 rfl) ?_
    refine b_get (D := D) (E := E) (L := LRM) (o := o) (M := M) (v := .int (M k13 1)) (C := RX3) (T := TX3) (N := 2) hx hb hts hinX3 hown hK.1 hB k13 hfk13.1 rfl 1 (by decide) (hts (.fieldLink RX6 85 "RiverMeeting$Slot" "used" "Z") (List.mem_of_getElem? (i := 5) rfl)) (fun _ h9 => h9) rfl dX6_restore_27 ?_
    refine lv_if_ne (tgt := 44) hx hb dX6_restore_30 (by decide) (fun c14 => ?_) (fun c14 => ?_)
    · refine lv_aload_n hx hb dX6_restore_44 rfl (lv_at hl 1 rfl) ?_
      refine b_get (D := D) (E := E) (L := LRM) (o := o) (M := M) (v := .ref (o + 3)) (C := RX6) (T := TX6) (N := 7) hx hb hts hinX6 hown hK.1 hB 0 lay_0 rfl 1 (by decide) (hts (.fieldLink RX6 19 "RiverMeeting" "present" "LRiverMeeting$Game;") (List.mem_of_getElem? (i := 6) rfl)) (fun _ h9 => h9) rfl dX6_restore_45 ?_
      refine lv_aload_n hx hb dX6_restore_48 rfl (lv_at hl 0 rfl) ?_
      refine b_get (D := D) (E := E) (L := LRM) (o := o) (M := M) (v := .ref (o + (k13 + 1))) (C := RX3) (T := TX3) (N := 2) hx hb hts hinX3 hown hK.1 hB k13 hfk13.1 rfl 0 (by decide) (hts (.fieldLink RX6 321 "RiverMeeting$Slot" "kept" "LRiverMeeting$Game;") (List.mem_of_getElem? (i := 7) rfl)) (fun _ h9 => h9) rfl dX6_restore_49 ?_
      refine b_mV (b_runV (As := [.ref (o + (k13 + 1))]) (rest := []) ⟨hx, hb, hml, hown, hts⟩ (c_X0_copyFrom l D E o M 3 (k13 + 1) isG_3 hfk13.2) (cwV 1 hts gX6_restore_X0_copyFrom rfl rfl rfl (by decide +kernel) ⟨Nat.le_of_ble_eq_true rfl, Nat.le_of_ble_eq_true rfl⟩) hK (bk_recv hK.1 hB isG_3.1 rfl) hB rfl hl rfl (Nat.le_of_ble_eq_true rfl) dX6_restore_52 ⟨Nat.zero_le _, Nat.zero_le _⟩) hS (fun q h => h) (fun M15 hM15 H locs hB _ hS => ?_)
      refine lv_aload_n hx hb dX6_restore_55 rfl (lv_at hl 1 rfl) ?_
      refine b_get (D := D) (E := E) (L := LRM) (o := o) (M := M15) (v := .ref (o + 30)) (C := RX6) (T := TX6) (N := 7) hx hb hts hinX6 hown hK.1 hB 0 lay_0 rfl 4 (by decide) (hts (.fieldLink RX6 36 "RiverMeeting" "history" "LRiverMeeting$History;") (List.mem_of_getElem? (i := 8) rfl)) (fun _ h9 => h9) rfl dX6_restore_56 ?_
      refine b_mV (b_runV (As := []) (rest := []) ⟨hx, hb, hml, hown, hts⟩ (c_X1_forgetAll l D E o M15) (cwV 0 hts gX6_restore_X1_forgetAll rfl rfl rfl (by decide +kernel) ⟨Nat.le_of_ble_eq_true rfl, Nat.le_of_ble_eq_true rfl⟩) hK (bk_recv hK.1 hB lay_30 rfl) hB rfl hl rfl (Nat.le_of_ble_eq_true rfl) dX6_restore_59 ⟨Nat.zero_le _, Nat.zero_le _⟩) hS (fun q h => h) (fun M16 hM16 H locs hB _ hS => ?_)
      refine lv_aload_n hx hb dX6_restore_62 rfl (lv_at hl 1 rfl) ?_
      refine b_get (D := D) (E := E) (L := LRM) (o := o) (M := M16) (v := .ref (o + 3)) (C := RX6) (T := TX6) (N := 7) hx hb hts hinX6 hown hK.1 hB 0 lay_0 rfl 1 (by decide) (hts (.fieldLink RX6 19 "RiverMeeting" "present" "LRiverMeeting$Game;") (List.mem_of_getElem? (i := 6) rfl)) (fun _ h9 => h9) rfl dX6_restore_63 ?_
      refine b_get (D := D) (E := E) (L := LRM) (o := o) (M := M16) (v := .int (M16 3 6)) (C := RX0) (T := TX0) (N := 12) hx hb hts hinX0 hown hK.1 hB 3 isG_3.1 rfl 6 (by decide) (hts (.fieldLink RX6 116 "RiverMeeting$Game" "turns" "I") (List.mem_of_getElem? (i := 9) rfl)) (fun _ h9 => h9) rfl dX6_restore_66 ?_
      have e17 := p_X6_restore_e17 M x1 c11 k13 hk13.symm c14 M15 hM15.symm M16 hM16.symm
      exact x_iret hx hb hr hlocks hS ⟨_, rfl, _, e17, hB⟩ dX6_restore_69
    · have e18 := p_X6_restore_e18 M x1 c11 k13 hk13.symm c14
      obtain ⟨sa, hsa⟩ := hKX.2.2 21 _ rfl
      exact vx_throwSW (cls := xISE) (names := xNames) (ik := 64) (is := 324) (ic := 68) (A := rA o) hx hb hst hown fit2 fitN (hts (.classLink RX6 64 "java/lang/IllegalStateException") (List.mem_of_getElem? (i := 3) rfl)) (hts (.initialized "java/lang/IllegalStateException") (List.mem_of_getElem? (i := 4) rfl)) hsa (vx_hat (B := thrB) (fun w hw => hts w (List.mem_cons_of_mem _ (List.mem_append_right _ hw))) ng2 (bT.words hKX.2.1)) ot2 hZ.1 hZ.2 (bS_va hS) (hl.1.trans hml.symm) dX6_restore_33 dX6_restore_36 dX6_restore_37 dX6_restore_40 dX6_restore_43 (fun x hx9 => (ht x hx9).elim) (by decide) (Nat.le_of_ble_eq_true rfl) (Nat.le_refl _) (Nat.le_refl _) hlocks (x_throw (en := 2) hB hS (bk_lt hB) ⟨by decide, e18⟩ rfl) hS.2.2 (Nat.le_refl _) (Nat.le_refl _)
  · refine lv_iload_n hx hb dX6_restore_4 rfl (lv_at hl 1 rfl) ?_
    refine lv_iconst (v := 1) hx hb dX6_restore_5 (by decide) ?_
    refine lv_icmp_eq (tgt := 20) hx hb dX6_restore_6 (by decide) (fun c19 => ?_) (fun c19 => ?_)
    · refine lv_aload_n hx hb dX6_restore_20 rfl (lv_at hl 0 rfl) ?_
      refine lv_iload_n hx hb dX6_restore_21 rfl (lv_at hl 1 rfl) ?_
      refine b_pR (b_runV (As := [.int x1]) (rest := []) ⟨hx, hb, hml, hown, hts⟩ (c_X6_slotOf l D E o M x1) (cwV 1 hts gX6_restore_X6_slotOf rfl rfl rfl (by decide +kernel) ⟨Nat.le_of_ble_eq_true rfl, Nat.le_of_ble_eq_true rfl⟩) hK (bk_recv hK.1 hB lay_0 rfl) hB rfl hl rfl (Nat.le_of_ble_eq_true rfl) dX6_restore_22 ⟨Nat.zero_le _, Nat.zero_le _⟩) hS (fun r20 hr20 locs hS => ?_)
      obtain ⟨k21, hk21⟩ : ∃ y : Nat, y = f_X6_slotOf M x1 := ⟨_, rfl⟩
      rw [← hk21] at hr20; subst hr20
      have hfk21 : isD k21 := by rw [hk21]; exact isD_slotOf
      refine lv_astore_n (lv' := [(2, .ref (o + k21)), (0, .ref (o + 0)), (1, .int x1)]) hx hb dX6_restore_25 rfl hl (by decide) rfl (fun ls hl => ?_)
      refine lv_aload_n hx hb dX6_restore_26 rfl (lv_at hl 0 rfl) ?_
      refine b_get (D := D) (E := E) (L := LRM) (o := o) (M := M) (v := .int (M k21 1)) (C := RX3) (T := TX3) (N := 2) hx hb hts hinX3 hown hK.1 hB k21 hfk21.1 rfl 1 (by decide) (hts (.fieldLink RX6 85 "RiverMeeting$Slot" "used" "Z") (List.mem_of_getElem? (i := 5) rfl)) (fun _ h9 => h9) rfl dX6_restore_27 ?_
      refine lv_if_ne (tgt := 44) hx hb dX6_restore_30 (by decide) (fun c22 => ?_) (fun c22 => ?_)
      · refine lv_aload_n hx hb dX6_restore_44 rfl (lv_at hl 1 rfl) ?_
        refine b_get (D := D) (E := E) (L := LRM) (o := o) (M := M) (v := .ref (o + 3)) (C := RX6) (T := TX6) (N := 7) hx hb hts hinX6 hown hK.1 hB 0 lay_0 rfl 1 (by decide) (hts (.fieldLink RX6 19 "RiverMeeting" "present" "LRiverMeeting$Game;") (List.mem_of_getElem? (i := 6) rfl)) (fun _ h9 => h9) rfl dX6_restore_45 ?_
        refine lv_aload_n hx hb dX6_restore_48 rfl (lv_at hl 0 rfl) ?_
        refine b_get (D := D) (E := E) (L := LRM) (o := o) (M := M) (v := .ref (o + (k21 + 1))) (C := RX3) (T := TX3) (N := 2) hx hb hts hinX3 hown hK.1 hB k21 hfk21.1 rfl 0 (by decide) (hts (.fieldLink RX6 321 "RiverMeeting$Slot" "kept" "LRiverMeeting$Game;") (List.mem_of_getElem? (i := 7) rfl)) (fun _ h9 => h9) rfl dX6_restore_49 ?_
        refine b_mV (b_runV (As := [.ref (o + (k21 + 1))]) (rest := []) ⟨hx, hb, hml, hown, hts⟩ (c_X0_copyFrom l D E o M 3 (k21 + 1) isG_3 hfk21.2) (cwV 1 hts gX6_restore_X0_copyFrom rfl rfl rfl (by decide +kernel) ⟨Nat.le_of_ble_eq_true rfl, Nat.le_of_ble_eq_true rfl⟩) hK (bk_recv hK.1 hB isG_3.1 rfl) hB rfl hl rfl (Nat.le_of_ble_eq_true rfl) dX6_restore_52 ⟨Nat.zero_le _, Nat.zero_le _⟩) hS (fun q h => h) (fun M23 hM23 H locs hB _ hS => ?_)
        refine lv_aload_n hx hb dX6_restore_55 rfl (lv_at hl 1 rfl) ?_
        refine b_get (D := D) (E := E) (L := LRM) (o := o) (M := M23) (v := .ref (o + 30)) (C := RX6) (T := TX6) (N := 7) hx hb hts hinX6 hown hK.1 hB 0 lay_0 rfl 4 (by decide) (hts (.fieldLink RX6 36 "RiverMeeting" "history" "LRiverMeeting$History;") (List.mem_of_getElem? (i := 8) rfl)) (fun _ h9 => h9) rfl dX6_restore_56 ?_
        refine b_mV (b_runV (As := []) (rest := []) ⟨hx, hb, hml, hown, hts⟩ (c_X1_forgetAll l D E o M23) (cwV 0 hts gX6_restore_X1_forgetAll rfl rfl rfl (by decide +kernel) ⟨Nat.le_of_ble_eq_true rfl, Nat.le_of_ble_eq_true rfl⟩) hK (bk_recv hK.1 hB lay_30 rfl) hB rfl hl rfl (Nat.le_of_ble_eq_true rfl) dX6_restore_59 ⟨Nat.zero_le _, Nat.zero_le _⟩) hS (fun q h => h) (fun M24 hM24 H locs hB _ hS => ?_)
        refine lv_aload_n hx hb dX6_restore_62 rfl (lv_at hl 1 rfl) ?_
        refine b_get (D := D) (E := E) (L := LRM) (o := o) (M := M24) (v := .ref (o + 3)) (C := RX6) (T := TX6) (N := 7) hx hb hts hinX6 hown hK.1 hB 0 lay_0 rfl 1 (by decide) (hts (.fieldLink RX6 19 "RiverMeeting" "present" "LRiverMeeting$Game;") (List.mem_of_getElem? (i := 6) rfl)) (fun _ h9 => h9) rfl dX6_restore_63 ?_
        refine b_get (D := D) (E := E) (L := LRM) (o := o) (M := M24) (v := .int (M24 3 6)) (C := RX0) (T := TX0) (N := 12) hx hb hts hinX0 hown hK.1 hB 3 isG_3.1 rfl 6 (by decide) (hts (.fieldLink RX6 116 "RiverMeeting$Game" "turns" "I") (List.mem_of_getElem? (i := 9) rfl)) (fun _ h9 => h9) rfl dX6_restore_66 ?_
        have e25 := p_X6_restore_e25 M x1 c11 c19 k21 hk21.symm c22 M23 hM23.symm M24 hM24.symm
        exact x_iret hx hb hr hlocks hS ⟨_, rfl, _, e25, hB⟩ dX6_restore_69
      · have e26 := p_X6_restore_e26 M x1 c11 c19 k21 hk21.symm c22
        obtain ⟨sa, hsa⟩ := hKX.2.2 21 _ rfl
        exact vx_throwSW (cls := xISE) (names := xNames) (ik := 64) (is := 324) (ic := 68) (A := rA o) hx hb hst hown fit2 fitN (hts (.classLink RX6 64 "java/lang/IllegalStateException") (List.mem_of_getElem? (i := 3) rfl)) (hts (.initialized "java/lang/IllegalStateException") (List.mem_of_getElem? (i := 4) rfl)) hsa (vx_hat (B := thrB) (fun w hw => hts w (List.mem_cons_of_mem _ (List.mem_append_right _ hw))) ng2 (bT.words hKX.2.1)) ot2 hZ.1 hZ.2 (bS_va hS) (hl.1.trans hml.symm) dX6_restore_33 dX6_restore_36 dX6_restore_37 dX6_restore_40 dX6_restore_43 (fun x hx9 => (ht x hx9).elim) (by decide) (Nat.le_of_ble_eq_true rfl) (Nat.le_refl _) (Nat.le_refl _) hlocks (x_throw (en := 2) hB hS (bk_lt hB) ⟨by decide, e26⟩ rfl) hS.2.2 (Nat.le_refl _) (Nat.le_refl _)
    · have e27 := p_X6_restore_e27 M x1 c11 c19
      obtain ⟨sa, hsa⟩ := hKX.2.2 20 _ rfl
      exact vx_throwSW (cls := xIOB) (names := xNames) (ik := 139) (is := 315) (ic := 143) (A := rA o) hx hb hst hown fit3 fitN (hts (.classLink RX6 139 "java/lang/IndexOutOfBoundsException") (List.mem_of_getElem? (i := 1) rfl)) (hts (.initialized "java/lang/IndexOutOfBoundsException") (List.mem_of_getElem? (i := 2) rfl)) hsa (vx_hat (B := thrB) (fun w hw => hts w (List.mem_cons_of_mem _ (List.mem_append_left _ (List.mem_append_right _ hw)))) ng3 (bT.words hKX.2.1)) ot3 hZ.1 hZ.2 (bS_va hS) (hl.1.trans hml.symm) dX6_restore_9 dX6_restore_12 dX6_restore_13 dX6_restore_16 dX6_restore_19 (fun x hx9 => (ht x hx9).elim) (by decide) (Nat.le_of_ble_eq_true rfl) (Nat.le_refl _) (Nat.le_refl _) hlocks (x_throw (en := 3) hB hS (bk_lt hB) ⟨by decide, e27⟩ rfl) hS.2.2 (Nat.le_refl _) (Nat.le_refl _)
