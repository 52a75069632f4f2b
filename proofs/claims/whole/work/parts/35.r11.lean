def f_X7_best (M : bM) : Int32 × bM := (let M11 : bM := up2 M 0 0 0; (let r13 : Int32 := (f_X7_bestOf M11 2).1; (let M12 : bM := (f_X7_bestOf M11 2).2; (r13, M12))))
theorem u_f_X7_best (M : bM) : f_X7_best M = (let M11 : bM := up2 M 0 0 0; (let r13 : Int32 := (f_X7_bestOf M11 2).1; (let M12 : bM := (f_X7_bestOf M11 2).2; (r13, M12)))) := rfl
theorem p_X7_best_e14 (M : bM) (M11 : bM) (hM11 : up2 M 0 0 0 = M11) (r13 : Int32) (hr13 : (f_X7_bestOf M11 2).1 = r13) (M12 : bM) (hM12 : (f_X7_bestOf M11 2).2 = M12) : f_X7_best M = (r13, M12) := by subst hM12 hr13 hM11; exact u_f_X7_best M
theorem fr_X7_best (M : bM) (k : Nat) (hk0 : k ≠ 0) (hf : k ≠ 7) : (f_X7_best M).2 k = M k := by
  obtain ⟨M11, hM11⟩ : ∃ y : bM, y = up2 M 0 0 0 := ⟨_, rfl⟩
  obtain ⟨r13, hr13⟩ : ∃ y : Int32, y = (f_X7_bestOf M11 2).1 := ⟨_, rfl⟩
  obtain ⟨M12, hM12⟩ : ∃ y : bM, y = (f_X7_bestOf M11 2).2 := ⟨_, rfl⟩
  rw [p_X7_best_e14 M M11 hM11.symm r13 hr13.symm M12 hM12.symm]
  try dsimp only
  rw [hM12, fr_X7_bestOf M11 2 k (by omega), hM11, up2_row (by omega)]
set_option maxHeartbeats 4000000 in
set_option maxRecDepth 100000 in
theorem c_X7_best (l : Launch) (D : va_G) (E : Nat → ClassId) (o : Nat) (M : bM) (hg : gR (M 2)) : Met l yX7_best wsX7_best (rmF 7) (bPc D E [.ref (o + 0)] (fun H => bk D E LRR o M H)) (bQ (aI fun r H => ∃ M1 : bM, (r = (f_X7_best M).1 ∧ M1 = (f_X7_best M).2) ∧ bk D E LRR o M1 H) (rB o)) 0 0 (rB o) := by
  refine Met.ofW (cc := cX7_best) (maxL := 1) (ret := (some .int)) (by decide) rfl ?_
  intro p e s m args below meth c s₁ B hml hv
  obtain ⟨rfl, hB, hK⟩ := hv
  have hx := B.exec
  have hb := B.bytes
  have hr := B.returns
  have hts := atoms_spec (ws := wsX7_best) B.pre
  have hown : s.vm.findClass RX7 = some m.cls := findClass_of_methodNamed B.named
  have hlocks := B.notSynchronized
  have hS : bS (rB o) s.heap s.heap [] := bS.rf
  have hl := lv_entry ([.ref (o + 0)]) (n := 1) (Nat.le_of_ble_eq_true rfl)
  rw [lg_entry_eq]
  generalize (lg_sl ([.ref (o + 0)]) ++ List.replicate (1 - (lg_sl ([.ref (o + 0)])).length) Slot.unset).toArray = ls at hl ⊢
  have hl : lv_has ls 1 [(0, .ref (o + 0))] := hl
  have hB : bk D E LRR o M s.heap := hB
  have hinX7 : ∀ w ∈ wsX70, w ∈ wsX7_best := by decide +kernel
  refine lv_aload_n hx hb dX7_best_0 rfl (lv_at hl 0 rfl) ?_
  refine lv_iconst (v := 0) hx hb dX7_best_1 (by decide) ?_
  refine b_put (D := D) (E := E) (L := LRR) (o := o) (M := M) (v := 0) (ty := .int) (C := RX7) (T := TX7) (N := 13) hx hb hts hinX7 tyX7 tyX7_ok nmX7 hown hK.1 hB hS 0 (rB_of lay_m0) lay_m0 rfl 0 (by decide) rfl (hts (.fieldLink RX7 39 "RiverMeetingModel" "refusal" "I") (List.mem_of_getElem? (i := 1) rfl)) (fun _ h9 => h9) rfl (by decide +kernel) rfl rfl dX7_best_2 (fun M11 hM11 H locs hB _ hS => ?_)
  refine lv_aload_n hx hb dX7_best_5 rfl (lv_at hl 0 rfl) ?_
  refine lv_aload_n hx hb dX7_best_6 rfl (lv_at hl 0 rfl) ?_
  refine b_get (D := D) (E := E) (L := LRR) (o := o) (M := M11) (v := .ref (o + 2)) (C := RX7) (T := TX7) (N := 13) hx hb hts hinX7 hown hK.1 hB 0 lay_m0 rfl 3 (by decide) (hts (.fieldLink RX7 13 "RiverMeetingModel" "now" "[I") (List.mem_of_getElem? (i := 2) rfl)) (fun _ h9 => h9) rfl dX7_best_7 ?_
  refine b_mI (b_runV (As := [.ref (o + 2)]) (rest := []) ⟨hx, hb, hml, hown, hts⟩ (c_X7_bestOf l D E o M11 2 lay_m2 (gR_wf (gR_of (M := M) (by rw [hM11]; exact up2_row (by decide)) hg)) (by decide) (gR_best (by decide) (gR_of (M := M) (by rw [hM11]; exact up2_row (by decide)) hg))) (cwV 1 hts gX7_best_X7_bestOf rfl rfl rfl (by decide +kernel) ⟨Nat.le_of_ble_eq_true rfl, Nat.le_of_ble_eq_true rfl⟩) hK (bk_recv hK.1 hB lay_m0 rfl) hB rfl hl rfl (Nat.le_of_ble_eq_true rfl) dX7_best_10 ⟨Nat.zero_le _, Nat.zero_le _⟩) hS (fun q h => h) (fun r13 M12 hM12 H locs hB _ hS => ?_)
  obtain ⟨hr13, hM12⟩ := hM12
  have e14 := p_X7_best_e14 M M11 hM11.symm r13 hr13.symm M12 hM12.symm
  exact b_iret hx hb hr hlocks hS ⟨_, rfl, _, ⟨(congrArg Prod.fst e14).symm, (congrArg Prod.snd e14).symm⟩, hB⟩ dX7_best_13

def f_X7_cheapest (M : bM) (x1 : Int32) (x2 : Int32) : Int32 × bM := (let r11 : Int32 := f_X7_in x1.toInt64 0 1; (if r11 = 0 then (let r29 : Int32 := (f_X7_refused M 1).1; (let M28 : bM := (f_X7_refused M 1).2; (0, M28))) else (let r13 : Int32 := f_X7_in x2.toInt64 0 1; (if r13 = 0 then (let r16 : Int32 := (f_X7_refused M 2).1; (let M15 : bM := (f_X7_refused M 2).2; (0, M15))) else (let r20 : Int32 := (f_X7_refused M 0).1; (let M19 : bM := (f_X7_refused M 0).2; (let r22 : Int32 := f_X7_head M19 2 x1; (let r24 : Int32 := (f_X7_cheapestFrom M19 2 x1 r22).1; (let M23 : bM := (f_X7_cheapestFrom M19 2 x1 r22).2; (if r24 = 99999 then ((-1), M23) else (r24, M23)))))))))))
theorem u_f_X7_cheapest (M : bM) (x1 : Int32) (x2 : Int32) : f_X7_cheapest M x1 x2 = (let r11 : Int32 := f_X7_in x1.toInt64 0 1; (if r11 = 0 then (let r29 : Int32 := (f_X7_refused M 1).1; (let M28 : bM := (f_X7_refused M 1).2; (0, M28))) else (let r13 : Int32 := f_X7_in x2.toInt64 0 1; (if r13 = 0 then (let r16 : Int32 := (f_X7_refused M 2).1; (let M15 : bM := (f_X7_refused M 2).2; (0, M15))) else (let r20 : Int32 := (f_X7_refused M 0).1; (let M19 : bM := (f_X7_refused M 0).2; (let r22 : Int32 := f_X7_head M19 2 x1; (let r24 : Int32 := (f_X7_cheapestFrom M19 2 x1 r22).1; (let M23 : bM := (f_X7_cheapestFrom M19 2 x1 r22).2; (if r24 = 99999 then ((-1), M23) else (r24, M23))))))))))) := rfl
theorem p_X7_cheapest_e18 (M : bM) (x1 : Int32) (x2 : Int32) (r11 : Int32) (hr11 : f_X7_in x1.toInt64 0 1 = r11) (c12 : ¬ r11 = 0) (r13 : Int32) (hr13 : f_X7_in x2.toInt64 0 1 = r13) (c14 : r13 = 0) (r16 : Int32) (hr16 : (f_X7_refused M 2).1 = r16) (M15 : bM) (hM15 : (f_X7_refused M 2).2 = M15) : f_X7_cheapest M x1 x2 = (0, M15) := by subst hM15 hr16 hr13 hr11; exact Eq.trans (u_f_X7_cheapest M x1 x2) (Eq.trans (if_neg c12) (if_pos c14))
theorem p_X7_cheapest_e26 (M : bM) (x1 : Int32) (x2 : Int32) (r11 : Int32) (hr11 : f_X7_in x1.toInt64 0 1 = r11) (c12 : ¬ r11 = 0) (r13 : Int32) (hr13 : f_X7_in x2.toInt64 0 1 = r13) (c14 : ¬ r13 = 0) (r20 : Int32) (hr20 : (f_X7_refused M 0).1 = r20) (M19 : bM) (hM19 : (f_X7_refused M 0).2 = M19) (r22 : Int32) (hr22 : f_X7_head M19 2 x1 = r22) (r24 : Int32) (hr24 : (f_X7_cheapestFrom M19 2 x1 r22).1 = r24) (M23 : bM) (hM23 : (f_X7_cheapestFrom M19 2 x1 r22).2 = M23) (c25 : ¬ r24 = 99999) : f_X7_cheapest M x1 x2 = (r24, M23) := by subst hM23 hr24 hr22 hM19 hr20 hr13 hr11; exact Eq.trans (u_f_X7_cheapest M x1 x2) (Eq.trans (if_neg c12) (Eq.trans (if_neg c14) (if_neg c25)))
theorem p_X7_cheapest_e27 (M : bM) (x1 : Int32) (x2 : Int32) (r11 : Int32) (hr11 : f_X7_in x1.toInt64 0 1 = r11) (c12 : ¬ r11 = 0) (r13 : Int32) (hr13 : f_X7_in x2.toInt64 0 1 = r13) (c14 : ¬ r13 = 0) (r20 : Int32) (hr20 : (f_X7_refused M 0).1 = r20) (M19 : bM) (hM19 : (f_X7_refused M 0).2 = M19) (r22 : Int32) (hr22 : f_X7_head M19 2 x1 = r22) (r24 : Int32) (hr24 : (f_X7_cheapestFrom M19 2 x1 r22).1 = r24) (M23 : bM) (hM23 : (f_X7_cheapestFrom M19 2 x1 r22).2 = M23) (c25 : r24 = 99999) : f_X7_cheapest M x1 x2 = ((-1), M23) := by subst hM23 hr24 hr22 hM19 hr20 hr13 hr11; exact Eq.trans (u_f_X7_cheapest M x1 x2) (Eq.trans (if_neg c12) (Eq.trans (if_neg c14) (if_pos c25)))
theorem p_X7_cheapest_e31 (M : bM) (x1 : Int32) (x2 : Int32) (r11 : Int32) (hr11 : f_X7_in x1.toInt64 0 1 = r11) (c12 : r11 = 0) (r29 : Int32) (hr29 : (f_X7_refused M 1).1 = r29) (M28 : bM) (hM28 : (f_X7_refused M 1).2 = M28) : f_X7_cheapest M x1 x2 = (0, M28) := by subst hM28 hr29 hr11; exact Eq.trans (u_f_X7_cheapest M x1 x2) (if_pos c12)
theorem fr_X7_cheapest (M : bM) (x1 : Int32) (x2 : Int32) (k : Nat) (hk0 : k ≠ 0) (hf : k ≠ 7) : (f_X7_cheapest M x1 x2).2 k = M k := by
  obtain ⟨r11, hr11⟩ : ∃ y : Int32, y = f_X7_in x1.toInt64 0 1 := ⟨_, rfl⟩
  by_cases c12 : r11 = 0
  · obtain ⟨r29, hr29⟩ : ∃ y : Int32, y = (f_X7_refused M 1).1 := ⟨_, rfl⟩
    obtain ⟨M28, hM28⟩ : ∃ y : bM, y = (f_X7_refused M 1).2 := ⟨_, rfl⟩
    rw [p_X7_cheapest_e31 M x1 x2 r11 hr11.symm c12 r29 hr29.symm M28 hM28.symm]
    try dsimp only
    rw [hM28, fr_X7_refused M 1 k (by omega)]
  · obtain ⟨r13, hr13⟩ : ∃ y : Int32, y = f_X7_in x2.toInt64 0 1 := ⟨_, rfl⟩
    by_cases c14 : r13 = 0
    · obtain ⟨r16, hr16⟩ : ∃ y : Int32, y = (f_X7_refused M 2).1 := ⟨_, rfl⟩
      obtain ⟨M15, hM15⟩ : ∃ y : bM, y = (f_X7_refused M 2).2 := ⟨_, rfl⟩
      rw [p_X7_cheapest_e18 M x1 x2 r11 hr11.symm c12 r13 hr13.symm c14 r16 hr16.symm M15 hM15.symm]
      try dsimp only
      rw [hM15, fr_X7_refused M 2 k (by omega)]
    · obtain ⟨r20, hr20⟩ : ∃ y : Int32, y = (f_X7_refused M 0).1 := ⟨_, rfl⟩
      obtain ⟨M19, hM19⟩ : ∃ y : bM, y = (f_X7_refused M 0).2 := ⟨_, rfl⟩
      obtain ⟨r22, hr22⟩ : ∃ y : Int32, y = f_X7_head M19 2 x1 := ⟨_, rfl⟩
      obtain ⟨r24, hr24⟩ : ∃ y : Int32, y = (f_X7_cheapestFrom M19 2 x1 r22).1 := ⟨_, rfl⟩
      obtain ⟨M23, hM23⟩ : ∃ y : bM, y = (f_X7_cheapestFrom M19 2 x1 r22).2 := ⟨_, rfl⟩
      by_cases c25 : r24 = 99999
      · rw [p_X7_cheapest_e27 M x1 x2 r11 hr11.symm c12 r13 hr13.symm c14 r20 hr20.symm M19 hM19.symm r22 hr22.symm r24 hr24.symm M23 hM23.symm c25]
        try dsimp only
        rw [hM23, fr_X7_cheapestFrom M19 2 x1 r22 k (by omega), hM19, fr_X7_refused M 0 k (by omega)]
      · rw [p_X7_cheapest_e26 M x1 x2 r11 hr11.symm c12 r13 hr13.symm c14 r20 hr20.symm M19 hM19.symm r22 hr22.symm r24 hr24.symm M23 hM23.symm c25]
        try dsimp only
        rw [hM23, fr_X7_cheapestFrom M19 2 x1 r22 k (by omega), hM19, fr_X7_refused M 0 k (by omega)]
set_option maxHeartbeats 4000000 in
set_option maxRecDepth 100000 in
theorem c_X7_cheapest (l : Launch) (D : va_G) (E : Nat → ClassId) (o : Nat) (M : bM) (x1 : Int32) (x2 : Int32) (hg : gR (M 2)) : Met l yX7_cheapest wsX7_cheapest (rmF 5) (bPc D E [.ref (o + 0), .int x1, .int x2] (fun H => bk D E LRR o M H)) (bQ (aI fun r H => ∃ M1 : bM, (r = (f_X7_cheapest M x1 x2).1 ∧ M1 = (f_X7_cheapest M x1 x2).2) ∧ bk D E LRR o M1 H) (rB o)) 0 0 (rB o) := by
  refine Met.ofW (cc := cX7_cheapest) (maxL := 4) (ret := (some .int)) (by decide) rfl ?_
  intro p e s m args below meth c s₁ B hml hv
  obtain ⟨rfl, hB, hK⟩ := hv
  have hx := B.exec
  have hb := B.bytes
  have hr := B.returns
  have hts := atoms_spec (ws := wsX7_cheapest) B.pre
  have hown : s.vm.findClass RX7 = some m.cls := findClass_of_methodNamed B.named
  have hlocks := B.notSynchronized
  have hS : bS (rB o) s.heap s.heap [] := bS.rf
  have hl := lv_entry ([.ref (o + 0), .int x1, .int x2]) (n := 4) (Nat.le_of_ble_eq_true rfl)
  rw [lg_entry_eq]
  generalize (lg_sl ([.ref (o + 0), .int x1, .int x2]) ++ List.replicate (4 - (lg_sl ([.ref (o + 0), .int x1, .int x2])).length) Slot.unset).toArray = ls at hl ⊢
  have hl : lv_has ls 4 [(0, .ref (o + 0)), (1, .int x1), (2, .int x2)] := hl
  have hB : bk D E LRR o M s.heap := hB
  have hinX7 : ∀ w ∈ wsX70, w ∈ wsX7_cheapest := by decide +kernel
  refine lv_aload_n hx hb dX7_cheapest_0 rfl (lv_at hl 0 rfl) ?_
  refine lv_iload_n hx hb dX7_cheapest_1 rfl (lv_at hl 1 rfl) ?_
  refine lv_i2l hx hb dX7_cheapest_2 rfl ?_
  refine lv_lconst (v := 0) hx hb dX7_cheapest_3 (by decide) ?_
  refine lv_lconst (v := 1) hx hb dX7_cheapest_4 (by decide) ?_
  refine b_pI (b_runS (As := [.long x1.toInt64, .long 0, .long 1]) (rest := [.ref (o + 0)]) ⟨hx, hb, hml, hown, hts⟩ (c_X7_in l D E x1.toInt64 0 1) (va_cwS 3 hts gX7_cheapest_X7_in rfl rfl rfl (by decide +kernel) ⟨Nat.le_of_ble_eq_true rfl, Nat.le_of_ble_eq_true rfl⟩) hK trivial rfl hl rfl (Nat.le_of_ble_eq_true rfl) dX7_cheapest_5 ⟨Nat.zero_le _, Nat.zero_le _⟩) hS (fun r11 hr11 locs hS => ?_)
  refine lv_if_ne (tgt := 15) hx hb dX7_cheapest_8 (by decide) (fun c12 => ?_) (fun c12 => ?_)
  · refine lv_iload_n hx hb dX7_cheapest_15 rfl (lv_at hl 2 rfl) ?_
    refine lv_i2l hx hb dX7_cheapest_16 rfl ?_
    refine lv_lconst (v := 0) hx hb dX7_cheapest_17 (by decide) ?_
    refine lv_lconst (v := 1) hx hb dX7_cheapest_18 (by decide) ?_
    refine b_pI (b_runS (As := [.long x2.toInt64, .long 0, .long 1]) (rest := [.ref (o + 0)]) ⟨hx, hb, hml, hown, hts⟩ (c_X7_in l D E x2.toInt64 0 1) (va_cwS 3 hts gX7_cheapest_X7_in rfl rfl rfl (by decide +kernel) ⟨Nat.le_of_ble_eq_true rfl, Nat.le_of_ble_eq_true rfl⟩) hK trivial rfl hl rfl (Nat.le_of_ble_eq_true rfl) dX7_cheapest_19 ⟨Nat.zero_le _, Nat.zero_le _⟩) hS (fun r13 hr13 locs hS => ?_)
    refine lv_if_eq (tgt := 29) hx hb dX7_cheapest_22 (by decide) (fun c14 => ?_) (fun c14 => ?_)
    · refine lv_iconst (v := 2) hx hb dX7_cheapest_29 (by decide) ?_
      refine b_mI (b_runV (As := [.int 2]) (rest := []) ⟨hx, hb, hml, hown, hts⟩ (c_X7_refused l D E o M 2) (cwV 1 hts gX7_cheapest_X7_refused rfl rfl rfl (by decide +kernel) ⟨Nat.le_of_ble_eq_true rfl, Nat.le_of_ble_eq_true rfl⟩) hK (bk_recv hK.1 hB lay_m0 rfl) hB rfl hl rfl (Nat.le_of_ble_eq_true rfl) dX7_cheapest_30 ⟨Nat.zero_le _, Nat.zero_le _⟩) hS (fun q h => h) (fun r16 M15 hM15 H locs hB _ hS => ?_)
      obtain ⟨hr16, hM15⟩ := hM15
      have hkr16 : r16 = 1 := by rw [hr16]; rfl
      refine lv_const (y := 1) hkr16 ?_
      refine lv_if_eq (tgt := 38) hx hb dX7_cheapest_33 (by decide) (fun c17 => absurd c17 (by decide)) (fun c17 => ?_)
      refine lv_iconst (v := 0) hx hb dX7_cheapest_36 (by decide) ?_
      have e18 := p_X7_cheapest_e18 M x1 x2 r11 hr11.symm c12 r13 hr13.symm c14 r16 hr16.symm M15 hM15.symm
      exact b_iret hx hb hr hlocks hS ⟨_, rfl, _, ⟨(congrArg Prod.fst e18).symm, (congrArg Prod.snd e18).symm⟩, hB⟩ dX7_cheapest_37
    · refine lv_iconst (v := 0) hx hb dX7_cheapest_25 (by decide) ?_
      refine lv_goto (tgt := 30) hx hb dX7_cheapest_26 (by decide) ?_
      refine b_mI (b_runV (As := [.int 0]) (rest := []) ⟨hx, hb, hml, hown, hts⟩ (c_X7_refused l D E o M 0) (cwV 1 hts gX7_cheapest_X7_refused rfl rfl rfl (by decide +kernel) ⟨Nat.le_of_ble_eq_true rfl, Nat.le_of_ble_eq_true rfl⟩) hK (bk_recv hK.1 hB lay_m0 rfl) hB rfl hl rfl (Nat.le_of_ble_eq_true rfl) dX7_cheapest_30 ⟨Nat.zero_le _, Nat.zero_le _⟩) hS (fun q h => h) (fun r20 M19 hM19 H locs hB _ hS => ?_)
      obtain ⟨hr20, hM19⟩ := hM19
      have hkr20 : r20 = 0 := by rw [hr20]; rfl
      refine lv_const (y := 0) hkr20 ?_
      refine lv_if_eq (tgt := 38) hx hb dX7_cheapest_33 (by decide) (fun c21 => ?_) (fun c21 => absurd (by decide) c21)
      refine lv_aload_n hx hb dX7_cheapest_38 rfl (lv_at hl 0 rfl) ?_
      refine lv_aload_n hx hb dX7_cheapest_39 rfl (lv_at hl 0 rfl) ?_
      refine b_get (D := D) (E := E) (L := LRR) (o := o) (M := M19) (v := .ref (o + 2)) (C := RX7) (T := TX7) (N := 13) hx hb hts hinX7 hown hK.1 hB 0 lay_m0 rfl 3 (by decide) (hts (.fieldLink RX7 13 "RiverMeetingModel" "now" "[I") (List.mem_of_getElem? (i := 1) rfl)) (fun _ h9 => h9) rfl dX7_cheapest_40 ?_
      refine lv_iload_n hx hb dX7_cheapest_43 rfl (lv_at hl 1 rfl) ?_
      refine lv_aload_n hx hb dX7_cheapest_44 rfl (lv_at hl 0 rfl) ?_
      refine b_get (D := D) (E := E) (L := LRR) (o := o) (M := M19) (v := .ref (o + 2)) (C := RX7) (T := TX7) (N := 13) hx hb hts hinX7 hown hK.1 hB 0 lay_m0 rfl 3 (by decide) (hts (.fieldLink RX7 13 "RiverMeetingModel" "now" "[I") (List.mem_of_getElem? (i := 1) rfl)) (fun _ h9 => h9) rfl dX7_cheapest_45 ?_
      refine lv_iload_n hx hb dX7_cheapest_48 rfl (lv_at hl 1 rfl) ?_
      refine b_pI (b_runS (As := [.ref (o + 2), .int x1]) (rest := [.int x1, .ref (o + 2), .ref (o + 0)]) ⟨hx, hb, hml, hown, hts⟩ (c_X7_head l D E o M19 2 x1 lay_m2 (in_pb (in_rng 2 (by decide) (hr11 ▸ c12))) (len_of (in_pb (in_rng 2 (by decide) (hr11 ▸ c12))) (wf_ln (M := M19) (k := 2) (gR_wf (gR_of (M := M) (by rw [hM19]; exact fr_X7_refused M 0 2 (by decide)) hg))))) (va_cwS 2 hts gX7_cheapest_X7_head rfl rfl rfl (by decide +kernel) ⟨Nat.le_of_ble_eq_true rfl, Nat.le_of_ble_eq_true rfl⟩) hK hB rfl hl rfl (Nat.le_of_ble_eq_true rfl) dX7_cheapest_49 ⟨Nat.zero_le _, Nat.zero_le _⟩) hS (fun r22 hr22 locs hS => ?_)
      refine b_mI (b_runV (As := [.ref (o + 2), .int x1, .int r22]) (rest := []) ⟨hx, hb, hml, hown, hts⟩ (c_X7_cheapestFrom l D E o M19 2 x1 r22 lay_m2 (in_pb (in_rng 2 (by decide) (hr11 ▸ c12))) (by rw [hr22]; exact ms_head (in_pb (in_rng 2 (by decide) (hr11 ▸ c12))) (gR_of (M := M) (by rw [hM19]; exact fr_X7_refused M 0 2 (by decide)) hg))) (cwV 3 hts gX7_cheapest_X7_cheapestFrom rfl rfl rfl (by decide +kernel) ⟨Nat.le_of_ble_eq_true rfl, Nat.le_of_ble_eq_true rfl⟩) hK (bk_recv hK.1 hB lay_m0 rfl) hB rfl hl rfl (Nat.le_of_ble_eq_true rfl) dX7_cheapest_52 ⟨Nat.zero_le _, Nat.zero_le _⟩) hS (fun q h => h) (fun r24 M23 hM23 H locs hB _ hS => ?_)
      obtain ⟨hr24, hM23⟩ := hM23
      refine lv_istore_n (lv' := [(3, .int r24), (0, .ref (o + 0)), (1, .int x1), (2, .int x2)]) hx hb dX7_cheapest_55 rfl hl (by decide) rfl (fun ls hl => ?_)
      refine lv_iload_n hx hb dX7_cheapest_56 rfl (lv_at hl 0 rfl) ?_
      refine lv_ldc (v := 99999) hx hb hown (hts (.constant RX7 122 (99999)) (List.mem_of_getElem? (i := 2) rfl)) dX7_cheapest_57 ?_
      refine lv_icmp_ne (tgt := 66) hx hb dX7_cheapest_59 (by decide) (fun c25 => ?_) (fun c25 => ?_)
      · refine lv_iload_n hx hb dX7_cheapest_66 rfl (lv_at hl 0 rfl) ?_
        have e26 := p_X7_cheapest_e26 M x1 x2 r11 hr11.symm c12 r13 hr13.symm c14 r20 hr20.symm M19 hM19.symm r22 hr22.symm r24 hr24.symm M23 hM23.symm c25
        exact b_iret hx hb hr hlocks hS ⟨_, rfl, _, ⟨(congrArg Prod.fst e26).symm, (congrArg Prod.snd e26).symm⟩, hB⟩ dX7_cheapest_67
      · refine lv_iconst (v := (-1)) hx hb dX7_cheapest_62 (by decide) ?_
        refine lv_goto (tgt := 67) hx hb dX7_cheapest_63 (by decide) ?_
        have e27 := p_X7_cheapest_e27 M x1 x2 r11 hr11.symm c12 r13 hr13.symm c14 r20 hr20.symm M19 hM19.symm r22 hr22.symm r24 hr24.symm M23 hM23.symm c25
        exact b_iret hx hb hr hlocks hS ⟨_, rfl, _, ⟨(congrArg Prod.fst e27).symm, (congrArg Prod.snd e27).symm⟩, hB⟩ dX7_cheapest_67
  · refine lv_iconst (v := 1) hx hb dX7_cheapest_11 (by decide) ?_
    refine lv_goto (tgt := 30) hx hb dX7_cheapest_12 (by decide) ?_
    refine b_mI (b_runV (As := [.int 1]) (rest := []) ⟨hx, hb, hml, hown, hts⟩ (c_X7_refused l D E o M 1) (cwV 1 hts gX7_cheapest_X7_refused rfl rfl rfl (by decide +kernel) ⟨Nat.le_of_ble_eq_true rfl, Nat.le_of_ble_eq_true rfl⟩) hK (bk_recv hK.1 hB lay_m0 rfl) hB rfl hl rfl (Nat.le_of_ble_eq_true rfl) dX7_cheapest_30 ⟨Nat.zero_le _, Nat.zero_le _⟩) hS (fun q h => h) (fun r29 M28 hM28 H locs hB _ hS => ?_)
    obtain ⟨hr29, hM28⟩ := hM28
    have hkr29 : r29 = 1 := by rw [hr29]; rfl
    refine lv_const (y := 1) hkr29 ?_
    refine lv_if_eq (tgt := 38) hx hb dX7_cheapest_33 (by decide) (fun c30 => absurd c30 (by decide)) (fun c30 => ?_)
    refine lv_iconst (v := 0) hx hb dX7_cheapest_36 (by decide) ?_
    have e31 := p_X7_cheapest_e31 M x1 x2 r11 hr11.symm c12 r29 hr29.symm M28 hM28.symm
    exact b_iret hx hb hr hlocks hS ⟨_, rfl, _, ⟨(congrArg Prod.fst e31).symm, (congrArg Prod.snd e31).symm⟩, hB⟩ dX7_cheapest_37

def lp_X7_meetsIn_38 (x1 : Int32) : Nat → Nat → bM → (bM)
  | 0, i21, M22 => M22
  | n21 + 1, i21, M22 => (let r26 : Int32 := f_X7_head M22 2 x1; (if nI i21 = r26 then (let M30 : bM := up2 M22 7 i21 0; lp_X7_meetsIn_38 x1 n21 (i21 + 1) M30) else (let M28 : bM := up2 M22 7 i21 99999; lp_X7_meetsIn_38 x1 n21 (i21 + 1) M28)))
theorem u0_lp_X7_meetsIn_38 (x1 : Int32) (i21 : Nat) (M22 : bM) : lp_X7_meetsIn_38 x1 0 i21 M22 = M22 := rfl
theorem u1_lp_X7_meetsIn_38 (x1 : Int32) (n21 i21 : Nat) (M22 : bM) : lp_X7_meetsIn_38 x1 (n21 + 1) i21 M22 = (let r26 : Int32 := f_X7_head M22 2 x1; (if nI i21 = r26 then (let M30 : bM := up2 M22 7 i21 0; lp_X7_meetsIn_38 x1 n21 (i21 + 1) M30) else (let M28 : bM := up2 M22 7 i21 99999; lp_X7_meetsIn_38 x1 n21 (i21 + 1) M28))) := rfl
def lp_X7_meetsIn_84 (x1 : Int32) (i33 : Nat) : Nat → Nat → bM → (Bool × Int32 × bM)
  | 0, i38, M39 => (false, 0, M39)
  | n38 + 1, i38, M39 => (let r43 : Int32 := f_X7_stepFrom (nI i38 / 3) (nI i38 - nI i38 / 3 * 3); (if (M39 7 (nI i38 / 3).toNatClampNeg) = nI i33 then (if r43 = (-1) then lp_X7_meetsIn_84 x1 i33 n38 (i38 + 1) M39 else (if (M39 7 r43.toNatClampNeg) = 99999 then (let r50 : Int32 := f_X7_isDam M39 2 r43; (if r50 = 0 then (let r53 : Int32 := f_X7_isRiver M39 2 x1 r43; (if r53 = 0 then (let r56 : Int32 := f_X7_isRiver M39 2 ((1 : Int32) - x1) r43; (if r56 = 0 then (let M58 : bM := up2 M39 7 r43.toNatClampNeg (nI i33 + 1); lp_X7_meetsIn_84 x1 i33 n38 (i38 + 1) M58) else (true, (nI i33 + 1), M39))) else lp_X7_meetsIn_84 x1 i33 n38 (i38 + 1) M39)) else lp_X7_meetsIn_84 x1 i33 n38 (i38 + 1) M39)) else lp_X7_meetsIn_84 x1 i33 n38 (i38 + 1) M39)) else lp_X7_meetsIn_84 x1 i33 n38 (i38 + 1) M39))
theorem u0_lp_X7_meetsIn_84 (x1 : Int32) (i33 : Nat) (i38 : Nat) (M39 : bM) : lp_X7_meetsIn_84 x1 i33 0 i38 M39 = (false, 0, M39) := rfl
theorem u1_lp_X7_meetsIn_84 (x1 : Int32) (i33 : Nat) (n38 i38 : Nat) (M39 : bM) : lp_X7_meetsIn_84 x1 i33 (n38 + 1) i38 M39 = (let r43 : Int32 := f_X7_stepFrom (nI i38 / 3) (nI i38 - nI i38 / 3 * 3); (if (M39 7 (nI i38 / 3).toNatClampNeg) = nI i33 then (if r43 = (-1) then lp_X7_meetsIn_84 x1 i33 n38 (i38 + 1) M39 else (if (M39 7 r43.toNatClampNeg) = 99999 then (let r50 : Int32 := f_X7_isDam M39 2 r43; (if r50 = 0 then (let r53 : Int32 := f_X7_isRiver M39 2 x1 r43; (if r53 = 0 then (let r56 : Int32 := f_X7_isRiver M39 2 ((1 : Int32) - x1) r43; (if r56 = 0 then (let M58 : bM := up2 M39 7 r43.toNatClampNeg (nI i33 + 1); lp_X7_meetsIn_84 x1 i33 n38 (i38 + 1) M58) else (true, (nI i33 + 1), M39))) else lp_X7_meetsIn_84 x1 i33 n38 (i38 + 1) M39)) else lp_X7_meetsIn_84 x1 i33 n38 (i38 + 1) M39)) else lp_X7_meetsIn_84 x1 i33 n38 (i38 + 1) M39)) else lp_X7_meetsIn_84 x1 i33 n38 (i38 + 1) M39)) := rfl
def lp_X7_meetsIn_76 (x1 : Int32) : Nat → Nat → bM → (Bool × Int32 × bM)
  | 0, i33, M34 => (false, 0, M34)
  | n33 + 1, i33, M34 => (if (lp_X7_meetsIn_84 x1 i33 192 0 M34).1 = true then (true, (lp_X7_meetsIn_84 x1 i33 192 0 M34).2.1, (lp_X7_meetsIn_84 x1 i33 192 0 M34).2.2) else (let M62 : bM := (lp_X7_meetsIn_84 x1 i33 192 0 M34).2.2; lp_X7_meetsIn_76 x1 n33 (i33 + 1) M62))
theorem u0_lp_X7_meetsIn_76 (x1 : Int32) (i33 : Nat) (M34 : bM) : lp_X7_meetsIn_76 x1 0 i33 M34 = (false, 0, M34) := rfl
theorem u1_lp_X7_meetsIn_76 (x1 : Int32) (n33 i33 : Nat) (M34 : bM) : lp_X7_meetsIn_76 x1 (n33 + 1) i33 M34 = (if (lp_X7_meetsIn_84 x1 i33 192 0 M34).1 = true then (true, (lp_X7_meetsIn_84 x1 i33 192 0 M34).2.1, (lp_X7_meetsIn_84 x1 i33 192 0 M34).2.2) else (let M62 : bM := (lp_X7_meetsIn_84 x1 i33 192 0 M34).2.2; lp_X7_meetsIn_76 x1 n33 (i33 + 1) M62)) := rfl
def f_X7_meetsIn (M : bM) (x1 : Int32) : Int32 × bM := (let r11 : Int32 := f_X7_in x1.toInt64 0 1; (if r11 = 0 then (let r14 : Int32 := (f_X7_refused M 1).1; (let M13 : bM := (f_X7_refused M 1).2; (0, M13))) else (let r18 : Int32 := (f_X7_refused M 0).1; (let M17 : bM := (f_X7_refused M 0).2; (if (M17 2 1) = 2 then (0, M17) else (let M32 : bM := (lp_X7_meetsIn_38 x1 64 0 M17); (if (lp_X7_meetsIn_76 x1 64 0 M32).1 = true then ((lp_X7_meetsIn_76 x1 64 0 M32).2.1, (lp_X7_meetsIn_76 x1 64 0 M32).2.2) else (let M65 : bM := (lp_X7_meetsIn_76 x1 64 0 M32).2.2; ((-1), M65)))))))))
theorem u_f_X7_meetsIn (M : bM) (x1 : Int32) : f_X7_meetsIn M x1 = (let r11 : Int32 := f_X7_in x1.toInt64 0 1; (if r11 = 0 then (let r14 : Int32 := (f_X7_refused M 1).1; (let M13 : bM := (f_X7_refused M 1).2; (0, M13))) else (let r18 : Int32 := (f_X7_refused M 0).1; (let M17 : bM := (f_X7_refused M 0).2; (if (M17 2 1) = 2 then (0, M17) else (let M32 : bM := (lp_X7_meetsIn_38 x1 64 0 M17); (if (lp_X7_meetsIn_76 x1 64 0 M32).1 = true then ((lp_X7_meetsIn_76 x1 64 0 M32).2.1, (lp_X7_meetsIn_76 x1 64 0 M32).2.2) else (let M65 : bM := (lp_X7_meetsIn_76 x1 64 0 M32).2.2; ((-1), M65))))))))) := rfl
theorem p_X7_meetsIn_e16 (M : bM) (x1 : Int32) (r11 : Int32) (hr11 : f_X7_in x1.toInt64 0 1 = r11) (c12 : r11 = 0) (r14 : Int32) (hr14 : (f_X7_refused M 1).1 = r14) (M13 : bM) (hM13 : (f_X7_refused M 1).2 = M13) : f_X7_meetsIn M x1 = (0, M13) := by subst hM13 hr14 hr11; exact Eq.trans (u_f_X7_meetsIn M x1) (if_pos c12)
theorem p_X7_meetsIn_e24 (M : bM) (x1 : Int32) (r11 : Int32) (r18 : Int32) (M17 : bM) (M22 : bM) (i21 : Nat)  : lp_X7_meetsIn_38 x1 0 i21 M22 = M22 := by exact u0_lp_X7_meetsIn_38 x1 i21 M22
theorem p_X7_meetsIn_e29 (M : bM) (x1 : Int32) (r11 : Int32) (r18 : Int32) (M17 : bM) (M22 : bM) (i21 : Nat) (n21 : Nat) (r26 : Int32) (hr26 : f_X7_head M22 2 x1 = r26) (c27 : ¬ nI i21 = r26) (M28 : bM) (hM28 : up2 M22 7 i21 99999 = M28) : lp_X7_meetsIn_38 x1 (n21 + 1) i21 M22 = lp_X7_meetsIn_38 x1 n21 (i21 + 1) M28 := by subst hM28 hr26; exact Eq.trans (u1_lp_X7_meetsIn_38 x1 n21 i21 M22) (if_neg c27)
theorem p_X7_meetsIn_e31 (M : bM) (x1 : Int32) (r11 : Int32) (r18 : Int32) (M17 : bM) (M22 : bM) (i21 : Nat) (n21 : Nat) (r26 : Int32) (hr26 : f_X7_head M22 2 x1 = r26) (c27 : nI i21 = r26) (M30 : bM) (hM30 : up2 M22 7 i21 0 = M30) : lp_X7_meetsIn_38 x1 (n21 + 1) i21 M22 = lp_X7_meetsIn_38 x1 n21 (i21 + 1) M30 := by subst hM30 hr26; exact Eq.trans (u1_lp_X7_meetsIn_38 x1 n21 i21 M22) (if_pos c27)
theorem p_X7_meetsIn_e36 (M : bM) (x1 : Int32) (r11 : Int32) (r18 : Int32) (M17 : bM) (M32 : bM) (M34 : bM) (i33 : Nat)  : lp_X7_meetsIn_76 x1 0 i33 M34 = (false, 0, M34) := by exact u0_lp_X7_meetsIn_76 x1 i33 M34
theorem p_X7_meetsIn_e41 (M : bM) (x1 : Int32) (r11 : Int32) (r18 : Int32) (M17 : bM) (M32 : bM) (M34 : bM) (i33 : Nat) (M39 : bM) (i38 : Nat)  : lp_X7_meetsIn_84 x1 i33 0 i38 M39 = (false, 0, M39) := by exact u0_lp_X7_meetsIn_84 x1 i33 i38 M39
theorem p_X7_meetsIn_e45 (M : bM) (x1 : Int32) (r11 : Int32) (r18 : Int32) (M17 : bM) (M32 : bM) (M34 : bM) (i33 : Nat) (M39 : bM) (i38 : Nat) (n38 : Nat) (r43 : Int32) (hr43 : f_X7_stepFrom (nI i38 / 3) (nI i38 - nI i38 / 3 * 3) = r43) (c44 : ¬ (M39 7 (nI i38 / 3).toNatClampNeg) = nI i33) : lp_X7_meetsIn_84 x1 i33 (n38 + 1) i38 M39 = lp_X7_meetsIn_84 x1 i33 n38 (i38 + 1) M39 := by subst hr43; exact Eq.trans (u1_lp_X7_meetsIn_84 x1 i33 n38 i38 M39) (if_neg c44)
theorem p_X7_meetsIn_e47 (M : bM) (x1 : Int32) (r11 : Int32) (r18 : Int32) (M17 : bM) (M32 : bM) (M34 : bM) (i33 : Nat) (M39 : bM) (i38 : Nat) (n38 : Nat) (r43 : Int32) (hr43 : f_X7_stepFrom (nI i38 / 3) (nI i38 - nI i38 / 3 * 3) = r43) (c44 : (M39 7 (nI i38 / 3).toNatClampNeg) = nI i33) (c46 : r43 = (-1)) : lp_X7_meetsIn_84 x1 i33 (n38 + 1) i38 M39 = lp_X7_meetsIn_84 x1 i33 n38 (i38 + 1) M39 := by subst hr43; exact Eq.trans (u1_lp_X7_meetsIn_84 x1 i33 n38 i38 M39) (Eq.trans (if_pos c44) (if_pos c46))
theorem p_X7_meetsIn_e49 (M : bM) (x1 : Int32) (r11 : Int32) (r18 : Int32) (M17 : bM) (M32 : bM) (M34 : bM) (i33 : Nat) (M39 : bM) (i38 : Nat) (n38 : Nat) (r43 : Int32) (hr43 : f_X7_stepFrom (nI i38 / 3) (nI i38 - nI i38 / 3 * 3) = r43) (c44 : (M39 7 (nI i38 / 3).toNatClampNeg) = nI i33) (c46 : ¬ r43 = (-1)) (c48 : ¬ (M39 7 r43.toNatClampNeg) = 99999) : lp_X7_meetsIn_84 x1 i33 (n38 + 1) i38 M39 = lp_X7_meetsIn_84 x1 i33 n38 (i38 + 1) M39 := by subst hr43; exact Eq.trans (u1_lp_X7_meetsIn_84 x1 i33 n38 i38 M39) (Eq.trans (if_pos c44) (Eq.trans (if_neg c46) (if_neg c48)))
theorem p_X7_meetsIn_e52 (M : bM) (x1 : Int32) (r11 : Int32) (r18 : Int32) (M17 : bM) (M32 : bM) (M34 : bM) (i33 : Nat) (M39 : bM) (i38 : Nat) (n38 : Nat) (r43 : Int32) (hr43 : f_X7_stepFrom (nI i38 / 3) (nI i38 - nI i38 / 3 * 3) = r43) (c44 : (M39 7 (nI i38 / 3).toNatClampNeg) = nI i33) (c46 : ¬ r43 = (-1)) (c48 : (M39 7 r43.toNatClampNeg) = 99999) (r50 : Int32) (hr50 : f_X7_isDam M39 2 r43 = r50) (c51 : ¬ r50 = 0) : lp_X7_meetsIn_84 x1 i33 (n38 + 1) i38 M39 = lp_X7_meetsIn_84 x1 i33 n38 (i38 + 1) M39 := by subst hr50 hr43; exact Eq.trans (u1_lp_X7_meetsIn_84 x1 i33 n38 i38 M39) (Eq.trans (if_pos c44) (Eq.trans (if_neg c46) (Eq.trans (if_pos c48) (if_neg c51))))
theorem p_X7_meetsIn_e55 (M : bM) (x1 : Int32) (r11 : Int32) (r18 : Int32) (M17 : bM) (M32 : bM) (M34 : bM) (i33 : Nat) (M39 : bM) (i38 : Nat) (n38 : Nat) (r43 : Int32) (hr43 : f_X7_stepFrom (nI i38 / 3) (nI i38 - nI i38 / 3 * 3) = r43) (c44 : (M39 7 (nI i38 / 3).toNatClampNeg) = nI i33) (c46 : ¬ r43 = (-1)) (c48 : (M39 7 r43.toNatClampNeg) = 99999) (r50 : Int32) (hr50 : f_X7_isDam M39 2 r43 = r50) (c51 : r50 = 0) (r53 : Int32) (hr53 : f_X7_isRiver M39 2 x1 r43 = r53) (c54 : ¬ r53 = 0) : lp_X7_meetsIn_84 x1 i33 (n38 + 1) i38 M39 = lp_X7_meetsIn_84 x1 i33 n38 (i38 + 1) M39 := by subst hr53 hr50 hr43; exact Eq.trans (u1_lp_X7_meetsIn_84 x1 i33 n38 i38 M39) (Eq.trans (if_pos c44) (Eq.trans (if_neg c46) (Eq.trans (if_pos c48) (Eq.trans (if_pos c51) (if_neg c54)))))
theorem p_X7_meetsIn_e59 (M : bM) (x1 : Int32) (r11 : Int32) (r18 : Int32) (M17 : bM) (M32 : bM) (M34 : bM) (i33 : Nat) (M39 : bM) (i38 : Nat) (n38 : Nat) (r43 : Int32) (hr43 : f_X7_stepFrom (nI i38 / 3) (nI i38 - nI i38 / 3 * 3) = r43) (c44 : (M39 7 (nI i38 / 3).toNatClampNeg) = nI i33) (c46 : ¬ r43 = (-1)) (c48 : (M39 7 r43.toNatClampNeg) = 99999) (r50 : Int32) (hr50 : f_X7_isDam M39 2 r43 = r50) (c51 : r50 = 0) (r53 : Int32) (hr53 : f_X7_isRiver M39 2 x1 r43 = r53) (c54 : r53 = 0) (r56 : Int32) (hr56 : f_X7_isRiver M39 2 ((1 : Int32) - x1) r43 = r56) (c57 : r56 = 0) (M58 : bM) (hM58 : up2 M39 7 r43.toNatClampNeg (nI i33 + 1) = M58) : lp_X7_meetsIn_84 x1 i33 (n38 + 1) i38 M39 = lp_X7_meetsIn_84 x1 i33 n38 (i38 + 1) M58 := by subst hM58 hr56 hr53 hr50 hr43; exact Eq.trans (u1_lp_X7_meetsIn_84 x1 i33 n38 i38 M39) (Eq.trans (if_pos c44) (Eq.trans (if_neg c46) (Eq.trans (if_pos c48) (Eq.trans (if_pos c51) (Eq.trans (if_pos c54) (if_pos c57))))))
theorem p_X7_meetsIn_e60 (M : bM) (x1 : Int32) (r11 : Int32) (r18 : Int32) (M17 : bM) (M32 : bM) (M34 : bM) (i33 : Nat) (M39 : bM) (i38 : Nat) (n38 : Nat) (r43 : Int32) (hr43 : f_X7_stepFrom (nI i38 / 3) (nI i38 - nI i38 / 3 * 3) = r43) (c44 : (M39 7 (nI i38 / 3).toNatClampNeg) = nI i33) (c46 : ¬ r43 = (-1)) (c48 : (M39 7 r43.toNatClampNeg) = 99999) (r50 : Int32) (hr50 : f_X7_isDam M39 2 r43 = r50) (c51 : r50 = 0) (r53 : Int32) (hr53 : f_X7_isRiver M39 2 x1 r43 = r53) (c54 : r53 = 0) (r56 : Int32) (hr56 : f_X7_isRiver M39 2 ((1 : Int32) - x1) r43 = r56) (c57 : ¬ r56 = 0) : lp_X7_meetsIn_84 x1 i33 (n38 + 1) i38 M39 = (true, (nI i33 + 1), M39) := by subst hr56 hr53 hr50 hr43; exact Eq.trans (u1_lp_X7_meetsIn_84 x1 i33 n38 i38 M39) (Eq.trans (if_pos c44) (Eq.trans (if_neg c46) (Eq.trans (if_pos c48) (Eq.trans (if_pos c51) (Eq.trans (if_pos c54) (if_neg c57))))))
theorem p_X7_meetsIn_e61 (M : bM) (x1 : Int32) (r11 : Int32) (r18 : Int32) (M17 : bM) (M32 : bM) (M34 : bM) (i33 : Nat) (n33 : Nat) (hfl38 : (lp_X7_meetsIn_84 x1 i33 192 0 M34).1 = true) : lp_X7_meetsIn_76 x1 (n33 + 1) i33 M34 = (true, (lp_X7_meetsIn_84 x1 i33 192 0 M34).2.1, (lp_X7_meetsIn_84 x1 i33 192 0 M34).2.2) := by exact Eq.trans (u1_lp_X7_meetsIn_76 x1 n33 i33 M34) (if_pos hfl38)
theorem p_X7_meetsIn_e63 (M : bM) (x1 : Int32) (r11 : Int32) (r18 : Int32) (M17 : bM) (M32 : bM) (M34 : bM) (i33 : Nat) (n33 : Nat) (hfl38 : (lp_X7_meetsIn_84 x1 i33 192 0 M34).1 = false) (M62 : bM) (hM62 : (lp_X7_meetsIn_84 x1 i33 192 0 M34).2.2 = M62) : lp_X7_meetsIn_76 x1 (n33 + 1) i33 M34 = lp_X7_meetsIn_76 x1 n33 (i33 + 1) M62 := by subst hM62; exact Eq.trans (u1_lp_X7_meetsIn_76 x1 n33 i33 M34) (if_neg (fun h9 => Bool.noConfusion (h9.symm.trans hfl38)))
theorem p_X7_meetsIn_e64 (M : bM) (x1 : Int32) (r11 : Int32) (hr11 : f_X7_in x1.toInt64 0 1 = r11) (c12 : ¬ r11 = 0) (r18 : Int32) (hr18 : (f_X7_refused M 0).1 = r18) (M17 : bM) (hM17 : (f_X7_refused M 0).2 = M17) (c20 : ¬ (M17 2 1) = 2) (M32 : bM) (hM32 : (lp_X7_meetsIn_38 x1 64 0 M17) = M32) (hfl33 : (lp_X7_meetsIn_76 x1 64 0 M32).1 = true) : f_X7_meetsIn M x1 = ((lp_X7_meetsIn_76 x1 64 0 M32).2.1, (lp_X7_meetsIn_76 x1 64 0 M32).2.2) := by subst hM32 hM17 hr18 hr11; exact Eq.trans (u_f_X7_meetsIn M x1) (Eq.trans (if_neg c12) (Eq.trans (if_neg c20) (if_pos hfl33)))
theorem p_X7_meetsIn_e66 (M : bM) (x1 : Int32) (r11 : Int32) (hr11 : f_X7_in x1.toInt64 0 1 = r11) (c12 : ¬ r11 = 0) (r18 : Int32) (hr18 : (f_X7_refused M 0).1 = r18) (M17 : bM) (hM17 : (f_X7_refused M 0).2 = M17) (c20 : ¬ (M17 2 1) = 2) (M32 : bM) (hM32 : (lp_X7_meetsIn_38 x1 64 0 M17) = M32) (hfl33 : (lp_X7_meetsIn_76 x1 64 0 M32).1 = false) (M65 : bM) (hM65 : (lp_X7_meetsIn_76 x1 64 0 M32).2.2 = M65) : f_X7_meetsIn M x1 = ((-1), M65) := by subst hM65 hM32 hM17 hr18 hr11; exact Eq.trans (u_f_X7_meetsIn M x1) (Eq.trans (if_neg c12) (Eq.trans (if_neg c20) (if_neg (fun h9 => Bool.noConfusion (h9.symm.trans hfl33)))))
theorem p_X7_meetsIn_e67 (M : bM) (x1 : Int32) (r11 : Int32) (hr11 : f_X7_in x1.toInt64 0 1 = r11) (c12 : ¬ r11 = 0) (r18 : Int32) (hr18 : (f_X7_refused M 0).1 = r18) (M17 : bM) (hM17 : (f_X7_refused M 0).2 = M17) (c20 : (M17 2 1) = 2) : f_X7_meetsIn M x1 = (0, M17) := by subst hM17 hr18 hr11; exact Eq.trans (u_f_X7_meetsIn M x1) (Eq.trans (if_neg c12) (if_pos c20))
theorem fr_lp_X7_meetsIn_38 (M : bM) (x1 : Int32) (r11 : Int32) (r18 : Int32) (M17 : bM) (k : Nat) (hk0 : k ≠ 0) (hf : k ≠ 7) : ∀ (n21 i21 : Nat) (M22 : bM), (lp_X7_meetsIn_38 x1 n21 i21 M22) k = M22 k := by
  intro n21
  induction n21 with
  | zero =>
    intro i21 M22
    rw [p_X7_meetsIn_e24 M x1 r11 r18 M17 M22 i21 ]
  | succ n21 ih21 =>
    intro i21 M22
    obtain ⟨r26, hr26⟩ : ∃ y : Int32, y = f_X7_head M22 2 x1 := ⟨_, rfl⟩
    by_cases c27 : nI i21 = r26
    · obtain ⟨M30, hM30⟩ : ∃ y : bM, y = up2 M22 7 i21 0 := ⟨_, rfl⟩
      rw [p_X7_meetsIn_e31 M x1 r11 r18 M17 M22 i21 n21 r26 hr26.symm c27 M30 hM30.symm, ih21]
      try dsimp only
      rw [hM30, up2_row (by omega)]
    · obtain ⟨M28, hM28⟩ : ∃ y : bM, y = up2 M22 7 i21 99999 := ⟨_, rfl⟩
      rw [p_X7_meetsIn_e29 M x1 r11 r18 M17 M22 i21 n21 r26 hr26.symm c27 M28 hM28.symm, ih21]
      try dsimp only
      rw [hM28, up2_row (by omega)]
theorem fr_lp_X7_meetsIn_84 (M : bM) (x1 : Int32) (r11 : Int32) (r18 : Int32) (M17 : bM) (M32 : bM) (M34 : bM) (i33 : Nat) (k : Nat) (hk0 : k ≠ 0) (hf : k ≠ 7) : ∀ (n38 i38 : Nat) (M39 : bM), (lp_X7_meetsIn_84 x1 i33 n38 i38 M39).2.2 k = M39 k := by
  intro n38
  induction n38 with
  | zero =>
    intro i38 M39
    rw [p_X7_meetsIn_e41 M x1 r11 r18 M17 M32 M34 i33 M39 i38 ]
  | succ n38 ih38 =>
    intro i38 M39
    obtain ⟨r43, hr43⟩ : ∃ y : Int32, y = f_X7_stepFrom (nI i38 / 3) (nI i38 - nI i38 / 3 * 3) := ⟨_, rfl⟩
    by_cases c44 : (M39 7 (nI i38 / 3).toNatClampNeg) = nI i33
    · by_cases c46 : r43 = (-1)
      · rw [p_X7_meetsIn_e47 M x1 r11 r18 M17 M32 M34 i33 M39 i38 n38 r43 hr43.symm c44 c46, ih38]
      · by_cases c48 : (M39 7 r43.toNatClampNeg) = 99999
        · obtain ⟨r50, hr50⟩ : ∃ y : Int32, y = f_X7_isDam M39 2 r43 := ⟨_, rfl⟩
          by_cases c51 : r50 = 0
          · obtain ⟨r53, hr53⟩ : ∃ y : Int32, y = f_X7_isRiver M39 2 x1 r43 := ⟨_, rfl⟩
            by_cases c54 : r53 = 0
            · obtain ⟨r56, hr56⟩ : ∃ y : Int32, y = f_X7_isRiver M39 2 ((1 : Int32) - x1) r43 := ⟨_, rfl⟩
              by_cases c57 : r56 = 0
              · obtain ⟨M58, hM58⟩ : ∃ y : bM, y = up2 M39 7 r43.toNatClampNeg (nI i33 + 1) := ⟨_, rfl⟩
                rw [p_X7_meetsIn_e59 M x1 r11 r18 M17 M32 M34 i33 M39 i38 n38 r43 hr43.symm c44 c46 c48 r50 hr50.symm c51 r53 hr53.symm c54 r56 hr56.symm c57 M58 hM58.symm, ih38]
                try dsimp only
                rw [hM58, up2_row (by omega)]
              · rw [p_X7_meetsIn_e60 M x1 r11 r18 M17 M32 M34 i33 M39 i38 n38 r43 hr43.symm c44 c46 c48 r50 hr50.symm c51 r53 hr53.symm c54 r56 hr56.symm c57]
            · rw [p_X7_meetsIn_e55 M x1 r11 r18 M17 M32 M34 i33 M39 i38 n38 r43 hr43.symm c44 c46 c48 r50 hr50.symm c51 r53 hr53.symm c54, ih38]
          · rw [p_X7_meetsIn_e52 M x1 r11 r18 M17 M32 M34 i33 M39 i38 n38 r43 hr43.symm c44 c46 c48 r50 hr50.symm c51, ih38]
        · rw [p_X7_meetsIn_e49 M x1 r11 r18 M17 M32 M34 i33 M39 i38 n38 r43 hr43.symm c44 c46 c48, ih38]
    · rw [p_X7_meetsIn_e45 M x1 r11 r18 M17 M32 M34 i33 M39 i38 n38 r43 hr43.symm c44, ih38]
theorem fr_lp_X7_meetsIn_76 (M : bM) (x1 : Int32) (r11 : Int32) (r18 : Int32) (M17 : bM) (M32 : bM) (k : Nat) (hk0 : k ≠ 0) (hf : k ≠ 7) : ∀ (n33 i33 : Nat) (M34 : bM), (lp_X7_meetsIn_76 x1 n33 i33 M34).2.2 k = M34 k := by
  intro n33
  induction n33 with
  | zero =>
    intro i33 M34
    rw [p_X7_meetsIn_e36 M x1 r11 r18 M17 M32 M34 i33 ]
  | succ n33 ih33 =>
    intro i33 M34
    rcases (by cases (lp_X7_meetsIn_84 x1 i33 192 0 M34).1 <;> simp : (lp_X7_meetsIn_84 x1 i33 192 0 M34).1 = true ∨ (lp_X7_meetsIn_84 x1 i33 192 0 M34).1 = false) with hfl38 | hfl38
    · rw [p_X7_meetsIn_e61 M x1 r11 r18 M17 M32 M34 i33 n33 hfl38]
      try dsimp only
      rw [fr_lp_X7_meetsIn_84 M x1 r11 r18 M17 M32 M34 i33 k hk0 hf 192 0 M34]
    · obtain ⟨M62, hM62⟩ : ∃ y : bM, y = (lp_X7_meetsIn_84 x1 i33 192 0 M34).2.2 := ⟨_, rfl⟩
      rw [p_X7_meetsIn_e63 M x1 r11 r18 M17 M32 M34 i33 n33 hfl38 M62 hM62.symm, ih33]
      try dsimp only
      rw [hM62, fr_lp_X7_meetsIn_84 M x1 r11 r18 M17 M32 M34 i33 k hk0 hf 192 0 M34]
theorem fr_X7_meetsIn (M : bM) (x1 : Int32) (k : Nat) (hk0 : k ≠ 0) (hf : k ≠ 7) : (f_X7_meetsIn M x1).2 k = M k := by
  obtain ⟨r11, hr11⟩ : ∃ y : Int32, y = f_X7_in x1.toInt64 0 1 := ⟨_, rfl⟩
  by_cases c12 : r11 = 0
  · obtain ⟨r14, hr14⟩ : ∃ y : Int32, y = (f_X7_refused M 1).1 := ⟨_, rfl⟩
    obtain ⟨M13, hM13⟩ : ∃ y : bM, y = (f_X7_refused M 1).2 := ⟨_, rfl⟩
    rw [p_X7_meetsIn_e16 M x1 r11 hr11.symm c12 r14 hr14.symm M13 hM13.symm]
    try dsimp only
    rw [hM13, fr_X7_refused M 1 k (by omega)]
  · obtain ⟨r18, hr18⟩ : ∃ y : Int32, y = (f_X7_refused M 0).1 := ⟨_, rfl⟩
    obtain ⟨M17, hM17⟩ : ∃ y : bM, y = (f_X7_refused M 0).2 := ⟨_, rfl⟩
    by_cases c20 : (M17 2 1) = 2
    · rw [p_X7_meetsIn_e67 M x1 r11 hr11.symm c12 r18 hr18.symm M17 hM17.symm c20]
      try dsimp only
      rw [hM17, fr_X7_refused M 0 k (by omega)]
    · obtain ⟨M32, hM32⟩ : ∃ y : bM, y = (lp_X7_meetsIn_38 x1 64 0 M17) := ⟨_, rfl⟩
      rcases (by cases (lp_X7_meetsIn_76 x1 64 0 M32).1 <;> simp : (lp_X7_meetsIn_76 x1 64 0 M32).1 = true ∨ (lp_X7_meetsIn_76 x1 64 0 M32).1 = false) with hfl33 | hfl33
      · rw [p_X7_meetsIn_e64 M x1 r11 hr11.symm c12 r18 hr18.symm M17 hM17.symm c20 M32 hM32.symm hfl33]
        try dsimp only
        rw [fr_lp_X7_meetsIn_76 M x1 r11 r18 M17 M32 k hk0 hf 64 0 M32, hM32, fr_lp_X7_meetsIn_38 M x1 r11 r18 M17 k hk0 hf 64 0 M17, hM17, fr_X7_refused M 0 k (by omega)]
      · obtain ⟨M65, hM65⟩ : ∃ y : bM, y = (lp_X7_meetsIn_76 x1 64 0 M32).2.2 := ⟨_, rfl⟩
        rw [p_X7_meetsIn_e66 M x1 r11 hr11.symm c12 r18 hr18.symm M17 hM17.symm c20 M32 hM32.symm hfl33 M65 hM65.symm]
        try dsimp only
        rw [hM65, fr_lp_X7_meetsIn_76 M x1 r11 r18 M17 M32 k hk0 hf 64 0 M32, hM32, fr_lp_X7_meetsIn_38 M x1 r11 r18 M17 k hk0 hf 64 0 M17, hM17, fr_X7_refused M 0 k (by omega)]
set_option maxHeartbeats 4000000 in
set_option maxRecDepth 100000 in
theorem c_X7_meetsIn (l : Launch) (D : va_G) (E : Nat → ClassId) (o : Nat) (M : bM) (x1 : Int32) (hg : gR (M 2)) : Met l yX7_meetsIn wsX7_meetsIn (rmF 3) (bPc D E [.ref (o + 0), .int x1] (fun H => bk D E LRR o M H)) (bQ (aI fun r H => ∃ M1 : bM, (r = (f_X7_meetsIn M x1).1 ∧ M1 = (f_X7_meetsIn M x1).2) ∧ bk D E LRR o M1 H) (rB o)) 0 0 (rB o) := by
  refine Met.ofW (cc := cX7_meetsIn) (maxL := 5) (ret := (some .int)) (by decide) rfl ?_
  intro p e s m args below meth c s₁ B hml hv
  obtain ⟨rfl, hB, hK⟩ := hv
  have hx := B.exec
  have hb := B.bytes
  have hr := B.returns
  have hts := atoms_spec (ws := wsX7_meetsIn) B.pre
  have hown : s.vm.findClass RX7 = some m.cls := findClass_of_methodNamed B.named
  have hlocks := B.notSynchronized
  have hS : bS (rB o) s.heap s.heap [] := bS.rf
  have hl := lv_entry ([.ref (o + 0), .int x1]) (n := 5) (Nat.le_of_ble_eq_true rfl)
  rw [lg_entry_eq]
  generalize (lg_sl ([.ref (o + 0), .int x1]) ++ List.replicate (5 - (lg_sl ([.ref (o + 0), .int x1])).length) Slot.unset).toArray = ls at hl ⊢
  have hl : lv_has ls 5 [(0, .ref (o + 0)), (1, .int x1)] := hl
  have hB : bk D E LRR o M s.heap := hB
  have hinX7 : ∀ w ∈ wsX70, w ∈ wsX7_meetsIn := by decide +kernel
  refine lv_aload_n hx hb dX7_meetsIn_0 rfl (lv_at hl 0 rfl) ?_
  refine lv_iload_n hx hb dX7_meetsIn_1 rfl (lv_at hl 1 rfl) ?_
  refine lv_i2l hx hb dX7_meetsIn_2 rfl ?_
  refine lv_lconst (v := 0) hx hb dX7_meetsIn_3 (by decide) ?_
  refine lv_lconst (v := 1) hx hb dX7_meetsIn_4 (by decide) ?_
  refine b_pI (b_runS (As := [.long x1.toInt64, .long 0, .long 1]) (rest := [.ref (o + 0)]) ⟨hx, hb, hml, hown, hts⟩ (c_X7_in l D E x1.toInt64 0 1) (va_cwS 3 hts gX7_meetsIn_X7_in rfl rfl rfl (by decide +kernel) ⟨Nat.le_of_ble_eq_true rfl, Nat.le_of_ble_eq_true rfl⟩) hK trivial rfl hl rfl (Nat.le_of_ble_eq_true rfl) dX7_meetsIn_5 ⟨Nat.zero_le _, Nat.zero_le _⟩) hS (fun r11 hr11 locs hS => ?_)
  refine lv_if_eq (tgt := 15) hx hb dX7_meetsIn_8 (by decide) (fun c12 => ?_) (fun c12 => ?_)
  · refine lv_iconst (v := 1) hx hb dX7_meetsIn_15 (by decide) ?_
    refine b_mI (b_runV (As := [.int 1]) (rest := []) ⟨hx, hb, hml, hown, hts⟩ (c_X7_refused l D E o M 1) (cwV 1 hts gX7_meetsIn_X7_refused rfl rfl rfl (by decide +kernel) ⟨Nat.le_of_ble_eq_true rfl, Nat.le_of_ble_eq_true rfl⟩) hK (bk_recv hK.1 hB lay_m0 rfl) hB rfl hl rfl (Nat.le_of_ble_eq_true rfl) dX7_meetsIn_16 ⟨Nat.zero_le _, Nat.zero_le _⟩) hS (fun q h => h) (fun r14 M13 hM13 H locs hB _ hS => ?_)
    obtain ⟨hr14, hM13⟩ := hM13
    have hkr14 : r14 = 1 := by rw [hr14]; rfl
    refine lv_const (y := 1) hkr14 ?_
    refine lv_if_eq (tgt := 24) hx hb dX7_meetsIn_19 (by decide) (fun c15 => absurd c15 (by decide)) (fun c15 => ?_)
    refine lv_iconst (v := 0) hx hb dX7_meetsIn_22 (by decide) ?_
    have e16 := p_X7_meetsIn_e16 M x1 r11 hr11.symm c12 r14 hr14.symm M13 hM13.symm
    exact b_iret hx hb hr hlocks hS ⟨_, rfl, _, ⟨(congrArg Prod.fst e16).symm, (congrArg Prod.snd e16).symm⟩, hB⟩ dX7_meetsIn_23
  · refine lv_iconst (v := 0) hx hb dX7_meetsIn_11 (by decide) ?_
    refine lv_goto (tgt := 16) hx hb dX7_meetsIn_12 (by decide) ?_
    refine b_mI (b_runV (As := [.int 0]) (rest := []) ⟨hx, hb, hml, hown, hts⟩ (c_X7_refused l D E o M 0) (cwV 1 hts gX7_meetsIn_X7_refused rfl rfl rfl (by decide +kernel) ⟨Nat.le_of_ble_eq_true rfl, Nat.le_of_ble_eq_true rfl⟩) hK (bk_recv hK.1 hB lay_m0 rfl) hB rfl hl rfl (Nat.le_of_ble_eq_true rfl) dX7_meetsIn_16 ⟨Nat.zero_le _, Nat.zero_le _⟩) hS (fun q h => h) (fun r18 M17 hM17 H locs hB _ hS => ?_)
    obtain ⟨hr18, hM17⟩ := hM17
    have hkr18 : r18 = 0 := by rw [hr18]; rfl
    refine lv_const (y := 0) hkr18 ?_
    refine lv_if_eq (tgt := 24) hx hb dX7_meetsIn_19 (by decide) (fun c19 => ?_) (fun c19 => absurd (by decide) c19)
    refine lv_aload_n hx hb dX7_meetsIn_24 rfl (lv_at hl 0 rfl) ?_
    refine b_get (D := D) (E := E) (L := LRR) (o := o) (M := M17) (v := .ref (o + 2)) (C := RX7) (T := TX7) (N := 13) hx hb hts hinX7 hown hK.1 hB 0 lay_m0 rfl 3 (by decide) (hts (.fieldLink RX7 13 "RiverMeetingModel" "now" "[I") (List.mem_of_getElem? (i := 1) rfl)) (fun _ h9 => h9) rfl dX7_meetsIn_25 ?_
    refine lv_iconst (v := 1) hx hb dX7_meetsIn_28 (by decide) ?_
    refine b_iald hx hb hK.1 hB 2 lay_m2 (vp_in_nI (n := 1) (by decide) (by decide)) dX7_meetsIn_29 ?_
    refine lv_const (y := M17 2 1) (by rfl) ?_
    refine lv_iconst (v := 2) hx hb dX7_meetsIn_30 (by decide) ?_
    refine lv_icmp_ne (tgt := 36) hx hb dX7_meetsIn_31 (by decide) (fun c20 => ?_) (fun c20 => ?_)
    · refine lv_iconst (v := 0) hx hb dX7_meetsIn_36 (by decide) ?_
      refine lv_istore_n (lv' := [(2, .int 0), (0, .ref (o + 0)), (1, .int x1)]) hx hb dX7_meetsIn_37 rfl hl (by decide) rfl (fun ls hl => ?_)
      have lp21 : ∀ (n21 i21 : Nat) (M22 : bM), i21 + n21 = 64 → (M22 2 = M 2) → ∀ (H : Heap) (locs : List Loc), bk D E LRR o M22 H → bS (rB o) s.heap H locs → ∀ ls : Array Slot, lv_has ls 5 [(2, .int (nI i21)), (0, .ref (o + 0)), (1, .int x1)] → (∀ (H : Heap) (locs : List Loc), ((lp_X7_meetsIn_38 x1 n21 i21 M22) 2 = M 2) → bk D E LRR o (lp_X7_meetsIn_38 x1 n21 i21 M22) H → bS (rB o) s.heap H locs → ∀ ls : Array Slot, lv_has ls 5 [(0, .ref (o + 0)), (1, .int x1)] → W p l e (headSpec wsX7_meetsIn (rmF 3)).room s m ([.ref (o + 0), .int x1] : List Value).toArray below meth c H locs 0 0 (MQ below (bQ (aI fun r H => ∃ M1 : bM, (r = (f_X7_meetsIn M x1).1 ∧ M1 = (f_X7_meetsIn M x1).2) ∧ bk D E LRR o M1 H) (rB o)) ([.ref (o + 0), .int x1] : List Value).toArray s 0 0 (rB o)) (F0 m 74 ls [])) → W p l e (headSpec wsX7_meetsIn (rmF 3)).room s m ([.ref (o + 0), .int x1] : List Value).toArray below meth c H locs 0 0 (MQ below (bQ (aI fun r H => ∃ M1 : bM, (r = (f_X7_meetsIn M x1).1 ∧ M1 = (f_X7_meetsIn M x1).2) ∧ bk D E LRR o M1 H) (rB o)) ([.ref (o + 0), .int x1] : List Value).toArray s 0 0 (rB o)) (F0 m 38 ls []) := by
        intro n21
        induction n21 with
        | zero =>
          intro i21 M22 hi21 hv0_21 H locs hB hS ls hl hexit21
          have hz21 : i21 = 64 := by omega
          refine lv_iload_n hx hb dX7_meetsIn_38 rfl (lv_at hl 0 rfl) ?_
          refine lv_bipush (v := 64) hx hb dX7_meetsIn_39 (by decide) ?_
          refine lv_icmp_ge (tgt := 74) hx hb dX7_meetsIn_41 (by decide) (fun c23 => ?_) (fun c23 => absurd (by rw [hz21]; exact Int32.le_refl _) c23)
          have e24 := p_X7_meetsIn_e24 M x1 r11 r18 M17 M22 i21 
          rw [e24] at hexit21
          exact hexit21 _ _  hv0_21 hB hS ls (lv_sub hl [1, 2] rfl)
        | succ n21 ih21 =>
          intro i21 M22 hi21 hv0_21 H locs hB hS ls hl hexit21
          refine lv_iload_n hx hb dX7_meetsIn_38 rfl (lv_at hl 0 rfl) ?_
          refine lv_bipush (v := 64) hx hb dX7_meetsIn_39 (by decide) ?_
          refine lv_icmp_ge (tgt := 74) hx hb dX7_meetsIn_41 (by decide) (fun c25 => absurd c25 (nI_ge (a := i21) (b := 64) (by omega) (by decide))) (fun c25 => ?_)
          refine lv_aload_n hx hb dX7_meetsIn_44 rfl (lv_at hl 1 rfl) ?_
          refine b_get (D := D) (E := E) (L := LRR) (o := o) (M := M22) (v := .ref (o + 7)) (C := RX7) (T := TX7) (N := 13) hx hb hts hinX7 hown hK.1 hB 0 lay_m0 rfl 9 (by decide) (hts (.fieldLink RX7 29 "RiverMeetingModel" "far" "[I") (List.mem_of_getElem? (i := 2) rfl)) (fun _ h9 => h9) rfl dX7_meetsIn_45 ?_
          refine lv_iload_n hx hb dX7_meetsIn_48 rfl (lv_at hl 0 rfl) ?_
          refine lv_iload_n hx hb dX7_meetsIn_49 rfl (lv_at hl 0 rfl) ?_
          refine lv_aload_n hx hb dX7_meetsIn_50 rfl (lv_at hl 1 rfl) ?_
          refine b_get (D := D) (E := E) (L := LRR) (o := o) (M := M22) (v := .ref (o + 2)) (C := RX7) (T := TX7) (N := 13) hx hb hts hinX7 hown hK.1 hB 0 lay_m0 rfl 3 (by decide) (hts (.fieldLink RX7 13 "RiverMeetingModel" "now" "[I") (List.mem_of_getElem? (i := 1) rfl)) (fun _ h9 => h9) rfl dX7_meetsIn_51 ?_
          refine lv_iload_n hx hb dX7_meetsIn_54 rfl (lv_at hl 2 rfl) ?_
          refine b_pI (b_runS (As := [.ref (o + 2), .int x1]) (rest := [.int (nI i21), .int (nI i21), .ref (o + 7)]) ⟨hx, hb, hml, hown, hts⟩ (c_X7_head l D E o M22 2 x1 lay_m2 (in_pb (in_rng 2 (by decide) (hr11 ▸ c12))) (len_of (in_pb (in_rng 2 (by decide) (hr11 ▸ c12))) (wf_ln (M := M22) (k := 2) (gR_wf (gR_of (M := M) hv0_21 hg))))) (va_cwS 2 hts gX7_meetsIn_X7_head rfl rfl rfl (by decide +kernel) ⟨Nat.le_of_ble_eq_true rfl, Nat.le_of_ble_eq_true rfl⟩) hK hB rfl hl rfl (Nat.le_of_ble_eq_true rfl) dX7_meetsIn_55 ⟨Nat.zero_le _, Nat.zero_le _⟩) hS (fun r26 hr26 locs hS => ?_)
          refine lv_icmp_ne (tgt := 65) hx hb dX7_meetsIn_58 (by decide) (fun c27 => ?_) (fun c27 => ?_)
          · refine lv_ldc (v := 99999) hx hb hown (hts (.constant RX7 122 (99999)) (List.mem_of_getElem? (i := 3) rfl)) dX7_meetsIn_65 ?_
            refine b_iast hx hb hK.1 hB hS 7 (rB_of lay_m7) lay_m7 (vp_in_nI (by omega) (by decide)) dX7_meetsIn_67 (fun M28 hM28 H locs hB _ hS => ?_)
            rw [nI_clamp (n := i21) (by omega)] at hM28
            refine lv_iinc (v := nI (i21 + 1)) (lv' := [(2, .int (nI (i21 + 1))), (0, .ref (o + 0)), (1, .int x1)]) hx hb dX7_meetsIn_68 hl (k := 0) rfl (nI_1 i21) (by decide) rfl (fun ls hl => ?_)
            refine lv_goto (tgt := 38) hx hb dX7_meetsIn_71 (by decide) ?_
            have e29 := p_X7_meetsIn_e29 M x1 r11 r18 M17 M22 i21 n21 r26 hr26.symm c27 M28 hM28.symm
            rw [e29] at hexit21
            exact ih21 (i21 + 1) M28 (by omega) ((by rw [hM28]; exact up2_row (by decide) : M28 2 = M22 2).trans hv0_21) _ _ hB hS ls (lv_sub hl [0, 1, 2] rfl) hexit21
          · refine lv_iconst (v := 0) hx hb dX7_meetsIn_61 (by decide) ?_
            refine lv_goto (tgt := 67) hx hb dX7_meetsIn_62 (by decide) ?_
            refine b_iast hx hb hK.1 hB hS 7 (rB_of lay_m7) lay_m7 (vp_in_nI (by omega) (by decide)) dX7_meetsIn_67 (fun M30 hM30 H locs hB _ hS => ?_)
            rw [nI_clamp (n := i21) (by omega)] at hM30
            refine lv_iinc (v := nI (i21 + 1)) (lv' := [(2, .int (nI (i21 + 1))), (0, .ref (o + 0)), (1, .int x1)]) hx hb dX7_meetsIn_68 hl (k := 0) rfl (nI_1 i21) (by decide) rfl (fun ls hl => ?_)
            refine lv_goto (tgt := 38) hx hb dX7_meetsIn_71 (by decide) ?_
            have e31 := p_X7_meetsIn_e31 M x1 r11 r18 M17 M22 i21 n21 r26 hr26.symm c27 M30 hM30.symm
            rw [e31] at hexit21
            exact ih21 (i21 + 1) M30 (by omega) ((by rw [hM30]; exact up2_row (by decide) : M30 2 = M22 2).trans hv0_21) _ _ hB hS ls (lv_sub hl [0, 1, 2] rfl) hexit21
      refine lp21 64 0 M17 (by omega) ((by rw [hM17]; exact fr_X7_refused M 0 2 (by decide) : M17 2 = M 2).trans rfl) _ _ hB hS ls (lv_sub hl [0, 1, 2] rfl) ?_
      intro H locs hw0_21 hB hS ls hl
      obtain ⟨M32, hM32⟩ : ∃ y : bM, y = (lp_X7_meetsIn_38 x1 64 0 M17) := ⟨_, rfl⟩
      rw [← hM32] at hB hw0_21
      have hl : lv_has ls 5 [(0, .ref (o + 0)), (1, .int x1)] := hl
      refine lv_iconst (v := 0) hx hb dX7_meetsIn_74 (by decide) ?_
      refine lv_istore_n (lv' := [(2, .int 0), (0, .ref (o + 0)), (1, .int x1)]) hx hb dX7_meetsIn_75 rfl hl (by decide) rfl (fun ls hl => ?_)
      have lp33 : ∀ (n33 i33 : Nat) (M34 : bM), i33 + n33 = 64 → (M34 2 = M 2) → ∀ (H : Heap) (locs : List Loc), bk D E LRR o M34 H → bS (rB o) s.heap H locs → ∀ ls : Array Slot, lv_has ls 5 [(2, .int (nI i33)), (0, .ref (o + 0)), (1, .int x1)] → (∀ H : Heap, (lp_X7_meetsIn_76 x1 n33 i33 M34).1 = true → bk D E LRR o ((lp_X7_meetsIn_76 x1 n33 i33 M34).2.2) H → (aI fun r H => ∃ M1 : bM, (r = (f_X7_meetsIn M x1).1 ∧ M1 = (f_X7_meetsIn M x1).2) ∧ bk D E LRR o M1 H) (some (.int (lp_X7_meetsIn_76 x1 n33 i33 M34).2.1)) H) → (∀ (H : Heap) (locs : List Loc), (lp_X7_meetsIn_76 x1 n33 i33 M34).1 = false → (((lp_X7_meetsIn_76 x1 n33 i33 M34).2.2) 2 = M 2) → bk D E LRR o ((lp_X7_meetsIn_76 x1 n33 i33 M34).2.2) H → bS (rB o) s.heap H locs → ∀ ls : Array Slot, lv_has ls 5 [(0, .ref (o + 0)), (1, .int x1)] → W p l e (headSpec wsX7_meetsIn (rmF 3)).room s m ([.ref (o + 0), .int x1] : List Value).toArray below meth c H locs 0 0 (MQ below (bQ (aI fun r H => ∃ M1 : bM, (r = (f_X7_meetsIn M x1).1 ∧ M1 = (f_X7_meetsIn M x1).2) ∧ bk D E LRR o M1 H) (rB o)) ([.ref (o + 0), .int x1] : List Value).toArray s 0 0 (rB o)) (F0 m 198 ls [])) → W p l e (headSpec wsX7_meetsIn (rmF 3)).room s m ([.ref (o + 0), .int x1] : List Value).toArray below meth c H locs 0 0 (MQ below (bQ (aI fun r H => ∃ M1 : bM, (r = (f_X7_meetsIn M x1).1 ∧ M1 = (f_X7_meetsIn M x1).2) ∧ bk D E LRR o M1 H) (rB o)) ([.ref (o + 0), .int x1] : List Value).toArray s 0 0 (rB o)) (F0 m 76 ls []) := by
        intro n33
        induction n33 with
        | zero =>
          intro i33 M34 hi33 hv0_33 H locs hB hS ls hl hret33 hexit33
          have hz33 : i33 = 64 := by omega
          refine lv_iload_n hx hb dX7_meetsIn_76 rfl (lv_at hl 0 rfl) ?_
          refine lv_bipush (v := 64) hx hb dX7_meetsIn_77 (by decide) ?_
          refine lv_icmp_ge (tgt := 198) hx hb dX7_meetsIn_79 (by decide) (fun c35 => ?_) (fun c35 => absurd (by rw [hz33]; exact Int32.le_refl _) c35)
          have e36 := p_X7_meetsIn_e36 M x1 r11 r18 M17 M32 M34 i33 
          rw [e36] at hexit33
          exact hexit33 _ _ rfl hv0_33 hB hS ls (lv_sub hl [1, 2] rfl)
        | succ n33 ih33 =>
          intro i33 M34 hi33 hv0_33 H locs hB hS ls hl hret33 hexit33
          refine lv_iload_n hx hb dX7_meetsIn_76 rfl (lv_at hl 0 rfl) ?_
          refine lv_bipush (v := 64) hx hb dX7_meetsIn_77 (by decide) ?_
          refine lv_icmp_ge (tgt := 198) hx hb dX7_meetsIn_79 (by decide) (fun c37 => absurd c37 (nI_ge (a := i33) (b := 64) (by omega) (by decide))) (fun c37 => ?_)
          refine lv_iconst (v := 0) hx hb dX7_meetsIn_82 (by decide) ?_
          refine lv_istore_n (lv' := [(3, .int 0), (2, .int (nI i33)), (0, .ref (o + 0)), (1, .int x1)]) hx hb dX7_meetsIn_83 rfl hl (by decide) rfl (fun ls hl => ?_)
          have lp38 : ∀ (n38 i38 : Nat) (M39 : bM), i38 + n38 = 192 → (M39 2 = M 2) → ∀ (H : Heap) (locs : List Loc), bk D E LRR o M39 H → bS (rB o) s.heap H locs → ∀ ls : Array Slot, lv_has ls 5 [(3, .int (nI i38)), (2, .int (nI i33)), (0, .ref (o + 0)), (1, .int x1)] → (∀ H : Heap, (lp_X7_meetsIn_84 x1 i33 n38 i38 M39).1 = true → bk D E LRR o ((lp_X7_meetsIn_84 x1 i33 n38 i38 M39).2.2) H → (aI fun r H => ∃ M1 : bM, (r = (f_X7_meetsIn M x1).1 ∧ M1 = (f_X7_meetsIn M x1).2) ∧ bk D E LRR o M1 H) (some (.int (lp_X7_meetsIn_84 x1 i33 n38 i38 M39).2.1)) H) → (∀ (H : Heap) (locs : List Loc), (lp_X7_meetsIn_84 x1 i33 n38 i38 M39).1 = false → (((lp_X7_meetsIn_84 x1 i33 n38 i38 M39).2.2) 2 = M 2) → bk D E LRR o ((lp_X7_meetsIn_84 x1 i33 n38 i38 M39).2.2) H → bS (rB o) s.heap H locs → ∀ ls : Array Slot, lv_has ls 5 [(2, .int (nI i33)), (0, .ref (o + 0)), (1, .int x1)] → W p l e (headSpec wsX7_meetsIn (rmF 3)).room s m ([.ref (o + 0), .int x1] : List Value).toArray below meth c H locs 0 0 (MQ below (bQ (aI fun r H => ∃ M1 : bM, (r = (f_X7_meetsIn M x1).1 ∧ M1 = (f_X7_meetsIn M x1).2) ∧ bk D E LRR o M1 H) (rB o)) ([.ref (o + 0), .int x1] : List Value).toArray s 0 0 (rB o)) (F0 m 192 ls [])) → W p l e (headSpec wsX7_meetsIn (rmF 3)).room s m ([.ref (o + 0), .int x1] : List Value).toArray below meth c H locs 0 0 (MQ below (bQ (aI fun r H => ∃ M1 : bM, (r = (f_X7_meetsIn M x1).1 ∧ M1 = (f_X7_meetsIn M x1).2) ∧ bk D E LRR o M1 H) (rB o)) ([.ref (o + 0), .int x1] : List Value).toArray s 0 0 (rB o)) (F0 m 84 ls []) := by
            intro n38
            induction n38 with
            | zero =>
              intro i38 M39 hi38 hv0_38 H locs hB hS ls hl hret38 hexit38
              have hz38 : i38 = 192 := by omega
              refine lv_iload_n hx hb dX7_meetsIn_84 rfl (lv_at hl 0 rfl) ?_
              refine lv_sipush (v := 192) hx hb dX7_meetsIn_85 (by decide) ?_
              refine lv_icmp_ge (tgt := 192) hx hb dX7_meetsIn_88 (by decide) (fun c40 => ?_) (fun c40 => absurd (by rw [hz38]; exact Int32.le_refl _) c40)
              have e41 := p_X7_meetsIn_e41 M x1 r11 r18 M17 M32 M34 i33 M39 i38 
              rw [e41] at hexit38
              exact hexit38 _ _ rfl hv0_38 hB hS ls (lv_sub hl [1, 2, 3] rfl)
            | succ n38 ih38 =>
              intro i38 M39 hi38 hv0_38 H locs hB hS ls hl hret38 hexit38
              refine lv_iload_n hx hb dX7_meetsIn_84 rfl (lv_at hl 0 rfl) ?_
              refine lv_sipush (v := 192) hx hb dX7_meetsIn_85 (by decide) ?_
              refine lv_icmp_ge (tgt := 192) hx hb dX7_meetsIn_88 (by decide) (fun c42 => absurd c42 (nI_ge (a := i38) (b := 192) (by omega) (by decide))) (fun c42 => ?_)
              refine lv_iload_n hx hb dX7_meetsIn_91 rfl (lv_at hl 0 rfl) ?_
              refine lv_iconst (v := 3) hx hb dX7_meetsIn_92 (by decide) ?_
              refine lv_idiv hx hb dX7_meetsIn_93 (by decide) ?_
              refine lv_iload_n hx hb dX7_meetsIn_94 rfl (lv_at hl 0 rfl) ?_
              refine lv_iconst (v := 3) hx hb dX7_meetsIn_95 (by decide) ?_
              refine lv_irem hx hb dX7_meetsIn_96 (by decide) ?_
              refine b_pI (b_runS (As := [.int (nI i38 / 3), .int (nI i38 - nI i38 / 3 * 3)]) (rest := []) ⟨hx, hb, hml, hown, hts⟩ (c_X7_stepFrom l D E (nI i38 / 3) (nI i38 - nI i38 / 3 * 3)) (va_cwS 2 hts gX7_meetsIn_X7_stepFrom rfl rfl rfl (by decide +kernel) ⟨Nat.le_of_ble_eq_true rfl, Nat.le_of_ble_eq_true rfl⟩) hK trivial rfl hl rfl (Nat.le_of_ble_eq_true rfl) dX7_meetsIn_97 ⟨Nat.zero_le _, Nat.zero_le _⟩) hS (fun r43 hr43 locs hS => ?_)
              refine lv_istore (lv' := [(4, .int r43), (3, .int (nI i38)), (2, .int (nI i33)), (0, .ref (o + 0)), (1, .int x1)]) hx hb dX7_meetsIn_100 hl (by decide) rfl (fun ls hl => ?_)
              refine lv_aload_n hx hb dX7_meetsIn_102 rfl (lv_at hl 3 rfl) ?_
              refine b_get (D := D) (E := E) (L := LRR) (o := o) (M := M39) (v := .ref (o + 7)) (C := RX7) (T := TX7) (N := 13) hx hb hts hinX7 hown hK.1 hB 0 lay_m0 rfl 9 (by decide) (hts (.fieldLink RX7 29 "RiverMeetingModel" "far" "[I") (List.mem_of_getElem? (i := 2) rfl)) (fun _ h9 => h9) rfl dX7_meetsIn_103 ?_
              refine lv_iload_n hx hb dX7_meetsIn_106 rfl (lv_at hl 1 rfl) ?_
              refine lv_iconst (v := 3) hx hb dX7_meetsIn_107 (by decide) ?_
              refine lv_idiv hx hb dX7_meetsIn_108 (by decide) ?_
              refine b_iald hx hb hK.1 hB 7 lay_m7 (in_div3 (by omega)) dX7_meetsIn_109 ?_
              refine lv_iload_n hx hb dX7_meetsIn_110 rfl (lv_at hl 2 rfl) ?_
              refine lv_icmp_ne (tgt := 186) hx hb dX7_meetsIn_111 (by decide) (fun c44 => ?_) (fun c44 => ?_)
              · refine lv_iinc (v := nI (i38 + 1)) (lv' := [(3, .int (nI (i38 + 1))), (4, .int r43), (2, .int (nI i33)), (0, .ref (o + 0)), (1, .int x1)]) hx hb dX7_meetsIn_186 hl (k := 1) rfl (nI_1 i38) (by decide) rfl (fun ls hl => ?_)
                refine lv_goto (tgt := 84) hx hb dX7_meetsIn_189 (by decide) ?_
                have e45 := p_X7_meetsIn_e45 M x1 r11 r18 M17 M32 M34 i33 M39 i38 n38 r43 hr43.symm c44
                rw [e45] at hexit38 hret38
                exact ih38 (i38 + 1) M39 (by omega) hv0_38 _ _ hB hS ls (lv_sub hl [0, 2, 3, 4] rfl) hret38 hexit38
              · refine lv_iload hx hb dX7_meetsIn_114 (lv_at hl 0 rfl) ?_
                refine lv_iconst (v := (-1)) hx hb dX7_meetsIn_116 (by decide) ?_
                refine lv_icmp_eq (tgt := 186) hx hb dX7_meetsIn_117 (by decide) (fun c46 => ?_) (fun c46 => ?_)
                · refine lv_iinc (v := nI (i38 + 1)) (lv' := [(3, .int (nI (i38 + 1))), (4, .int r43), (2, .int (nI i33)), (0, .ref (o + 0)), (1, .int x1)]) hx hb dX7_meetsIn_186 hl (k := 1) rfl (nI_1 i38) (by decide) rfl (fun ls hl => ?_)
                  refine lv_goto (tgt := 84) hx hb dX7_meetsIn_189 (by decide) ?_
                  have e47 := p_X7_meetsIn_e47 M x1 r11 r18 M17 M32 M34 i33 M39 i38 n38 r43 hr43.symm c44 c46
                  rw [e47] at hexit38 hret38
                  exact ih38 (i38 + 1) M39 (by omega) hv0_38 _ _ hB hS ls (lv_sub hl [0, 2, 3, 4] rfl) hret38 hexit38
                · refine lv_aload_n hx hb dX7_meetsIn_120 rfl (lv_at hl 3 rfl) ?_
                  refine b_get (D := D) (E := E) (L := LRR) (o := o) (M := M39) (v := .ref (o + 7)) (C := RX7) (T := TX7) (N := 13) hx hb hts hinX7 hown hK.1 hB 0 lay_m0 rfl 9 (by decide) (hts (.fieldLink RX7 29 "RiverMeetingModel" "far" "[I") (List.mem_of_getElem? (i := 2) rfl)) (fun _ h9 => h9) rfl dX7_meetsIn_121 ?_
                  refine lv_iload hx hb dX7_meetsIn_124 (lv_at hl 0 rfl) ?_
                  refine b_iald hx hb hK.1 hB 7 lay_m7 (by rw [hr43]; exact stepFrom_in (hr43 ▸ c46)) dX7_meetsIn_126 ?_
                  refine lv_ldc (v := 99999) hx hb hown (hts (.constant RX7 122 (99999)) (List.mem_of_getElem? (i := 3) rfl)) dX7_meetsIn_127 ?_
                  refine lv_icmp_ne (tgt := 186) hx hb dX7_meetsIn_129 (by decide) (fun c48 => ?_) (fun c48 => ?_)
                  · refine lv_iinc (v := nI (i38 + 1)) (lv' := [(3, .int (nI (i38 + 1))), (4, .int r43), (2, .int (nI i33)), (0, .ref (o + 0)), (1, .int x1)]) hx hb dX7_meetsIn_186 hl (k := 1) rfl (nI_1 i38) (by decide) rfl (fun ls hl => ?_)
                    refine lv_goto (tgt := 84) hx hb dX7_meetsIn_189 (by decide) ?_
                    have e49 := p_X7_meetsIn_e49 M x1 r11 r18 M17 M32 M34 i33 M39 i38 n38 r43 hr43.symm c44 c46 c48
                    rw [e49] at hexit38 hret38
                    exact ih38 (i38 + 1) M39 (by omega) hv0_38 _ _ hB hS ls (lv_sub hl [0, 2, 3, 4] rfl) hret38 hexit38
                  · refine lv_aload_n hx hb dX7_meetsIn_132 rfl (lv_at hl 3 rfl) ?_
                    refine b_get (D := D) (E := E) (L := LRR) (o := o) (M := M39) (v := .ref (o + 2)) (C := RX7) (T := TX7) (N := 13) hx hb hts hinX7 hown hK.1 hB 0 lay_m0 rfl 3 (by decide) (hts (.fieldLink RX7 13 "RiverMeetingModel" "now" "[I") (List.mem_of_getElem? (i := 1) rfl)) (fun _ h9 => h9) rfl dX7_meetsIn_133 ?_
                    refine lv_iload hx hb dX7_meetsIn_136 (lv_at hl 0 rfl) ?_
                    refine b_pI (b_runS (As := [.ref (o + 2), .int r43]) (rest := []) ⟨hx, hb, hml, hown, hts⟩ (c_X7_isDam l D E o M39 2 r43 lay_m2 (by rw [hr43]; exact stepFrom_in (hr43 ▸ c46))) (va_cwS 2 hts gX7_meetsIn_X7_isDam rfl rfl rfl (by decide +kernel) ⟨Nat.le_of_ble_eq_true rfl, Nat.le_of_ble_eq_true rfl⟩) hK hB rfl hl rfl (Nat.le_of_ble_eq_true rfl) dX7_meetsIn_138 ⟨Nat.zero_le _, Nat.zero_le _⟩) hS (fun r50 hr50 locs hS => ?_)
                    refine lv_if_ne (tgt := 186) hx hb dX7_meetsIn_141 (by decide) (fun c51 => ?_) (fun c51 => ?_)
                    · refine lv_iinc (v := nI (i38 + 1)) (lv' := [(3, .int (nI (i38 + 1))), (4, .int r43), (2, .int (nI i33)), (0, .ref (o + 0)), (1, .int x1)]) hx hb dX7_meetsIn_186 hl (k := 1) rfl (nI_1 i38) (by decide) rfl (fun ls hl => ?_)
                      refine lv_goto (tgt := 84) hx hb dX7_meetsIn_189 (by decide) ?_
                      have e52 := p_X7_meetsIn_e52 M x1 r11 r18 M17 M32 M34 i33 M39 i38 n38 r43 hr43.symm c44 c46 c48 r50 hr50.symm c51
                      rw [e52] at hexit38 hret38
                      exact ih38 (i38 + 1) M39 (by omega) hv0_38 _ _ hB hS ls (lv_sub hl [0, 2, 3, 4] rfl) hret38 hexit38
                    · refine lv_aload_n hx hb dX7_meetsIn_144 rfl (lv_at hl 3 rfl) ?_
                      refine b_get (D := D) (E := E) (L := LRR) (o := o) (M := M39) (v := .ref (o + 2)) (C := RX7) (T := TX7) (N := 13) hx hb hts hinX7 hown hK.1 hB 0 lay_m0 rfl 3 (by decide) (hts (.fieldLink RX7 13 "RiverMeetingModel" "now" "[I") (List.mem_of_getElem? (i := 1) rfl)) (fun _ h9 => h9) rfl dX7_meetsIn_145 ?_
                      refine lv_iload_n hx hb dX7_meetsIn_148 rfl (lv_at hl 4 rfl) ?_
                      refine lv_iload hx hb dX7_meetsIn_149 (lv_at hl 0 rfl) ?_
                      refine b_pI (b_runS (As := [.ref (o + 2), .int x1, .int r43]) (rest := []) ⟨hx, hb, hml, hown, hts⟩ (c_X7_isRiver l D E o M39 2 x1 r43 lay_m2 (by rw [hr43]; exact stepFrom_in (hr43 ▸ c46))) (va_cwS 3 hts gX7_meetsIn_X7_isRiver rfl rfl rfl (by decide +kernel) ⟨Nat.le_of_ble_eq_true rfl, Nat.le_of_ble_eq_true rfl⟩) hK hB rfl hl rfl (Nat.le_of_ble_eq_true rfl) dX7_meetsIn_151 ⟨Nat.zero_le _, Nat.zero_le _⟩) hS (fun r53 hr53 locs hS => ?_)
                      refine lv_if_ne (tgt := 186) hx hb dX7_meetsIn_154 (by decide) (fun c54 => ?_) (fun c54 => ?_)
                      · refine lv_iinc (v := nI (i38 + 1)) (lv' := [(3, .int (nI (i38 + 1))), (4, .int r43), (2, .int (nI i33)), (0, .ref (o + 0)), (1, .int x1)]) hx hb dX7_meetsIn_186 hl (k := 1) rfl (nI_1 i38) (by decide) rfl (fun ls hl => ?_)
                        refine lv_goto (tgt := 84) hx hb dX7_meetsIn_189 (by decide) ?_
                        have e55 := p_X7_meetsIn_e55 M x1 r11 r18 M17 M32 M34 i33 M39 i38 n38 r43 hr43.symm c44 c46 c48 r50 hr50.symm c51 r53 hr53.symm c54
                        rw [e55] at hexit38 hret38
                        exact ih38 (i38 + 1) M39 (by omega) hv0_38 _ _ hB hS ls (lv_sub hl [0, 2, 3, 4] rfl) hret38 hexit38
                      · refine lv_aload_n hx hb dX7_meetsIn_157 rfl (lv_at hl 3 rfl) ?_
                        refine b_get (D := D) (E := E) (L := LRR) (o := o) (M := M39) (v := .ref (o + 2)) (C := RX7) (T := TX7) (N := 13) hx hb hts hinX7 hown hK.1 hB 0 lay_m0 rfl 3 (by decide) (hts (.fieldLink RX7 13 "RiverMeetingModel" "now" "[I") (List.mem_of_getElem? (i := 1) rfl)) (fun _ h9 => h9) rfl dX7_meetsIn_158 ?_
                        refine lv_iconst (v := 1) hx hb dX7_meetsIn_161 (by decide) ?_
                        refine lv_iload_n hx hb dX7_meetsIn_162 rfl (lv_at hl 4 rfl) ?_
                        refine lv_isub hx hb dX7_meetsIn_163 ?_
                        refine lv_iload hx hb dX7_meetsIn_164 (lv_at hl 0 rfl) ?_
                        refine b_pI (b_runS (As := [.ref (o + 2), .int ((1 : Int32) - x1), .int r43]) (rest := []) ⟨hx, hb, hml, hown, hts⟩ (c_X7_isRiver l D E o M39 2 ((1 : Int32) - x1) r43 lay_m2 (by rw [hr43]; exact stepFrom_in (hr43 ▸ c46))) (va_cwS 3 hts gX7_meetsIn_X7_isRiver rfl rfl rfl (by decide +kernel) ⟨Nat.le_of_ble_eq_true rfl, Nat.le_of_ble_eq_true rfl⟩) hK hB rfl hl rfl (Nat.le_of_ble_eq_true rfl) dX7_meetsIn_166 ⟨Nat.zero_le _, Nat.zero_le _⟩) hS (fun r56 hr56 locs hS => ?_)
                        refine lv_if_eq (tgt := 176) hx hb dX7_meetsIn_169 (by decide) (fun c57 => ?_) (fun c57 => ?_)
                        · refine lv_aload_n hx hb dX7_meetsIn_176 rfl (lv_at hl 3 rfl) ?_
                          refine b_get (D := D) (E := E) (L := LRR) (o := o) (M := M39) (v := .ref (o + 7)) (C := RX7) (T := TX7) (N := 13) hx hb hts hinX7 hown hK.1 hB 0 lay_m0 rfl 9 (by decide) (hts (.fieldLink RX7 29 "RiverMeetingModel" "far" "[I") (List.mem_of_getElem? (i := 2) rfl)) (fun _ h9 => h9) rfl dX7_meetsIn_177 ?_
                          refine lv_iload hx hb dX7_meetsIn_180 (lv_at hl 0 rfl) ?_
                          refine lv_iload_n hx hb dX7_meetsIn_182 rfl (lv_at hl 2 rfl) ?_
                          refine lv_iconst (v := 1) hx hb dX7_meetsIn_183 (by decide) ?_
                          refine lv_iadd hx hb dX7_meetsIn_184 ?_
                          refine b_iast hx hb hK.1 hB hS 7 (rB_of lay_m7) lay_m7 (by rw [hr43]; exact stepFrom_in (hr43 ▸ c46)) dX7_meetsIn_185 (fun M58 hM58 H locs hB _ hS => ?_)
                          refine lv_iinc (v := nI (i38 + 1)) (lv' := [(3, .int (nI (i38 + 1))), (4, .int r43), (2, .int (nI i33)), (0, .ref (o + 0)), (1, .int x1)]) hx hb dX7_meetsIn_186 hl (k := 1) rfl (nI_1 i38) (by decide) rfl (fun ls hl => ?_)
                          refine lv_goto (tgt := 84) hx hb dX7_meetsIn_189 (by decide) ?_
                          have e59 := p_X7_meetsIn_e59 M x1 r11 r18 M17 M32 M34 i33 M39 i38 n38 r43 hr43.symm c44 c46 c48 r50 hr50.symm c51 r53 hr53.symm c54 r56 hr56.symm c57 M58 hM58.symm
                          rw [e59] at hexit38 hret38
                          exact ih38 (i38 + 1) M58 (by omega) ((by rw [hM58]; exact up2_row (by decide) : M58 2 = M39 2).trans hv0_38) _ _ hB hS ls (lv_sub hl [0, 2, 3, 4] rfl) hret38 hexit38
                        · refine lv_iload_n hx hb dX7_meetsIn_172 rfl (lv_at hl 2 rfl) ?_
                          refine lv_iconst (v := 1) hx hb dX7_meetsIn_173 (by decide) ?_
                          refine lv_iadd hx hb dX7_meetsIn_174 ?_
                          have e60 := p_X7_meetsIn_e60 M x1 r11 r18 M17 M32 M34 i33 M39 i38 n38 r43 hr43.symm c44 c46 c48 r50 hr50.symm c51 r53 hr53.symm c54 r56 hr56.symm c57
                          rw [e60] at hret38
                          exact b_iret hx hb hr hlocks hS (hret38 _ rfl hB) dX7_meetsIn_175
          refine lp38 192 0 M34 (by omega) hv0_33 _ _ hB hS ls (lv_sub hl [0, 1, 2, 3] rfl) (fun H hfl38 hB => ?_) ?_
          · have e61 := p_X7_meetsIn_e61 M x1 r11 r18 M17 M32 M34 i33 n33 hfl38
            rw [e61] at hret33
            exact hret33 _ rfl hB
          intro H locs hfl38 hw0_38 hB hS ls hl
          obtain ⟨M62, hM62⟩ : ∃ y : bM, y = (lp_X7_meetsIn_84 x1 i33 192 0 M34).2.2 := ⟨_, rfl⟩
          rw [← hM62] at hB hw0_38
          have hl : lv_has ls 5 [(2, .int (nI i33)), (0, .ref (o + 0)), (1, .int x1)] := hl
          refine lv_iinc (v := nI (i33 + 1)) (lv' := [(2, .int (nI (i33 + 1))), (0, .ref (o + 0)), (1, .int x1)]) hx hb dX7_meetsIn_192 hl (k := 0) rfl (nI_1 i33) (by decide) rfl (fun ls hl => ?_)
          refine lv_goto (tgt := 76) hx hb dX7_meetsIn_195 (by decide) ?_
          have e63 := p_X7_meetsIn_e63 M x1 r11 r18 M17 M32 M34 i33 n33 hfl38 M62 hM62.symm
          rw [e63] at hexit33 hret33
          exact ih33 (i33 + 1) M62 (by omega) hw0_38 _ _ hB hS ls (lv_sub hl [0, 1, 2] rfl) hret33 hexit33
      refine lp33 64 0 M32 (by omega) hw0_21 _ _ hB hS ls (lv_sub hl [0, 1, 2] rfl) (fun H hfl33 hB => ?_) ?_
      · have e64 := p_X7_meetsIn_e64 M x1 r11 hr11.symm c12 r18 hr18.symm M17 hM17.symm c20 M32 hM32.symm hfl33
        exact ⟨_, rfl, _, ⟨(congrArg Prod.fst e64).symm, (congrArg Prod.snd e64).symm⟩, hB⟩
      intro H locs hfl33 hw0_33 hB hS ls hl
      obtain ⟨M65, hM65⟩ : ∃ y : bM, y = (lp_X7_meetsIn_76 x1 64 0 M32).2.2 := ⟨_, rfl⟩
      rw [← hM65] at hB hw0_33
      have hl : lv_has ls 5 [(0, .ref (o + 0)), (1, .int x1)] := hl
      refine lv_iconst (v := (-1)) hx hb dX7_meetsIn_198 (by decide) ?_
      have e66 := p_X7_meetsIn_e66 M x1 r11 hr11.symm c12 r18 hr18.symm M17 hM17.symm c20 M32 hM32.symm hfl33 M65 hM65.symm
      exact b_iret hx hb hr hlocks hS ⟨_, rfl, _, ⟨(congrArg Prod.fst e66).symm, (congrArg Prod.snd e66).symm⟩, hB⟩ dX7_meetsIn_199
    · refine lv_iconst (v := 0) hx hb dX7_meetsIn_34 (by decide) ?_
      have e67 := p_X7_meetsIn_e67 M x1 r11 hr11.symm c12 r18 hr18.symm M17 hM17.symm c20
      exact b_iret hx hb hr hlocks hS ⟨_, rfl, _, ⟨(congrArg Prod.fst e67).symm, (congrArg Prod.snd e67).symm⟩, hB⟩ dX7_meetsIn_35

def lp_X7_leastWished_24  : Nat → Nat → bM → (bM)
  | 0, i14, M15 => M15
  | n14 + 1, i14, M15 => (let M19 : bM := up2 M15 8 i14 (M15 7 i14); lp_X7_leastWished_24 n14 (i14 + 1) M19)
theorem u0_lp_X7_leastWished_24  (i14 : Nat) (M15 : bM) : lp_X7_leastWished_24 0 i14 M15 = M15 := rfl
theorem u1_lp_X7_leastWished_24  (n14 i14 : Nat) (M15 : bM) : lp_X7_leastWished_24 (n14 + 1) i14 M15 = (let M19 : bM := up2 M15 8 i14 (M15 7 i14); lp_X7_leastWished_24 n14 (i14 + 1) M19) := rfl
def lp_X7_leastWished_71 (M23 : bM) : Nat → Nat → Int32 → Int32 → (Int32 × Int32)
  | 0, i24, x25, x26 => (x25, x26)
  | n24 + 1, i24, x25, x26 => (let r30 : Int32 := f_X7_cost M23 2 0 (nI i24); (let r31 : Int32 := f_X7_cost M23 2 1 (nI i24); (let x32 : Int32 := (r30 + r31); (let r33 : Int32 := f_X7_isBare M23 2 (nI i24); (if r33 = 0 then lp_X7_leastWished_71 M23 n24 (i24 + 1) x25 x26 else (if 99999 ≤ (M23 7 i24) then lp_X7_leastWished_71 M23 n24 (i24 + 1) x25 x26 else (if 99999 ≤ (M23 8 i24) then lp_X7_leastWished_71 M23 n24 (i24 + 1) x25 x26 else (if x32 ≤ x25 then lp_X7_leastWished_71 M23 n24 (i24 + 1) x25 x26 else lp_X7_leastWished_71 M23 n24 (i24 + 1) x32 (nI i24)))))))))
theorem u0_lp_X7_leastWished_71 (M23 : bM) (i24 : Nat) (x25 : Int32) (x26 : Int32) : lp_X7_leastWished_71 M23 0 i24 x25 x26 = (x25, x26) := rfl
theorem u1_lp_X7_leastWished_71 (M23 : bM) (n24 i24 : Nat) (x25 : Int32) (x26 : Int32) : lp_X7_leastWished_71 M23 (n24 + 1) i24 x25 x26 = (let r30 : Int32 := f_X7_cost M23 2 0 (nI i24); (let r31 : Int32 := f_X7_cost M23 2 1 (nI i24); (let x32 : Int32 := (r30 + r31); (let r33 : Int32 := f_X7_isBare M23 2 (nI i24); (if r33 = 0 then lp_X7_leastWished_71 M23 n24 (i24 + 1) x25 x26 else (if 99999 ≤ (M23 7 i24) then lp_X7_leastWished_71 M23 n24 (i24 + 1) x25 x26 else (if 99999 ≤ (M23 8 i24) then lp_X7_leastWished_71 M23 n24 (i24 + 1) x25 x26 else (if x32 ≤ x25 then lp_X7_leastWished_71 M23 n24 (i24 + 1) x25 x26 else lp_X7_leastWished_71 M23 n24 (i24 + 1) x32 (nI i24))))))))) := rfl
def f_X7_leastWished (M : bM) : Int32 × bM := (let M11 : bM := up2 M 0 0 0; (let r12 : Int32 := f_X7_head M11 2 0; (let M13 : bM := f_X7_measure M11 2 0 r12; (let M21 : bM := (lp_X7_leastWished_24 64 0 M13); (let r22 : Int32 := f_X7_head M21 2 1; (let M23 : bM := f_X7_measure M21 2 1 r22; (let x43 : Int32 := (lp_X7_leastWished_71 M23 64 0 (-1) (-1)).1; (let x44 : Int32 := (lp_X7_leastWished_71 M23 64 0 (-1) (-1)).2; (x44, M23)))))))))
theorem u_f_X7_leastWished (M : bM) : f_X7_leastWished M = (let M11 : bM := up2 M 0 0 0; (let r12 : Int32 := f_X7_head M11 2 0; (let M13 : bM := f_X7_measure M11 2 0 r12; (let M21 : bM := (lp_X7_leastWished_24 64 0 M13); (let r22 : Int32 := f_X7_head M21 2 1; (let M23 : bM := f_X7_measure M21 2 1 r22; (let x43 : Int32 := (lp_X7_leastWished_71 M23 64 0 (-1) (-1)).1; (let x44 : Int32 := (lp_X7_leastWished_71 M23 64 0 (-1) (-1)).2; (x44, M23))))))))) := rfl
theorem p_X7_leastWished_e17 (M : bM) (M11 : bM) (r12 : Int32) (M13 : bM) (M15 : bM) (i14 : Nat)  : lp_X7_leastWished_24 0 i14 M15 = M15 := by exact u0_lp_X7_leastWished_24 i14 M15
theorem p_X7_leastWished_e20 (M : bM) (M11 : bM) (r12 : Int32) (M13 : bM) (M15 : bM) (i14 : Nat) (n14 : Nat) (M19 : bM) (hM19 : up2 M15 8 i14 (M15 7 i14) = M19) : lp_X7_leastWished_24 (n14 + 1) i14 M15 = lp_X7_leastWished_24 n14 (i14 + 1) M19 := by subst hM19; exact u1_lp_X7_leastWished_24 n14 i14 M15
theorem p_X7_leastWished_e28 (M : bM) (M11 : bM) (r12 : Int32) (M13 : bM) (M21 : bM) (r22 : Int32) (M23 : bM) (x25 : Int32) (x26 : Int32) (i24 : Nat)  : lp_X7_leastWished_71 M23 0 i24 x25 x26 = (x25, x26) := by exact u0_lp_X7_leastWished_71 M23 i24 x25 x26
theorem p_X7_leastWished_e35 (M : bM) (M11 : bM) (r12 : Int32) (M13 : bM) (M21 : bM) (r22 : Int32) (M23 : bM) (x25 : Int32) (x26 : Int32) (i24 : Nat) (n24 : Nat) (r30 : Int32) (hr30 : f_X7_cost M23 2 0 (nI i24) = r30) (r31 : Int32) (hr31 : f_X7_cost M23 2 1 (nI i24) = r31) (x32 : Int32) (hx32 : (r30 + r31) = x32) (r33 : Int32) (hr33 : f_X7_isBare M23 2 (nI i24) = r33) (c34 : r33 = 0) : lp_X7_leastWished_71 M23 (n24 + 1) i24 x25 x26 = lp_X7_leastWished_71 M23 n24 (i24 + 1) x25 x26 := by subst hr33 hx32 hr31 hr30; exact Eq.trans (u1_lp_X7_leastWished_71 M23 n24 i24 x25 x26) (if_pos c34)
theorem p_X7_leastWished_e37 (M : bM) (M11 : bM) (r12 : Int32) (M13 : bM) (M21 : bM) (r22 : Int32) (M23 : bM) (x25 : Int32) (x26 : Int32) (i24 : Nat) (n24 : Nat) (r30 : Int32) (hr30 : f_X7_cost M23 2 0 (nI i24) = r30) (r31 : Int32) (hr31 : f_X7_cost M23 2 1 (nI i24) = r31) (x32 : Int32) (hx32 : (r30 + r31) = x32) (r33 : Int32) (hr33 : f_X7_isBare M23 2 (nI i24) = r33) (c34 : ¬ r33 = 0) (c36 : 99999 ≤ (M23 7 i24)) : lp_X7_leastWished_71 M23 (n24 + 1) i24 x25 x26 = lp_X7_leastWished_71 M23 n24 (i24 + 1) x25 x26 := by subst hr33 hx32 hr31 hr30; exact Eq.trans (u1_lp_X7_leastWished_71 M23 n24 i24 x25 x26) (Eq.trans (if_neg c34) (if_pos c36))
theorem p_X7_leastWished_e39 (M : bM) (M11 : bM) (r12 : Int32) (M13 : bM) (M21 : bM) (r22 : Int32) (M23 : bM) (x25 : Int32) (x26 : Int32) (i24 : Nat) (n24 : Nat) (r30 : Int32) (hr30 : f_X7_cost M23 2 0 (nI i24) = r30) (r31 : Int32) (hr31 : f_X7_cost M23 2 1 (nI i24) = r31) (x32 : Int32) (hx32 : (r30 + r31) = x32) (r33 : Int32) (hr33 : f_X7_isBare M23 2 (nI i24) = r33) (c34 : ¬ r33 = 0) (c36 : ¬ 99999 ≤ (M23 7 i24)) (c38 : 99999 ≤ (M23 8 i24)) : lp_X7_leastWished_71 M23 (n24 + 1) i24 x25 x26 = lp_X7_leastWished_71 M23 n24 (i24 + 1) x25 x26 := by subst hr33 hx32 hr31 hr30; exact Eq.trans (u1_lp_X7_leastWished_71 M23 n24 i24 x25 x26) (Eq.trans (if_neg c34) (Eq.trans (if_neg c36) (if_pos c38)))
theorem p_X7_leastWished_e41 (M : bM) (M11 : bM) (r12 : Int32) (M13 : bM) (M21 : bM) (r22 : Int32) (M23 : bM) (x25 : Int32) (x26 : Int32) (i24 : Nat) (n24 : Nat) (r30 : Int32) (hr30 : f_X7_cost M23 2 0 (nI i24) = r30) (r31 : Int32) (hr31 : f_X7_cost M23 2 1 (nI i24) = r31) (x32 : Int32) (hx32 : (r30 + r31) = x32) (r33 : Int32) (hr33 : f_X7_isBare M23 2 (nI i24) = r33) (c34 : ¬ r33 = 0) (c36 : ¬ 99999 ≤ (M23 7 i24)) (c38 : ¬ 99999 ≤ (M23 8 i24)) (c40 : x32 ≤ x25) : lp_X7_leastWished_71 M23 (n24 + 1) i24 x25 x26 = lp_X7_leastWished_71 M23 n24 (i24 + 1) x25 x26 := by subst hr33 hx32 hr31 hr30; exact Eq.trans (u1_lp_X7_leastWished_71 M23 n24 i24 x25 x26) (Eq.trans (if_neg c34) (Eq.trans (if_neg c36) (Eq.trans (if_neg c38) (if_pos c40))))
theorem p_X7_leastWished_e42 (M : bM) (M11 : bM) (r12 : Int32) (M13 : bM) (M21 : bM) (r22 : Int32) (M23 : bM) (x25 : Int32) (x26 : Int32) (i24 : Nat) (n24 : Nat) (r30 : Int32) (hr30 : f_X7_cost M23 2 0 (nI i24) = r30) (r31 : Int32) (hr31 : f_X7_cost M23 2 1 (nI i24) = r31) (x32 : Int32) (hx32 : (r30 + r31) = x32) (r33 : Int32) (hr33 : f_X7_isBare M23 2 (nI i24) = r33) (c34 : ¬ r33 = 0) (c36 : ¬ 99999 ≤ (M23 7 i24)) (c38 : ¬ 99999 ≤ (M23 8 i24)) (c40 : ¬ x32 ≤ x25) : lp_X7_leastWished_71 M23 (n24 + 1) i24 x25 x26 = lp_X7_leastWished_71 M23 n24 (i24 + 1) x32 (nI i24) := by subst hr33 hx32 hr31 hr30; exact Eq.trans (u1_lp_X7_leastWished_71 M23 n24 i24 x25 x26) (Eq.trans (if_neg c34) (Eq.trans (if_neg c36) (Eq.trans (if_neg c38) (if_neg c40))))
theorem p_X7_leastWished_e45 (M : bM) (M11 : bM) (hM11 : up2 M 0 0 0 = M11) (r12 : Int32) (hr12 : f_X7_head M11 2 0 = r12) (M13 : bM) (hM13 : f_X7_measure M11 2 0 r12 = M13) (M21 : bM) (hM21 : (lp_X7_leastWished_24 64 0 M13) = M21) (r22 : Int32) (hr22 : f_X7_head M21 2 1 = r22) (M23 : bM) (hM23 : f_X7_measure M21 2 1 r22 = M23) (x43 : Int32) (hx43 : (lp_X7_leastWished_71 M23 64 0 (-1) (-1)).1 = x43) (x44 : Int32) (hx44 : (lp_X7_leastWished_71 M23 64 0 (-1) (-1)).2 = x44) : f_X7_leastWished M = (x44, M23) := by subst hx44 hx43 hM23 hr22 hM21 hM13 hr12 hM11; exact u_f_X7_leastWished M
theorem fr_lp_X7_leastWished_24 (M : bM) (M11 : bM) (r12 : Int32) (M13 : bM) (k : Nat) (hk0 : k ≠ 0) (hf : k ≠ 7) (hk8 : k ≠ 8) : ∀ (n14 i14 : Nat) (M15 : bM), (lp_X7_leastWished_24 n14 i14 M15) k = M15 k := by
  intro n14
  induction n14 with
  | zero =>
    intro i14 M15
    rw [p_X7_leastWished_e17 M M11 r12 M13 M15 i14 ]
  | succ n14 ih14 =>
    intro i14 M15
    obtain ⟨M19, hM19⟩ : ∃ y : bM, y = up2 M15 8 i14 (M15 7 i14) := ⟨_, rfl⟩
    rw [p_X7_leastWished_e20 M M11 r12 M13 M15 i14 n14 M19 hM19.symm, ih14]
    try dsimp only
    rw [hM19, up2_row (by omega)]
theorem fr_X7_leastWished (M : bM) (k : Nat) (hk0 : k ≠ 0) (hf : k ≠ 7) (hk8 : k ≠ 8) : (f_X7_leastWished M).2 k = M k := by
  obtain ⟨M11, hM11⟩ : ∃ y : bM, y = up2 M 0 0 0 := ⟨_, rfl⟩
  obtain ⟨r12, hr12⟩ : ∃ y : Int32, y = f_X7_head M11 2 0 := ⟨_, rfl⟩
  obtain ⟨M13, hM13⟩ : ∃ y : bM, y = f_X7_measure M11 2 0 r12 := ⟨_, rfl⟩
  obtain ⟨M21, hM21⟩ : ∃ y : bM, y = (lp_X7_leastWished_24 64 0 M13) := ⟨_, rfl⟩
  obtain ⟨r22, hr22⟩ : ∃ y : Int32, y = f_X7_head M21 2 1 := ⟨_, rfl⟩
  obtain ⟨M23, hM23⟩ : ∃ y : bM, y = f_X7_measure M21 2 1 r22 := ⟨_, rfl⟩
  obtain ⟨x43, hx43⟩ : ∃ y : Int32, y = (lp_X7_leastWished_71 M23 64 0 (-1) (-1)).1 := ⟨_, rfl⟩
  obtain ⟨x44, hx44⟩ : ∃ y : Int32, y = (lp_X7_leastWished_71 M23 64 0 (-1) (-1)).2 := ⟨_, rfl⟩
  rw [p_X7_leastWished_e45 M M11 hM11.symm r12 hr12.symm M13 hM13.symm M21 hM21.symm r22 hr22.symm M23 hM23.symm x43 hx43.symm x44 hx44.symm]
  try dsimp only
  rw [hM23, fr_X7_measure M21 2 1 r22 k (by omega), hM21, fr_lp_X7_leastWished_24 M M11 r12 M13 k hk0 hf hk8 64 0 M13, hM13, fr_X7_measure M11 2 0 r12 k (by omega), hM11, up2_row (by omega)]
set_option maxHeartbeats 4000000 in
set_option maxRecDepth 100000 in
theorem c_X7_leastWished (l : Launch) (D : va_G) (E : Nat → ClassId) (o : Nat) (M : bM) (hg : gR (M 2)) : Met l yX7_leastWished wsX7_leastWished (rmF 4) (bPc D E [.ref (o + 0)] (fun H => bk D E LRR o M H)) (bQ (aI fun r H => ∃ M1 : bM, (r = (f_X7_leastWished M).1 ∧ M1 = (f_X7_leastWished M).2) ∧ bk D E LRR o M1 H) (rB o)) 0 0 (rB o) := by
  refine Met.ofW (cc := cX7_leastWished) (maxL := 5) (ret := (some .int)) (by decide) rfl ?_
  intro p e s m args below meth c s₁ B hml hv
  obtain ⟨rfl, hB, hK⟩ := hv
  have hx := B.exec
  have hb := B.bytes
  have hr := B.returns
  have hts := atoms_spec (ws := wsX7_leastWished) B.pre
  have hown : s.vm.findClass RX7 = some m.cls := findClass_of_methodNamed B.named
  have hlocks := B.notSynchronized
  have hS : bS (rB o) s.heap s.heap [] := bS.rf
  have hl := lv_entry ([.ref (o + 0)]) (n := 5) (Nat.le_of_ble_eq_true rfl)
  rw [lg_entry_eq]
  generalize (lg_sl ([.ref (o + 0)]) ++ List.replicate (5 - (lg_sl ([.ref (o + 0)])).length) Slot.unset).toArray = ls at hl ⊢
  have hl : lv_has ls 5 [(0, .ref (o + 0))] := hl
  have hB : bk D E LRR o M s.heap := hB
  have hinX7 : ∀ w ∈ wsX70, w ∈ wsX7_leastWished := by decide +kernel
  refine lv_aload_n hx hb dX7_leastWished_0 rfl (lv_at hl 0 rfl) ?_
  refine lv_iconst (v := 0) hx hb dX7_leastWished_1 (by decide) ?_
  refine b_put (D := D) (E := E) (L := LRR) (o := o) (M := M) (v := 0) (ty := .int) (C := RX7) (T := TX7) (N := 13) hx hb hts hinX7 tyX7 tyX7_ok nmX7 hown hK.1 hB hS 0 (rB_of lay_m0) lay_m0 rfl 0 (by decide) rfl (hts (.fieldLink RX7 39 "RiverMeetingModel" "refusal" "I") (List.mem_of_getElem? (i := 1) rfl)) (fun _ h9 => h9) rfl (by decide +kernel) rfl rfl dX7_leastWished_2 (fun M11 hM11 H locs hB _ hS => ?_)
  refine lv_aload_n hx hb dX7_leastWished_5 rfl (lv_at hl 0 rfl) ?_
  refine lv_aload_n hx hb dX7_leastWished_6 rfl (lv_at hl 0 rfl) ?_
  refine b_get (D := D) (E := E) (L := LRR) (o := o) (M := M11) (v := .ref (o + 2)) (C := RX7) (T := TX7) (N := 13) hx hb hts hinX7 hown hK.1 hB 0 lay_m0 rfl 3 (by decide) (hts (.fieldLink RX7 13 "RiverMeetingModel" "now" "[I") (List.mem_of_getElem? (i := 2) rfl)) (fun _ h9 => h9) rfl dX7_leastWished_7 ?_
  refine lv_iconst (v := 0) hx hb dX7_leastWished_10 (by decide) ?_
  refine lv_aload_n hx hb dX7_leastWished_11 rfl (lv_at hl 0 rfl) ?_
  refine b_get (D := D) (E := E) (L := LRR) (o := o) (M := M11) (v := .ref (o + 2)) (C := RX7) (T := TX7) (N := 13) hx hb hts hinX7 hown hK.1 hB 0 lay_m0 rfl 3 (by decide) (hts (.fieldLink RX7 13 "RiverMeetingModel" "now" "[I") (List.mem_of_getElem? (i := 2) rfl)) (fun _ h9 => h9) rfl dX7_leastWished_12 ?_
  refine lv_iconst (v := 0) hx hb dX7_leastWished_15 (by decide) ?_
  refine b_pI (b_runS (As := [.ref (o + 2), .int 0]) (rest := [.int 0, .ref (o + 2), .ref (o + 0)]) ⟨hx, hb, hml, hown, hts⟩ (c_X7_head l D E o M11 2 0 lay_m2 (Or.inl rfl) (len_of (Or.inl rfl) (wf_ln (M := M11) (k := 2) (gR_wf (gR_of (M := M) (by rw [hM11]; exact up2_row (by decide)) hg))))) (va_cwS 2 hts gX7_leastWished_X7_head rfl rfl rfl (by decide +kernel) ⟨Nat.le_of_ble_eq_true rfl, Nat.le_of_ble_eq_true rfl⟩) hK hB rfl hl rfl (Nat.le_of_ble_eq_true rfl) dX7_leastWished_16 ⟨Nat.zero_le _, Nat.zero_le _⟩) hS (fun r12 hr12 locs hS => ?_)
  refine b_mV (b_runV (As := [.ref (o + 2), .int 0, .int r12]) (rest := []) ⟨hx, hb, hml, hown, hts⟩ (c_X7_measure l D E o M11 2 0 r12 lay_m2 (Or.inl rfl) (by rw [hr12]; exact ms_head (Or.inl rfl) (gR_of (M := M) (by rw [hM11]; exact up2_row (by decide)) hg))) (cwV 3 hts gX7_leastWished_X7_measure rfl rfl rfl (by decide +kernel) ⟨Nat.le_of_ble_eq_true rfl, Nat.le_of_ble_eq_true rfl⟩) hK (bk_recv hK.1 hB lay_m0 rfl) hB rfl hl rfl (Nat.le_of_ble_eq_true rfl) dX7_leastWished_19 ⟨Nat.zero_le _, Nat.zero_le _⟩) hS (fun q h => h) (fun M13 hM13 H locs hB _ hS => ?_)
  refine lv_iconst (v := 0) hx hb dX7_leastWished_22 (by decide) ?_
  refine lv_istore_n (lv' := [(1, .int 0), (0, .ref (o + 0))]) hx hb dX7_leastWished_23 rfl hl (by decide) rfl (fun ls hl => ?_)
  have lp14 : ∀ (n14 i14 : Nat) (M15 : bM), i14 + n14 = 64 → ∀ (H : Heap) (locs : List Loc), bk D E LRR o M15 H → bS (rB o) s.heap H locs → ∀ ls : Array Slot, lv_has ls 5 [(1, .int (nI i14)), (0, .ref (o + 0))] → (∀ (H : Heap) (locs : List Loc), bk D E LRR o (lp_X7_leastWished_24 n14 i14 M15) H → bS (rB o) s.heap H locs → ∀ ls : Array Slot, lv_has ls 5 [(0, .ref (o + 0))] → W p l e (headSpec wsX7_leastWished (rmF 4)).room s m ([.ref (o + 0)] : List Value).toArray below meth c H locs 0 0 (MQ below (bQ (aI fun r H => ∃ M1 : bM, (r = (f_X7_leastWished M).1 ∧ M1 = (f_X7_leastWished M).2) ∧ bk D E LRR o M1 H) (rB o)) ([.ref (o + 0)] : List Value).toArray s 0 0 (rB o)) (F0 m 48 ls [])) → W p l e (headSpec wsX7_leastWished (rmF 4)).room s m ([.ref (o + 0)] : List Value).toArray below meth c H locs 0 0 (MQ below (bQ (aI fun r H => ∃ M1 : bM, (r = (f_X7_leastWished M).1 ∧ M1 = (f_X7_leastWished M).2) ∧ bk D E LRR o M1 H) (rB o)) ([.ref (o + 0)] : List Value).toArray s 0 0 (rB o)) (F0 m 24 ls []) := by
    intro n14
    induction n14 with
    | zero =>
      intro i14 M15 hi14 H locs hB hS ls hl hexit14
      have hz14 : i14 = 64 := by omega
      refine lv_iload_n hx hb dX7_leastWished_24 rfl (lv_at hl 0 rfl) ?_
      refine lv_bipush (v := 64) hx hb dX7_leastWished_25 (by decide) ?_
      refine lv_icmp_ge (tgt := 48) hx hb dX7_leastWished_27 (by decide) (fun c16 => ?_) (fun c16 => absurd (by rw [hz14]; exact Int32.le_refl _) c16)
      have e17 := p_X7_leastWished_e17 M M11 r12 M13 M15 i14 
      rw [e17] at hexit14
      exact hexit14 _ _  hB hS ls (lv_sub hl [1] rfl)
    | succ n14 ih14 =>
      intro i14 M15 hi14 H locs hB hS ls hl hexit14
      refine lv_iload_n hx hb dX7_leastWished_24 rfl (lv_at hl 0 rfl) ?_
      refine lv_bipush (v := 64) hx hb dX7_leastWished_25 (by decide) ?_
      refine lv_icmp_ge (tgt := 48) hx hb dX7_leastWished_27 (by decide) (fun c18 => absurd c18 (nI_ge (a := i14) (b := 64) (by omega) (by decide))) (fun c18 => ?_)
      refine lv_aload_n hx hb dX7_leastWished_30 rfl (lv_at hl 1 rfl) ?_
      refine b_get (D := D) (E := E) (L := LRR) (o := o) (M := M15) (v := .ref (o + 8)) (C := RX7) (T := TX7) (N := 13) hx hb hts hinX7 hown hK.1 hB 0 lay_m0 rfl 10 (by decide) (hts (.fieldLink RX7 32 "RiverMeetingModel" "other" "[I") (List.mem_of_getElem? (i := 3) rfl)) (fun _ h9 => h9) rfl dX7_leastWished_31 ?_
      refine lv_iload_n hx hb dX7_leastWished_34 rfl (lv_at hl 0 rfl) ?_
      refine lv_aload_n hx hb dX7_leastWished_35 rfl (lv_at hl 1 rfl) ?_
      refine b_get (D := D) (E := E) (L := LRR) (o := o) (M := M15) (v := .ref (o + 7)) (C := RX7) (T := TX7) (N := 13) hx hb hts hinX7 hown hK.1 hB 0 lay_m0 rfl 9 (by decide) (hts (.fieldLink RX7 29 "RiverMeetingModel" "far" "[I") (List.mem_of_getElem? (i := 4) rfl)) (fun _ h9 => h9) rfl dX7_leastWished_36 ?_
      refine lv_iload_n hx hb dX7_leastWished_39 rfl (lv_at hl 0 rfl) ?_
      refine b_iald hx hb hK.1 hB 7 lay_m7 (vp_in_nI (by omega) (by decide)) dX7_leastWished_40 ?_
      rw [nI_clamp (n := i14) (by omega)]
      refine b_iast hx hb hK.1 hB hS 8 (rB_of lay_m8) lay_m8 (vp_in_nI (by omega) (by decide)) dX7_leastWished_41 (fun M19 hM19 H locs hB _ hS => ?_)
      rw [nI_clamp (n := i14) (by omega)] at hM19
      refine lv_iinc (v := nI (i14 + 1)) (lv' := [(1, .int (nI (i14 + 1))), (0, .ref (o + 0))]) hx hb dX7_leastWished_42 hl (k := 0) rfl (nI_1 i14) (by decide) rfl (fun ls hl => ?_)
      refine lv_goto (tgt := 24) hx hb dX7_leastWished_45 (by decide) ?_
      have e20 := p_X7_leastWished_e20 M M11 r12 M13 M15 i14 n14 M19 hM19.symm
      rw [e20] at hexit14
      exact ih14 (i14 + 1) M19 (by omega) _ _ hB hS ls (lv_sub hl [0, 1] rfl) hexit14
  refine lp14 64 0 M13 (by omega) _ _ hB hS ls (lv_sub hl [0, 1] rfl) ?_
  intro H locs hB hS ls hl
  obtain ⟨M21, hM21⟩ : ∃ y : bM, y = (lp_X7_leastWished_24 64 0 M13) := ⟨_, rfl⟩
  rw [← hM21] at hB
  have hl : lv_has ls 5 [(0, .ref (o + 0))] := hl
  refine lv_aload_n hx hb dX7_leastWished_48 rfl (lv_at hl 0 rfl) ?_
  refine lv_aload_n hx hb dX7_leastWished_49 rfl (lv_at hl 0 rfl) ?_
  refine b_get (D := D) (E := E) (L := LRR) (o := o) (M := M21) (v := .ref (o + 2)) (C := RX7) (T := TX7) (N := 13) hx hb hts hinX7 hown hK.1 hB 0 lay_m0 rfl 3 (by decide) (hts (.fieldLink RX7 13 "RiverMeetingModel" "now" "[I") (List.mem_of_getElem? (i := 2) rfl)) (fun _ h9 => h9) rfl dX7_leastWished_50 ?_
  refine lv_iconst (v := 1) hx hb dX7_leastWished_53 (by decide) ?_
  refine lv_aload_n hx hb dX7_leastWished_54 rfl (lv_at hl 0 rfl) ?_
  refine b_get (D := D) (E := E) (L := LRR) (o := o) (M := M21) (v := .ref (o + 2)) (C := RX7) (T := TX7) (N := 13) hx hb hts hinX7 hown hK.1 hB 0 lay_m0 rfl 3 (by decide) (hts (.fieldLink RX7 13 "RiverMeetingModel" "now" "[I") (List.mem_of_getElem? (i := 2) rfl)) (fun _ h9 => h9) rfl dX7_leastWished_55 ?_
  refine lv_iconst (v := 1) hx hb dX7_leastWished_58 (by decide) ?_
  refine b_pI (b_runS (As := [.ref (o + 2), .int 1]) (rest := [.int 1, .ref (o + 2), .ref (o + 0)]) ⟨hx, hb, hml, hown, hts⟩ (c_X7_head l D E o M21 2 1 lay_m2 (Or.inr rfl) (len_of (Or.inr rfl) (wf_ln (M := M21) (k := 2) (gR_wf (gR_of (M := M13) (by rw [hM21]; exact fr_lp_X7_leastWished_24 M M11 r12 M13 2 (by decide) (by decide) (by decide) 64 0 M13) (gR_of (M := M11) (by rw [hM13]; exact fr_X7_measure M11 2 0 r12 2 (by decide)) (gR_of (M := M) (by rw [hM11]; exact up2_row (by decide)) hg))))))) (va_cwS 2 hts gX7_leastWished_X7_head rfl rfl rfl (by decide +kernel) ⟨Nat.le_of_ble_eq_true rfl, Nat.le_of_ble_eq_true rfl⟩) hK hB rfl hl rfl (Nat.le_of_ble_eq_true rfl) dX7_leastWished_59 ⟨Nat.zero_le _, Nat.zero_le _⟩) hS (fun r22 hr22 locs hS => ?_)
  refine b_mV (b_runV (As := [.ref (o + 2), .int 1, .int r22]) (rest := []) ⟨hx, hb, hml, hown, hts⟩ (c_X7_measure l D E o M21 2 1 r22 lay_m2 (Or.inr rfl) (by rw [hr22]; exact ms_head (Or.inr rfl) (gR_of (M := M13) (by rw [hM21]; exact fr_lp_X7_leastWished_24 M M11 r12 M13 2 (by decide) (by decide) (by decide) 64 0 M13) (gR_of (M := M11) (by rw [hM13]; exact fr_X7_measure M11 2 0 r12 2 (by decide)) (gR_of (M := M) (by rw [hM11]; exact up2_row (by decide)) hg))))) (cwV 3 hts gX7_leastWished_X7_measure rfl rfl rfl (by decide +kernel) ⟨Nat.le_of_ble_eq_true rfl, Nat.le_of_ble_eq_true rfl⟩) hK (bk_recv hK.1 hB lay_m0 rfl) hB rfl hl rfl (Nat.le_of_ble_eq_true rfl) dX7_leastWished_62 ⟨Nat.zero_le _, Nat.zero_le _⟩) hS (fun q h => h) (fun M23 hM23 H locs hB _ hS => ?_)
  refine lv_iconst (v := (-1)) hx hb dX7_leastWished_65 (by decide) ?_
  refine lv_istore_n (lv' := [(1, .int (-1)), (0, .ref (o + 0))]) hx hb dX7_leastWished_66 rfl hl (by decide) rfl (fun ls hl => ?_)
  refine lv_iconst (v := (-1)) hx hb dX7_leastWished_67 (by decide) ?_
  refine lv_istore_n (lv' := [(2, .int (-1)), (1, .int (-1)), (0, .ref (o + 0))]) hx hb dX7_leastWished_68 rfl hl (by decide) rfl (fun ls hl => ?_)
  refine lv_iconst (v := 0) hx hb dX7_leastWished_69 (by decide) ?_
  refine lv_istore_n (lv' := [(3, .int 0), (2, .int (-1)), (1, .int (-1)), (0, .ref (o + 0))]) hx hb dX7_leastWished_70 rfl hl (by decide) rfl (fun ls hl => ?_)
  have lp24 : ∀ (n24 i24 : Nat) (x25 : Int32) (x26 : Int32), i24 + n24 = 64 → ∀ (H : Heap) (locs : List Loc), bk D E LRR o M23 H → bS (rB o) s.heap H locs → ∀ ls : Array Slot, lv_has ls 5 [(3, .int (nI i24)), (2, .int x25), (1, .int x26), (0, .ref (o + 0))] → (∀ (H : Heap) (locs : List Loc), bk D E LRR o M23 H → bS (rB o) s.heap H locs → ∀ ls : Array Slot, lv_has ls 5 [(2, .int ((lp_X7_leastWished_71 M23 n24 i24 x25 x26).1)), (1, .int ((lp_X7_leastWished_71 M23 n24 i24 x25 x26).2)), (0, .ref (o + 0))] → W p l e (headSpec wsX7_leastWished (rmF 4)).room s m ([.ref (o + 0)] : List Value).toArray below meth c H locs 0 0 (MQ below (bQ (aI fun r H => ∃ M1 : bM, (r = (f_X7_leastWished M).1 ∧ M1 = (f_X7_leastWished M).2) ∧ bk D E LRR o M1 H) (rB o)) ([.ref (o + 0)] : List Value).toArray s 0 0 (rB o)) (F0 m 148 ls [])) → W p l e (headSpec wsX7_leastWished (rmF 4)).room s m ([.ref (o + 0)] : List Value).toArray below meth c H locs 0 0 (MQ below (bQ (aI fun r H => ∃ M1 : bM, (r = (f_X7_leastWished M).1 ∧ M1 = (f_X7_leastWished M).2) ∧ bk D E LRR o M1 H) (rB o)) ([.ref (o + 0)] : List Value).toArray s 0 0 (rB o)) (F0 m 71 ls []) := by
    intro n24
    induction n24 with
    | zero =>
      intro i24 x25 x26 hi24 H locs hB hS ls hl hexit24
      have hz24 : i24 = 64 := by omega
      refine lv_iload_n hx hb dX7_leastWished_71 rfl (lv_at hl 0 rfl) ?_
      refine lv_bipush (v := 64) hx hb dX7_leastWished_72 (by decide) ?_
      refine lv_icmp_ge (tgt := 148) hx hb dX7_leastWished_74 (by decide) (fun c27 => ?_) (fun c27 => absurd (by rw [hz24]; exact Int32.le_refl _) c27)
      have e28 := p_X7_leastWished_e28 M M11 r12 M13 M21 r22 M23 x25 x26 i24 
      rw [e28] at hexit24
      exact hexit24 _ _  hB hS ls (lv_sub hl [1, 2, 3] rfl)
    | succ n24 ih24 =>
      intro i24 x25 x26 hi24 H locs hB hS ls hl hexit24
      refine lv_iload_n hx hb dX7_leastWished_71 rfl (lv_at hl 0 rfl) ?_
      refine lv_bipush (v := 64) hx hb dX7_leastWished_72 (by decide) ?_
      refine lv_icmp_ge (tgt := 148) hx hb dX7_leastWished_74 (by decide) (fun c29 => absurd c29 (nI_ge (a := i24) (b := 64) (by omega) (by decide))) (fun c29 => ?_)
      refine lv_aload_n hx hb dX7_leastWished_77 rfl (lv_at hl 3 rfl) ?_
      refine b_get (D := D) (E := E) (L := LRR) (o := o) (M := M23) (v := .ref (o + 2)) (C := RX7) (T := TX7) (N := 13) hx hb hts hinX7 hown hK.1 hB 0 lay_m0 rfl 3 (by decide) (hts (.fieldLink RX7 13 "RiverMeetingModel" "now" "[I") (List.mem_of_getElem? (i := 2) rfl)) (fun _ h9 => h9) rfl dX7_leastWished_78 ?_
      refine lv_iconst (v := 0) hx hb dX7_leastWished_81 (by decide) ?_
      refine lv_iload_n hx hb dX7_leastWished_82 rfl (lv_at hl 0 rfl) ?_
      refine b_pI (b_runS (As := [.ref (o + 2), .int 0, .int (nI i24)]) (rest := []) ⟨hx, hb, hml, hown, hts⟩ (c_X7_cost l D E o M23 2 0 (nI i24) lay_m2 (Or.inl rfl) (vp_in_nI (by omega) (by decide))) (va_cwS 3 hts gX7_leastWished_X7_cost rfl rfl rfl (by decide +kernel) ⟨Nat.le_of_ble_eq_true rfl, Nat.le_of_ble_eq_true rfl⟩) hK hB rfl hl rfl (Nat.le_of_ble_eq_true rfl) dX7_leastWished_83 ⟨Nat.zero_le _, Nat.zero_le _⟩) hS (fun r30 hr30 locs hS => ?_)
      refine lv_aload_n hx hb dX7_leastWished_86 rfl (lv_at hl 3 rfl) ?_
      refine b_get (D := D) (E := E) (L := LRR) (o := o) (M := M23) (v := .ref (o + 2)) (C := RX7) (T := TX7) (N := 13) hx hb hts hinX7 hown hK.1 hB 0 lay_m0 rfl 3 (by decide) (hts (.fieldLink RX7 13 "RiverMeetingModel" "now" "[I") (List.mem_of_getElem? (i := 2) rfl)) (fun _ h9 => h9) rfl dX7_leastWished_87 ?_
      refine lv_iconst (v := 1) hx hb dX7_leastWished_90 (by decide) ?_
      refine lv_iload_n hx hb dX7_leastWished_91 rfl (lv_at hl 0 rfl) ?_
      refine b_pI (b_runS (As := [.ref (o + 2), .int 1, .int (nI i24)]) (rest := [.int r30]) ⟨hx, hb, hml, hown, hts⟩ (c_X7_cost l D E o M23 2 1 (nI i24) lay_m2 (Or.inr rfl) (vp_in_nI (by omega) (by decide))) (va_cwS 3 hts gX7_leastWished_X7_cost rfl rfl rfl (by decide +kernel) ⟨Nat.le_of_ble_eq_true rfl, Nat.le_of_ble_eq_true rfl⟩) hK hB rfl hl rfl (Nat.le_of_ble_eq_true rfl) dX7_leastWished_92 ⟨Nat.zero_le _, Nat.zero_le _⟩) hS (fun r31 hr31 locs hS => ?_)
      refine lv_iadd hx hb dX7_leastWished_95 ?_
      refine lv_topi (fun x32 hx32 => ?_)
      refine lv_istore (lv' := [(4, .int x32), (3, .int (nI i24)), (2, .int x25), (1, .int x26), (0, .ref (o + 0))]) hx hb dX7_leastWished_96 hl (by decide) rfl (fun ls hl => ?_)
      refine lv_aload_n hx hb dX7_leastWished_98 rfl (lv_at hl 4 rfl) ?_
      refine b_get (D := D) (E := E) (L := LRR) (o := o) (M := M23) (v := .ref (o + 2)) (C := RX7) (T := TX7) (N := 13) hx hb hts hinX7 hown hK.1 hB 0 lay_m0 rfl 3 (by decide) (hts (.fieldLink RX7 13 "RiverMeetingModel" "now" "[I") (List.mem_of_getElem? (i := 2) rfl)) (fun _ h9 => h9) rfl dX7_leastWished_99 ?_
      refine lv_iload_n hx hb dX7_leastWished_102 rfl (lv_at hl 1 rfl) ?_
      refine b_pI (b_runS (As := [.ref (o + 2), .int (nI i24)]) (rest := []) ⟨hx, hb, hml, hown, hts⟩ (c_X7_isBare l D E o M23 2 (nI i24) lay_m2 (vp_in_nI (by omega) (by decide))) (va_cwS 2 hts gX7_leastWished_X7_isBare rfl rfl rfl (by decide +kernel) ⟨Nat.le_of_ble_eq_true rfl, Nat.le_of_ble_eq_true rfl⟩) hK hB rfl hl rfl (Nat.le_of_ble_eq_true rfl) dX7_leastWished_103 ⟨Nat.zero_le _, Nat.zero_le _⟩) hS (fun r33 hr33 locs hS => ?_)
      refine lv_if_eq (tgt := 142) hx hb dX7_leastWished_106 (by decide) (fun c34 => ?_) (fun c34 => ?_)
      · refine lv_iinc (v := nI (i24 + 1)) (lv' := [(3, .int (nI (i24 + 1))), (4, .int x32), (2, .int x25), (1, .int x26), (0, .ref (o + 0))]) hx hb dX7_leastWished_142 hl (k := 1) rfl (nI_1 i24) (by decide) rfl (fun ls hl => ?_)
        refine lv_goto (tgt := 71) hx hb dX7_leastWished_145 (by decide) ?_
        have e35 := p_X7_leastWished_e35 M M11 r12 M13 M21 r22 M23 x25 x26 i24 n24 r30 hr30.symm r31 hr31.symm x32 hx32.symm r33 hr33.symm c34
        rw [e35] at hexit24
        exact ih24 (i24 + 1) x25 x26 (by omega) _ _ hB hS ls (lv_sub hl [0, 2, 3, 4] rfl) hexit24
      · refine lv_aload_n hx hb dX7_leastWished_109 rfl (lv_at hl 4 rfl) ?_
        refine b_get (D := D) (E := E) (L := LRR) (o := o) (M := M23) (v := .ref (o + 7)) (C := RX7) (T := TX7) (N := 13) hx hb hts hinX7 hown hK.1 hB 0 lay_m0 rfl 9 (by decide) (hts (.fieldLink RX7 29 "RiverMeetingModel" "far" "[I") (List.mem_of_getElem? (i := 4) rfl)) (fun _ h9 => h9) rfl dX7_leastWished_110 ?_
        refine lv_iload_n hx hb dX7_leastWished_113 rfl (lv_at hl 1 rfl) ?_
        refine b_iald hx hb hK.1 hB 7 lay_m7 (vp_in_nI (by omega) (by decide)) dX7_leastWished_114 ?_
        rw [nI_clamp (n := i24) (by omega)]
        refine lv_ldc (v := 99999) hx hb hown (hts (.constant RX7 122 (99999)) (List.mem_of_getElem? (i := 5) rfl)) dX7_leastWished_115 ?_
        refine lv_icmp_ge (tgt := 142) hx hb dX7_leastWished_117 (by decide) (fun c36 => ?_) (fun c36 => ?_)
        · refine lv_iinc (v := nI (i24 + 1)) (lv' := [(3, .int (nI (i24 + 1))), (4, .int x32), (2, .int x25), (1, .int x26), (0, .ref (o + 0))]) hx hb dX7_leastWished_142 hl (k := 1) rfl (nI_1 i24) (by decide) rfl (fun ls hl => ?_)
          refine lv_goto (tgt := 71) hx hb dX7_leastWished_145 (by decide) ?_
          have e37 := p_X7_leastWished_e37 M M11 r12 M13 M21 r22 M23 x25 x26 i24 n24 r30 hr30.symm r31 hr31.symm x32 hx32.symm r33 hr33.symm c34 c36
          rw [e37] at hexit24
          exact ih24 (i24 + 1) x25 x26 (by omega) _ _ hB hS ls (lv_sub hl [0, 2, 3, 4] rfl) hexit24
        · refine lv_aload_n hx hb dX7_leastWished_120 rfl (lv_at hl 4 rfl) ?_
          refine b_get (D := D) (E := E) (L := LRR) (o := o) (M := M23) (v := .ref (o + 8)) (C := RX7) (T := TX7) (N := 13) hx hb hts hinX7 hown hK.1 hB 0 lay_m0 rfl 10 (by decide) (hts (.fieldLink RX7 32 "RiverMeetingModel" "other" "[I") (List.mem_of_getElem? (i := 3) rfl)) (fun _ h9 => h9) rfl dX7_leastWished_121 ?_
          refine lv_iload_n hx hb dX7_leastWished_124 rfl (lv_at hl 1 rfl) ?_
          refine b_iald hx hb hK.1 hB 8 lay_m8 (vp_in_nI (by omega) (by decide)) dX7_leastWished_125 ?_
          rw [nI_clamp (n := i24) (by omega)]
          refine lv_ldc (v := 99999) hx hb hown (hts (.constant RX7 122 (99999)) (List.mem_of_getElem? (i := 5) rfl)) dX7_leastWished_126 ?_
          refine lv_icmp_ge (tgt := 142) hx hb dX7_leastWished_128 (by decide) (fun c38 => ?_) (fun c38 => ?_)
          · refine lv_iinc (v := nI (i24 + 1)) (lv' := [(3, .int (nI (i24 + 1))), (4, .int x32), (2, .int x25), (1, .int x26), (0, .ref (o + 0))]) hx hb dX7_leastWished_142 hl (k := 1) rfl (nI_1 i24) (by decide) rfl (fun ls hl => ?_)
            refine lv_goto (tgt := 71) hx hb dX7_leastWished_145 (by decide) ?_
            have e39 := p_X7_leastWished_e39 M M11 r12 M13 M21 r22 M23 x25 x26 i24 n24 r30 hr30.symm r31 hr31.symm x32 hx32.symm r33 hr33.symm c34 c36 c38
            rw [e39] at hexit24
            exact ih24 (i24 + 1) x25 x26 (by omega) _ _ hB hS ls (lv_sub hl [0, 2, 3, 4] rfl) hexit24
          · refine lv_iload hx hb dX7_leastWished_131 (lv_at hl 0 rfl) ?_
            refine lv_iload_n hx hb dX7_leastWished_133 rfl (lv_at hl 2 rfl) ?_
            refine lv_icmp_le (tgt := 142) hx hb dX7_leastWished_134 (by decide) (fun c40 => ?_) (fun c40 => ?_)
            · refine lv_iinc (v := nI (i24 + 1)) (lv' := [(3, .int (nI (i24 + 1))), (4, .int x32), (2, .int x25), (1, .int x26), (0, .ref (o + 0))]) hx hb dX7_leastWished_142 hl (k := 1) rfl (nI_1 i24) (by decide) rfl (fun ls hl => ?_)
              refine lv_goto (tgt := 71) hx hb dX7_leastWished_145 (by decide) ?_
              have e41 := p_X7_leastWished_e41 M M11 r12 M13 M21 r22 M23 x25 x26 i24 n24 r30 hr30.symm r31 hr31.symm x32 hx32.symm r33 hr33.symm c34 c36 c38 c40
              rw [e41] at hexit24
              exact ih24 (i24 + 1) x25 x26 (by omega) _ _ hB hS ls (lv_sub hl [0, 2, 3, 4] rfl) hexit24
            · refine lv_iload_n hx hb dX7_leastWished_137 rfl (lv_at hl 1 rfl) ?_
              refine lv_istore_n (lv' := [(1, .int (nI i24)), (4, .int x32), (3, .int (nI i24)), (2, .int x25), (0, .ref (o + 0))]) hx hb dX7_leastWished_138 rfl hl (by decide) rfl (fun ls hl => ?_)
              refine lv_iload hx hb dX7_leastWished_139 (lv_at hl 1 rfl) ?_
              refine lv_istore_n (lv' := [(2, .int x32), (1, .int (nI i24)), (4, .int x32), (3, .int (nI i24)), (0, .ref (o + 0))]) hx hb dX7_leastWished_141 rfl hl (by decide) rfl (fun ls hl => ?_)
              refine lv_iinc (v := nI (i24 + 1)) (lv' := [(3, .int (nI (i24 + 1))), (2, .int x32), (1, .int (nI i24)), (4, .int x32), (0, .ref (o + 0))]) hx hb dX7_leastWished_142 hl (k := 3) rfl (nI_1 i24) (by decide) rfl (fun ls hl => ?_)
              refine lv_goto (tgt := 71) hx hb dX7_leastWished_145 (by decide) ?_
              have e42 := p_X7_leastWished_e42 M M11 r12 M13 M21 r22 M23 x25 x26 i24 n24 r30 hr30.symm r31 hr31.symm x32 hx32.symm r33 hr33.symm c34 c36 c38 c40
              rw [e42] at hexit24
              exact ih24 (i24 + 1) x32 (nI i24) (by omega) _ _ hB hS ls (lv_sub hl [0, 1, 2, 4] rfl) hexit24
  refine lp24 64 0 (-1) (-1) (by omega) _ _ hB hS ls (lv_sub hl [0, 1, 2, 3] rfl) ?_
  intro H locs hB hS ls hl
  obtain ⟨x43, hx43⟩ : ∃ y : Int32, y = (lp_X7_leastWished_71 M23 64 0 (-1) (-1)).1 := ⟨_, rfl⟩
  rw [← hx43] at hl
  obtain ⟨x44, hx44⟩ : ∃ y : Int32, y = (lp_X7_leastWished_71 M23 64 0 (-1) (-1)).2 := ⟨_, rfl⟩
  rw [← hx44] at hl
  have hl : lv_has ls 5 [(2, .int x43), (1, .int x44), (0, .ref (o + 0))] := hl
  refine lv_iload_n hx hb dX7_leastWished_148 rfl (lv_at hl 1 rfl) ?_
  have e45 := p_X7_leastWished_e45 M M11 hM11.symm r12 hr12.symm M13 hM13.symm M21 hM21.symm r22 hr22.symm M23 hM23.symm x43 hx43.symm x44 hx44.symm
  exact b_iret hx hb hr hlocks hS ⟨_, rfl, _, ⟨(congrArg Prod.fst e45).symm, (congrArg Prod.snd e45).symm⟩, hB⟩ dX7_leastWished_149
