def f_X0_reasonAgainstDam (M : bM) (g : Nat) (x1 : Int32) : Int32 × bM := (let r1 : Int32 := f_X0_contentOf M g x1; (if r1 = 0 then (let k4 : Nat := f_X0_sideOf M g (M g 7); (if (M k4 5) < 3 then (let r7 : Int32 := (f_X5_isShutIn M g 0 x1).1; (let M6 : bM := (f_X5_isShutIn M g 0 x1).2; (if r7 = 0 then (let r11 : Int32 := (f_X5_isShutIn M6 g 1 x1).1; (let M10 : bM := (f_X5_isShutIn M6 g 1 x1).2; (if r11 = 0 then (0, M10) else (3, M10)))) else (3, M6)))) else (2, M))) else (1, M)))
theorem u_f_X0_reasonAgainstDam (M : bM) (g : Nat) (x1 : Int32) : f_X0_reasonAgainstDam M g x1 = (let r1 : Int32 := f_X0_contentOf M g x1; (if r1 = 0 then (let k4 : Nat := f_X0_sideOf M g (M g 7); (if (M k4 5) < 3 then (let r7 : Int32 := (f_X5_isShutIn M g 0 x1).1; (let M6 : bM := (f_X5_isShutIn M g 0 x1).2; (if r7 = 0 then (let r11 : Int32 := (f_X5_isShutIn M6 g 1 x1).1; (let M10 : bM := (f_X5_isShutIn M6 g 1 x1).2; (if r11 = 0 then (0, M10) else (3, M10)))) else (3, M6)))) else (2, M))) else (1, M))) := rfl
theorem p_X0_reasonAgainstDam_e9 (M : bM) (g : Nat) (x1 : Int32) (r1 : Int32) (hr1 : f_X0_contentOf M g x1 = r1) (c2 : r1 = 0) (k4 : Nat) (hk4 : f_X0_sideOf M g (M g 7) = k4) (c5 : (M k4 5) < 3) (r7 : Int32) (hr7 : (f_X5_isShutIn M g 0 x1).1 = r7) (M6 : bM) (hM6 : (f_X5_isShutIn M g 0 x1).2 = M6) (c8 : ¬ r7 = 0) : f_X0_reasonAgainstDam M g x1 = (3, M6) := by subst hM6 hr7 hk4 hr1; exact Eq.trans (u_f_X0_reasonAgainstDam M g x1) (Eq.trans (if_pos c2) (Eq.trans (if_pos c5) (if_neg c8)))
theorem p_X0_reasonAgainstDam_e13 (M : bM) (g : Nat) (x1 : Int32) (r1 : Int32) (hr1 : f_X0_contentOf M g x1 = r1) (c2 : r1 = 0) (k4 : Nat) (hk4 : f_X0_sideOf M g (M g 7) = k4) (c5 : (M k4 5) < 3) (r7 : Int32) (hr7 : (f_X5_isShutIn M g 0 x1).1 = r7) (M6 : bM) (hM6 : (f_X5_isShutIn M g 0 x1).2 = M6) (c8 : r7 = 0) (r11 : Int32) (hr11 : (f_X5_isShutIn M6 g 1 x1).1 = r11) (M10 : bM) (hM10 : (f_X5_isShutIn M6 g 1 x1).2 = M10) (c12 : r11 = 0) : f_X0_reasonAgainstDam M g x1 = (0, M10) := by subst hM10 hr11 hM6 hr7 hk4 hr1; exact Eq.trans (u_f_X0_reasonAgainstDam M g x1) (Eq.trans (if_pos c2) (Eq.trans (if_pos c5) (Eq.trans (if_pos c8) (if_pos c12))))
theorem p_X0_reasonAgainstDam_e14 (M : bM) (g : Nat) (x1 : Int32) (r1 : Int32) (hr1 : f_X0_contentOf M g x1 = r1) (c2 : r1 = 0) (k4 : Nat) (hk4 : f_X0_sideOf M g (M g 7) = k4) (c5 : (M k4 5) < 3) (r7 : Int32) (hr7 : (f_X5_isShutIn M g 0 x1).1 = r7) (M6 : bM) (hM6 : (f_X5_isShutIn M g 0 x1).2 = M6) (c8 : r7 = 0) (r11 : Int32) (hr11 : (f_X5_isShutIn M6 g 1 x1).1 = r11) (M10 : bM) (hM10 : (f_X5_isShutIn M6 g 1 x1).2 = M10) (c12 : ¬ r11 = 0) : f_X0_reasonAgainstDam M g x1 = (3, M10) := by subst hM10 hr11 hM6 hr7 hk4 hr1; exact Eq.trans (u_f_X0_reasonAgainstDam M g x1) (Eq.trans (if_pos c2) (Eq.trans (if_pos c5) (Eq.trans (if_pos c8) (if_neg c12))))
theorem p_X0_reasonAgainstDam_e15 (M : bM) (g : Nat) (x1 : Int32) (r1 : Int32) (hr1 : f_X0_contentOf M g x1 = r1) (c2 : r1 = 0) (k4 : Nat) (hk4 : f_X0_sideOf M g (M g 7) = k4) (c5 : ¬ (M k4 5) < 3) : f_X0_reasonAgainstDam M g x1 = (2, M) := by subst hk4 hr1; exact Eq.trans (u_f_X0_reasonAgainstDam M g x1) (Eq.trans (if_pos c2) (if_neg c5))
theorem p_X0_reasonAgainstDam_e16 (M : bM) (g : Nat) (x1 : Int32) (r1 : Int32) (hr1 : f_X0_contentOf M g x1 = r1) (c2 : ¬ r1 = 0) : f_X0_reasonAgainstDam M g x1 = (1, M) := by subst hr1; exact Eq.trans (u_f_X0_reasonAgainstDam M g x1) (if_neg c2)
set_option maxHeartbeats 4000000 in
set_option maxRecDepth 100000 in
theorem c_X0_reasonAgainstDam (l : Launch) (D : va_G) (E : Nat → ClassId) (o : Nat) (M : bM) (g : Nat) (x1 : Int32) (hg : isG g) : Met l yX0_reasonAgainstDam wsX0_reasonAgainstDam (rmF 3) (bPc D E [.ref (o + g), .int x1, .ref (o + 23)] (fun H => bk D E LRM o M H)) (bQ (aI fun r H => ∃ M1 : bM, (r = (f_X0_reasonAgainstDam M g x1).1 ∧ M1 = (f_X0_reasonAgainstDam M g x1).2) ∧ bk D E LRM o M1 H) (rA o)) 0 0 (rA o) := by
  refine Met.ofW (cc := cX0_reasonAgainstDam) (maxL := 3) (ret := (some .int)) (by decide) rfl ?_
  intro p e s m args below meth c s₁ B hml hv
  obtain ⟨rfl, hB, hK⟩ := hv
  have hx := B.exec
  have hb := B.bytes
  have hr := B.returns
  have hts := atoms_spec (ws := wsX0_reasonAgainstDam) B.pre
  have hown : s.vm.findClass RX0 = some m.cls := findClass_of_methodNamed B.named
  have hlocks := B.notSynchronized
  have hS : bS (rA o) s.heap s.heap [] := bS.rf
  have hl := lv_entry ([.ref (o + g), .int x1, .ref (o + 23)]) (n := 3) (Nat.le_of_ble_eq_true rfl)
  rw [lg_entry_eq]
  generalize (lg_sl ([.ref (o + g), .int x1, .ref (o + 23)]) ++ List.replicate (3 - (lg_sl ([.ref (o + g), .int x1, .ref (o + 23)])).length) Slot.unset).toArray = ls at hl ⊢
  have hl : lv_has ls 3 [(0, .ref (o + g)), (1, .int x1), (2, .ref (o + 23))] := hl
  have hB : bk D E LRM o M s.heap := hB
  have hinX0 : ∀ w ∈ wsX00, w ∈ wsX0_reasonAgainstDam := by decide +kernel
  have hinX2 : ∀ w ∈ wsX20, w ∈ wsX0_reasonAgainstDam := by decide +kernel
  refine lv_aload_n hx hb dX0_reasonAgainstDam_0 rfl (lv_at hl 0 rfl) ?_
  refine lv_iload_n hx hb dX0_reasonAgainstDam_1 rfl (lv_at hl 1 rfl) ?_
  refine b_pI (b_runV (As := [.int x1]) (rest := []) ⟨hx, hb, hml, hown, hts⟩ (c_X0_contentOf l D E o M g x1 hg) (cwV 1 hts gX0_reasonAgainstDam_X0_contentOf rfl rfl rfl (by decide +kernel) ⟨Nat.le_of_ble_eq_true rfl, Nat.le_of_ble_eq_true rfl⟩) hK (bk_recv hK.1 hB hg.1 rfl) hB rfl hl rfl (Nat.le_of_ble_eq_true rfl) dX0_reasonAgainstDam_2 ⟨Nat.zero_le _, Nat.zero_le _⟩) hS (fun r1 hr1 locs hS => ?_)
  refine lv_if_eq (tgt := 10) hx hb dX0_reasonAgainstDam_5 (by decide) (fun c2 => ?_) (fun c2 => ?_)
  · refine lv_aload_n hx hb dX0_reasonAgainstDam_10 rfl (lv_at hl 0 rfl) ?_
    refine lv_aload_n hx hb dX0_reasonAgainstDam_11 rfl (lv_at hl 0 rfl) ?_
    refine b_get (D := D) (E := E) (L := LRM) (o := o) (M := M) (v := .int (M g 7)) (C := RX0) (T := TX0) (N := 12) hx hb hts hinX0 hown hK.1 hB g hg.1 rfl 7 (by decide) (hts (.fieldLink RX0 67 "RiverMeeting$Game" "mover" "I") (List.mem_of_getElem? (i := 1) rfl)) (fun _ h9 => h9) rfl dX0_reasonAgainstDam_12 ?_
    refine b_pR (b_runV (As := [.int (M g 7)]) (rest := []) ⟨hx, hb, hml, hown, hts⟩ (c_X0_sideOf l D E o M g (M g 7) hg) (cwV 1 hts gX0_reasonAgainstDam_X0_sideOf rfl rfl rfl (by decide +kernel) ⟨Nat.le_of_ble_eq_true rfl, Nat.le_of_ble_eq_true rfl⟩) hK (bk_recv hK.1 hB hg.1 rfl) hB rfl hl rfl (Nat.le_of_ble_eq_true rfl) dX0_reasonAgainstDam_15 ⟨Nat.zero_le _, Nat.zero_le _⟩) hS (fun r3 hr3 locs hS => ?_)
    obtain ⟨k4, hk4⟩ : ∃ y : Nat, y = f_X0_sideOf M g (M g 7) := ⟨_, rfl⟩
    rw [← hk4] at hr3; subst hr3
    have hfk4 : isS k4 := by rw [hk4]; exact (isS_sideOf hg)
    refine b_get (D := D) (E := E) (L := LRM) (o := o) (M := M) (v := .int (M k4 5)) (C := RX2) (T := TX2) (N := 8) hx hb hts hinX2 hown hK.1 hB k4 hfk4.1 rfl 5 (by decide) (hts (.fieldLink RX0 154 "RiverMeeting$Side" "built" "I") (List.mem_of_getElem? (i := 2) rfl)) (fun _ h9 => h9) rfl dX0_reasonAgainstDam_18 ?_
    refine lv_iconst (v := 3) hx hb dX0_reasonAgainstDam_21 (by decide) ?_
    refine lv_icmp_lt (tgt := 27) hx hb dX0_reasonAgainstDam_22 (by decide) (fun c5 => ?_) (fun c5 => ?_)
    · refine lv_aload_n hx hb dX0_reasonAgainstDam_27 rfl (lv_at hl 2 rfl) ?_
      refine lv_aload_n hx hb dX0_reasonAgainstDam_28 rfl (lv_at hl 0 rfl) ?_
      refine lv_iconst (v := 0) hx hb dX0_reasonAgainstDam_29 (by decide) ?_
      refine lv_iload_n hx hb dX0_reasonAgainstDam_30 rfl (lv_at hl 1 rfl) ?_
      refine b_mI (b_runV (As := [.ref (o + g), .int 0, .int x1]) (rest := []) ⟨hx, hb, hml, hown, hts⟩ (c_X5_isShutIn l D E o M g 0 x1 hg) (cwV 3 hts gX0_reasonAgainstDam_X5_isShutIn rfl rfl rfl (by decide +kernel) ⟨Nat.le_of_ble_eq_true rfl, Nat.le_of_ble_eq_true rfl⟩) hK (bk_recv hK.1 hB lay_23 rfl) hB rfl hl rfl (Nat.le_of_ble_eq_true rfl) dX0_reasonAgainstDam_31 ⟨Nat.zero_le _, Nat.zero_le _⟩) hS (fun q h => h) (fun r7 M6 hM6 H locs hB _ hS => ?_)
      obtain ⟨hr7, hM6⟩ := hM6
      refine lv_if_ne (tgt := 47) hx hb dX0_reasonAgainstDam_34 (by decide) (fun c8 => ?_) (fun c8 => ?_)
      · refine lv_iconst (v := 3) hx hb dX0_reasonAgainstDam_47 (by decide) ?_
        refine lv_goto (tgt := 52) hx hb dX0_reasonAgainstDam_48 (by decide) ?_
        have e9 := p_X0_reasonAgainstDam_e9 M g x1 r1 hr1.symm c2 k4 hk4.symm c5 r7 hr7.symm M6 hM6.symm c8
        exact b_iret hx hb hr hlocks hS ⟨_, rfl, _, ⟨(congrArg Prod.fst e9).symm, (congrArg Prod.snd e9).symm⟩, hB⟩ dX0_reasonAgainstDam_52
      · refine lv_aload_n hx hb dX0_reasonAgainstDam_37 rfl (lv_at hl 2 rfl) ?_
        refine lv_aload_n hx hb dX0_reasonAgainstDam_38 rfl (lv_at hl 0 rfl) ?_
        refine lv_iconst (v := 1) hx hb dX0_reasonAgainstDam_39 (by decide) ?_
        refine lv_iload_n hx hb dX0_reasonAgainstDam_40 rfl (lv_at hl 1 rfl) ?_
        refine b_mI (b_runV (As := [.ref (o + g), .int 1, .int x1]) (rest := []) ⟨hx, hb, hml, hown, hts⟩ (c_X5_isShutIn l D E o M6 g 1 x1 hg) (cwV 3 hts gX0_reasonAgainstDam_X5_isShutIn rfl rfl rfl (by decide +kernel) ⟨Nat.le_of_ble_eq_true rfl, Nat.le_of_ble_eq_true rfl⟩) hK (bk_recv hK.1 hB lay_23 rfl) hB rfl hl rfl (Nat.le_of_ble_eq_true rfl) dX0_reasonAgainstDam_41 ⟨Nat.zero_le _, Nat.zero_le _⟩) hS (fun q h => h) (fun r11 M10 hM10 H locs hB _ hS => ?_)
        obtain ⟨hr11, hM10⟩ := hM10
        refine lv_if_eq (tgt := 51) hx hb dX0_reasonAgainstDam_44 (by decide) (fun c12 => ?_) (fun c12 => ?_)
        · refine lv_iconst (v := 0) hx hb dX0_reasonAgainstDam_51 (by decide) ?_
          have e13 := p_X0_reasonAgainstDam_e13 M g x1 r1 hr1.symm c2 k4 hk4.symm c5 r7 hr7.symm M6 hM6.symm c8 r11 hr11.symm M10 hM10.symm c12
          exact b_iret hx hb hr hlocks hS ⟨_, rfl, _, ⟨(congrArg Prod.fst e13).symm, (congrArg Prod.snd e13).symm⟩, hB⟩ dX0_reasonAgainstDam_52
        · refine lv_iconst (v := 3) hx hb dX0_reasonAgainstDam_47 (by decide) ?_
          refine lv_goto (tgt := 52) hx hb dX0_reasonAgainstDam_48 (by decide) ?_
          have e14 := p_X0_reasonAgainstDam_e14 M g x1 r1 hr1.symm c2 k4 hk4.symm c5 r7 hr7.symm M6 hM6.symm c8 r11 hr11.symm M10 hM10.symm c12
          exact b_iret hx hb hr hlocks hS ⟨_, rfl, _, ⟨(congrArg Prod.fst e14).symm, (congrArg Prod.snd e14).symm⟩, hB⟩ dX0_reasonAgainstDam_52
    · refine lv_iconst (v := 2) hx hb dX0_reasonAgainstDam_25 (by decide) ?_
      have e15 := p_X0_reasonAgainstDam_e15 M g x1 r1 hr1.symm c2 k4 hk4.symm c5
      exact b_iret hx hb hr hlocks hS ⟨_, rfl, _, ⟨(congrArg Prod.fst e15).symm, (congrArg Prod.snd e15).symm⟩, hB⟩ dX0_reasonAgainstDam_26
  · refine lv_iconst (v := 1) hx hb dX0_reasonAgainstDam_8 (by decide) ?_
    have e16 := p_X0_reasonAgainstDam_e16 M g x1 r1 hr1.symm c2
    exact b_iret hx hb hr hlocks hS ⟨_, rfl, _, ⟨(congrArg Prod.fst e16).symm, (congrArg Prod.snd e16).symm⟩, hB⟩ dX0_reasonAgainstDam_9
def f_X0_buildDam (M : bM) (g : Nat) (x1 : Int32) : bM := (let r1 : Int32 := f_X6_fits x1; (if r1 = 0 then (let k4 : Nat := f_X0_sideOf M g (M g 7); (let M5 : bM := up2 M k4 5 ((M k4 5) + 1); (let M6 : bM := f_X0_endTurn M5 g; M6))) else (let M8 : bM := up2 M (g + 9) x1.toNatClampNeg 0; (let k10 : Nat := f_X0_sideOf M8 g (M8 g 7); (let M11 : bM := up2 M8 k10 5 ((M8 k10 5) + 1); (let M12 : bM := f_X0_endTurn M11 g; M12))))))
theorem u_f_X0_buildDam (M : bM) (g : Nat) (x1 : Int32) : f_X0_buildDam M g x1 = (let r1 : Int32 := f_X6_fits x1; (if r1 = 0 then (let k4 : Nat := f_X0_sideOf M g (M g 7); (let M5 : bM := up2 M k4 5 ((M k4 5) + 1); (let M6 : bM := f_X0_endTurn M5 g; M6))) else (let M8 : bM := up2 M (g + 9) x1.toNatClampNeg 0; (let k10 : Nat := f_X0_sideOf M8 g (M8 g 7); (let M11 : bM := up2 M8 k10 5 ((M8 k10 5) + 1); (let M12 : bM := f_X0_endTurn M11 g; M12)))))) := rfl
theorem p_X0_buildDam_e7 (M : bM) (g : Nat) (x1 : Int32) (r1 : Int32) (hr1 : f_X6_fits x1 = r1) (c2 : r1 = 0) (k4 : Nat) (hk4 : f_X0_sideOf M g (M g 7) = k4) (M5 : bM) (hM5 : up2 M k4 5 ((M k4 5) + 1) = M5) (M6 : bM) (hM6 : f_X0_endTurn M5 g = M6) : f_X0_buildDam M g x1 = M6 := by subst hM6 hM5 hk4 hr1; exact Eq.trans (u_f_X0_buildDam M g x1) (if_pos c2)
theorem p_X0_buildDam_e13 (M : bM) (g : Nat) (x1 : Int32) (r1 : Int32) (hr1 : f_X6_fits x1 = r1) (c2 : ¬ r1 = 0) (M8 : bM) (hM8 : up2 M (g + 9) x1.toNatClampNeg 0 = M8) (k10 : Nat) (hk10 : f_X0_sideOf M8 g (M8 g 7) = k10) (M11 : bM) (hM11 : up2 M8 k10 5 ((M8 k10 5) + 1) = M11) (M12 : bM) (hM12 : f_X0_endTurn M11 g = M12) : f_X0_buildDam M g x1 = M12 := by subst hM12 hM11 hk10 hM8 hr1; exact Eq.trans (u_f_X0_buildDam M g x1) (if_neg c2)
set_option maxHeartbeats 4000000 in
set_option maxRecDepth 100000 in
theorem c_X0_buildDam (l : Launch) (D : va_G) (E : Nat → ClassId) (o : Nat) (M : bM) (g : Nat) (x1 : Int32) (hg : isG g) : Met l yX0_buildDam wsX0_buildDam (rmF 1) (bPc D E [.ref (o + g), .int x1] (fun H => bk D E LRM o M H)) (bQ (aV fun H => ∃ M1 : bM, M1 = f_X0_buildDam M g x1 ∧ bk D E LRM o M1 H) (rA o)) 0 0 (rA o) := by
  refine Met.ofW (cc := cX0_buildDam) (maxL := 2) (ret := none) (by decide) rfl ?_
  intro p e s m args below meth c s₁ B hml hv
  obtain ⟨rfl, hB, hK⟩ := hv
  have hx := B.exec
  have hb := B.bytes
  have hr := B.returns
  have hts := atoms_spec (ws := wsX0_buildDam) B.pre
  have hown : s.vm.findClass RX0 = some m.cls := findClass_of_methodNamed B.named
  have hlocks := B.notSynchronized
  have hS : bS (rA o) s.heap s.heap [] := bS.rf
  have hl := lv_entry ([.ref (o + g), .int x1]) (n := 2) (Nat.le_of_ble_eq_true rfl)
  rw [lg_entry_eq]
  generalize (lg_sl ([.ref (o + g), .int x1]) ++ List.replicate (2 - (lg_sl ([.ref (o + g), .int x1])).length) Slot.unset).toArray = ls at hl ⊢
  have hl : lv_has ls 2 [(0, .ref (o + g)), (1, .int x1)] := hl
  have hB : bk D E LRM o M s.heap := hB
  have hinX0 : ∀ w ∈ wsX00, w ∈ wsX0_buildDam := by decide +kernel
  have hinX2 : ∀ w ∈ wsX20, w ∈ wsX0_buildDam := by decide +kernel
  refine lv_iload_n hx hb dX0_buildDam_0 rfl (lv_at hl 1 rfl) ?_
  refine b_pI (b_runSN (As := [.int x1]) (rest := []) ⟨hx, hb, hml, hown, hts⟩ (c_X6_fits l D E x1) ⟨va_cnB (host := "RiverMeeting") 1 hts gX0_buildDam_X6_fits_n91 rfl rfl rfl (hK.2 7 _ rfl) (hts (.initialized RX6) (List.mem_of_getElem? (i := 5) rfl)) (by decide +kernel) ⟨Nat.le_of_ble_eq_true rfl, Nat.le_of_ble_eq_true rfl⟩, (hts (.static yX6_fits) (List.mem_of_getElem? (i := 4) rfl)), trivial⟩ hK trivial rfl hl rfl (Nat.le_of_ble_eq_true rfl) dX0_buildDam_1 ⟨Nat.zero_le _, Nat.zero_le _⟩) hS (fun r1 hr1 locs hS => ?_)
  refine lv_if_eq (tgt := 14) hx hb dX0_buildDam_4 (by decide) (fun c2 => ?_) (fun c2 => ?_)
  · refine lv_aload_n hx hb dX0_buildDam_14 rfl (lv_at hl 0 rfl) ?_
    refine lv_aload_n hx hb dX0_buildDam_15 rfl (lv_at hl 0 rfl) ?_
    refine b_get (D := D) (E := E) (L := LRM) (o := o) (M := M) (v := .int (M g 7)) (C := RX0) (T := TX0) (N := 12) hx hb hts hinX0 hown hK.1 hB g hg.1 rfl 7 (by decide) (hts (.fieldLink RX0 67 "RiverMeeting$Game" "mover" "I") (List.mem_of_getElem? (i := 2) rfl)) (fun _ h9 => h9) rfl dX0_buildDam_16 ?_
    refine b_pR (b_runV (As := [.int (M g 7)]) (rest := []) ⟨hx, hb, hml, hown, hts⟩ (c_X0_sideOf l D E o M g (M g 7) hg) (cwV 1 hts gX0_buildDam_X0_sideOf rfl rfl rfl (by decide +kernel) ⟨Nat.le_of_ble_eq_true rfl, Nat.le_of_ble_eq_true rfl⟩) hK (bk_recv hK.1 hB hg.1 rfl) hB rfl hl rfl (Nat.le_of_ble_eq_true rfl) dX0_buildDam_19 ⟨Nat.zero_le _, Nat.zero_le _⟩) hS (fun r3 hr3 locs hS => ?_)
    obtain ⟨k4, hk4⟩ : ∃ y : Nat, y = f_X0_sideOf M g (M g 7) := ⟨_, rfl⟩
    rw [← hk4] at hr3; subst hr3
    have hfk4 : isS k4 := by rw [hk4]; exact (isS_sideOf hg)
    refine lv_dup hx hb dX0_buildDam_22 rfl ?_
    refine b_get (D := D) (E := E) (L := LRM) (o := o) (M := M) (v := .int (M k4 5)) (C := RX2) (T := TX2) (N := 8) hx hb hts hinX2 hown hK.1 hB k4 hfk4.1 rfl 5 (by decide) (hts (.fieldLink RX0 154 "RiverMeeting$Side" "built" "I") (List.mem_of_getElem? (i := 3) rfl)) (fun _ h9 => h9) rfl dX0_buildDam_23 ?_
    refine lv_iconst (v := 1) hx hb dX0_buildDam_26 (by decide) ?_
    refine lv_iadd hx hb dX0_buildDam_27 ?_
    refine b_put (D := D) (E := E) (L := LRM) (o := o) (M := M) (v := ((M k4 5) + 1)) (ty := .int) (C := RX2) (T := TX2) (N := 8) hx hb hts hinX2 tyX2 tyX2_ok nmX2 hown hK.1 hB hS k4 (rA_of hfk4.1) hfk4.1 rfl 5 (by decide) rfl (hts (.fieldLink RX0 154 "RiverMeeting$Side" "built" "I") (List.mem_of_getElem? (i := 3) rfl)) (fun _ h9 => h9) rfl (by decide +kernel) rfl rfl dX0_buildDam_28 (fun M5 hM5 H locs hB _ hS => ?_)
    refine lv_aload_n hx hb dX0_buildDam_31 rfl (lv_at hl 0 rfl) ?_
    refine b_mV (b_runV (As := []) (rest := []) ⟨hx, hb, hml, hown, hts⟩ (c_X0_endTurn l D E o M5 g hg) (cwV 0 hts gX0_buildDam_X0_endTurn rfl rfl rfl (by decide +kernel) ⟨Nat.le_of_ble_eq_true rfl, Nat.le_of_ble_eq_true rfl⟩) hK (bk_recv hK.1 hB hg.1 rfl) hB rfl hl rfl (Nat.le_of_ble_eq_true rfl) dX0_buildDam_32 ⟨Nat.zero_le _, Nat.zero_le _⟩) hS (fun q h => h) (fun M6 hM6 H locs hB _ hS => ?_)
    have e7 := p_X0_buildDam_e7 M g x1 r1 hr1.symm c2 k4 hk4.symm M5 hM5.symm M6 hM6.symm
    exact b_vret hx hb hr hlocks hS ⟨rfl, _, e7.symm, hB⟩ dX0_buildDam_35
  · refine lv_aload_n hx hb dX0_buildDam_7 rfl (lv_at hl 0 rfl) ?_
    refine b_get (D := D) (E := E) (L := LRM) (o := o) (M := M) (v := .ref (o + (g + 9))) (C := RX0) (T := TX0) (N := 12) hx hb hts hinX0 hown hK.1 hB g hg.1 rfl 2 (by decide) (hts (.fieldLink RX0 21 "RiverMeeting$Game" "stood" "[I") (List.mem_of_getElem? (i := 1) rfl)) (fun _ h9 => h9) rfl dX0_buildDam_8 ?_
    refine lv_iload_n hx hb dX0_buildDam_11 rfl (lv_at hl 1 rfl) ?_
    refine lv_iconst (v := 0) hx hb dX0_buildDam_12 (by decide) ?_
    refine b_iast hx hb hK.1 hB hS (g + 9) (rA_of hg.2.2.2) hg.2.2.2 (fits_in (hr1 ▸ c2)) dX0_buildDam_13 (fun M8 hM8 H locs hB _ hS => ?_)
    refine lv_aload_n hx hb dX0_buildDam_14 rfl (lv_at hl 0 rfl) ?_
    refine lv_aload_n hx hb dX0_buildDam_15 rfl (lv_at hl 0 rfl) ?_
    refine b_get (D := D) (E := E) (L := LRM) (o := o) (M := M8) (v := .int (M8 g 7)) (C := RX0) (T := TX0) (N := 12) hx hb hts hinX0 hown hK.1 hB g hg.1 rfl 7 (by decide) (hts (.fieldLink RX0 67 "RiverMeeting$Game" "mover" "I") (List.mem_of_getElem? (i := 2) rfl)) (fun _ h9 => h9) rfl dX0_buildDam_16 ?_
    refine b_pR (b_runV (As := [.int (M8 g 7)]) (rest := []) ⟨hx, hb, hml, hown, hts⟩ (c_X0_sideOf l D E o M8 g (M8 g 7) hg) (cwV 1 hts gX0_buildDam_X0_sideOf rfl rfl rfl (by decide +kernel) ⟨Nat.le_of_ble_eq_true rfl, Nat.le_of_ble_eq_true rfl⟩) hK (bk_recv hK.1 hB hg.1 rfl) hB rfl hl rfl (Nat.le_of_ble_eq_true rfl) dX0_buildDam_19 ⟨Nat.zero_le _, Nat.zero_le _⟩) hS (fun r9 hr9 locs hS => ?_)
    obtain ⟨k10, hk10⟩ : ∃ y : Nat, y = f_X0_sideOf M8 g (M8 g 7) := ⟨_, rfl⟩
    rw [← hk10] at hr9; subst hr9
    have hfk10 : isS k10 := by rw [hk10]; exact (isS_sideOf hg)
    refine lv_dup hx hb dX0_buildDam_22 rfl ?_
    refine b_get (D := D) (E := E) (L := LRM) (o := o) (M := M8) (v := .int (M8 k10 5)) (C := RX2) (T := TX2) (N := 8) hx hb hts hinX2 hown hK.1 hB k10 hfk10.1 rfl 5 (by decide) (hts (.fieldLink RX0 154 "RiverMeeting$Side" "built" "I") (List.mem_of_getElem? (i := 3) rfl)) (fun _ h9 => h9) rfl dX0_buildDam_23 ?_
    refine lv_iconst (v := 1) hx hb dX0_buildDam_26 (by decide) ?_
    refine lv_iadd hx hb dX0_buildDam_27 ?_
    refine b_put (D := D) (E := E) (L := LRM) (o := o) (M := M8) (v := ((M8 k10 5) + 1)) (ty := .int) (C := RX2) (T := TX2) (N := 8) hx hb hts hinX2 tyX2 tyX2_ok nmX2 hown hK.1 hB hS k10 (rA_of hfk10.1) hfk10.1 rfl 5 (by decide) rfl (hts (.fieldLink RX0 154 "RiverMeeting$Side" "built" "I") (List.mem_of_getElem? (i := 3) rfl)) (fun _ h9 => h9) rfl (by decide +kernel) rfl rfl dX0_buildDam_28 (fun M11 hM11 H locs hB _ hS => ?_)
    refine lv_aload_n hx hb dX0_buildDam_31 rfl (lv_at hl 0 rfl) ?_
    refine b_mV (b_runV (As := []) (rest := []) ⟨hx, hb, hml, hown, hts⟩ (c_X0_endTurn l D E o M11 g hg) (cwV 0 hts gX0_buildDam_X0_endTurn rfl rfl rfl (by decide +kernel) ⟨Nat.le_of_ble_eq_true rfl, Nat.le_of_ble_eq_true rfl⟩) hK (bk_recv hK.1 hB hg.1 rfl) hB rfl hl rfl (Nat.le_of_ble_eq_true rfl) dX0_buildDam_32 ⟨Nat.zero_le _, Nat.zero_le _⟩) hS (fun q h => h) (fun M12 hM12 H locs hB _ hS => ?_)
    have e13 := p_X0_buildDam_e13 M g x1 r1 hr1.symm c2 M8 hM8.symm k10 hk10.symm M11 hM11.symm M12 hM12.symm
    exact b_vret hx hb hr hlocks hS ⟨rfl, _, e13.symm, hB⟩ dX0_buildDam_35
def f_X0_tryDam (M : bM) (g : Nat) (x1 : Int32) : Int32 × bM := (let r2 : Int32 := (f_X0_reasonAgainstDam M g x1).1; (let M1 : bM := (f_X0_reasonAgainstDam M g x1).2; (if r2 = 0 then (let M6 : bM := f_X0_buildDam M1 g x1; (r2, M6)) else (let M4 : bM := up2 M1 g 10 ((M1 g 10) + 1); (r2, M4)))))
theorem u_f_X0_tryDam (M : bM) (g : Nat) (x1 : Int32) : f_X0_tryDam M g x1 = (let r2 : Int32 := (f_X0_reasonAgainstDam M g x1).1; (let M1 : bM := (f_X0_reasonAgainstDam M g x1).2; (if r2 = 0 then (let M6 : bM := f_X0_buildDam M1 g x1; (r2, M6)) else (let M4 : bM := up2 M1 g 10 ((M1 g 10) + 1); (r2, M4))))) := rfl
theorem p_X0_tryDam_e5 (M : bM) (g : Nat) (x1 : Int32) (r2 : Int32) (hr2 : (f_X0_reasonAgainstDam M g x1).1 = r2) (M1 : bM) (hM1 : (f_X0_reasonAgainstDam M g x1).2 = M1) (c3 : ¬ r2 = 0) (M4 : bM) (hM4 : up2 M1 g 10 ((M1 g 10) + 1) = M4) : f_X0_tryDam M g x1 = (r2, M4) := by subst hM4 hM1 hr2; exact Eq.trans (u_f_X0_tryDam M g x1) (if_neg c3)
theorem p_X0_tryDam_e7 (M : bM) (g : Nat) (x1 : Int32) (r2 : Int32) (hr2 : (f_X0_reasonAgainstDam M g x1).1 = r2) (M1 : bM) (hM1 : (f_X0_reasonAgainstDam M g x1).2 = M1) (c3 : r2 = 0) (M6 : bM) (hM6 : f_X0_buildDam M1 g x1 = M6) : f_X0_tryDam M g x1 = (r2, M6) := by subst hM6 hM1 hr2; exact Eq.trans (u_f_X0_tryDam M g x1) (if_pos c3)
set_option maxHeartbeats 4000000 in
set_option maxRecDepth 100000 in
theorem c_X0_tryDam (l : Launch) (D : va_G) (E : Nat → ClassId) (o : Nat) (M : bM) (g : Nat) (x1 : Int32) (hg : isG g) : Met l yX0_tryDam wsX0_tryDam (rmF 4) (bPc D E [.ref (o + g), .int x1, .ref (o + 23)] (fun H => bk D E LRM o M H)) (bQ (aI fun r H => ∃ M1 : bM, (r = (f_X0_tryDam M g x1).1 ∧ M1 = (f_X0_tryDam M g x1).2) ∧ bk D E LRM o M1 H) (rA o)) 0 0 (rA o) := by
  refine Met.ofW (cc := cX0_tryDam) (maxL := 4) (ret := (some .int)) (by decide) rfl ?_
  intro p e s m args below meth c s₁ B hml hv
  obtain ⟨rfl, hB, hK⟩ := hv
  have hx := B.exec
  have hb := B.bytes
  have hr := B.returns
  have hts := atoms_spec (ws := wsX0_tryDam) B.pre
  have hown : s.vm.findClass RX0 = some m.cls := findClass_of_methodNamed B.named
  have hlocks := B.notSynchronized
  have hS : bS (rA o) s.heap s.heap [] := bS.rf
  have hl := lv_entry ([.ref (o + g), .int x1, .ref (o + 23)]) (n := 4) (Nat.le_of_ble_eq_true rfl)
  rw [lg_entry_eq]
  generalize (lg_sl ([.ref (o + g), .int x1, .ref (o + 23)]) ++ List.replicate (4 - (lg_sl ([.ref (o + g), .int x1, .ref (o + 23)])).length) Slot.unset).toArray = ls at hl ⊢
  have hl : lv_has ls 4 [(0, .ref (o + g)), (1, .int x1), (2, .ref (o + 23))] := hl
  have hB : bk D E LRM o M s.heap := hB
  have hinX0 : ∀ w ∈ wsX00, w ∈ wsX0_tryDam := by decide +kernel
  refine lv_aload_n hx hb dX0_tryDam_0 rfl (lv_at hl 0 rfl) ?_
  refine lv_iload_n hx hb dX0_tryDam_1 rfl (lv_at hl 1 rfl) ?_
  refine lv_aload_n hx hb dX0_tryDam_2 rfl (lv_at hl 2 rfl) ?_
  refine b_mI (b_runV (As := [.int x1, .ref (o + 23)]) (rest := []) ⟨hx, hb, hml, hown, hts⟩ (c_X0_reasonAgainstDam l D E o M g x1 hg) (cwV 2 hts gX0_tryDam_X0_reasonAgainstDam rfl rfl rfl (by decide +kernel) ⟨Nat.le_of_ble_eq_true rfl, Nat.le_of_ble_eq_true rfl⟩) hK (bk_recv hK.1 hB hg.1 rfl) hB rfl hl rfl (Nat.le_of_ble_eq_true rfl) dX0_tryDam_3 ⟨Nat.zero_le _, Nat.zero_le _⟩) hS (fun q h => h) (fun r2 M1 hM1 H locs hB _ hS => ?_)
  obtain ⟨hr2, hM1⟩ := hM1
  refine lv_istore_n (lv' := [(3, .int r2), (0, .ref (o + g)), (1, .int x1), (2, .ref (o + 23))]) hx hb dX0_tryDam_6 rfl hl (by decide) rfl (fun ls hl => ?_)
  refine lv_iload_n hx hb dX0_tryDam_7 rfl (lv_at hl 0 rfl) ?_
  refine lv_if_ne (tgt := 19) hx hb dX0_tryDam_8 (by decide) (fun c3 => ?_) (fun c3 => ?_)
  · refine lv_aload_n hx hb dX0_tryDam_19 rfl (lv_at hl 1 rfl) ?_
    refine lv_dup hx hb dX0_tryDam_20 rfl ?_
    refine b_get (D := D) (E := E) (L := LRM) (o := o) (M := M1) (v := .int (M1 g 10)) (C := RX0) (T := TX0) (N := 12) hx hb hts hinX0 hown hK.1 hB g hg.1 rfl 10 (by decide) (hts (.fieldLink RX0 35 "RiverMeeting$Game" "refusals" "I") (List.mem_of_getElem? (i := 1) rfl)) (fun _ h9 => h9) rfl dX0_tryDam_21 ?_
    refine lv_iconst (v := 1) hx hb dX0_tryDam_24 (by decide) ?_
    refine lv_iadd hx hb dX0_tryDam_25 ?_
    refine b_put (D := D) (E := E) (L := LRM) (o := o) (M := M1) (v := ((M1 g 10) + 1)) (ty := .int) (C := RX0) (T := TX0) (N := 12) hx hb hts hinX0 tyX0 tyX0_ok nmX0 hown hK.1 hB hS g (rA_of hg.1) hg.1 rfl 10 (by decide) rfl (hts (.fieldLink RX0 35 "RiverMeeting$Game" "refusals" "I") (List.mem_of_getElem? (i := 1) rfl)) (fun _ h9 => h9) rfl (by decide +kernel) rfl rfl dX0_tryDam_26 (fun M4 hM4 H locs hB _ hS => ?_)
    refine lv_iload_n hx hb dX0_tryDam_29 rfl (lv_at hl 0 rfl) ?_
    have e5 := p_X0_tryDam_e5 M g x1 r2 hr2.symm M1 hM1.symm c3 M4 hM4.symm
    exact b_iret hx hb hr hlocks hS ⟨_, rfl, _, ⟨(congrArg Prod.fst e5).symm, (congrArg Prod.snd e5).symm⟩, hB⟩ dX0_tryDam_30
  · refine lv_aload_n hx hb dX0_tryDam_11 rfl (lv_at hl 1 rfl) ?_
    refine lv_iload_n hx hb dX0_tryDam_12 rfl (lv_at hl 2 rfl) ?_
    refine b_mV (b_runV (As := [.int x1]) (rest := []) ⟨hx, hb, hml, hown, hts⟩ (c_X0_buildDam l D E o M1 g x1 hg) (cwV 1 hts gX0_tryDam_X0_buildDam rfl rfl rfl (by decide +kernel) ⟨Nat.le_of_ble_eq_true rfl, Nat.le_of_ble_eq_true rfl⟩) hK (bk_recv hK.1 hB hg.1 rfl) hB rfl hl rfl (Nat.le_of_ble_eq_true rfl) dX0_tryDam_13 ⟨Nat.zero_le _, Nat.zero_le _⟩) hS (fun q h => h) (fun M6 hM6 H locs hB _ hS => ?_)
    refine lv_goto (tgt := 29) hx hb dX0_tryDam_16 (by decide) ?_
    refine lv_iload_n hx hb dX0_tryDam_29 rfl (lv_at hl 0 rfl) ?_
    have e7 := p_X0_tryDam_e7 M g x1 r2 hr2.symm M1 hM1.symm c3 M6 hM6.symm
    exact b_iret hx hb hr hlocks hS ⟨_, rfl, _, ⟨(congrArg Prod.fst e7).symm, (congrArg Prod.snd e7).symm⟩, hB⟩ dX0_tryDam_30
def f_X0_damIfPossible (M : bM) (g : Nat) (x1 : Int32) : Int32 × bM := (let r1 : Int32 := f_X6_fits x1; (if r1 = 0 then (0, M) else (let r4 : Int32 := f_X0_isOver M g; (if r4 = 0 then (let r8 : Int32 := (f_X0_reasonAgainstDam M g x1).1; (let M7 : bM := (f_X0_reasonAgainstDam M g x1).2; (if r8 = 0 then (let M10 : bM := f_X0_buildDam M7 g x1; (1, M10)) else (0, M7)))) else (0, M)))))
theorem u_f_X0_damIfPossible (M : bM) (g : Nat) (x1 : Int32) : f_X0_damIfPossible M g x1 = (let r1 : Int32 := f_X6_fits x1; (if r1 = 0 then (0, M) else (let r4 : Int32 := f_X0_isOver M g; (if r4 = 0 then (let r8 : Int32 := (f_X0_reasonAgainstDam M g x1).1; (let M7 : bM := (f_X0_reasonAgainstDam M g x1).2; (if r8 = 0 then (let M10 : bM := f_X0_buildDam M7 g x1; (1, M10)) else (0, M7)))) else (0, M))))) := rfl
theorem p_X0_damIfPossible_e3 (M : bM) (g : Nat) (x1 : Int32) (r1 : Int32) (hr1 : f_X6_fits x1 = r1) (c2 : r1 = 0) : f_X0_damIfPossible M g x1 = (0, M) := by subst hr1; exact Eq.trans (u_f_X0_damIfPossible M g x1) (if_pos c2)
theorem p_X0_damIfPossible_e6 (M : bM) (g : Nat) (x1 : Int32) (r1 : Int32) (hr1 : f_X6_fits x1 = r1) (c2 : ¬ r1 = 0) (r4 : Int32) (hr4 : f_X0_isOver M g = r4) (c5 : ¬ r4 = 0) : f_X0_damIfPossible M g x1 = (0, M) := by subst hr4 hr1; exact Eq.trans (u_f_X0_damIfPossible M g x1) (Eq.trans (if_neg c2) (if_neg c5))
theorem p_X0_damIfPossible_e11 (M : bM) (g : Nat) (x1 : Int32) (r1 : Int32) (hr1 : f_X6_fits x1 = r1) (c2 : ¬ r1 = 0) (r4 : Int32) (hr4 : f_X0_isOver M g = r4) (c5 : r4 = 0) (r8 : Int32) (hr8 : (f_X0_reasonAgainstDam M g x1).1 = r8) (M7 : bM) (hM7 : (f_X0_reasonAgainstDam M g x1).2 = M7) (c9 : r8 = 0) (M10 : bM) (hM10 : f_X0_buildDam M7 g x1 = M10) : f_X0_damIfPossible M g x1 = (1, M10) := by subst hM10 hM7 hr8 hr4 hr1; exact Eq.trans (u_f_X0_damIfPossible M g x1) (Eq.trans (if_neg c2) (Eq.trans (if_pos c5) (if_pos c9)))
theorem p_X0_damIfPossible_e12 (M : bM) (g : Nat) (x1 : Int32) (r1 : Int32) (hr1 : f_X6_fits x1 = r1) (c2 : ¬ r1 = 0) (r4 : Int32) (hr4 : f_X0_isOver M g = r4) (c5 : r4 = 0) (r8 : Int32) (hr8 : (f_X0_reasonAgainstDam M g x1).1 = r8) (M7 : bM) (hM7 : (f_X0_reasonAgainstDam M g x1).2 = M7) (c9 : ¬ r8 = 0) : f_X0_damIfPossible M g x1 = (0, M7) := by subst hM7 hr8 hr4 hr1; exact Eq.trans (u_f_X0_damIfPossible M g x1) (Eq.trans (if_neg c2) (Eq.trans (if_pos c5) (if_neg c9)))
set_option maxHeartbeats 4000000 in
set_option maxRecDepth 100000 in
theorem c_X0_damIfPossible (l : Launch) (D : va_G) (E : Nat → ClassId) (o : Nat) (M : bM) (g : Nat) (x1 : Int32) (hg : isG g) : Met l yX0_damIfPossible wsX0_damIfPossible (rmF 4) (bPc D E [.ref (o + g), .int x1, .ref (o + 23)] (fun H => bk D E LRM o M H)) (bQ (aI fun r H => ∃ M1 : bM, (r = (f_X0_damIfPossible M g x1).1 ∧ M1 = (f_X0_damIfPossible M g x1).2) ∧ bk D E LRM o M1 H) (rA o)) 0 0 (rA o) := by
  refine Met.ofW (cc := cX0_damIfPossible) (maxL := 3) (ret := (some .boolean)) (by decide) rfl ?_
  intro p e s m args below meth c s₁ B hml hv
  obtain ⟨rfl, hB, hK⟩ := hv
  have hx := B.exec
  have hb := B.bytes
  have hr := B.returns
  have hts := atoms_spec (ws := wsX0_damIfPossible) B.pre
  have hown : s.vm.findClass RX0 = some m.cls := findClass_of_methodNamed B.named
  have hlocks := B.notSynchronized
  have hS : bS (rA o) s.heap s.heap [] := bS.rf
  have hl := lv_entry ([.ref (o + g), .int x1, .ref (o + 23)]) (n := 3) (Nat.le_of_ble_eq_true rfl)
  rw [lg_entry_eq]
  generalize (lg_sl ([.ref (o + g), .int x1, .ref (o + 23)]) ++ List.replicate (3 - (lg_sl ([.ref (o + g), .int x1, .ref (o + 23)])).length) Slot.unset).toArray = ls at hl ⊢
  have hl : lv_has ls 3 [(0, .ref (o + g)), (1, .int x1), (2, .ref (o + 23))] := hl
  have hB : bk D E LRM o M s.heap := hB
  refine lv_iload_n hx hb dX0_damIfPossible_0 rfl (lv_at hl 1 rfl) ?_
  refine b_pI (b_runSN (As := [.int x1]) (rest := []) ⟨hx, hb, hml, hown, hts⟩ (c_X6_fits l D E x1) ⟨va_cnB (host := "RiverMeeting") 1 hts gX0_damIfPossible_X6_fits_n91 rfl rfl rfl (hK.2 7 _ rfl) (hts (.initialized RX6) (List.mem_of_getElem? (i := 2) rfl)) (by decide +kernel) ⟨Nat.le_of_ble_eq_true rfl, Nat.le_of_ble_eq_true rfl⟩, (hts (.static yX6_fits) (List.mem_of_getElem? (i := 1) rfl)), trivial⟩ hK trivial rfl hl rfl (Nat.le_of_ble_eq_true rfl) dX0_damIfPossible_1 ⟨Nat.zero_le _, Nat.zero_le _⟩) hS (fun r1 hr1 locs hS => ?_)
  refine lv_if_eq (tgt := 23) hx hb dX0_damIfPossible_4 (by decide) (fun c2 => ?_) (fun c2 => ?_)
  · refine lv_iconst (v := 0) hx hb dX0_damIfPossible_23 (by decide) ?_
    have e3 := p_X0_damIfPossible_e3 M g x1 r1 hr1.symm c2
    exact b_zret hx hb hr rfl hlocks hS ⟨_, rfl, _, ⟨(congrArg Prod.fst e3).symm, (congrArg Prod.snd e3).symm⟩, hB⟩ dX0_damIfPossible_24
  · refine lv_aload_n hx hb dX0_damIfPossible_7 rfl (lv_at hl 0 rfl) ?_
    refine b_pI (b_runV (As := []) (rest := []) ⟨hx, hb, hml, hown, hts⟩ (c_X0_isOver l D E o M g hg) (cwV 0 hts gX0_damIfPossible_X0_isOver rfl rfl rfl (by decide +kernel) ⟨Nat.le_of_ble_eq_true rfl, Nat.le_of_ble_eq_true rfl⟩) hK (bk_recv hK.1 hB hg.1 rfl) hB rfl hl rfl (Nat.le_of_ble_eq_true rfl) dX0_damIfPossible_8 ⟨Nat.zero_le _, Nat.zero_le _⟩) hS (fun r4 hr4 locs hS => ?_)
    refine lv_if_ne (tgt := 23) hx hb dX0_damIfPossible_11 (by decide) (fun c5 => ?_) (fun c5 => ?_)
    · refine lv_iconst (v := 0) hx hb dX0_damIfPossible_23 (by decide) ?_
      have e6 := p_X0_damIfPossible_e6 M g x1 r1 hr1.symm c2 r4 hr4.symm c5
      exact b_zret hx hb hr rfl hlocks hS ⟨_, rfl, _, ⟨(congrArg Prod.fst e6).symm, (congrArg Prod.snd e6).symm⟩, hB⟩ dX0_damIfPossible_24
    · refine lv_aload_n hx hb dX0_damIfPossible_14 rfl (lv_at hl 0 rfl) ?_
      refine lv_iload_n hx hb dX0_damIfPossible_15 rfl (lv_at hl 1 rfl) ?_
      refine lv_aload_n hx hb dX0_damIfPossible_16 rfl (lv_at hl 2 rfl) ?_
      refine b_mI (b_runV (As := [.int x1, .ref (o + 23)]) (rest := []) ⟨hx, hb, hml, hown, hts⟩ (c_X0_reasonAgainstDam l D E o M g x1 hg) (cwV 2 hts gX0_damIfPossible_X0_reasonAgainstDam rfl rfl rfl (by decide +kernel) ⟨Nat.le_of_ble_eq_true rfl, Nat.le_of_ble_eq_true rfl⟩) hK (bk_recv hK.1 hB hg.1 rfl) hB rfl hl rfl (Nat.le_of_ble_eq_true rfl) dX0_damIfPossible_17 ⟨Nat.zero_le _, Nat.zero_le _⟩) hS (fun q h => h) (fun r8 M7 hM7 H locs hB _ hS => ?_)
      obtain ⟨hr8, hM7⟩ := hM7
      refine lv_if_eq (tgt := 25) hx hb dX0_damIfPossible_20 (by decide) (fun c9 => ?_) (fun c9 => ?_)
      · refine lv_aload_n hx hb dX0_damIfPossible_25 rfl (lv_at hl 0 rfl) ?_
        refine lv_iload_n hx hb dX0_damIfPossible_26 rfl (lv_at hl 1 rfl) ?_
        refine b_mV (b_runV (As := [.int x1]) (rest := []) ⟨hx, hb, hml, hown, hts⟩ (c_X0_buildDam l D E o M7 g x1 hg) (cwV 1 hts gX0_damIfPossible_X0_buildDam rfl rfl rfl (by decide +kernel) ⟨Nat.le_of_ble_eq_true rfl, Nat.le_of_ble_eq_true rfl⟩) hK (bk_recv hK.1 hB hg.1 rfl) hB rfl hl rfl (Nat.le_of_ble_eq_true rfl) dX0_damIfPossible_27 ⟨Nat.zero_le _, Nat.zero_le _⟩) hS (fun q h => h) (fun M10 hM10 H locs hB _ hS => ?_)
        refine lv_iconst (v := 1) hx hb dX0_damIfPossible_30 (by decide) ?_
        have e11 := p_X0_damIfPossible_e11 M g x1 r1 hr1.symm c2 r4 hr4.symm c5 r8 hr8.symm M7 hM7.symm c9 M10 hM10.symm
        exact b_zret hx hb hr rfl hlocks hS ⟨_, rfl, _, ⟨(congrArg Prod.fst e11).symm, (congrArg Prod.snd e11).symm⟩, hB⟩ dX0_damIfPossible_31
      · refine lv_iconst (v := 0) hx hb dX0_damIfPossible_23 (by decide) ?_
        have e12 := p_X0_damIfPossible_e12 M g x1 r1 hr1.symm c2 r4 hr4.symm c5 r8 hr8.symm M7 hM7.symm c9
        exact b_zret hx hb hr rfl hlocks hS ⟨_, rfl, _, ⟨(congrArg Prod.fst e12).symm, (congrArg Prod.snd e12).symm⟩, hB⟩ dX0_damIfPossible_24
def f_X0_canFlood (M : bM) (g : Nat) : Int32 := (let r1 : Int32 := f_X0_isOver M g; (if r1 = 0 then (let r4 : Int32 := f_X0_reasonAgainstStep M g 0; (if r4 = 0 then 0 else (let r7 : Int32 := f_X0_reasonAgainstStep M g 1; (if r7 = 0 then 0 else (let r10 : Int32 := f_X0_reasonAgainstStep M g 2; (if r10 = 0 then 0 else 1)))))) else 0))
theorem u_f_X0_canFlood (M : bM) (g : Nat) : f_X0_canFlood M g = (let r1 : Int32 := f_X0_isOver M g; (if r1 = 0 then (let r4 : Int32 := f_X0_reasonAgainstStep M g 0; (if r4 = 0 then 0 else (let r7 : Int32 := f_X0_reasonAgainstStep M g 1; (if r7 = 0 then 0 else (let r10 : Int32 := f_X0_reasonAgainstStep M g 2; (if r10 = 0 then 0 else 1)))))) else 0)) := rfl
theorem p_X0_canFlood_e13 (M : bM) (g : Nat) (r1 : Int32) (hr1 : f_X0_isOver M g = r1) (c2 : r1 = 0) (r4 : Int32) (hr4 : f_X0_reasonAgainstStep M g 0 = r4) (c5 : ¬ r4 = 0) (r7 : Int32) (hr7 : f_X0_reasonAgainstStep M g 1 = r7) (c8 : ¬ r7 = 0) (r10 : Int32) (hr10 : f_X0_reasonAgainstStep M g 2 = r10) (c11 : ¬ r10 = 0) : f_X0_canFlood M g = 1 := by subst hr10 hr7 hr4 hr1; exact Eq.trans (u_f_X0_canFlood M g) (Eq.trans (if_pos c2) (Eq.trans (if_neg c5) (Eq.trans (if_neg c8) (if_neg c11))))
theorem p_X0_canFlood_e14 (M : bM) (g : Nat) (r1 : Int32) (hr1 : f_X0_isOver M g = r1) (c2 : r1 = 0) (r4 : Int32) (hr4 : f_X0_reasonAgainstStep M g 0 = r4) (c5 : ¬ r4 = 0) (r7 : Int32) (hr7 : f_X0_reasonAgainstStep M g 1 = r7) (c8 : ¬ r7 = 0) (r10 : Int32) (hr10 : f_X0_reasonAgainstStep M g 2 = r10) (c11 : r10 = 0) : f_X0_canFlood M g = 0 := by subst hr10 hr7 hr4 hr1; exact Eq.trans (u_f_X0_canFlood M g) (Eq.trans (if_pos c2) (Eq.trans (if_neg c5) (Eq.trans (if_neg c8) (if_pos c11))))
theorem p_X0_canFlood_e15 (M : bM) (g : Nat) (r1 : Int32) (hr1 : f_X0_isOver M g = r1) (c2 : r1 = 0) (r4 : Int32) (hr4 : f_X0_reasonAgainstStep M g 0 = r4) (c5 : ¬ r4 = 0) (r7 : Int32) (hr7 : f_X0_reasonAgainstStep M g 1 = r7) (c8 : r7 = 0) : f_X0_canFlood M g = 0 := by subst hr7 hr4 hr1; exact Eq.trans (u_f_X0_canFlood M g) (Eq.trans (if_pos c2) (Eq.trans (if_neg c5) (if_pos c8)))
theorem p_X0_canFlood_e16 (M : bM) (g : Nat) (r1 : Int32) (hr1 : f_X0_isOver M g = r1) (c2 : r1 = 0) (r4 : Int32) (hr4 : f_X0_reasonAgainstStep M g 0 = r4) (c5 : r4 = 0) : f_X0_canFlood M g = 0 := by subst hr4 hr1; exact Eq.trans (u_f_X0_canFlood M g) (Eq.trans (if_pos c2) (if_pos c5))
theorem p_X0_canFlood_e17 (M : bM) (g : Nat) (r1 : Int32) (hr1 : f_X0_isOver M g = r1) (c2 : ¬ r1 = 0) : f_X0_canFlood M g = 0 := by subst hr1; exact Eq.trans (u_f_X0_canFlood M g) (if_neg c2)
set_option maxHeartbeats 4000000 in
set_option maxRecDepth 100000 in
theorem c_X0_canFlood (l : Launch) (D : va_G) (E : Nat → ClassId) (o : Nat) (M : bM) (g : Nat) (hg : isG g) : Met l yX0_canFlood wsX0_canFlood (rmF 3) (bPc D E [.ref (o + g)] (fun H => bk D E LRM o M H)) (bQ (aI fun r _ => r = f_X0_canFlood M g) bNo) 0 0 bNo := by
  refine Met.ofW (cc := cX0_canFlood) (maxL := 2) (ret := (some .boolean)) (by decide) rfl ?_
  intro p e s m args below meth c s₁ B hml hv
  obtain ⟨rfl, hB, hK⟩ := hv
  have hx := B.exec
  have hb := B.bytes
  have hr := B.returns
  have hts := atoms_spec (ws := wsX0_canFlood) B.pre
  have hown : s.vm.findClass RX0 = some m.cls := findClass_of_methodNamed B.named
  have hlocks := B.notSynchronized
  have hS : bS bNo s.heap s.heap [] := bS.rf
  have hl := lv_entry ([.ref (o + g)]) (n := 2) (Nat.le_of_ble_eq_true rfl)
  rw [lg_entry_eq]
  generalize (lg_sl ([.ref (o + g)]) ++ List.replicate (2 - (lg_sl ([.ref (o + g)])).length) Slot.unset).toArray = ls at hl ⊢
  have hl : lv_has ls 2 [(0, .ref (o + g))] := hl
  have hB : bk D E LRM o M s.heap := hB
  refine lv_aload_n hx hb dX0_canFlood_0 rfl (lv_at hl 0 rfl) ?_
  refine b_pI (b_runV (As := []) (rest := []) ⟨hx, hb, hml, hown, hts⟩ (c_X0_isOver l D E o M g hg) (cwV 0 hts gX0_canFlood_X0_isOver rfl rfl rfl (by decide +kernel) ⟨Nat.le_of_ble_eq_true rfl, Nat.le_of_ble_eq_true rfl⟩) hK (bk_recv hK.1 hB hg.1 rfl) hB rfl hl rfl (Nat.le_of_ble_eq_true rfl) dX0_canFlood_1 ⟨Nat.zero_le _, Nat.zero_le _⟩) hS (fun r1 hr1 locs hS => ?_)
  refine lv_if_eq (tgt := 9) hx hb dX0_canFlood_4 (by decide) (fun c2 => ?_) (fun c2 => ?_)
  · refine lv_iconst (v := 0) hx hb dX0_canFlood_9 (by decide) ?_
    refine lv_istore_n (lv' := [(1, .int 0), (0, .ref (o + g))]) hx hb dX0_canFlood_10 rfl hl (by decide) rfl (fun ls hl => ?_)
    refine lv_iload_n hx hb dX0_canFlood_11 rfl (lv_at hl 0 rfl) ?_
    refine lv_iconst (v := 3) hx hb dX0_canFlood_12 (by decide) ?_
    refine lv_icmp_ge (tgt := 32) hx hb dX0_canFlood_13 (by decide) (fun c3 => absurd c3 (by decide)) (fun c3 => ?_)
    refine lv_aload_n hx hb dX0_canFlood_16 rfl (lv_at hl 1 rfl) ?_
    refine lv_iload_n hx hb dX0_canFlood_17 rfl (lv_at hl 0 rfl) ?_
    refine b_pI (b_runV (As := [.int 0]) (rest := []) ⟨hx, hb, hml, hown, hts⟩ (c_X0_reasonAgainstStep l D E o M g 0 hg) (cwV 1 hts gX0_canFlood_X0_reasonAgainstStep rfl rfl rfl (by decide +kernel) ⟨Nat.le_of_ble_eq_true rfl, Nat.le_of_ble_eq_true rfl⟩) hK (bk_recv hK.1 hB hg.1 rfl) hB rfl hl rfl (Nat.le_of_ble_eq_true rfl) dX0_canFlood_18 ⟨Nat.zero_le _, Nat.zero_le _⟩) hS (fun r4 hr4 locs hS => ?_)
    refine lv_if_ne (tgt := 26) hx hb dX0_canFlood_21 (by decide) (fun c5 => ?_) (fun c5 => ?_)
    · refine lv_iinc (v := 1) (lv' := [(1, .int 1), (0, .ref (o + g))]) hx hb dX0_canFlood_26 hl (k := 0) rfl (by decide) (by decide) rfl (fun ls hl => ?_)
      refine lv_goto (tgt := 11) hx hb dX0_canFlood_29 (by decide) ?_
      refine lv_iload_n hx hb dX0_canFlood_11 rfl (lv_at hl 0 rfl) ?_
      refine lv_iconst (v := 3) hx hb dX0_canFlood_12 (by decide) ?_
      refine lv_icmp_ge (tgt := 32) hx hb dX0_canFlood_13 (by decide) (fun c6 => absurd c6 (by decide)) (fun c6 => ?_)
      refine lv_aload_n hx hb dX0_canFlood_16 rfl (lv_at hl 1 rfl) ?_
      refine lv_iload_n hx hb dX0_canFlood_17 rfl (lv_at hl 0 rfl) ?_
      refine b_pI (b_runV (As := [.int 1]) (rest := []) ⟨hx, hb, hml, hown, hts⟩ (c_X0_reasonAgainstStep l D E o M g 1 hg) (cwV 1 hts gX0_canFlood_X0_reasonAgainstStep rfl rfl rfl (by decide +kernel) ⟨Nat.le_of_ble_eq_true rfl, Nat.le_of_ble_eq_true rfl⟩) hK (bk_recv hK.1 hB hg.1 rfl) hB rfl hl rfl (Nat.le_of_ble_eq_true rfl) dX0_canFlood_18 ⟨Nat.zero_le _, Nat.zero_le _⟩) hS (fun r7 hr7 locs hS => ?_)
      refine lv_if_ne (tgt := 26) hx hb dX0_canFlood_21 (by decide) (fun c8 => ?_) (fun c8 => ?_)
      · refine lv_iinc (v := 2) (lv' := [(1, .int 2), (0, .ref (o + g))]) hx hb dX0_canFlood_26 hl (k := 0) rfl (by decide) (by decide) rfl (fun ls hl => ?_)
        refine lv_goto (tgt := 11) hx hb dX0_canFlood_29 (by decide) ?_
        refine lv_iload_n hx hb dX0_canFlood_11 rfl (lv_at hl 0 rfl) ?_
        refine lv_iconst (v := 3) hx hb dX0_canFlood_12 (by decide) ?_
        refine lv_icmp_ge (tgt := 32) hx hb dX0_canFlood_13 (by decide) (fun c9 => absurd c9 (by decide)) (fun c9 => ?_)
        refine lv_aload_n hx hb dX0_canFlood_16 rfl (lv_at hl 1 rfl) ?_
        refine lv_iload_n hx hb dX0_canFlood_17 rfl (lv_at hl 0 rfl) ?_
        refine b_pI (b_runV (As := [.int 2]) (rest := []) ⟨hx, hb, hml, hown, hts⟩ (c_X0_reasonAgainstStep l D E o M g 2 hg) (cwV 1 hts gX0_canFlood_X0_reasonAgainstStep rfl rfl rfl (by decide +kernel) ⟨Nat.le_of_ble_eq_true rfl, Nat.le_of_ble_eq_true rfl⟩) hK (bk_recv hK.1 hB hg.1 rfl) hB rfl hl rfl (Nat.le_of_ble_eq_true rfl) dX0_canFlood_18 ⟨Nat.zero_le _, Nat.zero_le _⟩) hS (fun r10 hr10 locs hS => ?_)
        refine lv_if_ne (tgt := 26) hx hb dX0_canFlood_21 (by decide) (fun c11 => ?_) (fun c11 => ?_)
        · refine lv_iinc (v := 3) (lv' := [(1, .int 3), (0, .ref (o + g))]) hx hb dX0_canFlood_26 hl (k := 0) rfl (by decide) (by decide) rfl (fun ls hl => ?_)
          refine lv_goto (tgt := 11) hx hb dX0_canFlood_29 (by decide) ?_
          refine lv_iload_n hx hb dX0_canFlood_11 rfl (lv_at hl 0 rfl) ?_
          refine lv_iconst (v := 3) hx hb dX0_canFlood_12 (by decide) ?_
          refine lv_icmp_ge (tgt := 32) hx hb dX0_canFlood_13 (by decide) (fun c12 => ?_) (fun c12 => absurd (by decide) c12)
          refine lv_iconst (v := 1) hx hb dX0_canFlood_32 (by decide) ?_
          have e13 := p_X0_canFlood_e13 M g r1 hr1.symm c2 r4 hr4.symm c5 r7 hr7.symm c8 r10 hr10.symm c11
          exact b_zret hx hb hr rfl hlocks hS ⟨_, rfl, e13.symm⟩ dX0_canFlood_33
        · refine lv_iconst (v := 0) hx hb dX0_canFlood_24 (by decide) ?_
          have e14 := p_X0_canFlood_e14 M g r1 hr1.symm c2 r4 hr4.symm c5 r7 hr7.symm c8 r10 hr10.symm c11
          exact b_zret hx hb hr rfl hlocks hS ⟨_, rfl, e14.symm⟩ dX0_canFlood_25
      · refine lv_iconst (v := 0) hx hb dX0_canFlood_24 (by decide) ?_
        have e15 := p_X0_canFlood_e15 M g r1 hr1.symm c2 r4 hr4.symm c5 r7 hr7.symm c8
        exact b_zret hx hb hr rfl hlocks hS ⟨_, rfl, e15.symm⟩ dX0_canFlood_25
    · refine lv_iconst (v := 0) hx hb dX0_canFlood_24 (by decide) ?_
      have e16 := p_X0_canFlood_e16 M g r1 hr1.symm c2 r4 hr4.symm c5
      exact b_zret hx hb hr rfl hlocks hS ⟨_, rfl, e16.symm⟩ dX0_canFlood_25
  · refine lv_iconst (v := 0) hx hb dX0_canFlood_7 (by decide) ?_
    have e17 := p_X0_canFlood_e17 M g r1 hr1.symm c2
    exact b_zret hx hb hr rfl hlocks hS ⟨_, rfl, e17.symm⟩ dX0_canFlood_8
def lp_X0_washAway_13 (g : Nat) (k2 : Nat) : Nat → Nat → Int32 → bM → (Int32 × bM)
  | 0, i3, x4, M5 => (x4, M5)
  | n3 + 1, i3, x4, M5 => (let r9 : Int32 := f_X2_head M5 k2; (let r10 : Int32 := f_X6_cellBeside r9 (nI i3); (let r11 : Int32 := f_X6_fits r10; (if r11 = 0 then lp_X0_washAway_13 g k2 n3 (i3 + 1) x4 M5 else (if (M5 (g + 9) r10.toNatClampNeg) = (-1) then lp_X0_washAway_13 g k2 n3 (i3 + 1) x4 M5 else (let M16 : bM := up2 M5 (g + 9) r10.toNatClampNeg (-1); (let x17 : Int32 := x4 + 1; lp_X0_washAway_13 g k2 n3 (i3 + 1) x17 M16)))))))
theorem u0_lp_X0_washAway_13 (g : Nat) (k2 : Nat) (i3 : Nat) (x4 : Int32) (M5 : bM) : lp_X0_washAway_13 g k2 0 i3 x4 M5 = (x4, M5) := rfl
theorem u1_lp_X0_washAway_13 (g : Nat) (k2 : Nat) (n3 i3 : Nat) (x4 : Int32) (M5 : bM) : lp_X0_washAway_13 g k2 (n3 + 1) i3 x4 M5 = (let r9 : Int32 := f_X2_head M5 k2; (let r10 : Int32 := f_X6_cellBeside r9 (nI i3); (let r11 : Int32 := f_X6_fits r10; (if r11 = 0 then lp_X0_washAway_13 g k2 n3 (i3 + 1) x4 M5 else (if (M5 (g + 9) r10.toNatClampNeg) = (-1) then lp_X0_washAway_13 g k2 n3 (i3 + 1) x4 M5 else (let M16 : bM := up2 M5 (g + 9) r10.toNatClampNeg (-1); (let x17 : Int32 := x4 + 1; lp_X0_washAway_13 g k2 n3 (i3 + 1) x17 M16))))))) := rfl
def f_X0_washAway (M : bM) (g : Nat) : Int32 × bM := (let k2 : Nat := f_X0_sideOf M g (M g 7); (let x19 : Int32 := (lp_X0_washAway_13 g k2 3 0 0 M).1; (let M20 : bM := (lp_X0_washAway_13 g k2 3 0 0 M).2; (let M21 : bM := f_X2_pay M20 k2 5; (let M22 : bM := up2 M21 g 11 ((M21 g 11) + 1); (let M23 : bM := f_X0_endTurn M22 g; (x19, M23)))))))
theorem u_f_X0_washAway (M : bM) (g : Nat) : f_X0_washAway M g = (let k2 : Nat := f_X0_sideOf M g (M g 7); (let x19 : Int32 := (lp_X0_washAway_13 g k2 3 0 0 M).1; (let M20 : bM := (lp_X0_washAway_13 g k2 3 0 0 M).2; (let M21 : bM := f_X2_pay M20 k2 5; (let M22 : bM := up2 M21 g 11 ((M21 g 11) + 1); (let M23 : bM := f_X0_endTurn M22 g; (x19, M23))))))) := rfl
theorem p_X0_washAway_e7 (M : bM) (g : Nat) (k2 : Nat) (x4 : Int32) (M5 : bM) (i3 : Nat)  : lp_X0_washAway_13 g k2 0 i3 x4 M5 = (x4, M5) := by exact u0_lp_X0_washAway_13 g k2 i3 x4 M5
theorem p_X0_washAway_e13 (M : bM) (g : Nat) (k2 : Nat) (x4 : Int32) (M5 : bM) (i3 : Nat) (n3 : Nat) (r9 : Int32) (hr9 : f_X2_head M5 k2 = r9) (r10 : Int32) (hr10 : f_X6_cellBeside r9 (nI i3) = r10) (r11 : Int32) (hr11 : f_X6_fits r10 = r11) (c12 : r11 = 0) : lp_X0_washAway_13 g k2 (n3 + 1) i3 x4 M5 = lp_X0_washAway_13 g k2 n3 (i3 + 1) x4 M5 := by subst hr11 hr10 hr9; exact Eq.trans (u1_lp_X0_washAway_13 g k2 n3 i3 x4 M5) (if_pos c12)
theorem p_X0_washAway_e15 (M : bM) (g : Nat) (k2 : Nat) (x4 : Int32) (M5 : bM) (i3 : Nat) (n3 : Nat) (r9 : Int32) (hr9 : f_X2_head M5 k2 = r9) (r10 : Int32) (hr10 : f_X6_cellBeside r9 (nI i3) = r10) (r11 : Int32) (hr11 : f_X6_fits r10 = r11) (c12 : ¬ r11 = 0) (c14 : (M5 (g + 9) r10.toNatClampNeg) = (-1)) : lp_X0_washAway_13 g k2 (n3 + 1) i3 x4 M5 = lp_X0_washAway_13 g k2 n3 (i3 + 1) x4 M5 := by subst hr11 hr10 hr9; exact Eq.trans (u1_lp_X0_washAway_13 g k2 n3 i3 x4 M5) (Eq.trans (if_neg c12) (if_pos c14))
theorem p_X0_washAway_e18 (M : bM) (g : Nat) (k2 : Nat) (x4 : Int32) (M5 : bM) (i3 : Nat) (n3 : Nat) (r9 : Int32) (hr9 : f_X2_head M5 k2 = r9) (r10 : Int32) (hr10 : f_X6_cellBeside r9 (nI i3) = r10) (r11 : Int32) (hr11 : f_X6_fits r10 = r11) (c12 : ¬ r11 = 0) (c14 : ¬ (M5 (g + 9) r10.toNatClampNeg) = (-1)) (M16 : bM) (hM16 : up2 M5 (g + 9) r10.toNatClampNeg (-1) = M16) (x17 : Int32) (hx17 : x4 + 1 = x17) : lp_X0_washAway_13 g k2 (n3 + 1) i3 x4 M5 = lp_X0_washAway_13 g k2 n3 (i3 + 1) x17 M16 := by subst hx17 hM16 hr11 hr10 hr9; exact Eq.trans (u1_lp_X0_washAway_13 g k2 n3 i3 x4 M5) (Eq.trans (if_neg c12) (if_neg c14))
theorem p_X0_washAway_e24 (M : bM) (g : Nat) (k2 : Nat) (hk2 : f_X0_sideOf M g (M g 7) = k2) (x19 : Int32) (hx19 : (lp_X0_washAway_13 g k2 3 0 0 M).1 = x19) (M20 : bM) (hM20 : (lp_X0_washAway_13 g k2 3 0 0 M).2 = M20) (M21 : bM) (hM21 : f_X2_pay M20 k2 5 = M21) (M22 : bM) (hM22 : up2 M21 g 11 ((M21 g 11) + 1) = M22) (M23 : bM) (hM23 : f_X0_endTurn M22 g = M23) : f_X0_washAway M g = (x19, M23) := by subst hM23 hM22 hM21 hM20 hx19 hk2; exact u_f_X0_washAway M g
set_option maxHeartbeats 4000000 in
set_option maxRecDepth 100000 in
theorem c_X0_washAway (l : Launch) (D : va_G) (E : Nat → ClassId) (o : Nat) (M : bM) (g : Nat) (hg : isG g) : Met l yX0_washAway wsX0_washAway (rmF 2) (bPc D E [.ref (o + g)] (fun H => bk D E LRM o M H)) (bQ (aI fun r H => ∃ M1 : bM, (r = (f_X0_washAway M g).1 ∧ M1 = (f_X0_washAway M g).2) ∧ bk D E LRM o M1 H) (rA o)) 0 0 (rA o) := by
  refine Met.ofW (cc := cX0_washAway) (maxL := 5) (ret := (some .int)) (by decide) rfl ?_
  intro p e s m args below meth c s₁ B hml hv
  obtain ⟨rfl, hB, hK⟩ := hv
  have hx := B.exec
  have hb := B.bytes
  have hr := B.returns
  have hts := atoms_spec (ws := wsX0_washAway) B.pre
  have hown : s.vm.findClass RX0 = some m.cls := findClass_of_methodNamed B.named
  have hlocks := B.notSynchronized
  have hS : bS (rA o) s.heap s.heap [] := bS.rf
  have hl := lv_entry ([.ref (o + g)]) (n := 5) (Nat.le_of_ble_eq_true rfl)
  rw [lg_entry_eq]
  generalize (lg_sl ([.ref (o + g)]) ++ List.replicate (5 - (lg_sl ([.ref (o + g)])).length) Slot.unset).toArray = ls at hl ⊢
  have hl : lv_has ls 5 [(0, .ref (o + g))] := hl
  have hB : bk D E LRM o M s.heap := hB
  have hinX0 : ∀ w ∈ wsX00, w ∈ wsX0_washAway := by decide +kernel
  refine lv_aload_n hx hb dX0_washAway_0 rfl (lv_at hl 0 rfl) ?_
  refine lv_aload_n hx hb dX0_washAway_1 rfl (lv_at hl 0 rfl) ?_
  refine b_get (D := D) (E := E) (L := LRM) (o := o) (M := M) (v := .int (M g 7)) (C := RX0) (T := TX0) (N := 12) hx hb hts hinX0 hown hK.1 hB g hg.1 rfl 7 (by decide) (hts (.fieldLink RX0 67 "RiverMeeting$Game" "mover" "I") (List.mem_of_getElem? (i := 1) rfl)) (fun _ h9 => h9) rfl dX0_washAway_2 ?_
  refine b_pR (b_runV (As := [.int (M g 7)]) (rest := []) ⟨hx, hb, hml, hown, hts⟩ (c_X0_sideOf l D E o M g (M g 7) hg) (cwV 1 hts gX0_washAway_X0_sideOf rfl rfl rfl (by decide +kernel) ⟨Nat.le_of_ble_eq_true rfl, Nat.le_of_ble_eq_true rfl⟩) hK (bk_recv hK.1 hB hg.1 rfl) hB rfl hl rfl (Nat.le_of_ble_eq_true rfl) dX0_washAway_5 ⟨Nat.zero_le _, Nat.zero_le _⟩) hS (fun r1 hr1 locs hS => ?_)
  obtain ⟨k2, hk2⟩ : ∃ y : Nat, y = f_X0_sideOf M g (M g 7) := ⟨_, rfl⟩
  rw [← hk2] at hr1; subst hr1
  have hfk2 : isS k2 := by rw [hk2]; exact (isS_sideOf hg)
  refine lv_astore_n (lv' := [(1, .ref (o + k2)), (0, .ref (o + g))]) hx hb dX0_washAway_8 rfl hl (by decide) rfl (fun ls hl => ?_)
  refine lv_iconst (v := 0) hx hb dX0_washAway_9 (by decide) ?_
  refine lv_istore_n (lv' := [(2, .int 0), (1, .ref (o + k2)), (0, .ref (o + g))]) hx hb dX0_washAway_10 rfl hl (by decide) rfl (fun ls hl => ?_)
  refine lv_iconst (v := 0) hx hb dX0_washAway_11 (by decide) ?_
  refine lv_istore_n (lv' := [(3, .int 0), (2, .int 0), (1, .ref (o + k2)), (0, .ref (o + g))]) hx hb dX0_washAway_12 rfl hl (by decide) rfl (fun ls hl => ?_)
  have lp3 : ∀ (n3 i3 : Nat) (x4 : Int32) (M5 : bM), i3 + n3 = 3 → ∀ (H : Heap) (locs : List Loc), bk D E LRM o M5 H → bS (rA o) s.heap H locs → ∀ ls : Array Slot, lv_has ls 5 [(3, .int (nI i3)), (2, .int x4), (1, .ref (o + k2)), (0, .ref (o + g))] → (∀ (H : Heap) (locs : List Loc), bk D E LRM o ((lp_X0_washAway_13 g k2 n3 i3 x4 M5).2) H → bS (rA o) s.heap H locs → ∀ ls : Array Slot, lv_has ls 5 [(2, .int ((lp_X0_washAway_13 g k2 n3 i3 x4 M5).1)), (1, .ref (o + k2)), (0, .ref (o + g))] → W p l e (headSpec wsX0_washAway (rmF 2)).room s m ([.ref (o + g)] : List Value).toArray below meth c H locs 0 0 (MQ below (bQ (aI fun r H => ∃ M1 : bM, (r = (f_X0_washAway M g).1 ∧ M1 = (f_X0_washAway M g).2) ∧ bk D E LRM o M1 H) (rA o)) ([.ref (o + g)] : List Value).toArray s 0 0 (rA o)) (F0 m 64 ls [])) → W p l e (headSpec wsX0_washAway (rmF 2)).room s m ([.ref (o + g)] : List Value).toArray below meth c H locs 0 0 (MQ below (bQ (aI fun r H => ∃ M1 : bM, (r = (f_X0_washAway M g).1 ∧ M1 = (f_X0_washAway M g).2) ∧ bk D E LRM o M1 H) (rA o)) ([.ref (o + g)] : List Value).toArray s 0 0 (rA o)) (F0 m 13 ls []) := by
    intro n3
    induction n3 with
    | zero =>
      intro i3 x4 M5 hi3 H locs hB hS ls hl hexit3
      have hz3 : i3 = 3 := by omega
      refine lv_iload_n hx hb dX0_washAway_13 rfl (lv_at hl 0 rfl) ?_
      refine lv_iconst (v := 3) hx hb dX0_washAway_14 (by decide) ?_
      refine lv_icmp_ge (tgt := 64) hx hb dX0_washAway_15 (by decide) (fun c6 => ?_) (fun c6 => absurd (by rw [hz3]; exact Int32.le_refl _) c6)
      have e7 := p_X0_washAway_e7 M g k2 x4 M5 i3 
      rw [e7] at hexit3
      exact hexit3 _ _  hB hS ls (lv_sub hl [1, 2, 3] rfl)
    | succ n3 ih3 =>
      intro i3 x4 M5 hi3 H locs hB hS ls hl hexit3
      refine lv_iload_n hx hb dX0_washAway_13 rfl (lv_at hl 0 rfl) ?_
      refine lv_iconst (v := 3) hx hb dX0_washAway_14 (by decide) ?_
      refine lv_icmp_ge (tgt := 64) hx hb dX0_washAway_15 (by decide) (fun c8 => absurd c8 (nI_ge (a := i3) (b := 3) (by omega) (by decide))) (fun c8 => ?_)
      refine lv_aload_n hx hb dX0_washAway_18 rfl (lv_at hl 2 rfl) ?_
      refine b_pI (b_runV (As := []) (rest := []) ⟨hx, hb, hml, hown, hts⟩ (c_X2_head l D E o M5 k2 hfk2) (cwV 0 hts gX0_washAway_X2_head rfl rfl rfl (by decide +kernel) ⟨Nat.le_of_ble_eq_true rfl, Nat.le_of_ble_eq_true rfl⟩) hK (bk_recv hK.1 hB hfk2.1 rfl) hB rfl hl rfl (Nat.le_of_ble_eq_true rfl) dX0_washAway_19 ⟨Nat.zero_le _, Nat.zero_le _⟩) hS (fun r9 hr9 locs hS => ?_)
      refine lv_iload_n hx hb dX0_washAway_22 rfl (lv_at hl 0 rfl) ?_
      refine b_pI (b_runSN (As := [.int r9, .int (nI i3)]) (rest := []) ⟨hx, hb, hml, hown, hts⟩ (c_X6_cellBeside l D E r9 (nI i3)) ⟨va_cnB (host := "RiverMeeting") 2 hts gX0_washAway_X6_cellBeside_n120 rfl rfl rfl (hK.2 11 _ rfl) (hts (.initialized RX6) (List.mem_of_getElem? (i := 19) rfl)) (by decide +kernel) ⟨Nat.le_of_ble_eq_true rfl, Nat.le_of_ble_eq_true rfl⟩, (hts (.static yX6_cellBeside) (List.mem_of_getElem? (i := 18) rfl)), trivial⟩ hK trivial rfl hl rfl (Nat.le_of_ble_eq_true rfl) dX0_washAway_23 ⟨Nat.zero_le _, Nat.zero_le _⟩) hS (fun r10 hr10 locs hS => ?_)
      refine lv_istore (lv' := [(4, .int r10), (3, .int (nI i3)), (2, .int x4), (1, .ref (o + k2)), (0, .ref (o + g))]) hx hb dX0_washAway_26 hl (by decide) rfl (fun ls hl => ?_)
      refine lv_iload hx hb dX0_washAway_28 (lv_at hl 0 rfl) ?_
      refine b_pI (b_runSN (As := [.int r10]) (rest := []) ⟨hx, hb, hml, hown, hts⟩ (c_X6_fits l D E r10) ⟨va_cnB (host := "RiverMeeting") 1 hts gX0_washAway_X6_fits_n91 rfl rfl rfl (hK.2 7 _ rfl) (hts (.initialized RX6) (List.mem_of_getElem? (i := 19) rfl)) (by decide +kernel) ⟨Nat.le_of_ble_eq_true rfl, Nat.le_of_ble_eq_true rfl⟩, (hts (.static yX6_fits) (List.mem_of_getElem? (i := 22) rfl)), trivial⟩ hK trivial rfl hl rfl (Nat.le_of_ble_eq_true rfl) dX0_washAway_30 ⟨Nat.zero_le _, Nat.zero_le _⟩) hS (fun r11 hr11 locs hS => ?_)
      refine lv_if_eq (tgt := 58) hx hb dX0_washAway_33 (by decide) (fun c12 => ?_) (fun c12 => ?_)
      · refine lv_iinc (v := nI (i3 + 1)) (lv' := [(3, .int (nI (i3 + 1))), (4, .int r10), (2, .int x4), (1, .ref (o + k2)), (0, .ref (o + g))]) hx hb dX0_washAway_58 hl (k := 1) rfl (nI_1 i3) (by decide) rfl (fun ls hl => ?_)
        refine lv_goto (tgt := 13) hx hb dX0_washAway_61 (by decide) ?_
        have e13 := p_X0_washAway_e13 M g k2 x4 M5 i3 n3 r9 hr9.symm r10 hr10.symm r11 hr11.symm c12
        rw [e13] at hexit3
        exact ih3 (i3 + 1) x4 M5 (by omega) _ _ hB hS ls (lv_sub hl [0, 2, 3, 4] rfl) hexit3
      · refine lv_aload_n hx hb dX0_washAway_36 rfl (lv_at hl 4 rfl) ?_
        refine b_get (D := D) (E := E) (L := LRM) (o := o) (M := M5) (v := .ref (o + (g + 9))) (C := RX0) (T := TX0) (N := 12) hx hb hts hinX0 hown hK.1 hB g hg.1 rfl 2 (by decide) (hts (.fieldLink RX0 21 "RiverMeeting$Game" "stood" "[I") (List.mem_of_getElem? (i := 2) rfl)) (fun _ h9 => h9) rfl dX0_washAway_37 ?_
        refine lv_iload hx hb dX0_washAway_40 (lv_at hl 0 rfl) ?_
        refine b_iald hx hb hK.1 hB (g + 9) hg.2.2.2 (fits_in (hr11 ▸ c12)) dX0_washAway_42 ?_
        refine lv_iconst (v := (-1)) hx hb dX0_washAway_43 (by decide) ?_
        refine lv_icmp_eq (tgt := 58) hx hb dX0_washAway_44 (by decide) (fun c14 => ?_) (fun c14 => ?_)
        · refine lv_iinc (v := nI (i3 + 1)) (lv' := [(3, .int (nI (i3 + 1))), (4, .int r10), (2, .int x4), (1, .ref (o + k2)), (0, .ref (o + g))]) hx hb dX0_washAway_58 hl (k := 1) rfl (nI_1 i3) (by decide) rfl (fun ls hl => ?_)
          refine lv_goto (tgt := 13) hx hb dX0_washAway_61 (by decide) ?_
          have e15 := p_X0_washAway_e15 M g k2 x4 M5 i3 n3 r9 hr9.symm r10 hr10.symm r11 hr11.symm c12 c14
          rw [e15] at hexit3
          exact ih3 (i3 + 1) x4 M5 (by omega) _ _ hB hS ls (lv_sub hl [0, 2, 3, 4] rfl) hexit3
        · refine lv_aload_n hx hb dX0_washAway_47 rfl (lv_at hl 4 rfl) ?_
          refine b_get (D := D) (E := E) (L := LRM) (o := o) (M := M5) (v := .ref (o + (g + 9))) (C := RX0) (T := TX0) (N := 12) hx hb hts hinX0 hown hK.1 hB g hg.1 rfl 2 (by decide) (hts (.fieldLink RX0 21 "RiverMeeting$Game" "stood" "[I") (List.mem_of_getElem? (i := 2) rfl)) (fun _ h9 => h9) rfl dX0_washAway_48 ?_
          refine lv_iload hx hb dX0_washAway_51 (lv_at hl 0 rfl) ?_
          refine lv_iconst (v := (-1)) hx hb dX0_washAway_53 (by decide) ?_
          refine b_iast hx hb hK.1 hB hS (g + 9) (rA_of hg.2.2.2) hg.2.2.2 (fits_in (hr11 ▸ c12)) dX0_washAway_54 (fun M16 hM16 H locs hB _ hS => ?_)
          obtain ⟨x17, hx17⟩ : ∃ y : Int32, y = x4 + 1 := ⟨_, rfl⟩
          refine lv_iinc (v := x17) (lv' := [(2, .int x17), (4, .int r10), (3, .int (nI i3)), (1, .ref (o + k2)), (0, .ref (o + g))]) hx hb dX0_washAway_55 hl (k := 2) rfl (by rw [hx17]; rfl) (by decide) rfl (fun ls hl => ?_)
          refine lv_iinc (v := nI (i3 + 1)) (lv' := [(3, .int (nI (i3 + 1))), (2, .int x17), (4, .int r10), (1, .ref (o + k2)), (0, .ref (o + g))]) hx hb dX0_washAway_58 hl (k := 2) rfl (nI_1 i3) (by decide) rfl (fun ls hl => ?_)
          refine lv_goto (tgt := 13) hx hb dX0_washAway_61 (by decide) ?_
          have e18 := p_X0_washAway_e18 M g k2 x4 M5 i3 n3 r9 hr9.symm r10 hr10.symm r11 hr11.symm c12 c14 M16 hM16.symm x17 hx17.symm
          rw [e18] at hexit3
          exact ih3 (i3 + 1) x17 M16 (by omega) _ _ hB hS ls (lv_sub hl [0, 1, 3, 4] rfl) hexit3
  refine lp3 3 0 0 M (by omega) _ _ hB hS ls (lv_sub hl [0, 1, 2, 3] rfl) ?_
  intro H locs hB hS ls hl
  obtain ⟨x19, hx19⟩ : ∃ y : Int32, y = (lp_X0_washAway_13 g k2 3 0 0 M).1 := ⟨_, rfl⟩
  rw [← hx19] at hl
  obtain ⟨M20, hM20⟩ : ∃ y : bM, y = (lp_X0_washAway_13 g k2 3 0 0 M).2 := ⟨_, rfl⟩
  rw [← hM20] at hB
  have hl : lv_has ls 5 [(2, .int x19), (1, .ref (o + k2)), (0, .ref (o + g))] := hl
  refine lv_aload_n hx hb dX0_washAway_64 rfl (lv_at hl 1 rfl) ?_
  refine lv_iconst (v := 5) hx hb dX0_washAway_65 (by decide) ?_
  refine b_mV (b_runV (As := [.int 5]) (rest := []) ⟨hx, hb, hml, hown, hts⟩ (c_X2_pay l D E o M20 k2 5 hfk2) (cwV 1 hts gX0_washAway_X2_pay rfl rfl rfl (by decide +kernel) ⟨Nat.le_of_ble_eq_true rfl, Nat.le_of_ble_eq_true rfl⟩) hK (bk_recv hK.1 hB hfk2.1 rfl) hB rfl hl rfl (Nat.le_of_ble_eq_true rfl) dX0_washAway_66 ⟨Nat.zero_le _, Nat.zero_le _⟩) hS (fun q h => h) (fun M21 hM21 H locs hB _ hS => ?_)
  refine lv_aload_n hx hb dX0_washAway_69 rfl (lv_at hl 2 rfl) ?_
  refine lv_dup hx hb dX0_washAway_70 rfl ?_
  refine b_get (D := D) (E := E) (L := LRM) (o := o) (M := M21) (v := .int (M21 g 11)) (C := RX0) (T := TX0) (N := 12) hx hb hts hinX0 hown hK.1 hB g hg.1 rfl 11 (by decide) (hts (.fieldLink RX0 38 "RiverMeeting$Game" "floods" "I") (List.mem_of_getElem? (i := 3) rfl)) (fun _ h9 => h9) rfl dX0_washAway_71 ?_
  refine lv_iconst (v := 1) hx hb dX0_washAway_74 (by decide) ?_
  refine lv_iadd hx hb dX0_washAway_75 ?_
  refine b_put (D := D) (E := E) (L := LRM) (o := o) (M := M21) (v := ((M21 g 11) + 1)) (ty := .int) (C := RX0) (T := TX0) (N := 12) hx hb hts hinX0 tyX0 tyX0_ok nmX0 hown hK.1 hB hS g (rA_of hg.1) hg.1 rfl 11 (by decide) rfl (hts (.fieldLink RX0 38 "RiverMeeting$Game" "floods" "I") (List.mem_of_getElem? (i := 3) rfl)) (fun _ h9 => h9) rfl (by decide +kernel) rfl rfl dX0_washAway_76 (fun M22 hM22 H locs hB _ hS => ?_)
  refine lv_aload_n hx hb dX0_washAway_79 rfl (lv_at hl 2 rfl) ?_
  refine b_mV (b_runV (As := []) (rest := []) ⟨hx, hb, hml, hown, hts⟩ (c_X0_endTurn l D E o M22 g hg) (cwV 0 hts gX0_washAway_X0_endTurn rfl rfl rfl (by decide +kernel) ⟨Nat.le_of_ble_eq_true rfl, Nat.le_of_ble_eq_true rfl⟩) hK (bk_recv hK.1 hB hg.1 rfl) hB rfl hl rfl (Nat.le_of_ble_eq_true rfl) dX0_washAway_80 ⟨Nat.zero_le _, Nat.zero_le _⟩) hS (fun q h => h) (fun M23 hM23 H locs hB _ hS => ?_)
  refine lv_iload_n hx hb dX0_washAway_83 rfl (lv_at hl 0 rfl) ?_
  have e24 := p_X0_washAway_e24 M g k2 hk2.symm x19 hx19.symm M20 hM20.symm M21 hM21.symm M22 hM22.symm M23 hM23.symm
  exact b_iret hx hb hr hlocks hS ⟨_, rfl, _, ⟨(congrArg Prod.fst e24).symm, (congrArg Prod.snd e24).symm⟩, hB⟩ dX0_washAway_84
def f_X0_floodIfPossible (M : bM) (g : Nat) : Int32 × bM := (let r1 : Int32 := f_X0_canFlood M g; (if r1 = 0 then (0, M) else (let r4 : Int32 := (f_X0_washAway M g).1; (let M3 : bM := (f_X0_washAway M g).2; (1, M3)))))
theorem u_f_X0_floodIfPossible (M : bM) (g : Nat) : f_X0_floodIfPossible M g = (let r1 : Int32 := f_X0_canFlood M g; (if r1 = 0 then (0, M) else (let r4 : Int32 := (f_X0_washAway M g).1; (let M3 : bM := (f_X0_washAway M g).2; (1, M3))))) := rfl
theorem p_X0_floodIfPossible_e5 (M : bM) (g : Nat) (r1 : Int32) (hr1 : f_X0_canFlood M g = r1) (c2 : ¬ r1 = 0) (r4 : Int32) (hr4 : (f_X0_washAway M g).1 = r4) (M3 : bM) (hM3 : (f_X0_washAway M g).2 = M3) : f_X0_floodIfPossible M g = (1, M3) := by subst hM3 hr4 hr1; exact Eq.trans (u_f_X0_floodIfPossible M g) (if_neg c2)
theorem p_X0_floodIfPossible_e6 (M : bM) (g : Nat) (r1 : Int32) (hr1 : f_X0_canFlood M g = r1) (c2 : r1 = 0) : f_X0_floodIfPossible M g = (0, M) := by subst hr1; exact Eq.trans (u_f_X0_floodIfPossible M g) (if_pos c2)
set_option maxHeartbeats 4000000 in
set_option maxRecDepth 100000 in
theorem c_X0_floodIfPossible (l : Launch) (D : va_G) (E : Nat → ClassId) (o : Nat) (M : bM) (g : Nat) (hg : isG g) : Met l yX0_floodIfPossible wsX0_floodIfPossible (rmF 4) (bPc D E [.ref (o + g)] (fun H => bk D E LRM o M H)) (bQ (aI fun r H => ∃ M1 : bM, (r = (f_X0_floodIfPossible M g).1 ∧ M1 = (f_X0_floodIfPossible M g).2) ∧ bk D E LRM o M1 H) (rA o)) 0 0 (rA o) := by
  refine Met.ofW (cc := cX0_floodIfPossible) (maxL := 1) (ret := (some .boolean)) (by decide) rfl ?_
  intro p e s m args below meth c s₁ B hml hv
  obtain ⟨rfl, hB, hK⟩ := hv
  have hx := B.exec
  have hb := B.bytes
  have hr := B.returns
  have hts := atoms_spec (ws := wsX0_floodIfPossible) B.pre
  have hown : s.vm.findClass RX0 = some m.cls := findClass_of_methodNamed B.named
  have hlocks := B.notSynchronized
  have hS : bS (rA o) s.heap s.heap [] := bS.rf
  have hl := lv_entry ([.ref (o + g)]) (n := 1) (Nat.le_of_ble_eq_true rfl)
  rw [lg_entry_eq]
  generalize (lg_sl ([.ref (o + g)]) ++ List.replicate (1 - (lg_sl ([.ref (o + g)])).length) Slot.unset).toArray = ls at hl ⊢
  have hl : lv_has ls 1 [(0, .ref (o + g))] := hl
  have hB : bk D E LRM o M s.heap := hB
  refine lv_aload_n hx hb dX0_floodIfPossible_0 rfl (lv_at hl 0 rfl) ?_
  refine b_pI (b_runV (As := []) (rest := []) ⟨hx, hb, hml, hown, hts⟩ (c_X0_canFlood l D E o M g hg) (cwV 0 hts gX0_floodIfPossible_X0_canFlood rfl rfl rfl (by decide +kernel) ⟨Nat.le_of_ble_eq_true rfl, Nat.le_of_ble_eq_true rfl⟩) hK (bk_recv hK.1 hB hg.1 rfl) hB rfl hl rfl (Nat.le_of_ble_eq_true rfl) dX0_floodIfPossible_1 ⟨Nat.zero_le _, Nat.zero_le _⟩) hS (fun r1 hr1 locs hS => ?_)
  refine lv_if_ne (tgt := 9) hx hb dX0_floodIfPossible_4 (by decide) (fun c2 => ?_) (fun c2 => ?_)
  · refine lv_aload_n hx hb dX0_floodIfPossible_9 rfl (lv_at hl 0 rfl) ?_
    refine b_mI (b_runV (As := []) (rest := []) ⟨hx, hb, hml, hown, hts⟩ (c_X0_washAway l D E o M g hg) (cwV 0 hts gX0_floodIfPossible_X0_washAway rfl rfl rfl (by decide +kernel) ⟨Nat.le_of_ble_eq_true rfl, Nat.le_of_ble_eq_true rfl⟩) hK (bk_recv hK.1 hB hg.1 rfl) hB rfl hl rfl (Nat.le_of_ble_eq_true rfl) dX0_floodIfPossible_10 ⟨Nat.zero_le _, Nat.zero_le _⟩) hS (fun q h => h) (fun r4 M3 hM3 H locs hB _ hS => ?_)
    obtain ⟨hr4, hM3⟩ := hM3
    refine lv_pop hx hb dX0_floodIfPossible_13 rfl ?_
    refine lv_iconst (v := 1) hx hb dX0_floodIfPossible_14 (by decide) ?_
    have e5 := p_X0_floodIfPossible_e5 M g r1 hr1.symm c2 r4 hr4.symm M3 hM3.symm
    exact b_zret hx hb hr rfl hlocks hS ⟨_, rfl, _, ⟨(congrArg Prod.fst e5).symm, (congrArg Prod.snd e5).symm⟩, hB⟩ dX0_floodIfPossible_15
  · refine lv_iconst (v := 0) hx hb dX0_floodIfPossible_7 (by decide) ?_
    have e6 := p_X0_floodIfPossible_e6 M g r1 hr1.symm c2
    exact b_zret hx hb hr rfl hlocks hS ⟨_, rfl, _, ⟨(congrArg Prod.fst e6).symm, (congrArg Prod.snd e6).symm⟩, hB⟩ dX0_floodIfPossible_8
def f_X0_copyFrom (M : bM) (g : Nat) (g1 : Nat) : bM := (let M1 : bM := f_X2_copyFrom M (g + 1) (g1 + 1); (let M2 : bM := f_X2_copyFrom M1 (g + 5) (g1 + 5); (let M3 : bM := f_X6_copyRow M2 (g1 + 9) (g + 9); (let M4 : bM := up2 M3 g 3 (M3 g1 3); (let M5 : bM := up2 M4 g 4 (M4 g1 4); (let M6 : bM := up2 M5 g 5 (M5 g1 5); (let M7 : bM := up2 M6 g 6 (M6 g1 6); (let M8 : bM := up2 M7 g 7 (M7 g1 7); (let M9 : bM := up2 M8 g 8 (M8 g1 8); (let M10 : bM := up2 M9 g 9 (M9 g1 9); (let M11 : bM := up2 M10 g 10 (M10 g1 10); (let M12 : bM := up2 M11 g 11 (M11 g1 11); M12))))))))))))
theorem u_f_X0_copyFrom (M : bM) (g : Nat) (g1 : Nat) : f_X0_copyFrom M g g1 = (let M1 : bM := f_X2_copyFrom M (g + 1) (g1 + 1); (let M2 : bM := f_X2_copyFrom M1 (g + 5) (g1 + 5); (let M3 : bM := f_X6_copyRow M2 (g1 + 9) (g + 9); (let M4 : bM := up2 M3 g 3 (M3 g1 3); (let M5 : bM := up2 M4 g 4 (M4 g1 4); (let M6 : bM := up2 M5 g 5 (M5 g1 5); (let M7 : bM := up2 M6 g 6 (M6 g1 6); (let M8 : bM := up2 M7 g 7 (M7 g1 7); (let M9 : bM := up2 M8 g 8 (M8 g1 8); (let M10 : bM := up2 M9 g 9 (M9 g1 9); (let M11 : bM := up2 M10 g 10 (M10 g1 10); (let M12 : bM := up2 M11 g 11 (M11 g1 11); M12)))))))))))) := rfl
theorem p_X0_copyFrom_e13 (M : bM) (g : Nat) (g1 : Nat) (M1 : bM) (hM1 : f_X2_copyFrom M (g + 1) (g1 + 1) = M1) (M2 : bM) (hM2 : f_X2_copyFrom M1 (g + 5) (g1 + 5) = M2) (M3 : bM) (hM3 : f_X6_copyRow M2 (g1 + 9) (g + 9) = M3) (M4 : bM) (hM4 : up2 M3 g 3 (M3 g1 3) = M4) (M5 : bM) (hM5 : up2 M4 g 4 (M4 g1 4) = M5) (M6 : bM) (hM6 : up2 M5 g 5 (M5 g1 5) = M6) (M7 : bM) (hM7 : up2 M6 g 6 (M6 g1 6) = M7) (M8 : bM) (hM8 : up2 M7 g 7 (M7 g1 7) = M8) (M9 : bM) (hM9 : up2 M8 g 8 (M8 g1 8) = M9) (M10 : bM) (hM10 : up2 M9 g 9 (M9 g1 9) = M10) (M11 : bM) (hM11 : up2 M10 g 10 (M10 g1 10) = M11) (M12 : bM) (hM12 : up2 M11 g 11 (M11 g1 11) = M12) : f_X0_copyFrom M g g1 = M12 := by subst hM12 hM11 hM10 hM9 hM8 hM7 hM6 hM5 hM4 hM3 hM2 hM1; exact u_f_X0_copyFrom M g g1
set_option maxHeartbeats 4000000 in
set_option maxRecDepth 100000 in
theorem c_X0_copyFrom (l : Launch) (D : va_G) (E : Nat → ClassId) (o : Nat) (M : bM) (g : Nat) (g1 : Nat) (hg : isG g) (hg1 : isG g1) : Met l yX0_copyFrom wsX0_copyFrom (rmF 2) (bPc D E [.ref (o + g), .ref (o + g1)] (fun H => bk D E LRM o M H)) (bQ (aV fun H => ∃ M1 : bM, M1 = f_X0_copyFrom M g g1 ∧ bk D E LRM o M1 H) (rA o)) 0 0 (rA o) := by
  refine Met.ofW (cc := cX0_copyFrom) (maxL := 2) (ret := none) (by decide) rfl ?_
  intro p e s m args below meth c s₁ B hml hv
  obtain ⟨rfl, hB, hK⟩ := hv
  have hx := B.exec
  have hb := B.bytes
  have hr := B.returns
  have hts := atoms_spec (ws := wsX0_copyFrom) B.pre
  have hown : s.vm.findClass RX0 = some m.cls := findClass_of_methodNamed B.named
  have hlocks := B.notSynchronized
  have hS : bS (rA o) s.heap s.heap [] := bS.rf
  have hl := lv_entry ([.ref (o + g), .ref (o + g1)]) (n := 2) (Nat.le_of_ble_eq_true rfl)
  rw [lg_entry_eq]
  generalize (lg_sl ([.ref (o + g), .ref (o + g1)]) ++ List.replicate (2 - (lg_sl ([.ref (o + g), .ref (o + g1)])).length) Slot.unset).toArray = ls at hl ⊢
  have hl : lv_has ls 2 [(0, .ref (o + g)), (1, .ref (o + g1))] := hl
  have hB : bk D E LRM o M s.heap := hB
  have hinX0 : ∀ w ∈ wsX00, w ∈ wsX0_copyFrom := by decide +kernel
  refine lv_aload_n hx hb dX0_copyFrom_0 rfl (lv_at hl 0 rfl) ?_
  refine b_get (D := D) (E := E) (L := LRM) (o := o) (M := M) (v := .ref (o + (g + 1))) (C := RX0) (T := TX0) (N := 12) hx hb hts hinX0 hown hK.1 hB g hg.1 rfl 0 (by decide) (hts (.fieldLink RX0 12 "RiverMeeting$Game" "first" "LRiverMeeting$Side;") (List.mem_of_getElem? (i := 1) rfl)) (fun _ h9 => h9) rfl dX0_copyFrom_1 ?_
  refine lv_aload_n hx hb dX0_copyFrom_4 rfl (lv_at hl 1 rfl) ?_
  refine b_get (D := D) (E := E) (L := LRM) (o := o) (M := M) (v := .ref (o + (g1 + 1))) (C := RX0) (T := TX0) (N := 12) hx hb hts hinX0 hown hK.1 hB g1 hg1.1 rfl 0 (by decide) (hts (.fieldLink RX0 12 "RiverMeeting$Game" "first" "LRiverMeeting$Side;") (List.mem_of_getElem? (i := 1) rfl)) (fun _ h9 => h9) rfl dX0_copyFrom_5 ?_
  refine b_mV (b_runV (As := [.ref (o + (g1 + 1))]) (rest := []) ⟨hx, hb, hml, hown, hts⟩ (c_X2_copyFrom l D E o M (g + 1) (g1 + 1) hg.2.1 hg1.2.1) (cwV 1 hts gX0_copyFrom_X2_copyFrom rfl rfl rfl (by decide +kernel) ⟨Nat.le_of_ble_eq_true rfl, Nat.le_of_ble_eq_true rfl⟩) hK (bk_recv hK.1 hB hg.2.1.1 rfl) hB rfl hl rfl (Nat.le_of_ble_eq_true rfl) dX0_copyFrom_8 ⟨Nat.zero_le _, Nat.zero_le _⟩) hS (fun q h => h) (fun M1 hM1 H locs hB _ hS => ?_)
  refine lv_aload_n hx hb dX0_copyFrom_11 rfl (lv_at hl 0 rfl) ?_
  refine b_get (D := D) (E := E) (L := LRM) (o := o) (M := M1) (v := .ref (o + (g + 5))) (C := RX0) (T := TX0) (N := 12) hx hb hts hinX0 hown hK.1 hB g hg.1 rfl 1 (by decide) (hts (.fieldLink RX0 18 "RiverMeeting$Game" "second" "LRiverMeeting$Side;") (List.mem_of_getElem? (i := 2) rfl)) (fun _ h9 => h9) rfl dX0_copyFrom_12 ?_
  refine lv_aload_n hx hb dX0_copyFrom_15 rfl (lv_at hl 1 rfl) ?_
  refine b_get (D := D) (E := E) (L := LRM) (o := o) (M := M1) (v := .ref (o + (g1 + 5))) (C := RX0) (T := TX0) (N := 12) hx hb hts hinX0 hown hK.1 hB g1 hg1.1 rfl 1 (by decide) (hts (.fieldLink RX0 18 "RiverMeeting$Game" "second" "LRiverMeeting$Side;") (List.mem_of_getElem? (i := 2) rfl)) (fun _ h9 => h9) rfl dX0_copyFrom_16 ?_
  refine b_mV (b_runV (As := [.ref (o + (g1 + 5))]) (rest := []) ⟨hx, hb, hml, hown, hts⟩ (c_X2_copyFrom l D E o M1 (g + 5) (g1 + 5) hg.2.2.1 hg1.2.2.1) (cwV 1 hts gX0_copyFrom_X2_copyFrom rfl rfl rfl (by decide +kernel) ⟨Nat.le_of_ble_eq_true rfl, Nat.le_of_ble_eq_true rfl⟩) hK (bk_recv hK.1 hB hg.2.2.1.1 rfl) hB rfl hl rfl (Nat.le_of_ble_eq_true rfl) dX0_copyFrom_19 ⟨Nat.zero_le _, Nat.zero_le _⟩) hS (fun q h => h) (fun M2 hM2 H locs hB _ hS => ?_)
  refine lv_aload_n hx hb dX0_copyFrom_22 rfl (lv_at hl 1 rfl) ?_
  refine b_get (D := D) (E := E) (L := LRM) (o := o) (M := M2) (v := .ref (o + (g1 + 9))) (C := RX0) (T := TX0) (N := 12) hx hb hts hinX0 hown hK.1 hB g1 hg1.1 rfl 2 (by decide) (hts (.fieldLink RX0 21 "RiverMeeting$Game" "stood" "[I") (List.mem_of_getElem? (i := 3) rfl)) (fun _ h9 => h9) rfl dX0_copyFrom_23 ?_
  refine lv_aload_n hx hb dX0_copyFrom_26 rfl (lv_at hl 0 rfl) ?_
  refine b_get (D := D) (E := E) (L := LRM) (o := o) (M := M2) (v := .ref (o + (g + 9))) (C := RX0) (T := TX0) (N := 12) hx hb hts hinX0 hown hK.1 hB g hg.1 rfl 2 (by decide) (hts (.fieldLink RX0 21 "RiverMeeting$Game" "stood" "[I") (List.mem_of_getElem? (i := 3) rfl)) (fun _ h9 => h9) rfl dX0_copyFrom_27 ?_
  refine b_mV (b_runSN (As := [.ref (o + (g1 + 9)), .ref (o + (g + 9))]) (rest := []) ⟨hx, hb, hml, hown, hts⟩ (c_X6_copyRow l D E o M2 (g1 + 9) (g + 9) hg1.2.2.2 hg.2.2.2) ⟨va_cnB (host := "RiverMeeting") 2 hts gX0_copyFrom_X6_copyRow_n180 rfl rfl rfl (hK.2 10 _ rfl) (hts (.initialized RX6) (List.mem_of_getElem? (i := 27) rfl)) (by decide +kernel) ⟨Nat.le_of_ble_eq_true rfl, Nat.le_of_ble_eq_true rfl⟩, (hts (.static yX6_copyRow) (List.mem_of_getElem? (i := 26) rfl)), trivial⟩ hK hB rfl hl rfl (Nat.le_of_ble_eq_true rfl) dX0_copyFrom_30 ⟨Nat.zero_le _, Nat.zero_le _⟩) hS (fun q h => h) (fun M3 hM3 H locs hB _ hS => ?_)
  refine lv_aload_n hx hb dX0_copyFrom_33 rfl (lv_at hl 0 rfl) ?_
  refine lv_aload_n hx hb dX0_copyFrom_34 rfl (lv_at hl 1 rfl) ?_
  refine b_get (D := D) (E := E) (L := LRM) (o := o) (M := M3) (v := .int (M3 g1 3)) (C := RX0) (T := TX0) (N := 12) hx hb hts hinX0 hown hK.1 hB g1 hg1.1 rfl 3 (by decide) (hts (.fieldLink RX0 25 "RiverMeeting$Game" "lasting" "I") (List.mem_of_getElem? (i := 4) rfl)) (fun _ h9 => h9) rfl dX0_copyFrom_35 ?_
  refine b_put (D := D) (E := E) (L := LRM) (o := o) (M := M3) (v := (M3 g1 3)) (ty := .int) (C := RX0) (T := TX0) (N := 12) hx hb hts hinX0 tyX0 tyX0_ok nmX0 hown hK.1 hB hS g (rA_of hg.1) hg.1 rfl 3 (by decide) rfl (hts (.fieldLink RX0 25 "RiverMeeting$Game" "lasting" "I") (List.mem_of_getElem? (i := 4) rfl)) (fun _ h9 => h9) rfl (by decide +kernel) rfl rfl dX0_copyFrom_38 (fun M4 hM4 H locs hB _ hS => ?_)
  refine lv_aload_n hx hb dX0_copyFrom_41 rfl (lv_at hl 0 rfl) ?_
  refine lv_aload_n hx hb dX0_copyFrom_42 rfl (lv_at hl 1 rfl) ?_
  refine b_get (D := D) (E := E) (L := LRM) (o := o) (M := M4) (v := .int (M4 g1 4)) (C := RX0) (T := TX0) (N := 12) hx hb hts hinX0 hown hK.1 hB g1 hg1.1 rfl 4 (by decide) (hts (.fieldLink RX0 29 "RiverMeeting$Game" "factor" "I") (List.mem_of_getElem? (i := 5) rfl)) (fun _ h9 => h9) rfl dX0_copyFrom_43 ?_
  refine b_put (D := D) (E := E) (L := LRM) (o := o) (M := M4) (v := (M4 g1 4)) (ty := .int) (C := RX0) (T := TX0) (N := 12) hx hb hts hinX0 tyX0 tyX0_ok nmX0 hown hK.1 hB hS g (rA_of hg.1) hg.1 rfl 4 (by decide) rfl (hts (.fieldLink RX0 29 "RiverMeeting$Game" "factor" "I") (List.mem_of_getElem? (i := 5) rfl)) (fun _ h9 => h9) rfl (by decide +kernel) rfl rfl dX0_copyFrom_46 (fun M5 hM5 H locs hB _ hS => ?_)
  refine lv_aload_n hx hb dX0_copyFrom_49 rfl (lv_at hl 0 rfl) ?_
  refine lv_aload_n hx hb dX0_copyFrom_50 rfl (lv_at hl 1 rfl) ?_
  refine b_get (D := D) (E := E) (L := LRM) (o := o) (M := M5) (v := .int (M5 g1 5)) (C := RX0) (T := TX0) (N := 12) hx hb hts hinX0 hown hK.1 hB g1 hg1.1 rfl 5 (by decide) (hts (.fieldLink RX0 32 "RiverMeeting$Game" "games" "I") (List.mem_of_getElem? (i := 6) rfl)) (fun _ h9 => h9) rfl dX0_copyFrom_51 ?_
  refine b_put (D := D) (E := E) (L := LRM) (o := o) (M := M5) (v := (M5 g1 5)) (ty := .int) (C := RX0) (T := TX0) (N := 12) hx hb hts hinX0 tyX0 tyX0_ok nmX0 hown hK.1 hB hS g (rA_of hg.1) hg.1 rfl 5 (by decide) rfl (hts (.fieldLink RX0 32 "RiverMeeting$Game" "games" "I") (List.mem_of_getElem? (i := 6) rfl)) (fun _ h9 => h9) rfl (by decide +kernel) rfl rfl dX0_copyFrom_54 (fun M6 hM6 H locs hB _ hS => ?_)
  refine lv_aload_n hx hb dX0_copyFrom_57 rfl (lv_at hl 0 rfl) ?_
  refine lv_aload_n hx hb dX0_copyFrom_58 rfl (lv_at hl 1 rfl) ?_
  refine b_get (D := D) (E := E) (L := LRM) (o := o) (M := M6) (v := .int (M6 g1 6)) (C := RX0) (T := TX0) (N := 12) hx hb hts hinX0 hown hK.1 hB g1 hg1.1 rfl 6 (by decide) (hts (.fieldLink RX0 64 "RiverMeeting$Game" "turns" "I") (List.mem_of_getElem? (i := 7) rfl)) (fun _ h9 => h9) rfl dX0_copyFrom_59 ?_
  refine b_put (D := D) (E := E) (L := LRM) (o := o) (M := M6) (v := (M6 g1 6)) (ty := .int) (C := RX0) (T := TX0) (N := 12) hx hb hts hinX0 tyX0 tyX0_ok nmX0 hown hK.1 hB hS g (rA_of hg.1) hg.1 rfl 6 (by decide) rfl (hts (.fieldLink RX0 64 "RiverMeeting$Game" "turns" "I") (List.mem_of_getElem? (i := 7) rfl)) (fun _ h9 => h9) rfl (by decide +kernel) rfl rfl dX0_copyFrom_62 (fun M7 hM7 H locs hB _ hS => ?_)
  refine lv_aload_n hx hb dX0_copyFrom_65 rfl (lv_at hl 0 rfl) ?_
  refine lv_aload_n hx hb dX0_copyFrom_66 rfl (lv_at hl 1 rfl) ?_
  refine b_get (D := D) (E := E) (L := LRM) (o := o) (M := M7) (v := .int (M7 g1 7)) (C := RX0) (T := TX0) (N := 12) hx hb hts hinX0 hown hK.1 hB g1 hg1.1 rfl 7 (by decide) (hts (.fieldLink RX0 67 "RiverMeeting$Game" "mover" "I") (List.mem_of_getElem? (i := 8) rfl)) (fun _ h9 => h9) rfl dX0_copyFrom_67 ?_
  refine b_put (D := D) (E := E) (L := LRM) (o := o) (M := M7) (v := (M7 g1 7)) (ty := .int) (C := RX0) (T := TX0) (N := 12) hx hb hts hinX0 tyX0 tyX0_ok nmX0 hown hK.1 hB hS g (rA_of hg.1) hg.1 rfl 7 (by decide) rfl (hts (.fieldLink RX0 67 "RiverMeeting$Game" "mover" "I") (List.mem_of_getElem? (i := 8) rfl)) (fun _ h9 => h9) rfl (by decide +kernel) rfl rfl dX0_copyFrom_70 (fun M8 hM8 H locs hB _ hS => ?_)
  refine lv_aload_n hx hb dX0_copyFrom_73 rfl (lv_at hl 0 rfl) ?_
  refine lv_aload_n hx hb dX0_copyFrom_74 rfl (lv_at hl 1 rfl) ?_
  refine b_get (D := D) (E := E) (L := LRM) (o := o) (M := M8) (v := .int (M8 g1 8)) (C := RX0) (T := TX0) (N := 12) hx hb hts hinX0 hown hK.1 hB g1 hg1.1 rfl 8 (by decide) (hts (.fieldLink RX0 70 "RiverMeeting$Game" "meeting" "I") (List.mem_of_getElem? (i := 9) rfl)) (fun _ h9 => h9) rfl dX0_copyFrom_75 ?_
  refine b_put (D := D) (E := E) (L := LRM) (o := o) (M := M8) (v := (M8 g1 8)) (ty := .int) (C := RX0) (T := TX0) (N := 12) hx hb hts hinX0 tyX0 tyX0_ok nmX0 hown hK.1 hB hS g (rA_of hg.1) hg.1 rfl 8 (by decide) rfl (hts (.fieldLink RX0 70 "RiverMeeting$Game" "meeting" "I") (List.mem_of_getElem? (i := 9) rfl)) (fun _ h9 => h9) rfl (by decide +kernel) rfl rfl dX0_copyFrom_78 (fun M9 hM9 H locs hB _ hS => ?_)
  refine lv_aload_n hx hb dX0_copyFrom_81 rfl (lv_at hl 0 rfl) ?_
  refine lv_aload_n hx hb dX0_copyFrom_82 rfl (lv_at hl 1 rfl) ?_
  refine b_get (D := D) (E := E) (L := LRM) (o := o) (M := M9) (v := .int (M9 g1 9)) (C := RX0) (T := TX0) (N := 12) hx hb hts hinX0 hown hK.1 hB g1 hg1.1 rfl 9 (by decide) (hts (.fieldLink RX0 73 "RiverMeeting$Game" "winner" "I") (List.mem_of_getElem? (i := 10) rfl)) (fun _ h9 => h9) rfl dX0_copyFrom_83 ?_
  refine b_put (D := D) (E := E) (L := LRM) (o := o) (M := M9) (v := (M9 g1 9)) (ty := .int) (C := RX0) (T := TX0) (N := 12) hx hb hts hinX0 tyX0 tyX0_ok nmX0 hown hK.1 hB hS g (rA_of hg.1) hg.1 rfl 9 (by decide) rfl (hts (.fieldLink RX0 73 "RiverMeeting$Game" "winner" "I") (List.mem_of_getElem? (i := 10) rfl)) (fun _ h9 => h9) rfl (by decide +kernel) rfl rfl dX0_copyFrom_86 (fun M10 hM10 H locs hB _ hS => ?_)
  refine lv_aload_n hx hb dX0_copyFrom_89 rfl (lv_at hl 0 rfl) ?_
  refine lv_aload_n hx hb dX0_copyFrom_90 rfl (lv_at hl 1 rfl) ?_
  refine b_get (D := D) (E := E) (L := LRM) (o := o) (M := M10) (v := .int (M10 g1 10)) (C := RX0) (T := TX0) (N := 12) hx hb hts hinX0 hown hK.1 hB g1 hg1.1 rfl 10 (by decide) (hts (.fieldLink RX0 35 "RiverMeeting$Game" "refusals" "I") (List.mem_of_getElem? (i := 11) rfl)) (fun _ h9 => h9) rfl dX0_copyFrom_91 ?_
  refine b_put (D := D) (E := E) (L := LRM) (o := o) (M := M10) (v := (M10 g1 10)) (ty := .int) (C := RX0) (T := TX0) (N := 12) hx hb hts hinX0 tyX0 tyX0_ok nmX0 hown hK.1 hB hS g (rA_of hg.1) hg.1 rfl 10 (by decide) rfl (hts (.fieldLink RX0 35 "RiverMeeting$Game" "refusals" "I") (List.mem_of_getElem? (i := 11) rfl)) (fun _ h9 => h9) rfl (by decide +kernel) rfl rfl dX0_copyFrom_94 (fun M11 hM11 H locs hB _ hS => ?_)
  refine lv_aload_n hx hb dX0_copyFrom_97 rfl (lv_at hl 0 rfl) ?_
  refine lv_aload_n hx hb dX0_copyFrom_98 rfl (lv_at hl 1 rfl) ?_
  refine b_get (D := D) (E := E) (L := LRM) (o := o) (M := M11) (v := .int (M11 g1 11)) (C := RX0) (T := TX0) (N := 12) hx hb hts hinX0 hown hK.1 hB g1 hg1.1 rfl 11 (by decide) (hts (.fieldLink RX0 38 "RiverMeeting$Game" "floods" "I") (List.mem_of_getElem? (i := 12) rfl)) (fun _ h9 => h9) rfl dX0_copyFrom_99 ?_
  refine b_put (D := D) (E := E) (L := LRM) (o := o) (M := M11) (v := (M11 g1 11)) (ty := .int) (C := RX0) (T := TX0) (N := 12) hx hb hts hinX0 tyX0 tyX0_ok nmX0 hown hK.1 hB hS g (rA_of hg.1) hg.1 rfl 11 (by decide) rfl (hts (.fieldLink RX0 38 "RiverMeeting$Game" "floods" "I") (List.mem_of_getElem? (i := 12) rfl)) (fun _ h9 => h9) rfl (by decide +kernel) rfl rfl dX0_copyFrom_102 (fun M12 hM12 H locs hB _ hS => ?_)
  have e13 := p_X0_copyFrom_e13 M g g1 M1 hM1.symm M2 hM2.symm M3 hM3.symm M4 hM4.symm M5 hM5.symm M6 hM6.symm M7 hM7.symm M8 hM8.symm M9 hM9.symm M10 hM10.symm M11 hM11.symm M12 hM12.symm
  exact b_vret hx hb hr hlocks hS ⟨rfl, _, e13.symm, hB⟩ dX0_copyFrom_105
