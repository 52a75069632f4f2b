theorem isG_stateAt {M : bM} {x : Int32} (h : vp_in x 14) : isG (f_X1_stateAt M x) := by
  rw [u_f_X1_stateAt, if_neg (in_nneg h), if_neg (in_nge (N := 14) rfl (by decide) h)]
  exact isG_h x h
def f_X1_remember (M : bM) (g1 : Nat) : bM := (let k12 : Nat := f_X1_stateAt M (M 30 1); (let M13 : bM := f_X0_copyFrom M k12 g1; (let M14 : bM := up2 M13 30 1 (((M13 30 1) + 1) - ((M13 30 1) + 1) / 14 * 14); (let M15 : bM := up2 M14 30 2 (if 14 < ((M14 30 2) + 1) then 14 else ((M14 30 2) + 1)); M15))))
theorem u_f_X1_remember (M : bM) (g1 : Nat) : f_X1_remember M g1 = (let k12 : Nat := f_X1_stateAt M (M 30 1); (let M13 : bM := f_X0_copyFrom M k12 g1; (let M14 : bM := up2 M13 30 1 (((M13 30 1) + 1) - ((M13 30 1) + 1) / 14 * 14); (let M15 : bM := up2 M14 30 2 (if 14 < ((M14 30 2) + 1) then 14 else ((M14 30 2) + 1)); M15)))) := rfl
theorem p_X1_remember_e16 (M : bM) (g1 : Nat) (k12 : Nat) (hk12 : f_X1_stateAt M (M 30 1) = k12) (M13 : bM) (hM13 : f_X0_copyFrom M k12 g1 = M13) (M14 : bM) (hM14 : up2 M13 30 1 (((M13 30 1) + 1) - ((M13 30 1) + 1) / 14 * 14) = M14) (M15 : bM) (hM15 : up2 M14 30 2 (if 14 < ((M14 30 2) + 1) then 14 else ((M14 30 2) + 1)) = M15) : f_X1_remember M g1 = M15 := by subst hM15 hM14 hM13 hk12; exact u_f_X1_remember M g1
set_option maxHeartbeats 4000000 in
set_option maxRecDepth 100000 in
theorem c_X1_remember (l : Launch) (D : va_G) (E : Nat → ClassId) (o : Nat) (M : bM) (g1 : Nat) (hg1 : isG g1) (hn : vp_in (M 30 1) 14) : Met l yX1_remember wsX1_remember (rmF 3) (bPc D E [.ref (o + 30), .ref (o + g1)] (fun H => bk D E LRM o M H)) (bQ (aV fun H => ∃ M1 : bM, M1 = f_X1_remember M g1 ∧ bk D E LRM o M1 H) (rA o)) 0 0 (rA o) := by
  refine Met.ofW (cc := cX1_remember) (maxL := 3) (ret := none) (by decide) rfl ?_
  intro p e s m args below meth c s₁ B hml hv
  obtain ⟨rfl, hB, hK⟩ := hv
  have hx := B.exec
  have hb := B.bytes
  have hr := B.returns
  have hts := atoms_spec (ws := wsX1_remember) B.pre
  have hown : s.vm.findClass RX1 = some m.cls := findClass_of_methodNamed B.named
  have hlocks := B.notSynchronized
  have hS : bS (rA o) s.heap s.heap [] := bS.rf
  have hl := lv_entry ([.ref (o + 30), .ref (o + g1)]) (n := 3) (Nat.le_of_ble_eq_true rfl)
  rw [lg_entry_eq]
  generalize (lg_sl ([.ref (o + 30), .ref (o + g1)]) ++ List.replicate (3 - (lg_sl ([.ref (o + 30), .ref (o + g1)])).length) Slot.unset).toArray = ls at hl ⊢
  have hl : lv_has ls 3 [(0, .ref (o + 30)), (1, .ref (o + g1))] := hl
  have hB : bk D E LRM o M s.heap := hB
  have hinX1 : ∀ w ∈ wsX10, w ∈ wsX1_remember := by decide +kernel
  refine lv_aload_n hx hb dX1_remember_0 rfl (lv_at hl 0 rfl) ?_
  refine lv_aload_n hx hb dX1_remember_1 rfl (lv_at hl 0 rfl) ?_
  refine b_get (D := D) (E := E) (L := LRM) (o := o) (M := M) (v := .int (M 30 1)) (C := RX1) (T := TX1) (N := 3) hx hb hts hinX1 hown hK.1 hB 30 lay_30 rfl 1 (by decide) (hts (.fieldLink RX1 22 "RiverMeeting$History" "next" "I") (List.mem_of_getElem? (i := 1) rfl)) (fun _ h9 => h9) rfl dX1_remember_2 ?_
  refine b_pR (b_runV (As := [.int (M 30 1)]) (rest := []) ⟨hx, hb, hml, hown, hts⟩ (c_X1_stateAt l D E o M (M 30 1) hn) (cwV 1 hts gX1_remember_X1_stateAt rfl rfl rfl (by decide +kernel) ⟨Nat.le_of_ble_eq_true rfl, Nat.le_of_ble_eq_true rfl⟩) hK (bk_recv hK.1 hB lay_30 rfl) hB rfl hl rfl (Nat.le_of_ble_eq_true rfl) dX1_remember_5 ⟨Nat.zero_le _, Nat.zero_le _⟩) hS (fun r11 hr11 locs hS => ?_)
  obtain ⟨k12, hk12⟩ : ∃ y : Nat, y = f_X1_stateAt M (M 30 1) := ⟨_, rfl⟩
  rw [← hk12] at hr11; subst hr11
  have hfk12 : isG k12 := by rw [hk12]; exact (isG_stateAt hn)
  refine lv_astore_n (lv' := [(2, .ref (o + k12)), (0, .ref (o + 30)), (1, .ref (o + g1))]) hx hb dX1_remember_8 rfl hl (by decide) rfl (fun ls hl => ?_)
  refine lv_aload_n hx hb dX1_remember_9 rfl (lv_at hl 0 rfl) ?_
  refine lv_ifnull hx hb dX1_remember_10 ?_
  refine lv_aload_n hx hb dX1_remember_13 rfl (lv_at hl 0 rfl) ?_
  refine lv_aload_n hx hb dX1_remember_14 rfl (lv_at hl 2 rfl) ?_
  refine b_mV (b_runV (As := [.ref (o + g1)]) (rest := []) ⟨hx, hb, hml, hown, hts⟩ (c_X0_copyFrom l D E o M k12 g1 hfk12 hg1) (cwV 1 hts gX1_remember_X0_copyFrom rfl rfl rfl (by decide +kernel) ⟨Nat.le_of_ble_eq_true rfl, Nat.le_of_ble_eq_true rfl⟩) hK (bk_recv hK.1 hB hfk12.1 rfl) hB rfl hl rfl (Nat.le_of_ble_eq_true rfl) dX1_remember_15 ⟨Nat.zero_le _, Nat.zero_le _⟩) hS (fun q h => h) (fun M13 hM13 H locs hB _ hS => ?_)
  refine lv_aload_n hx hb dX1_remember_18 rfl (lv_at hl 1 rfl) ?_
  refine lv_aload_n hx hb dX1_remember_19 rfl (lv_at hl 1 rfl) ?_
  refine b_get (D := D) (E := E) (L := LRM) (o := o) (M := M13) (v := .int (M13 30 1)) (C := RX1) (T := TX1) (N := 3) hx hb hts hinX1 hown hK.1 hB 30 lay_30 rfl 1 (by decide) (hts (.fieldLink RX1 22 "RiverMeeting$History" "next" "I") (List.mem_of_getElem? (i := 1) rfl)) (fun _ h9 => h9) rfl dX1_remember_20 ?_
  refine lv_iconst (v := 1) hx hb dX1_remember_23 (by decide) ?_
  refine lv_iadd hx hb dX1_remember_24 ?_
  refine lv_bipush (v := 14) hx hb dX1_remember_25 (by decide) ?_
  refine lv_irem hx hb dX1_remember_27 (by decide) ?_
  refine b_put (D := D) (E := E) (L := LRM) (o := o) (M := M13) (v := (((M13 30 1) + 1) - ((M13 30 1) + 1) / 14 * 14)) (ty := .int) (C := RX1) (T := TX1) (N := 3) hx hb hts hinX1 tyX1 tyX1_ok nmX1 hown hK.1 hB hS 30 (rA_of lay_30) lay_30 rfl 1 (by decide) rfl (hts (.fieldLink RX1 22 "RiverMeeting$History" "next" "I") (List.mem_of_getElem? (i := 1) rfl)) (fun _ h9 => h9) rfl (by decide +kernel) rfl rfl dX1_remember_28 (fun M14 hM14 H locs hB _ hS => ?_)
  refine lv_aload_n hx hb dX1_remember_31 rfl (lv_at hl 1 rfl) ?_
  refine lv_aload_n hx hb dX1_remember_32 rfl (lv_at hl 1 rfl) ?_
  refine b_get (D := D) (E := E) (L := LRM) (o := o) (M := M14) (v := .int (M14 30 2)) (C := RX1) (T := TX1) (N := 3) hx hb hts hinX1 hown hK.1 hB 30 lay_30 rfl 2 (by decide) (hts (.fieldLink RX1 18 "RiverMeeting$History" "count" "I") (List.mem_of_getElem? (i := 2) rfl)) (fun _ h9 => h9) rfl dX1_remember_33 ?_
  refine lv_iconst (v := 1) hx hb dX1_remember_36 (by decide) ?_
  refine lv_iadd hx hb dX1_remember_37 ?_
  refine lv_bipush (v := 14) hx hb dX1_remember_38 (by decide) ?_
  refine va_mmin hx hb (hml.trans hl.1.symm) hown (hts (.methodLink RX1 33 Lib.Math.min.name) (List.mem_of_getElem? (i := 3) rfl)) (hts (.static Lib.Math.min.name) (List.mem_of_getElem? (i := 4) rfl)) (hts (.initialized "java/lang/Math") (List.mem_of_getElem? (i := 5) rfl)) (hts (.code Lib.Math.min.name Lib.Math.min.code 2 (some .int)) (List.mem_of_getElem? (i := 6) rfl)) (Nat.le_of_ble_eq_true rfl) (Nat.le_of_ble_eq_true rfl) (Nat.zero_le _) (Nat.zero_le _) dX1_remember_40 ?_
  refine b_put (D := D) (E := E) (L := LRM) (o := o) (M := M14) (v := (if 14 < ((M14 30 2) + 1) then 14 else ((M14 30 2) + 1))) (ty := .int) (C := RX1) (T := TX1) (N := 3) hx hb hts hinX1 tyX1 tyX1_ok nmX1 hown hK.1 hB hS 30 (rA_of lay_30) lay_30 rfl 2 (by decide) rfl (hts (.fieldLink RX1 18 "RiverMeeting$History" "count" "I") (List.mem_of_getElem? (i := 2) rfl)) (fun _ h9 => h9) rfl (by decide +kernel) rfl rfl dX1_remember_43 (fun M15 hM15 H locs hB _ hS => ?_)
  have e16 := p_X1_remember_e16 M g1 k12 hk12.symm M13 hM13.symm M14 hM14.symm M15 hM15.symm
  exact b_vret hx hb hr hlocks hS ⟨rfl, _, e16.symm, hB⟩ dX1_remember_46
def f_X1_takeBack (M : bM) (g1 : Nat) : bM := (let x11 : Int32 := ((((M 30 1) + 14) - 1) - (((M 30 1) + 14) - 1) / 14 * 14); (let k13 : Nat := f_X1_stateAt M x11; (if (M 30 2) ≤ 0 then M else (let M16 : bM := f_X0_copyFrom M g1 k13; (let M17 : bM := up2 M16 30 1 x11; (let M18 : bM := up2 M17 30 2 ((M17 30 2) - 1); M18))))))
theorem u_f_X1_takeBack (M : bM) (g1 : Nat) : f_X1_takeBack M g1 = (let x11 : Int32 := ((((M 30 1) + 14) - 1) - (((M 30 1) + 14) - 1) / 14 * 14); (let k13 : Nat := f_X1_stateAt M x11; (if (M 30 2) ≤ 0 then M else (let M16 : bM := f_X0_copyFrom M g1 k13; (let M17 : bM := up2 M16 30 1 x11; (let M18 : bM := up2 M17 30 2 ((M17 30 2) - 1); M18)))))) := rfl
theorem p_X1_takeBack_e15 (M : bM) (g1 : Nat) (x11 : Int32) (hx11 : ((((M 30 1) + 14) - 1) - (((M 30 1) + 14) - 1) / 14 * 14) = x11) (k13 : Nat) (hk13 : f_X1_stateAt M x11 = k13) (c14 : (M 30 2) ≤ 0) : f_X1_takeBack M g1 = M := by subst hk13 hx11; exact Eq.trans (u_f_X1_takeBack M g1) (if_pos c14)
theorem p_X1_takeBack_e19 (M : bM) (g1 : Nat) (x11 : Int32) (hx11 : ((((M 30 1) + 14) - 1) - (((M 30 1) + 14) - 1) / 14 * 14) = x11) (k13 : Nat) (hk13 : f_X1_stateAt M x11 = k13) (c14 : ¬ (M 30 2) ≤ 0) (M16 : bM) (hM16 : f_X0_copyFrom M g1 k13 = M16) (M17 : bM) (hM17 : up2 M16 30 1 x11 = M17) (M18 : bM) (hM18 : up2 M17 30 2 ((M17 30 2) - 1) = M18) : f_X1_takeBack M g1 = M18 := by subst hM18 hM17 hM16 hk13 hx11; exact Eq.trans (u_f_X1_takeBack M g1) (if_neg c14)
set_option maxHeartbeats 4000000 in
set_option maxRecDepth 100000 in
theorem c_X1_takeBack (l : Launch) (D : va_G) (E : Nat → ClassId) (o : Nat) (M : bM) (g1 : Nat) (hg1 : isG g1) (hn : vp_in (M 30 1) 14) : Met l yX1_takeBack wsX1_takeBack (rmF 3) (bPc D E [.ref (o + 30), .ref (o + g1)] (fun H => bk D E LRM o M H)) (bQ (aV fun H => ∃ M1 : bM, M1 = f_X1_takeBack M g1 ∧ bk D E LRM o M1 H) (rA o)) 0 0 (rA o) := by
  refine Met.ofW (cc := cX1_takeBack) (maxL := 4) (ret := none) (by decide) rfl ?_
  intro p e s m args below meth c s₁ B hml hv
  obtain ⟨rfl, hB, hK⟩ := hv
  have hx := B.exec
  have hb := B.bytes
  have hr := B.returns
  have hts := atoms_spec (ws := wsX1_takeBack) B.pre
  have hown : s.vm.findClass RX1 = some m.cls := findClass_of_methodNamed B.named
  have hlocks := B.notSynchronized
  have hS : bS (rA o) s.heap s.heap [] := bS.rf
  have hl := lv_entry ([.ref (o + 30), .ref (o + g1)]) (n := 4) (Nat.le_of_ble_eq_true rfl)
  rw [lg_entry_eq]
  generalize (lg_sl ([.ref (o + 30), .ref (o + g1)]) ++ List.replicate (4 - (lg_sl ([.ref (o + 30), .ref (o + g1)])).length) Slot.unset).toArray = ls at hl ⊢
  have hl : lv_has ls 4 [(0, .ref (o + 30)), (1, .ref (o + g1))] := hl
  have hB : bk D E LRM o M s.heap := hB
  have hinX1 : ∀ w ∈ wsX10, w ∈ wsX1_takeBack := by decide +kernel
  refine lv_aload_n hx hb dX1_takeBack_0 rfl (lv_at hl 0 rfl) ?_
  refine b_get (D := D) (E := E) (L := LRM) (o := o) (M := M) (v := .int (M 30 1)) (C := RX1) (T := TX1) (N := 3) hx hb hts hinX1 hown hK.1 hB 30 lay_30 rfl 1 (by decide) (hts (.fieldLink RX1 22 "RiverMeeting$History" "next" "I") (List.mem_of_getElem? (i := 1) rfl)) (fun _ h9 => h9) rfl dX1_takeBack_1 ?_
  refine lv_bipush (v := 14) hx hb dX1_takeBack_4 (by decide) ?_
  refine lv_iadd hx hb dX1_takeBack_6 ?_
  refine lv_iconst (v := 1) hx hb dX1_takeBack_7 (by decide) ?_
  refine lv_isub hx hb dX1_takeBack_8 ?_
  refine lv_bipush (v := 14) hx hb dX1_takeBack_9 (by decide) ?_
  refine lv_irem hx hb dX1_takeBack_11 (by decide) ?_
  refine lv_topi (fun x11 hx11 => ?_)
  refine lv_istore_n (lv' := [(2, .int x11), (0, .ref (o + 30)), (1, .ref (o + g1))]) hx hb dX1_takeBack_12 rfl hl (by decide) rfl (fun ls hl => ?_)
  refine lv_aload_n hx hb dX1_takeBack_13 rfl (lv_at hl 1 rfl) ?_
  refine lv_iload_n hx hb dX1_takeBack_14 rfl (lv_at hl 0 rfl) ?_
  refine b_pR (b_runV (As := [.int x11]) (rest := []) ⟨hx, hb, hml, hown, hts⟩ (c_X1_stateAt l D E o M x11 (by rw [hx11]; exact in_pred14 hn)) (cwV 1 hts gX1_takeBack_X1_stateAt rfl rfl rfl (by decide +kernel) ⟨Nat.le_of_ble_eq_true rfl, Nat.le_of_ble_eq_true rfl⟩) hK (bk_recv hK.1 hB lay_30 rfl) hB rfl hl rfl (Nat.le_of_ble_eq_true rfl) dX1_takeBack_15 ⟨Nat.zero_le _, Nat.zero_le _⟩) hS (fun r12 hr12 locs hS => ?_)
  obtain ⟨k13, hk13⟩ : ∃ y : Nat, y = f_X1_stateAt M x11 := ⟨_, rfl⟩
  rw [← hk13] at hr12; subst hr12
  have hfk13 : isG k13 := by rw [hk13]; exact (isG_stateAt (by rw [hx11]; exact in_pred14 hn))
  refine lv_astore_n (lv' := [(3, .ref (o + k13)), (2, .int x11), (0, .ref (o + 30)), (1, .ref (o + g1))]) hx hb dX1_takeBack_18 rfl hl (by decide) rfl (fun ls hl => ?_)
  refine lv_aload_n hx hb dX1_takeBack_19 rfl (lv_at hl 0 rfl) ?_
  refine lv_ifnull hx hb dX1_takeBack_20 ?_
  refine lv_aload_n hx hb dX1_takeBack_23 rfl (lv_at hl 2 rfl) ?_
  refine b_get (D := D) (E := E) (L := LRM) (o := o) (M := M) (v := .int (M 30 2)) (C := RX1) (T := TX1) (N := 3) hx hb hts hinX1 hown hK.1 hB 30 lay_30 rfl 2 (by decide) (hts (.fieldLink RX1 18 "RiverMeeting$History" "count" "I") (List.mem_of_getElem? (i := 2) rfl)) (fun _ h9 => h9) rfl dX1_takeBack_24 ?_
  refine lv_if_le (tgt := 50) hx hb dX1_takeBack_27 (by decide) (fun c14 => ?_) (fun c14 => ?_)
  · have e15 := p_X1_takeBack_e15 M g1 x11 hx11.symm k13 hk13.symm c14
    exact b_vret hx hb hr hlocks hS ⟨rfl, _, e15.symm, hB⟩ dX1_takeBack_50
  · refine lv_aload_n hx hb dX1_takeBack_30 rfl (lv_at hl 3 rfl) ?_
    refine lv_aload_n hx hb dX1_takeBack_31 rfl (lv_at hl 0 rfl) ?_
    refine b_mV (b_runV (As := [.ref (o + k13)]) (rest := []) ⟨hx, hb, hml, hown, hts⟩ (c_X0_copyFrom l D E o M g1 k13 hg1 hfk13) (cwV 1 hts gX1_takeBack_X0_copyFrom rfl rfl rfl (by decide +kernel) ⟨Nat.le_of_ble_eq_true rfl, Nat.le_of_ble_eq_true rfl⟩) hK (bk_recv hK.1 hB hg1.1 rfl) hB rfl hl rfl (Nat.le_of_ble_eq_true rfl) dX1_takeBack_32 ⟨Nat.zero_le _, Nat.zero_le _⟩) hS (fun q h => h) (fun M16 hM16 H locs hB _ hS => ?_)
    refine lv_aload_n hx hb dX1_takeBack_35 rfl (lv_at hl 2 rfl) ?_
    refine lv_iload_n hx hb dX1_takeBack_36 rfl (lv_at hl 1 rfl) ?_
    refine b_put (D := D) (E := E) (L := LRM) (o := o) (M := M16) (v := x11) (ty := .int) (C := RX1) (T := TX1) (N := 3) hx hb hts hinX1 tyX1 tyX1_ok nmX1 hown hK.1 hB hS 30 (rA_of lay_30) lay_30 rfl 1 (by decide) rfl (hts (.fieldLink RX1 22 "RiverMeeting$History" "next" "I") (List.mem_of_getElem? (i := 1) rfl)) (fun _ h9 => h9) rfl (by decide +kernel) rfl rfl dX1_takeBack_37 (fun M17 hM17 H locs hB _ hS => ?_)
    refine lv_aload_n hx hb dX1_takeBack_40 rfl (lv_at hl 2 rfl) ?_
    refine lv_dup hx hb dX1_takeBack_41 rfl ?_
    refine b_get (D := D) (E := E) (L := LRM) (o := o) (M := M17) (v := .int (M17 30 2)) (C := RX1) (T := TX1) (N := 3) hx hb hts hinX1 hown hK.1 hB 30 lay_30 rfl 2 (by decide) (hts (.fieldLink RX1 18 "RiverMeeting$History" "count" "I") (List.mem_of_getElem? (i := 2) rfl)) (fun _ h9 => h9) rfl dX1_takeBack_42 ?_
    refine lv_iconst (v := 1) hx hb dX1_takeBack_45 (by decide) ?_
    refine lv_isub hx hb dX1_takeBack_46 ?_
    refine b_put (D := D) (E := E) (L := LRM) (o := o) (M := M17) (v := ((M17 30 2) - 1)) (ty := .int) (C := RX1) (T := TX1) (N := 3) hx hb hts hinX1 tyX1 tyX1_ok nmX1 hown hK.1 hB hS 30 (rA_of lay_30) lay_30 rfl 2 (by decide) rfl (hts (.fieldLink RX1 18 "RiverMeeting$History" "count" "I") (List.mem_of_getElem? (i := 2) rfl)) (fun _ h9 => h9) rfl (by decide +kernel) rfl rfl dX1_takeBack_47 (fun M18 hM18 H locs hB _ hS => ?_)
    have e19 := p_X1_takeBack_e19 M g1 x11 hx11.symm k13 hk13.symm c14 M16 hM16.symm M17 hM17.symm M18 hM18.symm
    exact b_vret hx hb hr hlocks hS ⟨rfl, _, e19.symm, hB⟩ dX1_takeBack_50
def lp_X6_withoutLastGroups_5  : Nat → Nat → Int64 → (Int64)
  | 0, i11, x12 => x12
  | n11 + 1, i11, x12 => (let x16 : Int64 := (x12 / 10000); lp_X6_withoutLastGroups_5 n11 (i11 + 1) x16)
theorem u0_lp_X6_withoutLastGroups_5  (i11 : Nat) (x12 : Int64) : lp_X6_withoutLastGroups_5 0 i11 x12 = x12 := rfl
theorem u1_lp_X6_withoutLastGroups_5  (n11 i11 : Nat) (x12 : Int64) : lp_X6_withoutLastGroups_5 (n11 + 1) i11 x12 = (let x16 : Int64 := (x12 / 10000); lp_X6_withoutLastGroups_5 n11 (i11 + 1) x16) := rfl
def f_X6_withoutLastGroups (x1 : Int64) (x2 : Int32) : Int64 := (let x18 : Int64 := (lp_X6_withoutLastGroups_5 x2.toNatClampNeg 0 x1); x18)
theorem u_f_X6_withoutLastGroups (x1 : Int64) (x2 : Int32) : f_X6_withoutLastGroups x1 x2 = (let x18 : Int64 := (lp_X6_withoutLastGroups_5 x2.toNatClampNeg 0 x1); x18) := rfl
theorem p_X6_withoutLastGroups_e14 (x1 : Int64) (x2 : Int32) (x12 : Int64) (i11 : Nat)  : lp_X6_withoutLastGroups_5 0 i11 x12 = x12 := by exact u0_lp_X6_withoutLastGroups_5 i11 x12
theorem p_X6_withoutLastGroups_e17 (x1 : Int64) (x2 : Int32) (x12 : Int64) (i11 : Nat) (n11 : Nat) (x16 : Int64) (hx16 : (x12 / 10000) = x16) : lp_X6_withoutLastGroups_5 (n11 + 1) i11 x12 = lp_X6_withoutLastGroups_5 n11 (i11 + 1) x16 := by subst hx16; exact u1_lp_X6_withoutLastGroups_5 n11 i11 x12
theorem p_X6_withoutLastGroups_e19 (x1 : Int64) (x2 : Int32) (x18 : Int64) (hx18 : (lp_X6_withoutLastGroups_5 x2.toNatClampNeg 0 x1) = x18) : f_X6_withoutLastGroups x1 x2 = x18 := by subst hx18; exact u_f_X6_withoutLastGroups x1 x2
set_option maxHeartbeats 4000000 in
set_option maxRecDepth 100000 in
theorem c_X6_withoutLastGroups (l : Launch) (D : va_G) (E : Nat → ClassId) (x1 : Int64) (x2 : Int32) : Met l yX6_withoutLastGroups wsX6_withoutLastGroups (rmF 0) (bPc D E [.long x1, .int x2] (fun _ => True)) (bQ (aL fun r _ => r = f_X6_withoutLastGroups x1 x2) bNo) 0 0 bNo := by
  refine Met.ofW (cc := cX6_withoutLastGroups) (maxL := 6) (ret := (some .long)) (by decide) rfl ?_
  intro p e s m args below meth c s₁ B hml hv
  obtain ⟨rfl, hB, hK⟩ := hv
  have hx := B.exec
  have hb := B.bytes
  have hr := B.returns
  have hts := atoms_spec (ws := wsX6_withoutLastGroups) B.pre
  have hown : s.vm.findClass RX6 = some m.cls := findClass_of_methodNamed B.named
  have hlocks := B.notSynchronized
  have hS : bS bNo s.heap s.heap [] := bS.rf
  have hl := lv_entry ([.long x1, .int x2]) (n := 6) (Nat.le_of_ble_eq_true rfl)
  rw [lg_entry_eq]
  generalize (lg_sl ([.long x1, .int x2]) ++ List.replicate (6 - (lg_sl ([.long x1, .int x2])).length) Slot.unset).toArray = ls at hl ⊢
  have hl : lv_has ls 6 [(0, .long x1), (2, .int x2)] := hl
  refine lv_lload_n hx hb dX6_withoutLastGroups_0 rfl (lv_at hl 0 rfl) ?_
  refine lv_lstore_n (lv' := [(3, .long x1), (0, .long x1), (2, .int x2)]) hx hb dX6_withoutLastGroups_1 rfl hl (by decide) rfl (fun ls hl => ?_)
  refine lv_iconst (v := 0) hx hb dX6_withoutLastGroups_2 (by decide) ?_
  refine lv_istore (lv' := [(5, .int 0), (3, .long x1), (0, .long x1), (2, .int x2)]) hx hb dX6_withoutLastGroups_3 hl (by decide) rfl (fun ls hl => ?_)
  have lp11 : ∀ (n11 i11 : Nat) (x12 : Int64), i11 + n11 = x2.toNatClampNeg → ∀ (H : Heap) (locs : List Loc), bS bNo s.heap H locs → ∀ ls : Array Slot, lv_has ls 6 [(5, .int (nI i11)), (3, .long x12), (0, .long x1), (2, .int x2)] → (∀ (H : Heap) (locs : List Loc), bS bNo s.heap H locs → ∀ ls : Array Slot, lv_has ls 6 [(3, .long (lp_X6_withoutLastGroups_5 n11 i11 x12)), (0, .long x1), (2, .int x2)] → W p l e (headSpec wsX6_withoutLastGroups (rmF 0)).room s m ([.long x1, .int x2] : List Value).toArray below meth c H locs 0 0 (MQ below (bQ (aL fun r _ => r = f_X6_withoutLastGroups x1 x2) bNo) ([.long x1, .int x2] : List Value).toArray s 0 0 bNo) (F0 m 23 ls [])) → W p l e (headSpec wsX6_withoutLastGroups (rmF 0)).room s m ([.long x1, .int x2] : List Value).toArray below meth c H locs 0 0 (MQ below (bQ (aL fun r _ => r = f_X6_withoutLastGroups x1 x2) bNo) ([.long x1, .int x2] : List Value).toArray s 0 0 bNo) (F0 m 5 ls []) := by
    intro n11
    induction n11 with
    | zero =>
      intro i11 x12 hi11 H locs hS ls hl hexit11
      have hz11 : i11 = x2.toNatClampNeg := by omega
      refine lv_iload hx hb dX6_withoutLastGroups_5 (lv_at hl 0 rfl) ?_
      refine lv_iload_n hx hb dX6_withoutLastGroups_7 rfl (lv_at hl 3 rfl) ?_
      refine lv_icmp_ge (tgt := 23) hx hb dX6_withoutLastGroups_8 (by decide) (fun c13 => ?_) (fun c13 => absurd (by rw [hz11]; exact b_le_N _) c13)
      have e14 := p_X6_withoutLastGroups_e14 x1 x2 x12 i11 
      rw [e14] at hexit11
      exact hexit11 _ _  hS ls (lv_sub hl [1, 2, 3] rfl)
    | succ n11 ih11 =>
      intro i11 x12 hi11 H locs hS ls hl hexit11
      refine lv_iload hx hb dX6_withoutLastGroups_5 (lv_at hl 0 rfl) ?_
      refine lv_iload_n hx hb dX6_withoutLastGroups_7 rfl (lv_at hl 3 rfl) ?_
      refine lv_icmp_ge (tgt := 23) hx hb dX6_withoutLastGroups_8 (by decide) (fun c15 => absurd c15 (b_nle_N (i := i11) (by omega))) (fun c15 => ?_)
      refine lv_lload_n hx hb dX6_withoutLastGroups_11 rfl (lv_at hl 1 rfl) ?_
      refine lv_ldc2 (v := 10000) hx hb hown (hts (.constantLong RX6 296 (10000)) (List.mem_of_getElem? (i := 1) rfl)) dX6_withoutLastGroups_12 ?_
      refine lv_ldiv hx hb dX6_withoutLastGroups_15 (by decide) ?_
      refine lv_topl (fun x16 hx16 => ?_)
      refine lv_lstore_n (lv' := [(3, .long x16), (5, .int (nI i11)), (0, .long x1), (2, .int x2)]) hx hb dX6_withoutLastGroups_16 rfl hl (by decide) rfl (fun ls hl => ?_)
      refine lv_iinc (v := nI (i11 + 1)) (lv' := [(5, .int (nI (i11 + 1))), (3, .long x16), (0, .long x1), (2, .int x2)]) hx hb dX6_withoutLastGroups_17 hl (k := 1) rfl (nI_1 i11) (by decide) rfl (fun ls hl => ?_)
      refine lv_goto (tgt := 5) hx hb dX6_withoutLastGroups_20 (by decide) ?_
      have e17 := p_X6_withoutLastGroups_e17 x1 x2 x12 i11 n11 x16 hx16.symm
      rw [e17] at hexit11
      exact ih11 (i11 + 1) x16 (by omega) _ _ hS ls (lv_sub hl [0, 1, 2, 3] rfl) hexit11
  refine lp11 x2.toNatClampNeg 0 x1 (by omega) _ _ hS ls (lv_sub hl [0, 1, 2, 3] rfl) ?_
  intro H locs hS ls hl
  obtain ⟨x18, hx18⟩ : ∃ y : Int64, y = (lp_X6_withoutLastGroups_5 x2.toNatClampNeg 0 x1) := ⟨_, rfl⟩
  rw [← hx18] at hl
  have hl : lv_has ls 6 [(3, .long x18), (0, .long x1), (2, .int x2)] := hl
  refine lv_lload_n hx hb dX6_withoutLastGroups_23 rfl (lv_at hl 0 rfl) ?_
  have e19 := p_X6_withoutLastGroups_e19 x1 x2 x18 hx18.symm
  exact b_lret hx hb hr hlocks hS ⟨_, rfl, e19.symm⟩ dX6_withoutLastGroups_24
def f_X6_slotOf (M : bM) (x1 : Int32) : Nat := (if x1 = 0 then 172 else 183)
theorem u_f_X6_slotOf (M : bM) (x1 : Int32) : f_X6_slotOf M x1 = (if x1 = 0 then 172 else 183) := rfl
theorem p_X6_slotOf_e12 (M : bM) (x1 : Int32) (c11 : ¬ x1 = 0) : f_X6_slotOf M x1 = 183 := by exact Eq.trans (u_f_X6_slotOf M x1) (if_neg c11)
theorem p_X6_slotOf_e13 (M : bM) (x1 : Int32) (c11 : x1 = 0) : f_X6_slotOf M x1 = 172 := by exact Eq.trans (u_f_X6_slotOf M x1) (if_pos c11)
set_option maxHeartbeats 4000000 in
set_option maxRecDepth 100000 in
theorem c_X6_slotOf (l : Launch) (D : va_G) (E : Nat → ClassId) (o : Nat) (M : bM) (x1 : Int32) : Met l yX6_slotOf wsX6_slotOf (rmF 0) (bPc D E [.ref (o + 0), .int x1] (fun H => bk D E LRM o M H)) (bQ (aR fun r _ => r = o + f_X6_slotOf M x1) bNo) 0 0 bNo := by
  refine Met.ofW (cc := cX6_slotOf) (maxL := 2) (ret := (some (.object "RiverMeeting$Slot"))) (by decide) rfl ?_
  intro p e s m args below meth c s₁ B hml hv
  obtain ⟨rfl, hB, hK⟩ := hv
  have hx := B.exec
  have hb := B.bytes
  have hr := B.returns
  have hts := atoms_spec (ws := wsX6_slotOf) B.pre
  have hown : s.vm.findClass RX6 = some m.cls := findClass_of_methodNamed B.named
  have hlocks := B.notSynchronized
  have hS : bS bNo s.heap s.heap [] := bS.rf
  have hl := lv_entry ([.ref (o + 0), .int x1]) (n := 2) (Nat.le_of_ble_eq_true rfl)
  rw [lg_entry_eq]
  generalize (lg_sl ([.ref (o + 0), .int x1]) ++ List.replicate (2 - (lg_sl ([.ref (o + 0), .int x1])).length) Slot.unset).toArray = ls at hl ⊢
  have hl : lv_has ls 2 [(0, .ref (o + 0)), (1, .int x1)] := hl
  have hB : bk D E LRM o M s.heap := hB
  have hinX6 : ∀ w ∈ wsX60, w ∈ wsX6_slotOf := by decide +kernel
  refine lv_iload_n hx hb dX6_slotOf_0 rfl (lv_at hl 1 rfl) ?_
  refine lv_if_ne (tgt := 11) hx hb dX6_slotOf_1 (by decide) (fun c11 => ?_) (fun c11 => ?_)
  · refine lv_aload_n hx hb dX6_slotOf_11 rfl (lv_at hl 0 rfl) ?_
    refine b_get (D := D) (E := E) (L := LRM) (o := o) (M := M) (v := .ref (o + 183)) (C := RX6) (T := TX6) (N := 7) hx hb hts hinX6 hown hK.1 hB 0 lay_0 rfl 6 (by decide) (hts (.fieldLink RX6 47 "RiverMeeting" "secondSlot" "LRiverMeeting$Slot;") (List.mem_of_getElem? (i := 2) rfl)) (fun _ h9 => h9) rfl dX6_slotOf_12 ?_
    have e12 := p_X6_slotOf_e12 M x1 c11
    exact b_aret hx hb hr (Or.inl ⟨_, rfl⟩) hlocks hS ⟨_, rfl, by rw [e12]⟩ dX6_slotOf_15
  · refine lv_aload_n hx hb dX6_slotOf_4 rfl (lv_at hl 0 rfl) ?_
    refine b_get (D := D) (E := E) (L := LRM) (o := o) (M := M) (v := .ref (o + 172)) (C := RX6) (T := TX6) (N := 7) hx hb hts hinX6 hown hK.1 hB 0 lay_0 rfl 5 (by decide) (hts (.fieldLink RX6 43 "RiverMeeting" "firstSlot" "LRiverMeeting$Slot;") (List.mem_of_getElem? (i := 1) rfl)) (fun _ h9 => h9) rfl dX6_slotOf_5 ?_
    refine lv_goto (tgt := 15) hx hb dX6_slotOf_8 (by decide) ?_
    have e13 := p_X6_slotOf_e13 M x1 c11
    exact b_aret hx hb hr (Or.inl ⟨_, rfl⟩) hlocks hS ⟨_, rfl, by rw [e13]⟩ dX6_slotOf_15
theorem isD_slotOf {M : bM} {x : Int32} : isD (f_X6_slotOf M x) := by
  rw [u_f_X6_slotOf]
  by_cases c : x = 0
  · rw [if_pos c]; exact isD_172
  · rw [if_neg c]; exact isD_183
