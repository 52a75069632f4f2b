def lp_X2_beginAt_2 (w : Nat) : Nat → Nat → bM → (bM)
  | 0, i1, M2 => M2
  | n1 + 1, i1, M2 => (let M6 : bM := up2 M2 (w + 3) i1 0; lp_X2_beginAt_2 w n1 (i1 + 1) M6)
theorem u0_lp_X2_beginAt_2 (w : Nat) (i1 : Nat) (M2 : bM) : lp_X2_beginAt_2 w 0 i1 M2 = M2 := rfl
theorem u1_lp_X2_beginAt_2 (w : Nat) (n1 i1 : Nat) (M2 : bM) : lp_X2_beginAt_2 w (n1 + 1) i1 M2 = (let M6 : bM := up2 M2 (w + 3) i1 0; lp_X2_beginAt_2 w n1 (i1 + 1) M6) := rfl
def f_X2_beginAt (M : bM) (w : Nat) (x1 : Int32) : bM := (let M8 : bM := (lp_X2_beginAt_2 w 64 0 M); (let M9 : bM := up2 M8 w 3 0; (let M10 : bM := up2 M9 w 4 0; (let M11 : bM := up2 M10 w 5 0; (let M12 : bM := f_X2_flowTo M11 w x1; M12)))))
theorem u_f_X2_beginAt (M : bM) (w : Nat) (x1 : Int32) : f_X2_beginAt M w x1 = (let M8 : bM := (lp_X2_beginAt_2 w 64 0 M); (let M9 : bM := up2 M8 w 3 0; (let M10 : bM := up2 M9 w 4 0; (let M11 : bM := up2 M10 w 5 0; (let M12 : bM := f_X2_flowTo M11 w x1; M12))))) := rfl
theorem p_X2_beginAt_e4 (M : bM) (w : Nat) (x1 : Int32) (M2 : bM) (i1 : Nat)  : lp_X2_beginAt_2 w 0 i1 M2 = M2 := by exact u0_lp_X2_beginAt_2 w i1 M2
theorem p_X2_beginAt_e7 (M : bM) (w : Nat) (x1 : Int32) (M2 : bM) (i1 : Nat) (n1 : Nat) (M6 : bM) (hM6 : up2 M2 (w + 3) i1 0 = M6) : lp_X2_beginAt_2 w (n1 + 1) i1 M2 = lp_X2_beginAt_2 w n1 (i1 + 1) M6 := by subst hM6; exact u1_lp_X2_beginAt_2 w n1 i1 M2
theorem p_X2_beginAt_e13 (M : bM) (w : Nat) (x1 : Int32) (M8 : bM) (hM8 : (lp_X2_beginAt_2 w 64 0 M) = M8) (M9 : bM) (hM9 : up2 M8 w 3 0 = M9) (M10 : bM) (hM10 : up2 M9 w 4 0 = M10) (M11 : bM) (hM11 : up2 M10 w 5 0 = M11) (M12 : bM) (hM12 : f_X2_flowTo M11 w x1 = M12) : f_X2_beginAt M w x1 = M12 := by subst hM12 hM11 hM10 hM9 hM8; exact u_f_X2_beginAt M w x1
set_option maxHeartbeats 4000000 in
set_option maxRecDepth 100000 in
theorem c_X2_beginAt (l : Launch) (D : va_G) (E : Nat → ClassId) (o : Nat) (M : bM) (w : Nat) (x1 : Int32) (hw : isS w) : Met l yX2_beginAt wsX2_beginAt (rmF 2) (bPc D E [.ref (o + w), .int x1] (fun H => bk D E LRM o M H)) (bQ (aV fun H => ∃ M1 : bM, M1 = f_X2_beginAt M w x1 ∧ bk D E LRM o M1 H) (rA o)) 0 0 (rA o) := by
  refine Met.ofW (cc := cX2_beginAt) (maxL := 3) (ret := none) (by decide) rfl ?_
  intro p e s m args below meth c s₁ B hml hv
  obtain ⟨rfl, hB, hK⟩ := hv
  have hx := B.exec
  have hb := B.bytes
  have hr := B.returns
  have hts := atoms_spec (ws := wsX2_beginAt) B.pre
  have hown : s.vm.findClass RX2 = some m.cls := findClass_of_methodNamed B.named
  have hlocks := B.notSynchronized
  have hS : bS (rA o) s.heap s.heap [] := bS.rf
  have hl := lv_entry ([.ref (o + w), .int x1]) (n := 3) (Nat.le_of_ble_eq_true rfl)
  rw [lg_entry_eq]
  generalize (lg_sl ([.ref (o + w), .int x1]) ++ List.replicate (3 - (lg_sl ([.ref (o + w), .int x1])).length) Slot.unset).toArray = ls at hl ⊢
  have hl : lv_has ls 3 [(0, .ref (o + w)), (1, .int x1)] := hl
  have hB : bk D E LRM o M s.heap := hB
  have hinX2 : ∀ w ∈ wsX20, w ∈ wsX2_beginAt := by decide +kernel
  refine lv_iconst (v := 0) hx hb dX2_beginAt_0 (by decide) ?_
  refine lv_istore_n (lv' := [(2, .int 0), (0, .ref (o + w)), (1, .int x1)]) hx hb dX2_beginAt_1 rfl hl (by decide) rfl (fun ls hl => ?_)
  have lp1 : ∀ (n1 i1 : Nat) (M2 : bM), i1 + n1 = 64 → ∀ (H : Heap) (locs : List Loc), bk D E LRM o M2 H → bS (rA o) s.heap H locs → ∀ ls : Array Slot, lv_has ls 3 [(2, .int (nI i1)), (0, .ref (o + w)), (1, .int x1)] → (∀ (H : Heap) (locs : List Loc), bk D E LRM o (lp_X2_beginAt_2 w n1 i1 M2) H → bS (rA o) s.heap H locs → ∀ ls : Array Slot, lv_has ls 3 [(0, .ref (o + w)), (1, .int x1)] → W p l e (headSpec wsX2_beginAt (rmF 2)).room s m ([.ref (o + w), .int x1] : List Value).toArray below meth c H locs 0 0 (MQ below (bQ (aV fun H => ∃ M1 : bM, M1 = f_X2_beginAt M w x1 ∧ bk D E LRM o M1 H) (rA o)) ([.ref (o + w), .int x1] : List Value).toArray s 0 0 (rA o)) (F0 m 21 ls [])) → W p l e (headSpec wsX2_beginAt (rmF 2)).room s m ([.ref (o + w), .int x1] : List Value).toArray below meth c H locs 0 0 (MQ below (bQ (aV fun H => ∃ M1 : bM, M1 = f_X2_beginAt M w x1 ∧ bk D E LRM o M1 H) (rA o)) ([.ref (o + w), .int x1] : List Value).toArray s 0 0 (rA o)) (F0 m 2 ls []) := by
    intro n1
    induction n1 with
    | zero =>
      intro i1 M2 hi1 H locs hB hS ls hl hexit1
      have hz1 : i1 = 64 := by omega
      refine lv_iload_n hx hb dX2_beginAt_2 rfl (lv_at hl 0 rfl) ?_
      refine lv_bipush (v := 64) hx hb dX2_beginAt_3 (by decide) ?_
      refine lv_icmp_ge (tgt := 21) hx hb dX2_beginAt_5 (by decide) (fun c3 => ?_) (fun c3 => absurd (by rw [hz1]; exact Int32.le_refl _) c3)
      have e4 := p_X2_beginAt_e4 M w x1 M2 i1 
      rw [e4] at hexit1
      exact hexit1 _ _  hB hS ls (lv_sub hl [1, 2] rfl)
    | succ n1 ih1 =>
      intro i1 M2 hi1 H locs hB hS ls hl hexit1
      refine lv_iload_n hx hb dX2_beginAt_2 rfl (lv_at hl 0 rfl) ?_
      refine lv_bipush (v := 64) hx hb dX2_beginAt_3 (by decide) ?_
      refine lv_icmp_ge (tgt := 21) hx hb dX2_beginAt_5 (by decide) (fun c5 => absurd c5 (nI_ge (a := i1) (b := 64) (by omega) (by decide))) (fun c5 => ?_)
      refine lv_aload_n hx hb dX2_beginAt_8 rfl (lv_at hl 1 rfl) ?_
      refine b_get (D := D) (E := E) (L := LRM) (o := o) (M := M2) (v := .ref (o + (w + 3))) (C := RX2) (T := TX2) (N := 8) hx hb hts hinX2 hown hK.1 hB w hw.1 rfl 2 (by decide) (hts (.fieldLink RX2 18 "RiverMeeting$Side" "bed" "[Z") (List.mem_of_getElem? (i := 1) rfl)) (fun _ h9 => h9) rfl dX2_beginAt_9 ?_
      refine lv_iload_n hx hb dX2_beginAt_12 rfl (lv_at hl 0 rfl) ?_
      refine lv_iconst (v := 0) hx hb dX2_beginAt_13 (by decide) ?_
      refine b_zast hx hb hK.1 hB hS (w + 3) (rA_of hw.2.2.2) hw.2.2.2 (vp_in_nI (by omega) (by decide)) dX2_beginAt_14 (fun M6 hM6 H locs hB _ hS => ?_)
      rw [show vp_nar .boolean 0 = 0 from rfl] at hM6
      rw [nI_clamp (n := i1) (by omega)] at hM6
      refine lv_iinc (v := nI (i1 + 1)) (lv' := [(2, .int (nI (i1 + 1))), (0, .ref (o + w)), (1, .int x1)]) hx hb dX2_beginAt_15 hl (k := 0) rfl (nI_1 i1) (by decide) rfl (fun ls hl => ?_)
      refine lv_goto (tgt := 2) hx hb dX2_beginAt_18 (by decide) ?_
      have e7 := p_X2_beginAt_e7 M w x1 M2 i1 n1 M6 hM6.symm
      rw [e7] at hexit1
      exact ih1 (i1 + 1) M6 (by omega) _ _ hB hS ls (lv_sub hl [0, 1, 2] rfl) hexit1
  refine lp1 64 0 M (by omega) _ _ hB hS ls (lv_sub hl [0, 1, 2] rfl) ?_
  intro H locs hB hS ls hl
  obtain ⟨M8, hM8⟩ : ∃ y : bM, y = (lp_X2_beginAt_2 w 64 0 M) := ⟨_, rfl⟩
  rw [← hM8] at hB
  have hl : lv_has ls 3 [(0, .ref (o + w)), (1, .int x1)] := hl
  refine lv_aload_n hx hb dX2_beginAt_21 rfl (lv_at hl 0 rfl) ?_
  refine lv_iconst (v := 0) hx hb dX2_beginAt_22 (by decide) ?_
  refine b_put (D := D) (E := E) (L := LRM) (o := o) (M := M8) (v := 0) (ty := .int) (C := RX2) (T := TX2) (N := 8) hx hb hts hinX2 tyX2 tyX2_ok nmX2 hown hK.1 hB hS w (rA_of hw.1) hw.1 rfl 3 (by decide) rfl (hts (.fieldLink RX2 22 "RiverMeeting$Side" "length" "I") (List.mem_of_getElem? (i := 2) rfl)) (fun _ h9 => h9) rfl (by decide +kernel) rfl rfl dX2_beginAt_23 (fun M9 hM9 H locs hB _ hS => ?_)
  refine lv_aload_n hx hb dX2_beginAt_26 rfl (lv_at hl 0 rfl) ?_
  refine lv_iconst (v := 0) hx hb dX2_beginAt_27 (by decide) ?_
  refine b_put (D := D) (E := E) (L := LRM) (o := o) (M := M9) (v := 0) (ty := .int) (C := RX2) (T := TX2) (N := 8) hx hb hts hinX2 tyX2 tyX2_ok nmX2 hown hK.1 hB hS w (rA_of hw.1) hw.1 rfl 4 (by decide) rfl (hts (.fieldLink RX2 26 "RiverMeeting$Side" "paid" "I") (List.mem_of_getElem? (i := 3) rfl)) (fun _ h9 => h9) rfl (by decide +kernel) rfl rfl dX2_beginAt_28 (fun M10 hM10 H locs hB _ hS => ?_)
  refine lv_aload_n hx hb dX2_beginAt_31 rfl (lv_at hl 0 rfl) ?_
  refine lv_iconst (v := 0) hx hb dX2_beginAt_32 (by decide) ?_
  refine b_put (D := D) (E := E) (L := LRM) (o := o) (M := M10) (v := 0) (ty := .int) (C := RX2) (T := TX2) (N := 8) hx hb hts hinX2 tyX2 tyX2_ok nmX2 hown hK.1 hB hS w (rA_of hw.1) hw.1 rfl 5 (by decide) rfl (hts (.fieldLink RX2 29 "RiverMeeting$Side" "built" "I") (List.mem_of_getElem? (i := 4) rfl)) (fun _ h9 => h9) rfl (by decide +kernel) rfl rfl dX2_beginAt_33 (fun M11 hM11 H locs hB _ hS => ?_)
  refine lv_aload_n hx hb dX2_beginAt_36 rfl (lv_at hl 0 rfl) ?_
  refine lv_iload_n hx hb dX2_beginAt_37 rfl (lv_at hl 1 rfl) ?_
  refine b_mV (b_runV (As := [.int x1]) (rest := []) ⟨hx, hb, hml, hown, hts⟩ (c_X2_flowTo l D E o M11 w x1 hw) (cwV 1 hts gX2_beginAt_X2_flowTo rfl rfl rfl (by decide +kernel) ⟨Nat.le_of_ble_eq_true rfl, Nat.le_of_ble_eq_true rfl⟩) hK (bk_recv hK.1 hB hw.1 rfl) hB rfl hl rfl (Nat.le_of_ble_eq_true rfl) dX2_beginAt_38 ⟨Nat.zero_le _, Nat.zero_le _⟩) hS (fun q h => h) (fun M12 hM12 H locs hB _ hS => ?_)
  have e13 := p_X2_beginAt_e13 M w x1 M8 hM8.symm M9 hM9.symm M10 hM10.symm M11 hM11.symm M12 hM12.symm
  exact b_vret hx hb hr hlocks hS ⟨rfl, _, e13.symm, hB⟩ dX2_beginAt_41
def lp_X2_copyFrom_24 (w : Nat) (w1 : Nat) : Nat → Nat → bM → (bM)
  | 0, i3, M4 => M4
  | n3 + 1, i3, M4 => (let M8 : bM := up2 M4 (w + 3) i3 (vp_nar .boolean (M4 (w1 + 3) i3)); lp_X2_copyFrom_24 w w1 n3 (i3 + 1) M8)
theorem u0_lp_X2_copyFrom_24 (w : Nat) (w1 : Nat) (i3 : Nat) (M4 : bM) : lp_X2_copyFrom_24 w w1 0 i3 M4 = M4 := rfl
theorem u1_lp_X2_copyFrom_24 (w : Nat) (w1 : Nat) (n3 i3 : Nat) (M4 : bM) : lp_X2_copyFrom_24 w w1 (n3 + 1) i3 M4 = (let M8 : bM := up2 M4 (w + 3) i3 (vp_nar .boolean (M4 (w1 + 3) i3)); lp_X2_copyFrom_24 w w1 n3 (i3 + 1) M8) := rfl
def f_X2_copyFrom (M : bM) (w : Nat) (w1 : Nat) : bM := (let M1 : bM := f_X6_copyRow M (w1 + 1) (w + 1); (let M2 : bM := f_X6_copyRow M1 (w1 + 2) (w + 2); (let M10 : bM := (lp_X2_copyFrom_24 w w1 64 0 M2); (let M11 : bM := up2 M10 w 3 (M10 w1 3); (let M12 : bM := up2 M11 w 4 (M11 w1 4); (let M13 : bM := up2 M12 w 5 (M12 w1 5); (let M14 : bM := up2 M13 w 6 (M13 w1 6); (let M15 : bM := up2 M14 w 7 (M14 w1 7); M15))))))))
theorem u_f_X2_copyFrom (M : bM) (w : Nat) (w1 : Nat) : f_X2_copyFrom M w w1 = (let M1 : bM := f_X6_copyRow M (w1 + 1) (w + 1); (let M2 : bM := f_X6_copyRow M1 (w1 + 2) (w + 2); (let M10 : bM := (lp_X2_copyFrom_24 w w1 64 0 M2); (let M11 : bM := up2 M10 w 3 (M10 w1 3); (let M12 : bM := up2 M11 w 4 (M11 w1 4); (let M13 : bM := up2 M12 w 5 (M12 w1 5); (let M14 : bM := up2 M13 w 6 (M13 w1 6); (let M15 : bM := up2 M14 w 7 (M14 w1 7); M15)))))))) := rfl
theorem p_X2_copyFrom_e6 (M : bM) (w : Nat) (w1 : Nat) (M1 : bM) (M2 : bM) (M4 : bM) (i3 : Nat)  : lp_X2_copyFrom_24 w w1 0 i3 M4 = M4 := by exact u0_lp_X2_copyFrom_24 w w1 i3 M4
theorem p_X2_copyFrom_e9 (M : bM) (w : Nat) (w1 : Nat) (M1 : bM) (M2 : bM) (M4 : bM) (i3 : Nat) (n3 : Nat) (M8 : bM) (hM8 : up2 M4 (w + 3) i3 (vp_nar .boolean (M4 (w1 + 3) i3)) = M8) : lp_X2_copyFrom_24 w w1 (n3 + 1) i3 M4 = lp_X2_copyFrom_24 w w1 n3 (i3 + 1) M8 := by subst hM8; exact u1_lp_X2_copyFrom_24 w w1 n3 i3 M4
theorem p_X2_copyFrom_e16 (M : bM) (w : Nat) (w1 : Nat) (M1 : bM) (hM1 : f_X6_copyRow M (w1 + 1) (w + 1) = M1) (M2 : bM) (hM2 : f_X6_copyRow M1 (w1 + 2) (w + 2) = M2) (M10 : bM) (hM10 : (lp_X2_copyFrom_24 w w1 64 0 M2) = M10) (M11 : bM) (hM11 : up2 M10 w 3 (M10 w1 3) = M11) (M12 : bM) (hM12 : up2 M11 w 4 (M11 w1 4) = M12) (M13 : bM) (hM13 : up2 M12 w 5 (M12 w1 5) = M13) (M14 : bM) (hM14 : up2 M13 w 6 (M13 w1 6) = M14) (M15 : bM) (hM15 : up2 M14 w 7 (M14 w1 7) = M15) : f_X2_copyFrom M w w1 = M15 := by subst hM15 hM14 hM13 hM12 hM11 hM10 hM2 hM1; exact u_f_X2_copyFrom M w w1
set_option maxHeartbeats 4000000 in
set_option maxRecDepth 100000 in
theorem c_X2_copyFrom (l : Launch) (D : va_G) (E : Nat → ClassId) (o : Nat) (M : bM) (w : Nat) (w1 : Nat) (hw : isS w) (hw1 : isS w1) : Met l yX2_copyFrom wsX2_copyFrom (rmF 1) (bPc D E [.ref (o + w), .ref (o + w1)] (fun H => bk D E LRM o M H)) (bQ (aV fun H => ∃ M1 : bM, M1 = f_X2_copyFrom M w w1 ∧ bk D E LRM o M1 H) (rA o)) 0 0 (rA o) := by
  refine Met.ofW (cc := cX2_copyFrom) (maxL := 3) (ret := none) (by decide) rfl ?_
  intro p e s m args below meth c s₁ B hml hv
  obtain ⟨rfl, hB, hK⟩ := hv
  have hx := B.exec
  have hb := B.bytes
  have hr := B.returns
  have hts := atoms_spec (ws := wsX2_copyFrom) B.pre
  have hown : s.vm.findClass RX2 = some m.cls := findClass_of_methodNamed B.named
  have hlocks := B.notSynchronized
  have hS : bS (rA o) s.heap s.heap [] := bS.rf
  have hl := lv_entry ([.ref (o + w), .ref (o + w1)]) (n := 3) (Nat.le_of_ble_eq_true rfl)
  rw [lg_entry_eq]
  generalize (lg_sl ([.ref (o + w), .ref (o + w1)]) ++ List.replicate (3 - (lg_sl ([.ref (o + w), .ref (o + w1)])).length) Slot.unset).toArray = ls at hl ⊢
  have hl : lv_has ls 3 [(0, .ref (o + w)), (1, .ref (o + w1))] := hl
  have hB : bk D E LRM o M s.heap := hB
  have hinX2 : ∀ w ∈ wsX20, w ∈ wsX2_copyFrom := by decide +kernel
  refine lv_aload_n hx hb dX2_copyFrom_0 rfl (lv_at hl 1 rfl) ?_
  refine b_get (D := D) (E := E) (L := LRM) (o := o) (M := M) (v := .ref (o + (w1 + 1))) (C := RX2) (T := TX2) (N := 8) hx hb hts hinX2 hown hK.1 hB w1 hw1.1 rfl 0 (by decide) (hts (.fieldLink RX2 9 "RiverMeeting$Side" "costs" "[I") (List.mem_of_getElem? (i := 1) rfl)) (fun _ h9 => h9) rfl dX2_copyFrom_1 ?_
  refine lv_aload_n hx hb dX2_copyFrom_4 rfl (lv_at hl 0 rfl) ?_
  refine b_get (D := D) (E := E) (L := LRM) (o := o) (M := M) (v := .ref (o + (w + 1))) (C := RX2) (T := TX2) (N := 8) hx hb hts hinX2 hown hK.1 hB w hw.1 rfl 0 (by decide) (hts (.fieldLink RX2 9 "RiverMeeting$Side" "costs" "[I") (List.mem_of_getElem? (i := 1) rfl)) (fun _ h9 => h9) rfl dX2_copyFrom_5 ?_
  refine b_mV (b_runSN (As := [.ref (o + (w1 + 1)), .ref (o + (w + 1))]) (rest := []) ⟨hx, hb, hml, hown, hts⟩ (c_X6_copyRow l D E o M (w1 + 1) (w + 1) hw1.2.1 hw.2.1) ⟨va_cnB (host := "RiverMeeting") 2 hts gX2_copyFrom_X6_copyRow_n43 rfl rfl rfl (hK.2 4 _ rfl) (hts (.initialized RX6) (List.mem_of_getElem? (i := 10) rfl)) (by decide +kernel) ⟨Nat.le_of_ble_eq_true rfl, Nat.le_of_ble_eq_true rfl⟩, (hts (.static yX6_copyRow) (List.mem_of_getElem? (i := 9) rfl)), trivial⟩ hK hB rfl hl rfl (Nat.le_of_ble_eq_true rfl) dX2_copyFrom_8 ⟨Nat.zero_le _, Nat.zero_le _⟩) hS (fun q h => h) (fun M1 hM1 H locs hB _ hS => ?_)
  refine lv_aload_n hx hb dX2_copyFrom_11 rfl (lv_at hl 1 rfl) ?_
  refine b_get (D := D) (E := E) (L := LRM) (o := o) (M := M1) (v := .ref (o + (w1 + 2))) (C := RX2) (T := TX2) (N := 8) hx hb hts hinX2 hown hK.1 hB w1 hw1.1 rfl 1 (by decide) (hts (.fieldLink RX2 15 "RiverMeeting$Side" "places" "[I") (List.mem_of_getElem? (i := 2) rfl)) (fun _ h9 => h9) rfl dX2_copyFrom_12 ?_
  refine lv_aload_n hx hb dX2_copyFrom_15 rfl (lv_at hl 0 rfl) ?_
  refine b_get (D := D) (E := E) (L := LRM) (o := o) (M := M1) (v := .ref (o + (w + 2))) (C := RX2) (T := TX2) (N := 8) hx hb hts hinX2 hown hK.1 hB w hw.1 rfl 1 (by decide) (hts (.fieldLink RX2 15 "RiverMeeting$Side" "places" "[I") (List.mem_of_getElem? (i := 2) rfl)) (fun _ h9 => h9) rfl dX2_copyFrom_16 ?_
  refine b_mV (b_runSN (As := [.ref (o + (w1 + 2)), .ref (o + (w + 2))]) (rest := []) ⟨hx, hb, hml, hown, hts⟩ (c_X6_copyRow l D E o M1 (w1 + 2) (w + 2) hw1.2.2.1 hw.2.2.1) ⟨va_cnB (host := "RiverMeeting") 2 hts gX2_copyFrom_X6_copyRow_n43 rfl rfl rfl (hK.2 4 _ rfl) (hts (.initialized RX6) (List.mem_of_getElem? (i := 10) rfl)) (by decide +kernel) ⟨Nat.le_of_ble_eq_true rfl, Nat.le_of_ble_eq_true rfl⟩, (hts (.static yX6_copyRow) (List.mem_of_getElem? (i := 9) rfl)), trivial⟩ hK hB rfl hl rfl (Nat.le_of_ble_eq_true rfl) dX2_copyFrom_19 ⟨Nat.zero_le _, Nat.zero_le _⟩) hS (fun q h => h) (fun M2 hM2 H locs hB _ hS => ?_)
  refine lv_iconst (v := 0) hx hb dX2_copyFrom_22 (by decide) ?_
  refine lv_istore_n (lv' := [(2, .int 0), (0, .ref (o + w)), (1, .ref (o + w1))]) hx hb dX2_copyFrom_23 rfl hl (by decide) rfl (fun ls hl => ?_)
  have lp3 : ∀ (n3 i3 : Nat) (M4 : bM), i3 + n3 = 64 → ∀ (H : Heap) (locs : List Loc), bk D E LRM o M4 H → bS (rA o) s.heap H locs → ∀ ls : Array Slot, lv_has ls 3 [(2, .int (nI i3)), (0, .ref (o + w)), (1, .ref (o + w1))] → (∀ (H : Heap) (locs : List Loc), bk D E LRM o (lp_X2_copyFrom_24 w w1 n3 i3 M4) H → bS (rA o) s.heap H locs → ∀ ls : Array Slot, lv_has ls 3 [(0, .ref (o + w)), (1, .ref (o + w1))] → W p l e (headSpec wsX2_copyFrom (rmF 1)).room s m ([.ref (o + w), .ref (o + w1)] : List Value).toArray below meth c H locs 0 0 (MQ below (bQ (aV fun H => ∃ M1 : bM, M1 = f_X2_copyFrom M w w1 ∧ bk D E LRM o M1 H) (rA o)) ([.ref (o + w), .ref (o + w1)] : List Value).toArray s 0 0 (rA o)) (F0 m 48 ls [])) → W p l e (headSpec wsX2_copyFrom (rmF 1)).room s m ([.ref (o + w), .ref (o + w1)] : List Value).toArray below meth c H locs 0 0 (MQ below (bQ (aV fun H => ∃ M1 : bM, M1 = f_X2_copyFrom M w w1 ∧ bk D E LRM o M1 H) (rA o)) ([.ref (o + w), .ref (o + w1)] : List Value).toArray s 0 0 (rA o)) (F0 m 24 ls []) := by
    intro n3
    induction n3 with
    | zero =>
      intro i3 M4 hi3 H locs hB hS ls hl hexit3
      have hz3 : i3 = 64 := by omega
      refine lv_iload_n hx hb dX2_copyFrom_24 rfl (lv_at hl 0 rfl) ?_
      refine lv_bipush (v := 64) hx hb dX2_copyFrom_25 (by decide) ?_
      refine lv_icmp_ge (tgt := 48) hx hb dX2_copyFrom_27 (by decide) (fun c5 => ?_) (fun c5 => absurd (by rw [hz3]; exact Int32.le_refl _) c5)
      have e6 := p_X2_copyFrom_e6 M w w1 M1 M2 M4 i3 
      rw [e6] at hexit3
      exact hexit3 _ _  hB hS ls (lv_sub hl [1, 2] rfl)
    | succ n3 ih3 =>
      intro i3 M4 hi3 H locs hB hS ls hl hexit3
      refine lv_iload_n hx hb dX2_copyFrom_24 rfl (lv_at hl 0 rfl) ?_
      refine lv_bipush (v := 64) hx hb dX2_copyFrom_25 (by decide) ?_
      refine lv_icmp_ge (tgt := 48) hx hb dX2_copyFrom_27 (by decide) (fun c7 => absurd c7 (nI_ge (a := i3) (b := 64) (by omega) (by decide))) (fun c7 => ?_)
      refine lv_aload_n hx hb dX2_copyFrom_30 rfl (lv_at hl 1 rfl) ?_
      refine b_get (D := D) (E := E) (L := LRM) (o := o) (M := M4) (v := .ref (o + (w + 3))) (C := RX2) (T := TX2) (N := 8) hx hb hts hinX2 hown hK.1 hB w hw.1 rfl 2 (by decide) (hts (.fieldLink RX2 18 "RiverMeeting$Side" "bed" "[Z") (List.mem_of_getElem? (i := 3) rfl)) (fun _ h9 => h9) rfl dX2_copyFrom_31 ?_
      refine lv_iload_n hx hb dX2_copyFrom_34 rfl (lv_at hl 0 rfl) ?_
      refine lv_aload_n hx hb dX2_copyFrom_35 rfl (lv_at hl 2 rfl) ?_
      refine b_get (D := D) (E := E) (L := LRM) (o := o) (M := M4) (v := .ref (o + (w1 + 3))) (C := RX2) (T := TX2) (N := 8) hx hb hts hinX2 hown hK.1 hB w1 hw1.1 rfl 2 (by decide) (hts (.fieldLink RX2 18 "RiverMeeting$Side" "bed" "[Z") (List.mem_of_getElem? (i := 3) rfl)) (fun _ h9 => h9) rfl dX2_copyFrom_36 ?_
      refine lv_iload_n hx hb dX2_copyFrom_39 rfl (lv_at hl 0 rfl) ?_
      refine b_zald hx hb hK.1 hB (w1 + 3) hw1.2.2.2 (vp_in_nI (by omega) (by decide)) dX2_copyFrom_40 ?_
      rw [nI_clamp (n := i3) (by omega)]
      refine b_zast hx hb hK.1 hB hS (w + 3) (rA_of hw.2.2.2) hw.2.2.2 (vp_in_nI (by omega) (by decide)) dX2_copyFrom_41 (fun M8 hM8 H locs hB _ hS => ?_)
      rw [nI_clamp (n := i3) (by omega)] at hM8
      refine lv_iinc (v := nI (i3 + 1)) (lv' := [(2, .int (nI (i3 + 1))), (0, .ref (o + w)), (1, .ref (o + w1))]) hx hb dX2_copyFrom_42 hl (k := 0) rfl (nI_1 i3) (by decide) rfl (fun ls hl => ?_)
      refine lv_goto (tgt := 24) hx hb dX2_copyFrom_45 (by decide) ?_
      have e9 := p_X2_copyFrom_e9 M w w1 M1 M2 M4 i3 n3 M8 hM8.symm
      rw [e9] at hexit3
      exact ih3 (i3 + 1) M8 (by omega) _ _ hB hS ls (lv_sub hl [0, 1, 2] rfl) hexit3
  refine lp3 64 0 M2 (by omega) _ _ hB hS ls (lv_sub hl [0, 1, 2] rfl) ?_
  intro H locs hB hS ls hl
  obtain ⟨M10, hM10⟩ : ∃ y : bM, y = (lp_X2_copyFrom_24 w w1 64 0 M2) := ⟨_, rfl⟩
  rw [← hM10] at hB
  have hl : lv_has ls 3 [(0, .ref (o + w)), (1, .ref (o + w1))] := hl
  refine lv_aload_n hx hb dX2_copyFrom_48 rfl (lv_at hl 0 rfl) ?_
  refine lv_aload_n hx hb dX2_copyFrom_49 rfl (lv_at hl 1 rfl) ?_
  refine b_get (D := D) (E := E) (L := LRM) (o := o) (M := M10) (v := .int (M10 w1 3)) (C := RX2) (T := TX2) (N := 8) hx hb hts hinX2 hown hK.1 hB w1 hw1.1 rfl 3 (by decide) (hts (.fieldLink RX2 22 "RiverMeeting$Side" "length" "I") (List.mem_of_getElem? (i := 4) rfl)) (fun _ h9 => h9) rfl dX2_copyFrom_50 ?_
  refine b_put (D := D) (E := E) (L := LRM) (o := o) (M := M10) (v := (M10 w1 3)) (ty := .int) (C := RX2) (T := TX2) (N := 8) hx hb hts hinX2 tyX2 tyX2_ok nmX2 hown hK.1 hB hS w (rA_of hw.1) hw.1 rfl 3 (by decide) rfl (hts (.fieldLink RX2 22 "RiverMeeting$Side" "length" "I") (List.mem_of_getElem? (i := 4) rfl)) (fun _ h9 => h9) rfl (by decide +kernel) rfl rfl dX2_copyFrom_53 (fun M11 hM11 H locs hB _ hS => ?_)
  refine lv_aload_n hx hb dX2_copyFrom_56 rfl (lv_at hl 0 rfl) ?_
  refine lv_aload_n hx hb dX2_copyFrom_57 rfl (lv_at hl 1 rfl) ?_
  refine b_get (D := D) (E := E) (L := LRM) (o := o) (M := M11) (v := .int (M11 w1 4)) (C := RX2) (T := TX2) (N := 8) hx hb hts hinX2 hown hK.1 hB w1 hw1.1 rfl 4 (by decide) (hts (.fieldLink RX2 26 "RiverMeeting$Side" "paid" "I") (List.mem_of_getElem? (i := 5) rfl)) (fun _ h9 => h9) rfl dX2_copyFrom_58 ?_
  refine b_put (D := D) (E := E) (L := LRM) (o := o) (M := M11) (v := (M11 w1 4)) (ty := .int) (C := RX2) (T := TX2) (N := 8) hx hb hts hinX2 tyX2 tyX2_ok nmX2 hown hK.1 hB hS w (rA_of hw.1) hw.1 rfl 4 (by decide) rfl (hts (.fieldLink RX2 26 "RiverMeeting$Side" "paid" "I") (List.mem_of_getElem? (i := 5) rfl)) (fun _ h9 => h9) rfl (by decide +kernel) rfl rfl dX2_copyFrom_61 (fun M12 hM12 H locs hB _ hS => ?_)
  refine lv_aload_n hx hb dX2_copyFrom_64 rfl (lv_at hl 0 rfl) ?_
  refine lv_aload_n hx hb dX2_copyFrom_65 rfl (lv_at hl 1 rfl) ?_
  refine b_get (D := D) (E := E) (L := LRM) (o := o) (M := M12) (v := .int (M12 w1 5)) (C := RX2) (T := TX2) (N := 8) hx hb hts hinX2 hown hK.1 hB w1 hw1.1 rfl 5 (by decide) (hts (.fieldLink RX2 29 "RiverMeeting$Side" "built" "I") (List.mem_of_getElem? (i := 6) rfl)) (fun _ h9 => h9) rfl dX2_copyFrom_66 ?_
  refine b_put (D := D) (E := E) (L := LRM) (o := o) (M := M12) (v := (M12 w1 5)) (ty := .int) (C := RX2) (T := TX2) (N := 8) hx hb hts hinX2 tyX2 tyX2_ok nmX2 hown hK.1 hB hS w (rA_of hw.1) hw.1 rfl 5 (by decide) rfl (hts (.fieldLink RX2 29 "RiverMeeting$Side" "built" "I") (List.mem_of_getElem? (i := 6) rfl)) (fun _ h9 => h9) rfl (by decide +kernel) rfl rfl dX2_copyFrom_69 (fun M13 hM13 H locs hB _ hS => ?_)
  refine lv_aload_n hx hb dX2_copyFrom_72 rfl (lv_at hl 0 rfl) ?_
  refine lv_aload_n hx hb dX2_copyFrom_73 rfl (lv_at hl 1 rfl) ?_
  refine b_get (D := D) (E := E) (L := LRM) (o := o) (M := M13) (v := .int (M13 w1 6)) (C := RX2) (T := TX2) (N := 8) hx hb hts hinX2 hown hK.1 hB w1 hw1.1 rfl 6 (by decide) (hts (.fieldLink RX2 47 "RiverMeeting$Side" "won" "I") (List.mem_of_getElem? (i := 7) rfl)) (fun _ h9 => h9) rfl dX2_copyFrom_74 ?_
  refine b_put (D := D) (E := E) (L := LRM) (o := o) (M := M13) (v := (M13 w1 6)) (ty := .int) (C := RX2) (T := TX2) (N := 8) hx hb hts hinX2 tyX2 tyX2_ok nmX2 hown hK.1 hB hS w (rA_of hw.1) hw.1 rfl 6 (by decide) rfl (hts (.fieldLink RX2 47 "RiverMeeting$Side" "won" "I") (List.mem_of_getElem? (i := 7) rfl)) (fun _ h9 => h9) rfl (by decide +kernel) rfl rfl dX2_copyFrom_77 (fun M14 hM14 H locs hB _ hS => ?_)
  refine lv_aload_n hx hb dX2_copyFrom_80 rfl (lv_at hl 0 rfl) ?_
  refine lv_aload_n hx hb dX2_copyFrom_81 rfl (lv_at hl 1 rfl) ?_
  refine b_get (D := D) (E := E) (L := LRM) (o := o) (M := M14) (v := .int (M14 w1 7)) (C := RX2) (T := TX2) (N := 8) hx hb hts hinX2 hown hK.1 hB w1 hw1.1 rfl 7 (by decide) (hts (.fieldLink RX2 40 "RiverMeeting$Side" "paidEver" "I") (List.mem_of_getElem? (i := 8) rfl)) (fun _ h9 => h9) rfl dX2_copyFrom_82 ?_
  refine b_put (D := D) (E := E) (L := LRM) (o := o) (M := M14) (v := (M14 w1 7)) (ty := .int) (C := RX2) (T := TX2) (N := 8) hx hb hts hinX2 tyX2 tyX2_ok nmX2 hown hK.1 hB hS w (rA_of hw.1) hw.1 rfl 7 (by decide) rfl (hts (.fieldLink RX2 40 "RiverMeeting$Side" "paidEver" "I") (List.mem_of_getElem? (i := 8) rfl)) (fun _ h9 => h9) rfl (by decide +kernel) rfl rfl dX2_copyFrom_85 (fun M15 hM15 H locs hB _ hS => ?_)
  have e16 := p_X2_copyFrom_e16 M w w1 M1 hM1.symm M2 hM2.symm M10 hM10.symm M11 hM11.symm M12 hM12.symm M13 hM13.symm M14 hM14.symm M15 hM15.symm
  exact b_vret hx hb hr hlocks hS ⟨rfl, _, e16.symm, hB⟩ dX2_copyFrom_88
def lp_J7_fill_53178_5 (k1 : Nat) (x2 : Int32) : Nat → Nat → bM → (bM)
  | 0, i1, M2 => M2
  | n1 + 1, i1, M2 => (let M6 : bM := up2 M2 k1 i1 x2; lp_J7_fill_53178_5 k1 x2 n1 (i1 + 1) M6)
theorem u0_lp_J7_fill_53178_5 (k1 : Nat) (x2 : Int32) (i1 : Nat) (M2 : bM) : lp_J7_fill_53178_5 k1 x2 0 i1 M2 = M2 := rfl
theorem u1_lp_J7_fill_53178_5 (k1 : Nat) (x2 : Int32) (n1 i1 : Nat) (M2 : bM) : lp_J7_fill_53178_5 k1 x2 (n1 + 1) i1 M2 = (let M6 : bM := up2 M2 k1 i1 x2; lp_J7_fill_53178_5 k1 x2 n1 (i1 + 1) M6) := rfl
def f_J7_fill_53178 (M : bM) (k1 : Nat) (x2 : Int32) : bM := (let M8 : bM := (lp_J7_fill_53178_5 k1 x2 64 0 M); M8)
theorem u_f_J7_fill_53178 (M : bM) (k1 : Nat) (x2 : Int32) : f_J7_fill_53178 M k1 x2 = (let M8 : bM := (lp_J7_fill_53178_5 k1 x2 64 0 M); M8) := rfl
theorem p_J7_fill_53178_e4 (M : bM) (k1 : Nat) (x2 : Int32) (M2 : bM) (i1 : Nat)  : lp_J7_fill_53178_5 k1 x2 0 i1 M2 = M2 := by exact u0_lp_J7_fill_53178_5 k1 x2 i1 M2
theorem p_J7_fill_53178_e7 (M : bM) (k1 : Nat) (x2 : Int32) (M2 : bM) (i1 : Nat) (n1 : Nat) (M6 : bM) (hM6 : up2 M2 k1 i1 x2 = M6) : lp_J7_fill_53178_5 k1 x2 (n1 + 1) i1 M2 = lp_J7_fill_53178_5 k1 x2 n1 (i1 + 1) M6 := by subst hM6; exact u1_lp_J7_fill_53178_5 k1 x2 n1 i1 M2
theorem p_J7_fill_53178_e9 (M : bM) (k1 : Nat) (x2 : Int32) (M8 : bM) (hM8 : (lp_J7_fill_53178_5 k1 x2 64 0 M) = M8) : f_J7_fill_53178 M k1 x2 = M8 := by subst hM8; exact u_f_J7_fill_53178 M k1 x2
set_option maxHeartbeats 4000000 in
set_option maxRecDepth 100000 in
theorem c_J7_fill_53178 (l : Launch) (D : va_G) (E : Nat → ClassId) (o : Nat) (M : bM) (k1 : Nat) (x2 : Int32) (hk1 : LRM[k1]? = some (.inl (0, 64))) : Met l yJ7_fill_53178 wsJ7_fill_53178 (rmF 0) (bPc D E [.ref (o + k1), .int x2] (fun H => bk D E LRM o M H)) (bQ (aV fun H => ∃ M1 : bM, M1 = f_J7_fill_53178 M k1 x2 ∧ bk D E LRM o M1 H) (rA o)) 0 0 (rA o) := by
  refine Met.ofW (cc := cJ7_fill_53178) (maxL := 4) (ret := none) (by decide) rfl ?_
  intro p e s m args below meth c s₁ B hml hv
  obtain ⟨rfl, hB, hK⟩ := hv
  have hx := B.exec
  have hb := B.bytes
  have hr := B.returns
  have hts := atoms_spec (ws := wsJ7_fill_53178) B.pre
  have hown : s.vm.findClass RJ7 = some m.cls := findClass_of_methodNamed B.named
  have hlocks := B.notSynchronized
  have hS : bS (rA o) s.heap s.heap [] := bS.rf
  have hl := lv_entry ([.ref (o + k1), .int x2]) (n := 4) (Nat.le_of_ble_eq_true rfl)
  rw [lg_entry_eq]
  generalize (lg_sl ([.ref (o + k1), .int x2]) ++ List.replicate (4 - (lg_sl ([.ref (o + k1), .int x2])).length) Slot.unset).toArray = ls at hl ⊢
  have hl : lv_has ls 4 [(0, .ref (o + k1)), (1, .int x2)] := hl
  have hB : bk D E LRM o M s.heap := hB
  refine lv_iconst (v := 0) hx hb dJ7_fill_53178_0 (by decide) ?_
  refine lv_istore_n (lv' := [(2, .int 0), (0, .ref (o + k1)), (1, .int x2)]) hx hb dJ7_fill_53178_1 rfl hl (by decide) rfl (fun ls hl => ?_)
  refine lv_aload_n hx hb dJ7_fill_53178_2 rfl (lv_at hl 1 rfl) ?_
  refine b_alen hx hb hK.1 hB k1 hk1 (v := 64) rfl dJ7_fill_53178_3 ?_
  refine lv_istore_n (lv' := [(3, .int 64), (2, .int 0), (0, .ref (o + k1)), (1, .int x2)]) hx hb dJ7_fill_53178_4 rfl hl (by decide) rfl (fun ls hl => ?_)
  have lp1 : ∀ (n1 i1 : Nat) (M2 : bM), i1 + n1 = 64 → ∀ (H : Heap) (locs : List Loc), bk D E LRM o M2 H → bS (rA o) s.heap H locs → ∀ ls : Array Slot, lv_has ls 4 [(3, .int 64), (2, .int (nI i1)), (0, .ref (o + k1)), (1, .int x2)] → (∀ (H : Heap) (locs : List Loc), bk D E LRM o (lp_J7_fill_53178_5 k1 x2 n1 i1 M2) H → bS (rA o) s.heap H locs → ∀ ls : Array Slot, lv_has ls 4 [(3, .int 64), (0, .ref (o + k1)), (1, .int x2)] → W p l e (headSpec wsJ7_fill_53178 (rmF 0)).room s m ([.ref (o + k1), .int x2] : List Value).toArray below meth c H locs 0 0 (MQ below (bQ (aV fun H => ∃ M1 : bM, M1 = f_J7_fill_53178 M k1 x2 ∧ bk D E LRM o M1 H) (rA o)) ([.ref (o + k1), .int x2] : List Value).toArray s 0 0 (rA o)) (F0 m 20 ls [])) → W p l e (headSpec wsJ7_fill_53178 (rmF 0)).room s m ([.ref (o + k1), .int x2] : List Value).toArray below meth c H locs 0 0 (MQ below (bQ (aV fun H => ∃ M1 : bM, M1 = f_J7_fill_53178 M k1 x2 ∧ bk D E LRM o M1 H) (rA o)) ([.ref (o + k1), .int x2] : List Value).toArray s 0 0 (rA o)) (F0 m 5 ls []) := by
    intro n1
    induction n1 with
    | zero =>
      intro i1 M2 hi1 H locs hB hS ls hl hexit1
      have hz1 : i1 = 64 := by omega
      refine lv_iload_n hx hb dJ7_fill_53178_5 rfl (lv_at hl 1 rfl) ?_
      refine lv_iload_n hx hb dJ7_fill_53178_6 rfl (lv_at hl 0 rfl) ?_
      refine lv_icmp_ge (tgt := 20) hx hb dJ7_fill_53178_7 (by decide) (fun c3 => ?_) (fun c3 => absurd (by rw [hz1]; exact Int32.le_refl _) c3)
      have e4 := p_J7_fill_53178_e4 M k1 x2 M2 i1 
      rw [e4] at hexit1
      exact hexit1 _ _  hB hS ls (lv_sub hl [0, 2, 3] rfl)
    | succ n1 ih1 =>
      intro i1 M2 hi1 H locs hB hS ls hl hexit1
      refine lv_iload_n hx hb dJ7_fill_53178_5 rfl (lv_at hl 1 rfl) ?_
      refine lv_iload_n hx hb dJ7_fill_53178_6 rfl (lv_at hl 0 rfl) ?_
      refine lv_icmp_ge (tgt := 20) hx hb dJ7_fill_53178_7 (by decide) (fun c5 => absurd c5 (nI_ge (a := i1) (b := 64) (by omega) (by decide))) (fun c5 => ?_)
      refine lv_aload_n hx hb dJ7_fill_53178_10 rfl (lv_at hl 2 rfl) ?_
      refine lv_iload_n hx hb dJ7_fill_53178_11 rfl (lv_at hl 1 rfl) ?_
      refine lv_iload_n hx hb dJ7_fill_53178_12 rfl (lv_at hl 3 rfl) ?_
      refine b_iast hx hb hK.1 hB hS k1 (rA_of hk1) hk1 (vp_in_nI (by omega) (by decide)) dJ7_fill_53178_13 (fun M6 hM6 H locs hB _ hS => ?_)
      rw [nI_clamp (n := i1) (by omega)] at hM6
      refine lv_iinc (v := nI (i1 + 1)) (lv' := [(2, .int (nI (i1 + 1))), (3, .int 64), (0, .ref (o + k1)), (1, .int x2)]) hx hb dJ7_fill_53178_14 hl (k := 1) rfl (nI_1 i1) (by decide) rfl (fun ls hl => ?_)
      refine lv_goto (tgt := 5) hx hb dJ7_fill_53178_17 (by decide) ?_
      have e7 := p_J7_fill_53178_e7 M k1 x2 M2 i1 n1 M6 hM6.symm
      rw [e7] at hexit1
      exact ih1 (i1 + 1) M6 (by omega) _ _ hB hS ls (lv_sub hl [1, 0, 2, 3] rfl) hexit1
  refine lp1 64 0 M (by omega) _ _ hB hS ls (lv_sub hl [0, 1, 2, 3] rfl) ?_
  intro H locs hB hS ls hl
  obtain ⟨M8, hM8⟩ : ∃ y : bM, y = (lp_J7_fill_53178_5 k1 x2 64 0 M) := ⟨_, rfl⟩
  rw [← hM8] at hB
  have hl : lv_has ls 4 [(3, .int 64), (0, .ref (o + k1)), (1, .int x2)] := hl
  have e9 := p_J7_fill_53178_e9 M k1 x2 M8 hM8.symm
  exact b_vret hx hb hr hlocks hS ⟨rfl, _, e9.symm, hB⟩ dJ7_fill_53178_20
def lp_X0_layField_5 (g : Nat) : Nat → Nat → Int64 → bM → (Int64 × bM)
  | 0, i1, x2, M3 => (x2, M3)
  | n1 + 1, i1, x2, M3 => (let r7 : Int64 := f_X6_nextNumber x2; (let r8 : Int32 := f_X6_drawnFrom r7; (let M9 : bM := up2 M3 (g + 2) i1 (r8 - r8 / 10 * 10); (let M10 : bM := up2 M9 (g + 6) i1 ((r8 / 10) - (r8 / 10) / 10 * 10); lp_X0_layField_5 g n1 (i1 + 1) r7 M10))))
theorem u0_lp_X0_layField_5 (g : Nat) (i1 : Nat) (x2 : Int64) (M3 : bM) : lp_X0_layField_5 g 0 i1 x2 M3 = (x2, M3) := rfl
theorem u1_lp_X0_layField_5 (g : Nat) (n1 i1 : Nat) (x2 : Int64) (M3 : bM) : lp_X0_layField_5 g (n1 + 1) i1 x2 M3 = (let r7 : Int64 := f_X6_nextNumber x2; (let r8 : Int32 := f_X6_drawnFrom r7; (let M9 : bM := up2 M3 (g + 2) i1 (r8 - r8 / 10 * 10); (let M10 : bM := up2 M9 (g + 6) i1 ((r8 / 10) - (r8 / 10) / 10 * 10); lp_X0_layField_5 g n1 (i1 + 1) r7 M10)))) := rfl
def f_X0_layField (M : bM) (g : Nat) (x1 : Int64) : bM := (let x12 : Int64 := (lp_X0_layField_5 g 64 0 x1 M).1; (let M13 : bM := (lp_X0_layField_5 g 64 0 x1 M).2; M13))
theorem u_f_X0_layField (M : bM) (g : Nat) (x1 : Int64) : f_X0_layField M g x1 = (let x12 : Int64 := (lp_X0_layField_5 g 64 0 x1 M).1; (let M13 : bM := (lp_X0_layField_5 g 64 0 x1 M).2; M13)) := rfl
theorem p_X0_layField_e5 (M : bM) (g : Nat) (x1 : Int64) (x2 : Int64) (M3 : bM) (i1 : Nat)  : lp_X0_layField_5 g 0 i1 x2 M3 = (x2, M3) := by exact u0_lp_X0_layField_5 g i1 x2 M3
theorem p_X0_layField_e11 (M : bM) (g : Nat) (x1 : Int64) (x2 : Int64) (M3 : bM) (i1 : Nat) (n1 : Nat) (r7 : Int64) (hr7 : f_X6_nextNumber x2 = r7) (r8 : Int32) (hr8 : f_X6_drawnFrom r7 = r8) (M9 : bM) (hM9 : up2 M3 (g + 2) i1 (r8 - r8 / 10 * 10) = M9) (M10 : bM) (hM10 : up2 M9 (g + 6) i1 ((r8 / 10) - (r8 / 10) / 10 * 10) = M10) : lp_X0_layField_5 g (n1 + 1) i1 x2 M3 = lp_X0_layField_5 g n1 (i1 + 1) r7 M10 := by subst hM10 hM9 hr8 hr7; exact u1_lp_X0_layField_5 g n1 i1 x2 M3
theorem p_X0_layField_e14 (M : bM) (g : Nat) (x1 : Int64) (x12 : Int64) (hx12 : (lp_X0_layField_5 g 64 0 x1 M).1 = x12) (M13 : bM) (hM13 : (lp_X0_layField_5 g 64 0 x1 M).2 = M13) : f_X0_layField M g x1 = M13 := by subst hM13 hx12; exact u_f_X0_layField M g x1
set_option maxHeartbeats 4000000 in
set_option maxRecDepth 100000 in
theorem c_X0_layField (l : Launch) (D : va_G) (E : Nat → ClassId) (o : Nat) (M : bM) (g : Nat) (x1 : Int64) (hg : isG g) : Met l yX0_layField wsX0_layField (rmF 1) (bPc D E [.ref (o + g), .long x1] (fun H => bk D E LRM o M H)) (bQ (aV fun H => ∃ M1 : bM, M1 = f_X0_layField M g x1 ∧ bk D E LRM o M1 H) (rA o)) 0 0 (rA o) := by
  refine Met.ofW (cc := cX0_layField) (maxL := 7) (ret := none) (by decide) rfl ?_
  intro p e s m args below meth c s₁ B hml hv
  obtain ⟨rfl, hB, hK⟩ := hv
  have hx := B.exec
  have hb := B.bytes
  have hr := B.returns
  have hts := atoms_spec (ws := wsX0_layField) B.pre
  have hown : s.vm.findClass RX0 = some m.cls := findClass_of_methodNamed B.named
  have hlocks := B.notSynchronized
  have hS : bS (rA o) s.heap s.heap [] := bS.rf
  have hl := lv_entry ([.ref (o + g), .long x1]) (n := 7) (Nat.le_of_ble_eq_true rfl)
  rw [lg_entry_eq]
  generalize (lg_sl ([.ref (o + g), .long x1]) ++ List.replicate (7 - (lg_sl ([.ref (o + g), .long x1])).length) Slot.unset).toArray = ls at hl ⊢
  have hl : lv_has ls 7 [(0, .ref (o + g)), (1, .long x1)] := hl
  have hB : bk D E LRM o M s.heap := hB
  have hinX0 : ∀ w ∈ wsX00, w ∈ wsX0_layField := by decide +kernel
  have hinX2 : ∀ w ∈ wsX20, w ∈ wsX0_layField := by decide +kernel
  refine lv_lload_n hx hb dX0_layField_0 rfl (lv_at hl 1 rfl) ?_
  refine lv_lstore_n (lv' := [(3, .long x1), (0, .ref (o + g)), (1, .long x1)]) hx hb dX0_layField_1 rfl hl (by decide) rfl (fun ls hl => ?_)
  refine lv_iconst (v := 0) hx hb dX0_layField_2 (by decide) ?_
  refine lv_istore (lv' := [(5, .int 0), (3, .long x1), (0, .ref (o + g)), (1, .long x1)]) hx hb dX0_layField_3 hl (by decide) rfl (fun ls hl => ?_)
  have lp1 : ∀ (n1 i1 : Nat) (x2 : Int64) (M3 : bM), i1 + n1 = 64 → ∀ (H : Heap) (locs : List Loc), bk D E LRM o M3 H → bS (rA o) s.heap H locs → ∀ ls : Array Slot, lv_has ls 7 [(5, .int (nI i1)), (3, .long x2), (0, .ref (o + g)), (1, .long x1)] → (∀ (H : Heap) (locs : List Loc), bk D E LRM o ((lp_X0_layField_5 g n1 i1 x2 M3).2) H → bS (rA o) s.heap H locs → ∀ ls : Array Slot, lv_has ls 7 [(3, .long ((lp_X0_layField_5 g n1 i1 x2 M3).1)), (0, .ref (o + g)), (1, .long x1)] → W p l e (headSpec wsX0_layField (rmF 1)).room s m ([.ref (o + g), .long x1] : List Value).toArray below meth c H locs 0 0 (MQ below (bQ (aV fun H => ∃ M1 : bM, M1 = f_X0_layField M g x1 ∧ bk D E LRM o M1 H) (rA o)) ([.ref (o + g), .long x1] : List Value).toArray s 0 0 (rA o)) (F0 m 62 ls [])) → W p l e (headSpec wsX0_layField (rmF 1)).room s m ([.ref (o + g), .long x1] : List Value).toArray below meth c H locs 0 0 (MQ below (bQ (aV fun H => ∃ M1 : bM, M1 = f_X0_layField M g x1 ∧ bk D E LRM o M1 H) (rA o)) ([.ref (o + g), .long x1] : List Value).toArray s 0 0 (rA o)) (F0 m 5 ls []) := by
    intro n1
    induction n1 with
    | zero =>
      intro i1 x2 M3 hi1 H locs hB hS ls hl hexit1
      have hz1 : i1 = 64 := by omega
      refine lv_iload hx hb dX0_layField_5 (lv_at hl 0 rfl) ?_
      refine lv_bipush (v := 64) hx hb dX0_layField_7 (by decide) ?_
      refine lv_icmp_ge (tgt := 62) hx hb dX0_layField_9 (by decide) (fun c4 => ?_) (fun c4 => absurd (by rw [hz1]; exact Int32.le_refl _) c4)
      have e5 := p_X0_layField_e5 M g x1 x2 M3 i1 
      rw [e5] at hexit1
      exact hexit1 _ _  hB hS ls (lv_sub hl [1, 2, 3] rfl)
    | succ n1 ih1 =>
      intro i1 x2 M3 hi1 H locs hB hS ls hl hexit1
      refine lv_iload hx hb dX0_layField_5 (lv_at hl 0 rfl) ?_
      refine lv_bipush (v := 64) hx hb dX0_layField_7 (by decide) ?_
      refine lv_icmp_ge (tgt := 62) hx hb dX0_layField_9 (by decide) (fun c6 => absurd c6 (nI_ge (a := i1) (b := 64) (by omega) (by decide))) (fun c6 => ?_)
      refine lv_lload_n hx hb dX0_layField_12 rfl (lv_at hl 1 rfl) ?_
      refine b_pL (b_runSN (As := [.long x2]) (rest := []) ⟨hx, hb, hml, hown, hts⟩ (c_X6_nextNumber l D E x2) ⟨va_cnB (host := "RiverMeeting") 1 hts gX0_layField_X6_nextNumber_n76 rfl rfl rfl (hK.2 9 _ rfl) (hts (.initialized RX6) (List.mem_of_getElem? (i := 5) rfl)) (by decide +kernel) ⟨Nat.le_of_ble_eq_true rfl, Nat.le_of_ble_eq_true rfl⟩, (hts (.static yX6_nextNumber) (List.mem_of_getElem? (i := 4) rfl)), trivial⟩ hK trivial rfl hl rfl (Nat.le_of_ble_eq_true rfl) dX0_layField_13 ⟨Nat.zero_le _, Nat.zero_le _⟩) hS (fun r7 hr7 locs hS => ?_)
      refine lv_lstore_n (lv' := [(3, .long r7), (5, .int (nI i1)), (0, .ref (o + g)), (1, .long x1)]) hx hb dX0_layField_16 rfl hl (by decide) rfl (fun ls hl => ?_)
      refine lv_lload_n hx hb dX0_layField_17 rfl (lv_at hl 0 rfl) ?_
      refine b_pI (b_runSN (As := [.long r7]) (rest := []) ⟨hx, hb, hml, hown, hts⟩ (c_X6_drawnFrom l D E r7) ⟨va_cnB (host := "RiverMeeting") 1 hts gX0_layField_X6_drawnFrom_n80 rfl rfl rfl (hK.2 8 _ rfl) (hts (.initialized RX6) (List.mem_of_getElem? (i := 5) rfl)) (by decide +kernel) ⟨Nat.le_of_ble_eq_true rfl, Nat.le_of_ble_eq_true rfl⟩, (hts (.static yX6_drawnFrom) (List.mem_of_getElem? (i := 9) rfl)), trivial⟩ hK trivial rfl hl rfl (Nat.le_of_ble_eq_true rfl) dX0_layField_18 ⟨Nat.zero_le _, Nat.zero_le _⟩) hS (fun r8 hr8 locs hS => ?_)
      refine lv_istore (lv' := [(6, .int r8), (3, .long r7), (5, .int (nI i1)), (0, .ref (o + g)), (1, .long x1)]) hx hb dX0_layField_21 hl (by decide) rfl (fun ls hl => ?_)
      refine lv_aload_n hx hb dX0_layField_23 rfl (lv_at hl 3 rfl) ?_
      refine b_get (D := D) (E := E) (L := LRM) (o := o) (M := M3) (v := .ref (o + (g + 1))) (C := RX0) (T := TX0) (N := 12) hx hb hts hinX0 hown hK.1 hB g hg.1 rfl 0 (by decide) (hts (.fieldLink RX0 12 "RiverMeeting$Game" "first" "LRiverMeeting$Side;") (List.mem_of_getElem? (i := 1) rfl)) (fun _ h9 => h9) rfl dX0_layField_24 ?_
      refine b_get (D := D) (E := E) (L := LRM) (o := o) (M := M3) (v := .ref (o + (g + 2))) (C := RX2) (T := TX2) (N := 8) hx hb hts hinX2 hown hK.1 hB (g + 1) hg.2.1.1 rfl 0 (by decide) (hts (.fieldLink RX0 84 "RiverMeeting$Side" "costs" "[I") (List.mem_of_getElem? (i := 2) rfl)) (fun _ h9 => h9) rfl dX0_layField_27 ?_
      refine lv_iload hx hb dX0_layField_30 (lv_at hl 2 rfl) ?_
      refine lv_iload hx hb dX0_layField_32 (lv_at hl 0 rfl) ?_
      refine lv_bipush (v := 10) hx hb dX0_layField_34 (by decide) ?_
      refine lv_irem hx hb dX0_layField_36 (by decide) ?_
      refine b_iast hx hb hK.1 hB hS (g + 2) (rA_of hg.2.1.2.1) hg.2.1.2.1 (vp_in_nI (by omega) (by decide)) dX0_layField_37 (fun M9 hM9 H locs hB _ hS => ?_)
      rw [nI_clamp (n := i1) (by omega)] at hM9
      refine lv_aload_n hx hb dX0_layField_38 rfl (lv_at hl 3 rfl) ?_
      refine b_get (D := D) (E := E) (L := LRM) (o := o) (M := M9) (v := .ref (o + (g + 5))) (C := RX0) (T := TX0) (N := 12) hx hb hts hinX0 hown hK.1 hB g hg.1 rfl 1 (by decide) (hts (.fieldLink RX0 18 "RiverMeeting$Game" "second" "LRiverMeeting$Side;") (List.mem_of_getElem? (i := 3) rfl)) (fun _ h9 => h9) rfl dX0_layField_39 ?_
      refine b_get (D := D) (E := E) (L := LRM) (o := o) (M := M9) (v := .ref (o + (g + 6))) (C := RX2) (T := TX2) (N := 8) hx hb hts hinX2 hown hK.1 hB (g + 5) hg.2.2.1.1 rfl 0 (by decide) (hts (.fieldLink RX0 84 "RiverMeeting$Side" "costs" "[I") (List.mem_of_getElem? (i := 2) rfl)) (fun _ h9 => h9) rfl dX0_layField_42 ?_
      refine lv_iload hx hb dX0_layField_45 (lv_at hl 2 rfl) ?_
      refine lv_iload hx hb dX0_layField_47 (lv_at hl 0 rfl) ?_
      refine lv_bipush (v := 10) hx hb dX0_layField_49 (by decide) ?_
      refine lv_idiv hx hb dX0_layField_51 (by decide) ?_
      refine lv_bipush (v := 10) hx hb dX0_layField_52 (by decide) ?_
      refine lv_irem hx hb dX0_layField_54 (by decide) ?_
      refine b_iast hx hb hK.1 hB hS (g + 6) (rA_of hg.2.2.1.2.1) hg.2.2.1.2.1 (vp_in_nI (by omega) (by decide)) dX0_layField_55 (fun M10 hM10 H locs hB _ hS => ?_)
      rw [nI_clamp (n := i1) (by omega)] at hM10
      refine lv_iinc (v := nI (i1 + 1)) (lv' := [(5, .int (nI (i1 + 1))), (6, .int r8), (3, .long r7), (0, .ref (o + g)), (1, .long x1)]) hx hb dX0_layField_56 hl (k := 2) rfl (nI_1 i1) (by decide) rfl (fun ls hl => ?_)
      refine lv_goto (tgt := 5) hx hb dX0_layField_59 (by decide) ?_
      have e11 := p_X0_layField_e11 M g x1 x2 M3 i1 n1 r7 hr7.symm r8 hr8.symm M9 hM9.symm M10 hM10.symm
      rw [e11] at hexit1
      exact ih1 (i1 + 1) r7 M10 (by omega) _ _ hB hS ls (lv_sub hl [0, 2, 3, 4] rfl) hexit1
  refine lp1 64 0 x1 M (by omega) _ _ hB hS ls (lv_sub hl [0, 1, 2, 3] rfl) ?_
  intro H locs hB hS ls hl
  obtain ⟨x12, hx12⟩ : ∃ y : Int64, y = (lp_X0_layField_5 g 64 0 x1 M).1 := ⟨_, rfl⟩
  rw [← hx12] at hl
  obtain ⟨M13, hM13⟩ : ∃ y : bM, y = (lp_X0_layField_5 g 64 0 x1 M).2 := ⟨_, rfl⟩
  rw [← hM13] at hB
  have hl : lv_has ls 7 [(3, .long x12), (0, .ref (o + g)), (1, .long x1)] := hl
  have e14 := p_X0_layField_e14 M g x1 x12 hx12.symm M13 hM13.symm
  exact b_vret hx hb hr hlocks hS ⟨rfl, _, e14.symm, hB⟩ dX0_layField_62
def f_X0_beginGame (M : bM) (g : Nat) (x1 : Int64) : bM := (let M1 : bM := f_X0_layField M g x1; (let M2 : bM := f_J7_fill_53178 M1 (g + 9) (-1); (let M3 : bM := f_X2_beginAt M2 (g + 1) 1; (let M4 : bM := f_X2_beginAt M3 (g + 5) 6; (let M5 : bM := up2 M4 g 5 ((M4 g 5) + 1); (let M6 : bM := up2 M5 g 6 0; (let M7 : bM := up2 M6 g 7 0; (let M8 : bM := up2 M7 g 8 (-1); (let M9 : bM := up2 M8 g 9 (-1); M9)))))))))
theorem u_f_X0_beginGame (M : bM) (g : Nat) (x1 : Int64) : f_X0_beginGame M g x1 = (let M1 : bM := f_X0_layField M g x1; (let M2 : bM := f_J7_fill_53178 M1 (g + 9) (-1); (let M3 : bM := f_X2_beginAt M2 (g + 1) 1; (let M4 : bM := f_X2_beginAt M3 (g + 5) 6; (let M5 : bM := up2 M4 g 5 ((M4 g 5) + 1); (let M6 : bM := up2 M5 g 6 0; (let M7 : bM := up2 M6 g 7 0; (let M8 : bM := up2 M7 g 8 (-1); (let M9 : bM := up2 M8 g 9 (-1); M9))))))))) := rfl
theorem p_X0_beginGame_e10 (M : bM) (g : Nat) (x1 : Int64) (M1 : bM) (hM1 : f_X0_layField M g x1 = M1) (M2 : bM) (hM2 : f_J7_fill_53178 M1 (g + 9) (-1) = M2) (M3 : bM) (hM3 : f_X2_beginAt M2 (g + 1) 1 = M3) (M4 : bM) (hM4 : f_X2_beginAt M3 (g + 5) 6 = M4) (M5 : bM) (hM5 : up2 M4 g 5 ((M4 g 5) + 1) = M5) (M6 : bM) (hM6 : up2 M5 g 6 0 = M6) (M7 : bM) (hM7 : up2 M6 g 7 0 = M7) (M8 : bM) (hM8 : up2 M7 g 8 (-1) = M8) (M9 : bM) (hM9 : up2 M8 g 9 (-1) = M9) : f_X0_beginGame M g x1 = M9 := by subst hM9 hM8 hM7 hM6 hM5 hM4 hM3 hM2 hM1; exact u_f_X0_beginGame M g x1
set_option maxHeartbeats 4000000 in
set_option maxRecDepth 100000 in
theorem c_X0_beginGame (l : Launch) (D : va_G) (E : Nat → ClassId) (o : Nat) (M : bM) (g : Nat) (x1 : Int64) (hg : isG g) : Met l yX0_beginGame wsX0_beginGame (rmF 3) (bPc D E [.ref (o + g), .long x1] (fun H => bk D E LRM o M H)) (bQ (aV fun H => ∃ M1 : bM, M1 = f_X0_beginGame M g x1 ∧ bk D E LRM o M1 H) (rA o)) 0 0 (rA o) := by
  refine Met.ofW (cc := cX0_beginGame) (maxL := 3) (ret := none) (by decide) rfl ?_
  intro p e s m args below meth c s₁ B hml hv
  obtain ⟨rfl, hB, hK⟩ := hv
  have hx := B.exec
  have hb := B.bytes
  have hr := B.returns
  have hts := atoms_spec (ws := wsX0_beginGame) B.pre
  have hown : s.vm.findClass RX0 = some m.cls := findClass_of_methodNamed B.named
  have hlocks := B.notSynchronized
  have hS : bS (rA o) s.heap s.heap [] := bS.rf
  have hl := lv_entry ([.ref (o + g), .long x1]) (n := 3) (Nat.le_of_ble_eq_true rfl)
  rw [lg_entry_eq]
  generalize (lg_sl ([.ref (o + g), .long x1]) ++ List.replicate (3 - (lg_sl ([.ref (o + g), .long x1])).length) Slot.unset).toArray = ls at hl ⊢
  have hl : lv_has ls 3 [(0, .ref (o + g)), (1, .long x1)] := hl
  have hB : bk D E LRM o M s.heap := hB
  have hinX0 : ∀ w ∈ wsX00, w ∈ wsX0_beginGame := by decide +kernel
  refine lv_aload_n hx hb dX0_beginGame_0 rfl (lv_at hl 0 rfl) ?_
  refine lv_lload_n hx hb dX0_beginGame_1 rfl (lv_at hl 1 rfl) ?_
  refine b_mV (b_runV (As := [.long x1]) (rest := []) ⟨hx, hb, hml, hown, hts⟩ (c_X0_layField l D E o M g x1 hg) (cwV 1 hts gX0_beginGame_X0_layField rfl rfl rfl (by decide +kernel) ⟨Nat.le_of_ble_eq_true rfl, Nat.le_of_ble_eq_true rfl⟩) hK (bk_recv hK.1 hB hg.1 rfl) hB rfl hl rfl (Nat.le_of_ble_eq_true rfl) dX0_beginGame_2 ⟨Nat.zero_le _, Nat.zero_le _⟩) hS (fun q h => h) (fun M1 hM1 H locs hB _ hS => ?_)
  refine lv_aload_n hx hb dX0_beginGame_5 rfl (lv_at hl 0 rfl) ?_
  refine b_get (D := D) (E := E) (L := LRM) (o := o) (M := M1) (v := .ref (o + (g + 9))) (C := RX0) (T := TX0) (N := 12) hx hb hts hinX0 hown hK.1 hB g hg.1 rfl 2 (by decide) (hts (.fieldLink RX0 21 "RiverMeeting$Game" "stood" "[I") (List.mem_of_getElem? (i := 1) rfl)) (fun _ h9 => h9) rfl dX0_beginGame_6 ?_
  refine lv_iconst (v := (-1)) hx hb dX0_beginGame_9 (by decide) ?_
  refine b_mV (b_runS (As := [.ref (o + (g + 9)), .int (-1)]) (rest := []) ⟨hx, hb, hml, hown, hts⟩ (c_J7_fill_53178 l D E o M1 (g + 9) (-1) hg.2.2.2) (va_cwS 2 hts gX0_beginGame_J7_fill_53178 rfl rfl rfl (by decide +kernel) ⟨Nat.le_of_ble_eq_true rfl, Nat.le_of_ble_eq_true rfl⟩) hK hB rfl hl rfl (Nat.le_of_ble_eq_true rfl) dX0_beginGame_10 ⟨Nat.zero_le _, Nat.zero_le _⟩) hS (fun q h => h) (fun M2 hM2 H locs hB _ hS => ?_)
  refine lv_aload_n hx hb dX0_beginGame_13 rfl (lv_at hl 0 rfl) ?_
  refine b_get (D := D) (E := E) (L := LRM) (o := o) (M := M2) (v := .ref (o + (g + 1))) (C := RX0) (T := TX0) (N := 12) hx hb hts hinX0 hown hK.1 hB g hg.1 rfl 0 (by decide) (hts (.fieldLink RX0 12 "RiverMeeting$Game" "first" "LRiverMeeting$Side;") (List.mem_of_getElem? (i := 2) rfl)) (fun _ h9 => h9) rfl dX0_beginGame_14 ?_
  refine lv_iconst (v := 1) hx hb dX0_beginGame_17 (by decide) ?_
  refine b_mV (b_runV (As := [.int 1]) (rest := []) ⟨hx, hb, hml, hown, hts⟩ (c_X2_beginAt l D E o M2 (g + 1) 1 hg.2.1) (cwV 1 hts gX0_beginGame_X2_beginAt rfl rfl rfl (by decide +kernel) ⟨Nat.le_of_ble_eq_true rfl, Nat.le_of_ble_eq_true rfl⟩) hK (bk_recv hK.1 hB hg.2.1.1 rfl) hB rfl hl rfl (Nat.le_of_ble_eq_true rfl) dX0_beginGame_18 ⟨Nat.zero_le _, Nat.zero_le _⟩) hS (fun q h => h) (fun M3 hM3 H locs hB _ hS => ?_)
  refine lv_aload_n hx hb dX0_beginGame_21 rfl (lv_at hl 0 rfl) ?_
  refine b_get (D := D) (E := E) (L := LRM) (o := o) (M := M3) (v := .ref (o + (g + 5))) (C := RX0) (T := TX0) (N := 12) hx hb hts hinX0 hown hK.1 hB g hg.1 rfl 1 (by decide) (hts (.fieldLink RX0 18 "RiverMeeting$Game" "second" "LRiverMeeting$Side;") (List.mem_of_getElem? (i := 3) rfl)) (fun _ h9 => h9) rfl dX0_beginGame_22 ?_
  refine lv_bipush (v := 6) hx hb dX0_beginGame_25 (by decide) ?_
  refine b_mV (b_runV (As := [.int 6]) (rest := []) ⟨hx, hb, hml, hown, hts⟩ (c_X2_beginAt l D E o M3 (g + 5) 6 hg.2.2.1) (cwV 1 hts gX0_beginGame_X2_beginAt rfl rfl rfl (by decide +kernel) ⟨Nat.le_of_ble_eq_true rfl, Nat.le_of_ble_eq_true rfl⟩) hK (bk_recv hK.1 hB hg.2.2.1.1 rfl) hB rfl hl rfl (Nat.le_of_ble_eq_true rfl) dX0_beginGame_27 ⟨Nat.zero_le _, Nat.zero_le _⟩) hS (fun q h => h) (fun M4 hM4 H locs hB _ hS => ?_)
  refine lv_aload_n hx hb dX0_beginGame_30 rfl (lv_at hl 0 rfl) ?_
  refine lv_dup hx hb dX0_beginGame_31 rfl ?_
  refine b_get (D := D) (E := E) (L := LRM) (o := o) (M := M4) (v := .int (M4 g 5)) (C := RX0) (T := TX0) (N := 12) hx hb hts hinX0 hown hK.1 hB g hg.1 rfl 5 (by decide) (hts (.fieldLink RX0 32 "RiverMeeting$Game" "games" "I") (List.mem_of_getElem? (i := 4) rfl)) (fun _ h9 => h9) rfl dX0_beginGame_32 ?_
  refine lv_iconst (v := 1) hx hb dX0_beginGame_35 (by decide) ?_
  refine lv_iadd hx hb dX0_beginGame_36 ?_
  refine b_put (D := D) (E := E) (L := LRM) (o := o) (M := M4) (v := ((M4 g 5) + 1)) (ty := .int) (C := RX0) (T := TX0) (N := 12) hx hb hts hinX0 tyX0 tyX0_ok nmX0 hown hK.1 hB hS g (rA_of hg.1) hg.1 rfl 5 (by decide) rfl (hts (.fieldLink RX0 32 "RiverMeeting$Game" "games" "I") (List.mem_of_getElem? (i := 4) rfl)) (fun _ h9 => h9) rfl (by decide +kernel) rfl rfl dX0_beginGame_37 (fun M5 hM5 H locs hB _ hS => ?_)
  refine lv_aload_n hx hb dX0_beginGame_40 rfl (lv_at hl 0 rfl) ?_
  refine lv_iconst (v := 0) hx hb dX0_beginGame_41 (by decide) ?_
  refine b_put (D := D) (E := E) (L := LRM) (o := o) (M := M5) (v := 0) (ty := .int) (C := RX0) (T := TX0) (N := 12) hx hb hts hinX0 tyX0 tyX0_ok nmX0 hown hK.1 hB hS g (rA_of hg.1) hg.1 rfl 6 (by decide) rfl (hts (.fieldLink RX0 64 "RiverMeeting$Game" "turns" "I") (List.mem_of_getElem? (i := 5) rfl)) (fun _ h9 => h9) rfl (by decide +kernel) rfl rfl dX0_beginGame_42 (fun M6 hM6 H locs hB _ hS => ?_)
  refine lv_aload_n hx hb dX0_beginGame_45 rfl (lv_at hl 0 rfl) ?_
  refine lv_iconst (v := 0) hx hb dX0_beginGame_46 (by decide) ?_
  refine b_put (D := D) (E := E) (L := LRM) (o := o) (M := M6) (v := 0) (ty := .int) (C := RX0) (T := TX0) (N := 12) hx hb hts hinX0 tyX0 tyX0_ok nmX0 hown hK.1 hB hS g (rA_of hg.1) hg.1 rfl 7 (by decide) rfl (hts (.fieldLink RX0 67 "RiverMeeting$Game" "mover" "I") (List.mem_of_getElem? (i := 6) rfl)) (fun _ h9 => h9) rfl (by decide +kernel) rfl rfl dX0_beginGame_47 (fun M7 hM7 H locs hB _ hS => ?_)
  refine lv_aload_n hx hb dX0_beginGame_50 rfl (lv_at hl 0 rfl) ?_
  refine lv_iconst (v := (-1)) hx hb dX0_beginGame_51 (by decide) ?_
  refine b_put (D := D) (E := E) (L := LRM) (o := o) (M := M7) (v := (-1)) (ty := .int) (C := RX0) (T := TX0) (N := 12) hx hb hts hinX0 tyX0 tyX0_ok nmX0 hown hK.1 hB hS g (rA_of hg.1) hg.1 rfl 8 (by decide) rfl (hts (.fieldLink RX0 70 "RiverMeeting$Game" "meeting" "I") (List.mem_of_getElem? (i := 7) rfl)) (fun _ h9 => h9) rfl (by decide +kernel) rfl rfl dX0_beginGame_52 (fun M8 hM8 H locs hB _ hS => ?_)
  refine lv_aload_n hx hb dX0_beginGame_55 rfl (lv_at hl 0 rfl) ?_
  refine lv_iconst (v := (-1)) hx hb dX0_beginGame_56 (by decide) ?_
  refine b_put (D := D) (E := E) (L := LRM) (o := o) (M := M8) (v := (-1)) (ty := .int) (C := RX0) (T := TX0) (N := 12) hx hb hts hinX0 tyX0 tyX0_ok nmX0 hown hK.1 hB hS g (rA_of hg.1) hg.1 rfl 9 (by decide) rfl (hts (.fieldLink RX0 73 "RiverMeeting$Game" "winner" "I") (List.mem_of_getElem? (i := 8) rfl)) (fun _ h9 => h9) rfl (by decide +kernel) rfl rfl dX0_beginGame_57 (fun M9 hM9 H locs hB _ hS => ?_)
  have e10 := p_X0_beginGame_e10 M g x1 M1 hM1.symm M2 hM2.symm M3 hM3.symm M4 hM4.symm M5 hM5.symm M6 hM6.symm M7 hM7.symm M8 hM8.symm M9 hM9.symm
  exact b_vret hx hb hr hlocks hS ⟨rfl, _, e10.symm, hB⟩ dX0_beginGame_60
def f_X0_startAnew (M : bM) (g : Nat) : bM := (let M1 : bM := up2 M g 3 20; (let M2 : bM := up2 M1 g 4 3; (let M3 : bM := up2 M2 g 5 0; (let M4 : bM := up2 M3 g 10 0; (let M5 : bM := up2 M4 g 11 0; (let M6 : bM := up2 M5 (g + 1) 6 0; (let M7 : bM := up2 M6 (g + 1) 7 0; (let M8 : bM := up2 M7 (g + 5) 6 0; (let M9 : bM := up2 M8 (g + 5) 7 0; (let M10 : bM := f_X0_beginGame M9 g 0; M10))))))))))
theorem u_f_X0_startAnew (M : bM) (g : Nat) : f_X0_startAnew M g = (let M1 : bM := up2 M g 3 20; (let M2 : bM := up2 M1 g 4 3; (let M3 : bM := up2 M2 g 5 0; (let M4 : bM := up2 M3 g 10 0; (let M5 : bM := up2 M4 g 11 0; (let M6 : bM := up2 M5 (g + 1) 6 0; (let M7 : bM := up2 M6 (g + 1) 7 0; (let M8 : bM := up2 M7 (g + 5) 6 0; (let M9 : bM := up2 M8 (g + 5) 7 0; (let M10 : bM := f_X0_beginGame M9 g 0; M10)))))))))) := rfl
theorem p_X0_startAnew_e11 (M : bM) (g : Nat) (M1 : bM) (hM1 : up2 M g 3 20 = M1) (M2 : bM) (hM2 : up2 M1 g 4 3 = M2) (M3 : bM) (hM3 : up2 M2 g 5 0 = M3) (M4 : bM) (hM4 : up2 M3 g 10 0 = M4) (M5 : bM) (hM5 : up2 M4 g 11 0 = M5) (M6 : bM) (hM6 : up2 M5 (g + 1) 6 0 = M6) (M7 : bM) (hM7 : up2 M6 (g + 1) 7 0 = M7) (M8 : bM) (hM8 : up2 M7 (g + 5) 6 0 = M8) (M9 : bM) (hM9 : up2 M8 (g + 5) 7 0 = M9) (M10 : bM) (hM10 : f_X0_beginGame M9 g 0 = M10) : f_X0_startAnew M g = M10 := by subst hM10 hM9 hM8 hM7 hM6 hM5 hM4 hM3 hM2 hM1; exact u_f_X0_startAnew M g
set_option maxHeartbeats 4000000 in
set_option maxRecDepth 100000 in
theorem c_X0_startAnew (l : Launch) (D : va_G) (E : Nat → ClassId) (o : Nat) (M : bM) (g : Nat) (hg : isG g) : Met l yX0_startAnew wsX0_startAnew (rmF 4) (bPc D E [.ref (o + g)] (fun H => bk D E LRM o M H)) (bQ (aV fun H => ∃ M1 : bM, M1 = f_X0_startAnew M g ∧ bk D E LRM o M1 H) (rA o)) 0 0 (rA o) := by
  refine Met.ofW (cc := cX0_startAnew) (maxL := 1) (ret := none) (by decide) rfl ?_
  intro p e s m args below meth c s₁ B hml hv
  obtain ⟨rfl, hB, hK⟩ := hv
  have hx := B.exec
  have hb := B.bytes
  have hr := B.returns
  have hts := atoms_spec (ws := wsX0_startAnew) B.pre
  have hown : s.vm.findClass RX0 = some m.cls := findClass_of_methodNamed B.named
  have hlocks := B.notSynchronized
  have hS : bS (rA o) s.heap s.heap [] := bS.rf
  have hl := lv_entry ([.ref (o + g)]) (n := 1) (Nat.le_of_ble_eq_true rfl)
  rw [lg_entry_eq]
  generalize (lg_sl ([.ref (o + g)]) ++ List.replicate (1 - (lg_sl ([.ref (o + g)])).length) Slot.unset).toArray = ls at hl ⊢
  have hl : lv_has ls 1 [(0, .ref (o + g))] := hl
  have hB : bk D E LRM o M s.heap := hB
  have hinX0 : ∀ w ∈ wsX00, w ∈ wsX0_startAnew := by decide +kernel
  have hinX2 : ∀ w ∈ wsX20, w ∈ wsX0_startAnew := by decide +kernel
  refine lv_aload_n hx hb dX0_startAnew_0 rfl (lv_at hl 0 rfl) ?_
  refine lv_bipush (v := 20) hx hb dX0_startAnew_1 (by decide) ?_
  refine b_put (D := D) (E := E) (L := LRM) (o := o) (M := M) (v := 20) (ty := .int) (C := RX0) (T := TX0) (N := 12) hx hb hts hinX0 tyX0 tyX0_ok nmX0 hown hK.1 hB hS g (rA_of hg.1) hg.1 rfl 3 (by decide) rfl (hts (.fieldLink RX0 25 "RiverMeeting$Game" "lasting" "I") (List.mem_of_getElem? (i := 1) rfl)) (fun _ h9 => h9) rfl (by decide +kernel) rfl rfl dX0_startAnew_3 (fun M1 hM1 H locs hB _ hS => ?_)
  refine lv_aload_n hx hb dX0_startAnew_6 rfl (lv_at hl 0 rfl) ?_
  refine lv_iconst (v := 3) hx hb dX0_startAnew_7 (by decide) ?_
  refine b_put (D := D) (E := E) (L := LRM) (o := o) (M := M1) (v := 3) (ty := .int) (C := RX0) (T := TX0) (N := 12) hx hb hts hinX0 tyX0 tyX0_ok nmX0 hown hK.1 hB hS g (rA_of hg.1) hg.1 rfl 4 (by decide) rfl (hts (.fieldLink RX0 29 "RiverMeeting$Game" "factor" "I") (List.mem_of_getElem? (i := 2) rfl)) (fun _ h9 => h9) rfl (by decide +kernel) rfl rfl dX0_startAnew_8 (fun M2 hM2 H locs hB _ hS => ?_)
  refine lv_aload_n hx hb dX0_startAnew_11 rfl (lv_at hl 0 rfl) ?_
  refine lv_iconst (v := 0) hx hb dX0_startAnew_12 (by decide) ?_
  refine b_put (D := D) (E := E) (L := LRM) (o := o) (M := M2) (v := 0) (ty := .int) (C := RX0) (T := TX0) (N := 12) hx hb hts hinX0 tyX0 tyX0_ok nmX0 hown hK.1 hB hS g (rA_of hg.1) hg.1 rfl 5 (by decide) rfl (hts (.fieldLink RX0 32 "RiverMeeting$Game" "games" "I") (List.mem_of_getElem? (i := 3) rfl)) (fun _ h9 => h9) rfl (by decide +kernel) rfl rfl dX0_startAnew_13 (fun M3 hM3 H locs hB _ hS => ?_)
  refine lv_aload_n hx hb dX0_startAnew_16 rfl (lv_at hl 0 rfl) ?_
  refine lv_iconst (v := 0) hx hb dX0_startAnew_17 (by decide) ?_
  refine b_put (D := D) (E := E) (L := LRM) (o := o) (M := M3) (v := 0) (ty := .int) (C := RX0) (T := TX0) (N := 12) hx hb hts hinX0 tyX0 tyX0_ok nmX0 hown hK.1 hB hS g (rA_of hg.1) hg.1 rfl 10 (by decide) rfl (hts (.fieldLink RX0 35 "RiverMeeting$Game" "refusals" "I") (List.mem_of_getElem? (i := 4) rfl)) (fun _ h9 => h9) rfl (by decide +kernel) rfl rfl dX0_startAnew_18 (fun M4 hM4 H locs hB _ hS => ?_)
  refine lv_aload_n hx hb dX0_startAnew_21 rfl (lv_at hl 0 rfl) ?_
  refine lv_iconst (v := 0) hx hb dX0_startAnew_22 (by decide) ?_
  refine b_put (D := D) (E := E) (L := LRM) (o := o) (M := M4) (v := 0) (ty := .int) (C := RX0) (T := TX0) (N := 12) hx hb hts hinX0 tyX0 tyX0_ok nmX0 hown hK.1 hB hS g (rA_of hg.1) hg.1 rfl 11 (by decide) rfl (hts (.fieldLink RX0 38 "RiverMeeting$Game" "floods" "I") (List.mem_of_getElem? (i := 5) rfl)) (fun _ h9 => h9) rfl (by decide +kernel) rfl rfl dX0_startAnew_23 (fun M5 hM5 H locs hB _ hS => ?_)
  refine lv_aload_n hx hb dX0_startAnew_26 rfl (lv_at hl 0 rfl) ?_
  refine b_get (D := D) (E := E) (L := LRM) (o := o) (M := M5) (v := .ref (o + (g + 1))) (C := RX0) (T := TX0) (N := 12) hx hb hts hinX0 hown hK.1 hB g hg.1 rfl 0 (by decide) (hts (.fieldLink RX0 12 "RiverMeeting$Game" "first" "LRiverMeeting$Side;") (List.mem_of_getElem? (i := 6) rfl)) (fun _ h9 => h9) rfl dX0_startAnew_27 ?_
  refine lv_iconst (v := 0) hx hb dX0_startAnew_30 (by decide) ?_
  refine b_put (D := D) (E := E) (L := LRM) (o := o) (M := M5) (v := 0) (ty := .int) (C := RX2) (T := TX2) (N := 8) hx hb hts hinX2 tyX2 tyX2_ok nmX2 hown hK.1 hB hS (g + 1) (rA_of hg.2.1.1) hg.2.1.1 rfl 6 (by decide) rfl (hts (.fieldLink RX0 41 "RiverMeeting$Side" "won" "I") (List.mem_of_getElem? (i := 7) rfl)) (fun _ h9 => h9) rfl (by decide +kernel) rfl rfl dX0_startAnew_31 (fun M6 hM6 H locs hB _ hS => ?_)
  refine lv_aload_n hx hb dX0_startAnew_34 rfl (lv_at hl 0 rfl) ?_
  refine b_get (D := D) (E := E) (L := LRM) (o := o) (M := M6) (v := .ref (o + (g + 1))) (C := RX0) (T := TX0) (N := 12) hx hb hts hinX0 hown hK.1 hB g hg.1 rfl 0 (by decide) (hts (.fieldLink RX0 12 "RiverMeeting$Game" "first" "LRiverMeeting$Side;") (List.mem_of_getElem? (i := 6) rfl)) (fun _ h9 => h9) rfl dX0_startAnew_35 ?_
  refine lv_iconst (v := 0) hx hb dX0_startAnew_38 (by decide) ?_
  refine b_put (D := D) (E := E) (L := LRM) (o := o) (M := M6) (v := 0) (ty := .int) (C := RX2) (T := TX2) (N := 8) hx hb hts hinX2 tyX2 tyX2_ok nmX2 hown hK.1 hB hS (g + 1) (rA_of hg.2.1.1) hg.2.1.1 rfl 7 (by decide) rfl (hts (.fieldLink RX0 44 "RiverMeeting$Side" "paidEver" "I") (List.mem_of_getElem? (i := 8) rfl)) (fun _ h9 => h9) rfl (by decide +kernel) rfl rfl dX0_startAnew_39 (fun M7 hM7 H locs hB _ hS => ?_)
  refine lv_aload_n hx hb dX0_startAnew_42 rfl (lv_at hl 0 rfl) ?_
  refine b_get (D := D) (E := E) (L := LRM) (o := o) (M := M7) (v := .ref (o + (g + 5))) (C := RX0) (T := TX0) (N := 12) hx hb hts hinX0 hown hK.1 hB g hg.1 rfl 1 (by decide) (hts (.fieldLink RX0 18 "RiverMeeting$Game" "second" "LRiverMeeting$Side;") (List.mem_of_getElem? (i := 9) rfl)) (fun _ h9 => h9) rfl dX0_startAnew_43 ?_
  refine lv_iconst (v := 0) hx hb dX0_startAnew_46 (by decide) ?_
  refine b_put (D := D) (E := E) (L := LRM) (o := o) (M := M7) (v := 0) (ty := .int) (C := RX2) (T := TX2) (N := 8) hx hb hts hinX2 tyX2 tyX2_ok nmX2 hown hK.1 hB hS (g + 5) (rA_of hg.2.2.1.1) hg.2.2.1.1 rfl 6 (by decide) rfl (hts (.fieldLink RX0 41 "RiverMeeting$Side" "won" "I") (List.mem_of_getElem? (i := 7) rfl)) (fun _ h9 => h9) rfl (by decide +kernel) rfl rfl dX0_startAnew_47 (fun M8 hM8 H locs hB _ hS => ?_)
  refine lv_aload_n hx hb dX0_startAnew_50 rfl (lv_at hl 0 rfl) ?_
  refine b_get (D := D) (E := E) (L := LRM) (o := o) (M := M8) (v := .ref (o + (g + 5))) (C := RX0) (T := TX0) (N := 12) hx hb hts hinX0 hown hK.1 hB g hg.1 rfl 1 (by decide) (hts (.fieldLink RX0 18 "RiverMeeting$Game" "second" "LRiverMeeting$Side;") (List.mem_of_getElem? (i := 9) rfl)) (fun _ h9 => h9) rfl dX0_startAnew_51 ?_
  refine lv_iconst (v := 0) hx hb dX0_startAnew_54 (by decide) ?_
  refine b_put (D := D) (E := E) (L := LRM) (o := o) (M := M8) (v := 0) (ty := .int) (C := RX2) (T := TX2) (N := 8) hx hb hts hinX2 tyX2 tyX2_ok nmX2 hown hK.1 hB hS (g + 5) (rA_of hg.2.2.1.1) hg.2.2.1.1 rfl 7 (by decide) rfl (hts (.fieldLink RX0 44 "RiverMeeting$Side" "paidEver" "I") (List.mem_of_getElem? (i := 8) rfl)) (fun _ h9 => h9) rfl (by decide +kernel) rfl rfl dX0_startAnew_55 (fun M9 hM9 H locs hB _ hS => ?_)
  refine lv_aload_n hx hb dX0_startAnew_58 rfl (lv_at hl 0 rfl) ?_
  refine lv_lconst (v := 0) hx hb dX0_startAnew_59 (by decide) ?_
  refine b_mV (b_runV (As := [.long 0]) (rest := []) ⟨hx, hb, hml, hown, hts⟩ (c_X0_beginGame l D E o M9 g 0 hg) (cwV 1 hts gX0_startAnew_X0_beginGame rfl rfl rfl (by decide +kernel) ⟨Nat.le_of_ble_eq_true rfl, Nat.le_of_ble_eq_true rfl⟩) hK (bk_recv hK.1 hB hg.1 rfl) hB rfl hl rfl (Nat.le_of_ble_eq_true rfl) dX0_startAnew_60 ⟨Nat.zero_le _, Nat.zero_le _⟩) hS (fun q h => h) (fun M10 hM10 H locs hB _ hS => ?_)
  have e11 := p_X0_startAnew_e11 M g M1 hM1.symm M2 hM2.symm M3 hM3.symm M4 hM4.symm M5 hM5.symm M6 hM6.symm M7 hM7.symm M8 hM8.symm M9 hM9.symm M10 hM10.symm
  exact b_vret hx hb hr hlocks hS ⟨rfl, _, e11.symm, hB⟩ dX0_startAnew_63
def f_X0_sideOf (M : bM) (g : Nat) (x1 : Int32) : Nat := (if x1 = 0 then g + 1 else g + 5)
theorem u_f_X0_sideOf (M : bM) (g : Nat) (x1 : Int32) : f_X0_sideOf M g x1 = (if x1 = 0 then g + 1 else g + 5) := rfl
theorem p_X0_sideOf_e2 (M : bM) (g : Nat) (x1 : Int32) (c1 : ¬ x1 = 0) : f_X0_sideOf M g x1 = g + 5 := by exact Eq.trans (u_f_X0_sideOf M g x1) (if_neg c1)
theorem p_X0_sideOf_e3 (M : bM) (g : Nat) (x1 : Int32) (c1 : x1 = 0) : f_X0_sideOf M g x1 = g + 1 := by exact Eq.trans (u_f_X0_sideOf M g x1) (if_pos c1)
set_option maxHeartbeats 4000000 in
set_option maxRecDepth 100000 in
theorem c_X0_sideOf (l : Launch) (D : va_G) (E : Nat → ClassId) (o : Nat) (M : bM) (g : Nat) (x1 : Int32) (hg : isG g) : Met l yX0_sideOf wsX0_sideOf (rmF 0) (bPc D E [.ref (o + g), .int x1] (fun H => bk D E LRM o M H)) (bQ (aR fun r _ => r = o + f_X0_sideOf M g x1) bNo) 0 0 bNo := by
  refine Met.ofW (cc := cX0_sideOf) (maxL := 2) (ret := (some (.object "RiverMeeting$Side"))) (by decide) rfl ?_
  intro p e s m args below meth c s₁ B hml hv
  obtain ⟨rfl, hB, hK⟩ := hv
  have hx := B.exec
  have hb := B.bytes
  have hr := B.returns
  have hts := atoms_spec (ws := wsX0_sideOf) B.pre
  have hown : s.vm.findClass RX0 = some m.cls := findClass_of_methodNamed B.named
  have hlocks := B.notSynchronized
  have hS : bS bNo s.heap s.heap [] := bS.rf
  have hl := lv_entry ([.ref (o + g), .int x1]) (n := 2) (Nat.le_of_ble_eq_true rfl)
  rw [lg_entry_eq]
  generalize (lg_sl ([.ref (o + g), .int x1]) ++ List.replicate (2 - (lg_sl ([.ref (o + g), .int x1])).length) Slot.unset).toArray = ls at hl ⊢
  have hl : lv_has ls 2 [(0, .ref (o + g)), (1, .int x1)] := hl
  have hB : bk D E LRM o M s.heap := hB
  have hinX0 : ∀ w ∈ wsX00, w ∈ wsX0_sideOf := by decide +kernel
  refine lv_iload_n hx hb dX0_sideOf_0 rfl (lv_at hl 1 rfl) ?_
  refine lv_if_ne (tgt := 11) hx hb dX0_sideOf_1 (by decide) (fun c1 => ?_) (fun c1 => ?_)
  · refine lv_aload_n hx hb dX0_sideOf_11 rfl (lv_at hl 0 rfl) ?_
    refine b_get (D := D) (E := E) (L := LRM) (o := o) (M := M) (v := .ref (o + (g + 5))) (C := RX0) (T := TX0) (N := 12) hx hb hts hinX0 hown hK.1 hB g hg.1 rfl 1 (by decide) (hts (.fieldLink RX0 18 "RiverMeeting$Game" "second" "LRiverMeeting$Side;") (List.mem_of_getElem? (i := 2) rfl)) (fun _ h9 => h9) rfl dX0_sideOf_12 ?_
    have e2 := p_X0_sideOf_e2 M g x1 c1
    exact b_aret hx hb hr (Or.inl ⟨_, rfl⟩) hlocks hS ⟨_, rfl, by rw [e2]⟩ dX0_sideOf_15
  · refine lv_aload_n hx hb dX0_sideOf_4 rfl (lv_at hl 0 rfl) ?_
    refine b_get (D := D) (E := E) (L := LRM) (o := o) (M := M) (v := .ref (o + (g + 1))) (C := RX0) (T := TX0) (N := 12) hx hb hts hinX0 hown hK.1 hB g hg.1 rfl 0 (by decide) (hts (.fieldLink RX0 12 "RiverMeeting$Game" "first" "LRiverMeeting$Side;") (List.mem_of_getElem? (i := 1) rfl)) (fun _ h9 => h9) rfl dX0_sideOf_5 ?_
    refine lv_goto (tgt := 15) hx hb dX0_sideOf_8 (by decide) ?_
    have e3 := p_X0_sideOf_e3 M g x1 c1
    exact b_aret hx hb hr (Or.inl ⟨_, rfl⟩) hlocks hS ⟨_, rfl, by rw [e3]⟩ dX0_sideOf_15
theorem isS_sideOf {M : bM} {g : Nat} {x : Int32} (h : isG g) : isS (f_X0_sideOf M g x) := by
  unfold f_X0_sideOf
  by_cases c : x = 0
  · rw [if_pos c]; exact h.2.1
  · rw [if_neg c]; exact h.2.2.1
def f_X0_phase (M : bM) (g : Nat) : Int32 := (if (M g 8) = (-1) then (if (M g 6) < 80 then 1 else 3) else 2)
theorem u_f_X0_phase (M : bM) (g : Nat) : f_X0_phase M g = (if (M g 8) = (-1) then (if (M g 6) < 80 then 1 else 3) else 2) := rfl
theorem p_X0_phase_e3 (M : bM) (g : Nat) (c1 : (M g 8) = (-1)) (c2 : (M g 6) < 80) : f_X0_phase M g = 1 := by exact Eq.trans (u_f_X0_phase M g) (Eq.trans (if_pos c1) (if_pos c2))
theorem p_X0_phase_e4 (M : bM) (g : Nat) (c1 : (M g 8) = (-1)) (c2 : ¬ (M g 6) < 80) : f_X0_phase M g = 3 := by exact Eq.trans (u_f_X0_phase M g) (Eq.trans (if_pos c1) (if_neg c2))
theorem p_X0_phase_e5 (M : bM) (g : Nat) (c1 : ¬ (M g 8) = (-1)) : f_X0_phase M g = 2 := by exact Eq.trans (u_f_X0_phase M g) (if_neg c1)
set_option maxHeartbeats 4000000 in
set_option maxRecDepth 100000 in
theorem c_X0_phase (l : Launch) (D : va_G) (E : Nat → ClassId) (o : Nat) (M : bM) (g : Nat) (hg : isG g) : Met l yX0_phase wsX0_phase (rmF 0) (bPc D E [.ref (o + g)] (fun H => bk D E LRM o M H)) (bQ (aI fun r _ => r = f_X0_phase M g) bNo) 0 0 bNo := by
  refine Met.ofW (cc := cX0_phase) (maxL := 1) (ret := (some .int)) (by decide) rfl ?_
  intro p e s m args below meth c s₁ B hml hv
  obtain ⟨rfl, hB, hK⟩ := hv
  have hx := B.exec
  have hb := B.bytes
  have hr := B.returns
  have hts := atoms_spec (ws := wsX0_phase) B.pre
  have hown : s.vm.findClass RX0 = some m.cls := findClass_of_methodNamed B.named
  have hlocks := B.notSynchronized
  have hS : bS bNo s.heap s.heap [] := bS.rf
  have hl := lv_entry ([.ref (o + g)]) (n := 1) (Nat.le_of_ble_eq_true rfl)
  rw [lg_entry_eq]
  generalize (lg_sl ([.ref (o + g)]) ++ List.replicate (1 - (lg_sl ([.ref (o + g)])).length) Slot.unset).toArray = ls at hl ⊢
  have hl : lv_has ls 1 [(0, .ref (o + g))] := hl
  have hB : bk D E LRM o M s.heap := hB
  have hinX0 : ∀ w ∈ wsX00, w ∈ wsX0_phase := by decide +kernel
  refine lv_aload_n hx hb dX0_phase_0 rfl (lv_at hl 0 rfl) ?_
  refine b_get (D := D) (E := E) (L := LRM) (o := o) (M := M) (v := .int (M g 8)) (C := RX0) (T := TX0) (N := 12) hx hb hts hinX0 hown hK.1 hB g hg.1 rfl 8 (by decide) (hts (.fieldLink RX0 70 "RiverMeeting$Game" "meeting" "I") (List.mem_of_getElem? (i := 1) rfl)) (fun _ h9 => h9) rfl dX0_phase_1 ?_
  refine lv_iconst (v := (-1)) hx hb dX0_phase_4 (by decide) ?_
  refine lv_icmp_eq (tgt := 10) hx hb dX0_phase_5 (by decide) (fun c1 => ?_) (fun c1 => ?_)
  · refine lv_aload_n hx hb dX0_phase_10 rfl (lv_at hl 0 rfl) ?_
    refine b_get (D := D) (E := E) (L := LRM) (o := o) (M := M) (v := .int (M g 6)) (C := RX0) (T := TX0) (N := 12) hx hb hts hinX0 hown hK.1 hB g hg.1 rfl 6 (by decide) (hts (.fieldLink RX0 64 "RiverMeeting$Game" "turns" "I") (List.mem_of_getElem? (i := 2) rfl)) (fun _ h9 => h9) rfl dX0_phase_11 ?_
    refine lv_bipush (v := 80) hx hb dX0_phase_14 (by decide) ?_
    refine lv_icmp_lt (tgt := 23) hx hb dX0_phase_16 (by decide) (fun c2 => ?_) (fun c2 => ?_)
    · refine lv_iconst (v := 1) hx hb dX0_phase_23 (by decide) ?_
      have e3 := p_X0_phase_e3 M g c1 c2
      exact b_iret hx hb hr hlocks hS ⟨_, rfl, e3.symm⟩ dX0_phase_24
    · refine lv_iconst (v := 3) hx hb dX0_phase_19 (by decide) ?_
      refine lv_goto (tgt := 24) hx hb dX0_phase_20 (by decide) ?_
      have e4 := p_X0_phase_e4 M g c1 c2
      exact b_iret hx hb hr hlocks hS ⟨_, rfl, e4.symm⟩ dX0_phase_24
  · refine lv_iconst (v := 2) hx hb dX0_phase_8 (by decide) ?_
    have e5 := p_X0_phase_e5 M g c1
    exact b_iret hx hb hr hlocks hS ⟨_, rfl, e5.symm⟩ dX0_phase_9
def f_X0_isOver (M : bM) (g : Nat) : Int32 := (let r1 : Int32 := f_X0_phase M g; (if r1 = 1 then 0 else 1))
theorem u_f_X0_isOver (M : bM) (g : Nat) : f_X0_isOver M g = (let r1 : Int32 := f_X0_phase M g; (if r1 = 1 then 0 else 1)) := rfl
theorem p_X0_isOver_e3 (M : bM) (g : Nat) (r1 : Int32) (hr1 : f_X0_phase M g = r1) (c2 : r1 = 1) : f_X0_isOver M g = 0 := by subst hr1; exact Eq.trans (u_f_X0_isOver M g) (if_pos c2)
theorem p_X0_isOver_e4 (M : bM) (g : Nat) (r1 : Int32) (hr1 : f_X0_phase M g = r1) (c2 : ¬ r1 = 1) : f_X0_isOver M g = 1 := by subst hr1; exact Eq.trans (u_f_X0_isOver M g) (if_neg c2)
set_option maxHeartbeats 4000000 in
set_option maxRecDepth 100000 in
theorem c_X0_isOver (l : Launch) (D : va_G) (E : Nat → ClassId) (o : Nat) (M : bM) (g : Nat) (hg : isG g) : Met l yX0_isOver wsX0_isOver (rmF 1) (bPc D E [.ref (o + g)] (fun H => bk D E LRM o M H)) (bQ (aI fun r _ => r = f_X0_isOver M g) bNo) 0 0 bNo := by
  refine Met.ofW (cc := cX0_isOver) (maxL := 1) (ret := (some .boolean)) (by decide) rfl ?_
  intro p e s m args below meth c s₁ B hml hv
  obtain ⟨rfl, hB, hK⟩ := hv
  have hx := B.exec
  have hb := B.bytes
  have hr := B.returns
  have hts := atoms_spec (ws := wsX0_isOver) B.pre
  have hown : s.vm.findClass RX0 = some m.cls := findClass_of_methodNamed B.named
  have hlocks := B.notSynchronized
  have hS : bS bNo s.heap s.heap [] := bS.rf
  have hl := lv_entry ([.ref (o + g)]) (n := 1) (Nat.le_of_ble_eq_true rfl)
  rw [lg_entry_eq]
  generalize (lg_sl ([.ref (o + g)]) ++ List.replicate (1 - (lg_sl ([.ref (o + g)])).length) Slot.unset).toArray = ls at hl ⊢
  have hl : lv_has ls 1 [(0, .ref (o + g))] := hl
  have hB : bk D E LRM o M s.heap := hB
  refine lv_aload_n hx hb dX0_isOver_0 rfl (lv_at hl 0 rfl) ?_
  refine b_pI (b_runV (As := []) (rest := []) ⟨hx, hb, hml, hown, hts⟩ (c_X0_phase l D E o M g hg) (cwV 0 hts gX0_isOver_X0_phase rfl rfl rfl (by decide +kernel) ⟨Nat.le_of_ble_eq_true rfl, Nat.le_of_ble_eq_true rfl⟩) hK (bk_recv hK.1 hB hg.1 rfl) hB rfl hl rfl (Nat.le_of_ble_eq_true rfl) dX0_isOver_1 ⟨Nat.zero_le _, Nat.zero_le _⟩) hS (fun r1 hr1 locs hS => ?_)
  refine lv_iconst (v := 1) hx hb dX0_isOver_4 (by decide) ?_
  refine lv_icmp_eq (tgt := 12) hx hb dX0_isOver_5 (by decide) (fun c2 => ?_) (fun c2 => ?_)
  · refine lv_iconst (v := 0) hx hb dX0_isOver_12 (by decide) ?_
    have e3 := p_X0_isOver_e3 M g r1 hr1.symm c2
    exact b_zret hx hb hr rfl hlocks hS ⟨_, rfl, e3.symm⟩ dX0_isOver_13
  · refine lv_iconst (v := 1) hx hb dX0_isOver_8 (by decide) ?_
    refine lv_goto (tgt := 13) hx hb dX0_isOver_9 (by decide) ?_
    have e4 := p_X0_isOver_e4 M g r1 hr1.symm c2
    exact b_zret hx hb hr rfl hlocks hS ⟨_, rfl, e4.symm⟩ dX0_isOver_13
def f_X0_hasDam (M : bM) (g : Nat) (x1 : Int32) : Int32 := (let r1 : Int32 := f_X6_fits x1; (if r1 = 0 then 0 else (if (M (g + 9) x1.toNatClampNeg) = (-1) then 0 else 1)))
theorem u_f_X0_hasDam (M : bM) (g : Nat) (x1 : Int32) : f_X0_hasDam M g x1 = (let r1 : Int32 := f_X6_fits x1; (if r1 = 0 then 0 else (if (M (g + 9) x1.toNatClampNeg) = (-1) then 0 else 1))) := rfl
theorem p_X0_hasDam_e3 (M : bM) (g : Nat) (x1 : Int32) (r1 : Int32) (hr1 : f_X6_fits x1 = r1) (c2 : r1 = 0) : f_X0_hasDam M g x1 = 0 := by subst hr1; exact Eq.trans (u_f_X0_hasDam M g x1) (if_pos c2)
theorem p_X0_hasDam_e5 (M : bM) (g : Nat) (x1 : Int32) (r1 : Int32) (hr1 : f_X6_fits x1 = r1) (c2 : ¬ r1 = 0) (c4 : (M (g + 9) x1.toNatClampNeg) = (-1)) : f_X0_hasDam M g x1 = 0 := by subst hr1; exact Eq.trans (u_f_X0_hasDam M g x1) (Eq.trans (if_neg c2) (if_pos c4))
theorem p_X0_hasDam_e6 (M : bM) (g : Nat) (x1 : Int32) (r1 : Int32) (hr1 : f_X6_fits x1 = r1) (c2 : ¬ r1 = 0) (c4 : ¬ (M (g + 9) x1.toNatClampNeg) = (-1)) : f_X0_hasDam M g x1 = 1 := by subst hr1; exact Eq.trans (u_f_X0_hasDam M g x1) (Eq.trans (if_neg c2) (if_neg c4))
set_option maxHeartbeats 4000000 in
set_option maxRecDepth 100000 in
theorem c_X0_hasDam (l : Launch) (D : va_G) (E : Nat → ClassId) (o : Nat) (M : bM) (g : Nat) (x1 : Int32) (hg : isG g) : Met l yX0_hasDam wsX0_hasDam (rmF 1) (bPc D E [.ref (o + g), .int x1] (fun H => bk D E LRM o M H)) (bQ (aI fun r _ => r = f_X0_hasDam M g x1) bNo) 0 0 bNo := by
  refine Met.ofW (cc := cX0_hasDam) (maxL := 2) (ret := (some .boolean)) (by decide) rfl ?_
  intro p e s m args below meth c s₁ B hml hv
  obtain ⟨rfl, hB, hK⟩ := hv
  have hx := B.exec
  have hb := B.bytes
  have hr := B.returns
  have hts := atoms_spec (ws := wsX0_hasDam) B.pre
  have hown : s.vm.findClass RX0 = some m.cls := findClass_of_methodNamed B.named
  have hlocks := B.notSynchronized
  have hS : bS bNo s.heap s.heap [] := bS.rf
  have hl := lv_entry ([.ref (o + g), .int x1]) (n := 2) (Nat.le_of_ble_eq_true rfl)
  rw [lg_entry_eq]
  generalize (lg_sl ([.ref (o + g), .int x1]) ++ List.replicate (2 - (lg_sl ([.ref (o + g), .int x1])).length) Slot.unset).toArray = ls at hl ⊢
  have hl : lv_has ls 2 [(0, .ref (o + g)), (1, .int x1)] := hl
  have hB : bk D E LRM o M s.heap := hB
  have hinX0 : ∀ w ∈ wsX00, w ∈ wsX0_hasDam := by decide +kernel
  refine lv_iload_n hx hb dX0_hasDam_0 rfl (lv_at hl 1 rfl) ?_
  refine b_pI (b_runSN (As := [.int x1]) (rest := []) ⟨hx, hb, hml, hown, hts⟩ (c_X6_fits l D E x1) ⟨va_cnB (host := "RiverMeeting") 1 hts gX0_hasDam_X6_fits_n91 rfl rfl rfl (hK.2 7 _ rfl) (hts (.initialized RX6) (List.mem_of_getElem? (i := 3) rfl)) (by decide +kernel) ⟨Nat.le_of_ble_eq_true rfl, Nat.le_of_ble_eq_true rfl⟩, (hts (.static yX6_fits) (List.mem_of_getElem? (i := 2) rfl)), trivial⟩ hK trivial rfl hl rfl (Nat.le_of_ble_eq_true rfl) dX0_hasDam_1 ⟨Nat.zero_le _, Nat.zero_le _⟩) hS (fun r1 hr1 locs hS => ?_)
  refine lv_if_eq (tgt := 21) hx hb dX0_hasDam_4 (by decide) (fun c2 => ?_) (fun c2 => ?_)
  · refine lv_iconst (v := 0) hx hb dX0_hasDam_21 (by decide) ?_
    have e3 := p_X0_hasDam_e3 M g x1 r1 hr1.symm c2
    exact b_zret hx hb hr rfl hlocks hS ⟨_, rfl, e3.symm⟩ dX0_hasDam_22
  · refine lv_aload_n hx hb dX0_hasDam_7 rfl (lv_at hl 0 rfl) ?_
    refine b_get (D := D) (E := E) (L := LRM) (o := o) (M := M) (v := .ref (o + (g + 9))) (C := RX0) (T := TX0) (N := 12) hx hb hts hinX0 hown hK.1 hB g hg.1 rfl 2 (by decide) (hts (.fieldLink RX0 21 "RiverMeeting$Game" "stood" "[I") (List.mem_of_getElem? (i := 1) rfl)) (fun _ h9 => h9) rfl dX0_hasDam_8 ?_
    refine lv_iload_n hx hb dX0_hasDam_11 rfl (lv_at hl 1 rfl) ?_
    refine b_iald hx hb hK.1 hB (g + 9) hg.2.2.2 (fits_in (hr1 ▸ c2)) dX0_hasDam_12 ?_
    refine lv_iconst (v := (-1)) hx hb dX0_hasDam_13 (by decide) ?_
    refine lv_icmp_eq (tgt := 21) hx hb dX0_hasDam_14 (by decide) (fun c4 => ?_) (fun c4 => ?_)
    · refine lv_iconst (v := 0) hx hb dX0_hasDam_21 (by decide) ?_
      have e5 := p_X0_hasDam_e5 M g x1 r1 hr1.symm c2 c4
      exact b_zret hx hb hr rfl hlocks hS ⟨_, rfl, e5.symm⟩ dX0_hasDam_22
    · refine lv_iconst (v := 1) hx hb dX0_hasDam_17 (by decide) ?_
      refine lv_goto (tgt := 22) hx hb dX0_hasDam_18 (by decide) ?_
      have e6 := p_X0_hasDam_e6 M g x1 r1 hr1.symm c2 c4
      exact b_zret hx hb hr rfl hlocks hS ⟨_, rfl, e6.symm⟩ dX0_hasDam_22
def f_X0_stoodAt (M : bM) (g : Nat) (x1 : Int32) : Int32 := (let r1 : Int32 := f_X6_fits x1; (if r1 = 0 then (-1) else (M (g + 9) x1.toNatClampNeg)))
theorem u_f_X0_stoodAt (M : bM) (g : Nat) (x1 : Int32) : f_X0_stoodAt M g x1 = (let r1 : Int32 := f_X6_fits x1; (if r1 = 0 then (-1) else (M (g + 9) x1.toNatClampNeg))) := rfl
theorem p_X0_stoodAt_e3 (M : bM) (g : Nat) (x1 : Int32) (r1 : Int32) (hr1 : f_X6_fits x1 = r1) (c2 : r1 = 0) : f_X0_stoodAt M g x1 = (-1) := by subst hr1; exact Eq.trans (u_f_X0_stoodAt M g x1) (if_pos c2)
theorem p_X0_stoodAt_e4 (M : bM) (g : Nat) (x1 : Int32) (r1 : Int32) (hr1 : f_X6_fits x1 = r1) (c2 : ¬ r1 = 0) : f_X0_stoodAt M g x1 = (M (g + 9) x1.toNatClampNeg) := by subst hr1; exact Eq.trans (u_f_X0_stoodAt M g x1) (if_neg c2)
set_option maxHeartbeats 4000000 in
set_option maxRecDepth 100000 in
theorem c_X0_stoodAt (l : Launch) (D : va_G) (E : Nat → ClassId) (o : Nat) (M : bM) (g : Nat) (x1 : Int32) (hg : isG g) : Met l yX0_stoodAt wsX0_stoodAt (rmF 1) (bPc D E [.ref (o + g), .int x1] (fun H => bk D E LRM o M H)) (bQ (aI fun r _ => r = f_X0_stoodAt M g x1) bNo) 0 0 bNo := by
  refine Met.ofW (cc := cX0_stoodAt) (maxL := 2) (ret := (some .int)) (by decide) rfl ?_
  intro p e s m args below meth c s₁ B hml hv
  obtain ⟨rfl, hB, hK⟩ := hv
  have hx := B.exec
  have hb := B.bytes
  have hr := B.returns
  have hts := atoms_spec (ws := wsX0_stoodAt) B.pre
  have hown : s.vm.findClass RX0 = some m.cls := findClass_of_methodNamed B.named
  have hlocks := B.notSynchronized
  have hS : bS bNo s.heap s.heap [] := bS.rf
  have hl := lv_entry ([.ref (o + g), .int x1]) (n := 2) (Nat.le_of_ble_eq_true rfl)
  rw [lg_entry_eq]
  generalize (lg_sl ([.ref (o + g), .int x1]) ++ List.replicate (2 - (lg_sl ([.ref (o + g), .int x1])).length) Slot.unset).toArray = ls at hl ⊢
  have hl : lv_has ls 2 [(0, .ref (o + g)), (1, .int x1)] := hl
  have hB : bk D E LRM o M s.heap := hB
  have hinX0 : ∀ w ∈ wsX00, w ∈ wsX0_stoodAt := by decide +kernel
  refine lv_iload_n hx hb dX0_stoodAt_0 rfl (lv_at hl 1 rfl) ?_
  refine b_pI (b_runSN (As := [.int x1]) (rest := []) ⟨hx, hb, hml, hown, hts⟩ (c_X6_fits l D E x1) ⟨va_cnB (host := "RiverMeeting") 1 hts gX0_stoodAt_X6_fits_n91 rfl rfl rfl (hK.2 7 _ rfl) (hts (.initialized RX6) (List.mem_of_getElem? (i := 3) rfl)) (by decide +kernel) ⟨Nat.le_of_ble_eq_true rfl, Nat.le_of_ble_eq_true rfl⟩, (hts (.static yX6_fits) (List.mem_of_getElem? (i := 2) rfl)), trivial⟩ hK trivial rfl hl rfl (Nat.le_of_ble_eq_true rfl) dX0_stoodAt_1 ⟨Nat.zero_le _, Nat.zero_le _⟩) hS (fun r1 hr1 locs hS => ?_)
  refine lv_if_eq (tgt := 16) hx hb dX0_stoodAt_4 (by decide) (fun c2 => ?_) (fun c2 => ?_)
  · refine lv_iconst (v := (-1)) hx hb dX0_stoodAt_16 (by decide) ?_
    have e3 := p_X0_stoodAt_e3 M g x1 r1 hr1.symm c2
    exact b_iret hx hb hr hlocks hS ⟨_, rfl, e3.symm⟩ dX0_stoodAt_17
  · refine lv_aload_n hx hb dX0_stoodAt_7 rfl (lv_at hl 0 rfl) ?_
    refine b_get (D := D) (E := E) (L := LRM) (o := o) (M := M) (v := .ref (o + (g + 9))) (C := RX0) (T := TX0) (N := 12) hx hb hts hinX0 hown hK.1 hB g hg.1 rfl 2 (by decide) (hts (.fieldLink RX0 21 "RiverMeeting$Game" "stood" "[I") (List.mem_of_getElem? (i := 1) rfl)) (fun _ h9 => h9) rfl dX0_stoodAt_8 ?_
    refine lv_iload_n hx hb dX0_stoodAt_11 rfl (lv_at hl 1 rfl) ?_
    refine b_iald hx hb hK.1 hB (g + 9) hg.2.2.2 (fits_in (hr1 ▸ c2)) dX0_stoodAt_12 ?_
    refine lv_goto (tgt := 17) hx hb dX0_stoodAt_13 (by decide) ?_
    have e4 := p_X0_stoodAt_e4 M g x1 r1 hr1.symm c2
    exact b_iret hx hb hr hlocks hS ⟨_, rfl, e4.symm⟩ dX0_stoodAt_17
def lp_X0_countDams_4 (M : bM) (g : Nat) : Nat → Nat → Int32 → (Int32)
  | 0, i1, x2 => x2
  | n1 + 1, i1, x2 => (if (M (g + 9) i1) = (-1) then lp_X0_countDams_4 M g n1 (i1 + 1) x2 else (let x8 : Int32 := x2 + 1; lp_X0_countDams_4 M g n1 (i1 + 1) x8))
theorem u0_lp_X0_countDams_4 (M : bM) (g : Nat) (i1 : Nat) (x2 : Int32) : lp_X0_countDams_4 M g 0 i1 x2 = x2 := rfl
theorem u1_lp_X0_countDams_4 (M : bM) (g : Nat) (n1 i1 : Nat) (x2 : Int32) : lp_X0_countDams_4 M g (n1 + 1) i1 x2 = (if (M (g + 9) i1) = (-1) then lp_X0_countDams_4 M g n1 (i1 + 1) x2 else (let x8 : Int32 := x2 + 1; lp_X0_countDams_4 M g n1 (i1 + 1) x8)) := rfl
def f_X0_countDams (M : bM) (g : Nat) : Int32 := (let x10 : Int32 := (lp_X0_countDams_4 M g 64 0 0); x10)
theorem u_f_X0_countDams (M : bM) (g : Nat) : f_X0_countDams M g = (let x10 : Int32 := (lp_X0_countDams_4 M g 64 0 0); x10) := rfl
theorem p_X0_countDams_e4 (M : bM) (g : Nat) (x2 : Int32) (i1 : Nat)  : lp_X0_countDams_4 M g 0 i1 x2 = x2 := by exact u0_lp_X0_countDams_4 M g i1 x2
theorem p_X0_countDams_e7 (M : bM) (g : Nat) (x2 : Int32) (i1 : Nat) (n1 : Nat) (c6 : (M (g + 9) i1) = (-1)) : lp_X0_countDams_4 M g (n1 + 1) i1 x2 = lp_X0_countDams_4 M g n1 (i1 + 1) x2 := by exact Eq.trans (u1_lp_X0_countDams_4 M g n1 i1 x2) (if_pos c6)
theorem p_X0_countDams_e9 (M : bM) (g : Nat) (x2 : Int32) (i1 : Nat) (n1 : Nat) (c6 : ¬ (M (g + 9) i1) = (-1)) (x8 : Int32) (hx8 : x2 + 1 = x8) : lp_X0_countDams_4 M g (n1 + 1) i1 x2 = lp_X0_countDams_4 M g n1 (i1 + 1) x8 := by subst hx8; exact Eq.trans (u1_lp_X0_countDams_4 M g n1 i1 x2) (if_neg c6)
theorem p_X0_countDams_e11 (M : bM) (g : Nat) (x10 : Int32) (hx10 : (lp_X0_countDams_4 M g 64 0 0) = x10) : f_X0_countDams M g = x10 := by subst hx10; exact u_f_X0_countDams M g
set_option maxHeartbeats 4000000 in
set_option maxRecDepth 100000 in
theorem c_X0_countDams (l : Launch) (D : va_G) (E : Nat → ClassId) (o : Nat) (M : bM) (g : Nat) (hg : isG g) : Met l yX0_countDams wsX0_countDams (rmF 0) (bPc D E [.ref (o + g)] (fun H => bk D E LRM o M H)) (bQ (aI fun r _ => r = f_X0_countDams M g) bNo) 0 0 bNo := by
  refine Met.ofW (cc := cX0_countDams) (maxL := 3) (ret := (some .int)) (by decide) rfl ?_
  intro p e s m args below meth c s₁ B hml hv
  obtain ⟨rfl, hB, hK⟩ := hv
  have hx := B.exec
  have hb := B.bytes
  have hr := B.returns
  have hts := atoms_spec (ws := wsX0_countDams) B.pre
  have hown : s.vm.findClass RX0 = some m.cls := findClass_of_methodNamed B.named
  have hlocks := B.notSynchronized
  have hS : bS bNo s.heap s.heap [] := bS.rf
  have hl := lv_entry ([.ref (o + g)]) (n := 3) (Nat.le_of_ble_eq_true rfl)
  rw [lg_entry_eq]
  generalize (lg_sl ([.ref (o + g)]) ++ List.replicate (3 - (lg_sl ([.ref (o + g)])).length) Slot.unset).toArray = ls at hl ⊢
  have hl : lv_has ls 3 [(0, .ref (o + g))] := hl
  have hB : bk D E LRM o M s.heap := hB
  have hinX0 : ∀ w ∈ wsX00, w ∈ wsX0_countDams := by decide +kernel
  refine lv_iconst (v := 0) hx hb dX0_countDams_0 (by decide) ?_
  refine lv_istore_n (lv' := [(1, .int 0), (0, .ref (o + g))]) hx hb dX0_countDams_1 rfl hl (by decide) rfl (fun ls hl => ?_)
  refine lv_iconst (v := 0) hx hb dX0_countDams_2 (by decide) ?_
  refine lv_istore_n (lv' := [(2, .int 0), (1, .int 0), (0, .ref (o + g))]) hx hb dX0_countDams_3 rfl hl (by decide) rfl (fun ls hl => ?_)
  have lp1 : ∀ (n1 i1 : Nat) (x2 : Int32), i1 + n1 = 64 → ∀ (H : Heap) (locs : List Loc), bk D E LRM o M H → bS bNo s.heap H locs → ∀ ls : Array Slot, lv_has ls 3 [(2, .int (nI i1)), (1, .int x2), (0, .ref (o + g))] → (∀ (H : Heap) (locs : List Loc), bk D E LRM o M H → bS bNo s.heap H locs → ∀ ls : Array Slot, lv_has ls 3 [(1, .int (lp_X0_countDams_4 M g n1 i1 x2)), (0, .ref (o + g))] → W p l e (headSpec wsX0_countDams (rmF 0)).room s m ([.ref (o + g)] : List Value).toArray below meth c H locs 0 0 (MQ below (bQ (aI fun r _ => r = f_X0_countDams M g) bNo) ([.ref (o + g)] : List Value).toArray s 0 0 bNo) (F0 m 29 ls [])) → W p l e (headSpec wsX0_countDams (rmF 0)).room s m ([.ref (o + g)] : List Value).toArray below meth c H locs 0 0 (MQ below (bQ (aI fun r _ => r = f_X0_countDams M g) bNo) ([.ref (o + g)] : List Value).toArray s 0 0 bNo) (F0 m 4 ls []) := by
    intro n1
    induction n1 with
    | zero =>
      intro i1 x2 hi1 H locs hB hS ls hl hexit1
      have hz1 : i1 = 64 := by omega
      refine lv_iload_n hx hb dX0_countDams_4 rfl (lv_at hl 0 rfl) ?_
      refine lv_bipush (v := 64) hx hb dX0_countDams_5 (by decide) ?_
      refine lv_icmp_ge (tgt := 29) hx hb dX0_countDams_7 (by decide) (fun c3 => ?_) (fun c3 => absurd (by rw [hz1]; exact Int32.le_refl _) c3)
      have e4 := p_X0_countDams_e4 M g x2 i1 
      rw [e4] at hexit1
      exact hexit1 _ _  hB hS ls (lv_sub hl [1, 2] rfl)
    | succ n1 ih1 =>
      intro i1 x2 hi1 H locs hB hS ls hl hexit1
      refine lv_iload_n hx hb dX0_countDams_4 rfl (lv_at hl 0 rfl) ?_
      refine lv_bipush (v := 64) hx hb dX0_countDams_5 (by decide) ?_
      refine lv_icmp_ge (tgt := 29) hx hb dX0_countDams_7 (by decide) (fun c5 => absurd c5 (nI_ge (a := i1) (b := 64) (by omega) (by decide))) (fun c5 => ?_)
      refine lv_aload_n hx hb dX0_countDams_10 rfl (lv_at hl 2 rfl) ?_
      refine b_get (D := D) (E := E) (L := LRM) (o := o) (M := M) (v := .ref (o + (g + 9))) (C := RX0) (T := TX0) (N := 12) hx hb hts hinX0 hown hK.1 hB g hg.1 rfl 2 (by decide) (hts (.fieldLink RX0 21 "RiverMeeting$Game" "stood" "[I") (List.mem_of_getElem? (i := 1) rfl)) (fun _ h9 => h9) rfl dX0_countDams_11 ?_
      refine lv_iload_n hx hb dX0_countDams_14 rfl (lv_at hl 0 rfl) ?_
      refine b_iald hx hb hK.1 hB (g + 9) hg.2.2.2 (vp_in_nI (by omega) (by decide)) dX0_countDams_15 ?_
      rw [nI_clamp (n := i1) (by omega)]
      refine lv_iconst (v := (-1)) hx hb dX0_countDams_16 (by decide) ?_
      refine lv_icmp_eq (tgt := 23) hx hb dX0_countDams_17 (by decide) (fun c6 => ?_) (fun c6 => ?_)
      · refine lv_iinc (v := nI (i1 + 1)) (lv' := [(2, .int (nI (i1 + 1))), (1, .int x2), (0, .ref (o + g))]) hx hb dX0_countDams_23 hl (k := 0) rfl (nI_1 i1) (by decide) rfl (fun ls hl => ?_)
        refine lv_goto (tgt := 4) hx hb dX0_countDams_26 (by decide) ?_
        have e7 := p_X0_countDams_e7 M g x2 i1 n1 c6
        rw [e7] at hexit1
        exact ih1 (i1 + 1) x2 (by omega) _ _ hB hS ls (lv_sub hl [0, 1, 2] rfl) hexit1
      · obtain ⟨x8, hx8⟩ : ∃ y : Int32, y = x2 + 1 := ⟨_, rfl⟩
        refine lv_iinc (v := x8) (lv' := [(1, .int x8), (2, .int (nI i1)), (0, .ref (o + g))]) hx hb dX0_countDams_20 hl (k := 1) rfl (by rw [hx8]; rfl) (by decide) rfl (fun ls hl => ?_)
        refine lv_iinc (v := nI (i1 + 1)) (lv' := [(2, .int (nI (i1 + 1))), (1, .int x8), (0, .ref (o + g))]) hx hb dX0_countDams_23 hl (k := 1) rfl (nI_1 i1) (by decide) rfl (fun ls hl => ?_)
        refine lv_goto (tgt := 4) hx hb dX0_countDams_26 (by decide) ?_
        have e9 := p_X0_countDams_e9 M g x2 i1 n1 c6 x8 hx8.symm
        rw [e9] at hexit1
        exact ih1 (i1 + 1) x8 (by omega) _ _ hB hS ls (lv_sub hl [0, 1, 2] rfl) hexit1
  refine lp1 64 0 0 (by omega) _ _ hB hS ls (lv_sub hl [0, 1, 2] rfl) ?_
  intro H locs hB hS ls hl
  obtain ⟨x10, hx10⟩ : ∃ y : Int32, y = (lp_X0_countDams_4 M g 64 0 0) := ⟨_, rfl⟩
  rw [← hx10] at hl
  have hl : lv_has ls 3 [(1, .int x10), (0, .ref (o + g))] := hl
  refine lv_iload_n hx hb dX0_countDams_29 rfl (lv_at hl 0 rfl) ?_
  have e11 := p_X0_countDams_e11 M g x10 hx10.symm
  exact b_iret hx hb hr hlocks hS ⟨_, rfl, e11.symm⟩ dX0_countDams_30
def f_X0_contentOf (M : bM) (g : Nat) (x1 : Int32) : Int32 := (let r1 : Int32 := f_X0_hasDam M g x1; (if r1 = 0 then (let r3 : Int32 := f_X2_holds M (g + 1) x1; (if r3 = 0 then (let r5 : Int32 := f_X2_holds M (g + 5) x1; (if r5 = 0 then 0 else 2)) else (let r9 : Int32 := f_X2_holds M (g + 5) x1; (if r9 = 0 then 1 else 3)))) else 4))
theorem u_f_X0_contentOf (M : bM) (g : Nat) (x1 : Int32) : f_X0_contentOf M g x1 = (let r1 : Int32 := f_X0_hasDam M g x1; (if r1 = 0 then (let r3 : Int32 := f_X2_holds M (g + 1) x1; (if r3 = 0 then (let r5 : Int32 := f_X2_holds M (g + 5) x1; (if r5 = 0 then 0 else 2)) else (let r9 : Int32 := f_X2_holds M (g + 5) x1; (if r9 = 0 then 1 else 3)))) else 4)) := rfl
theorem p_X0_contentOf_e7 (M : bM) (g : Nat) (x1 : Int32) (r1 : Int32) (hr1 : f_X0_hasDam M g x1 = r1) (c2 : r1 = 0) (r3 : Int32) (hr3 : f_X2_holds M (g + 1) x1 = r3) (c4 : r3 = 0) (r5 : Int32) (hr5 : f_X2_holds M (g + 5) x1 = r5) (c6 : r5 = 0) : f_X0_contentOf M g x1 = 0 := by subst hr5 hr3 hr1; exact Eq.trans (u_f_X0_contentOf M g x1) (Eq.trans (if_pos c2) (Eq.trans (if_pos c4) (if_pos c6)))
theorem p_X0_contentOf_e8 (M : bM) (g : Nat) (x1 : Int32) (r1 : Int32) (hr1 : f_X0_hasDam M g x1 = r1) (c2 : r1 = 0) (r3 : Int32) (hr3 : f_X2_holds M (g + 1) x1 = r3) (c4 : r3 = 0) (r5 : Int32) (hr5 : f_X2_holds M (g + 5) x1 = r5) (c6 : ¬ r5 = 0) : f_X0_contentOf M g x1 = 2 := by subst hr5 hr3 hr1; exact Eq.trans (u_f_X0_contentOf M g x1) (Eq.trans (if_pos c2) (Eq.trans (if_pos c4) (if_neg c6)))
theorem p_X0_contentOf_e11 (M : bM) (g : Nat) (x1 : Int32) (r1 : Int32) (hr1 : f_X0_hasDam M g x1 = r1) (c2 : r1 = 0) (r3 : Int32) (hr3 : f_X2_holds M (g + 1) x1 = r3) (c4 : ¬ r3 = 0) (r9 : Int32) (hr9 : f_X2_holds M (g + 5) x1 = r9) (c10 : r9 = 0) : f_X0_contentOf M g x1 = 1 := by subst hr9 hr3 hr1; exact Eq.trans (u_f_X0_contentOf M g x1) (Eq.trans (if_pos c2) (Eq.trans (if_neg c4) (if_pos c10)))
theorem p_X0_contentOf_e12 (M : bM) (g : Nat) (x1 : Int32) (r1 : Int32) (hr1 : f_X0_hasDam M g x1 = r1) (c2 : r1 = 0) (r3 : Int32) (hr3 : f_X2_holds M (g + 1) x1 = r3) (c4 : ¬ r3 = 0) (r9 : Int32) (hr9 : f_X2_holds M (g + 5) x1 = r9) (c10 : ¬ r9 = 0) : f_X0_contentOf M g x1 = 3 := by subst hr9 hr3 hr1; exact Eq.trans (u_f_X0_contentOf M g x1) (Eq.trans (if_pos c2) (Eq.trans (if_neg c4) (if_neg c10)))
theorem p_X0_contentOf_e13 (M : bM) (g : Nat) (x1 : Int32) (r1 : Int32) (hr1 : f_X0_hasDam M g x1 = r1) (c2 : ¬ r1 = 0) : f_X0_contentOf M g x1 = 4 := by subst hr1; exact Eq.trans (u_f_X0_contentOf M g x1) (if_neg c2)
set_option maxHeartbeats 4000000 in
set_option maxRecDepth 100000 in
theorem c_X0_contentOf (l : Launch) (D : va_G) (E : Nat → ClassId) (o : Nat) (M : bM) (g : Nat) (x1 : Int32) (hg : isG g) : Met l yX0_contentOf wsX0_contentOf (rmF 2) (bPc D E [.ref (o + g), .int x1] (fun H => bk D E LRM o M H)) (bQ (aI fun r _ => r = f_X0_contentOf M g x1) bNo) 0 0 bNo := by
  refine Met.ofW (cc := cX0_contentOf) (maxL := 2) (ret := (some .int)) (by decide) rfl ?_
  intro p e s m args below meth c s₁ B hml hv
  obtain ⟨rfl, hB, hK⟩ := hv
  have hx := B.exec
  have hb := B.bytes
  have hr := B.returns
  have hts := atoms_spec (ws := wsX0_contentOf) B.pre
  have hown : s.vm.findClass RX0 = some m.cls := findClass_of_methodNamed B.named
  have hlocks := B.notSynchronized
  have hS : bS bNo s.heap s.heap [] := bS.rf
  have hl := lv_entry ([.ref (o + g), .int x1]) (n := 2) (Nat.le_of_ble_eq_true rfl)
  rw [lg_entry_eq]
  generalize (lg_sl ([.ref (o + g), .int x1]) ++ List.replicate (2 - (lg_sl ([.ref (o + g), .int x1])).length) Slot.unset).toArray = ls at hl ⊢
  have hl : lv_has ls 2 [(0, .ref (o + g)), (1, .int x1)] := hl
  have hB : bk D E LRM o M s.heap := hB
  have hinX0 : ∀ w ∈ wsX00, w ∈ wsX0_contentOf := by decide +kernel
  refine lv_aload_n hx hb dX0_contentOf_0 rfl (lv_at hl 0 rfl) ?_
  refine lv_iload_n hx hb dX0_contentOf_1 rfl (lv_at hl 1 rfl) ?_
  refine b_pI (b_runV (As := [.int x1]) (rest := []) ⟨hx, hb, hml, hown, hts⟩ (c_X0_hasDam l D E o M g x1 hg) (cwV 1 hts gX0_contentOf_X0_hasDam rfl rfl rfl (by decide +kernel) ⟨Nat.le_of_ble_eq_true rfl, Nat.le_of_ble_eq_true rfl⟩) hK (bk_recv hK.1 hB hg.1 rfl) hB rfl hl rfl (Nat.le_of_ble_eq_true rfl) dX0_contentOf_2 ⟨Nat.zero_le _, Nat.zero_le _⟩) hS (fun r1 hr1 locs hS => ?_)
  refine lv_if_eq (tgt := 10) hx hb dX0_contentOf_5 (by decide) (fun c2 => ?_) (fun c2 => ?_)
  · refine lv_aload_n hx hb dX0_contentOf_10 rfl (lv_at hl 0 rfl) ?_
    refine b_get (D := D) (E := E) (L := LRM) (o := o) (M := M) (v := .ref (o + (g + 1))) (C := RX0) (T := TX0) (N := 12) hx hb hts hinX0 hown hK.1 hB g hg.1 rfl 0 (by decide) (hts (.fieldLink RX0 12 "RiverMeeting$Game" "first" "LRiverMeeting$Side;") (List.mem_of_getElem? (i := 1) rfl)) (fun _ h9 => h9) rfl dX0_contentOf_11 ?_
    refine lv_iload_n hx hb dX0_contentOf_14 rfl (lv_at hl 1 rfl) ?_
    refine b_pI (b_runV (As := [.int x1]) (rest := []) ⟨hx, hb, hml, hown, hts⟩ (c_X2_holds l D E o M (g + 1) x1 hg.2.1) (cwV 1 hts gX0_contentOf_X2_holds rfl rfl rfl (by decide +kernel) ⟨Nat.le_of_ble_eq_true rfl, Nat.le_of_ble_eq_true rfl⟩) hK (bk_recv hK.1 hB hg.2.1.1 rfl) hB rfl hl rfl (Nat.le_of_ble_eq_true rfl) dX0_contentOf_15 ⟨Nat.zero_le _, Nat.zero_le _⟩) hS (fun r3 hr3 locs hS => ?_)
    refine lv_if_eq (tgt := 25) hx hb dX0_contentOf_18 (by decide) (fun c4 => ?_) (fun c4 => ?_)
    · refine lv_iconst (v := 0) hx hb dX0_contentOf_25 (by decide) ?_
      refine lv_aload_n hx hb dX0_contentOf_26 rfl (lv_at hl 0 rfl) ?_
      refine b_get (D := D) (E := E) (L := LRM) (o := o) (M := M) (v := .ref (o + (g + 5))) (C := RX0) (T := TX0) (N := 12) hx hb hts hinX0 hown hK.1 hB g hg.1 rfl 1 (by decide) (hts (.fieldLink RX0 18 "RiverMeeting$Game" "second" "LRiverMeeting$Side;") (List.mem_of_getElem? (i := 2) rfl)) (fun _ h9 => h9) rfl dX0_contentOf_27 ?_
      refine lv_iload_n hx hb dX0_contentOf_30 rfl (lv_at hl 1 rfl) ?_
      refine b_pI (b_runV (As := [.int x1]) (rest := [.int 0]) ⟨hx, hb, hml, hown, hts⟩ (c_X2_holds l D E o M (g + 5) x1 hg.2.2.1) (cwV 1 hts gX0_contentOf_X2_holds rfl rfl rfl (by decide +kernel) ⟨Nat.le_of_ble_eq_true rfl, Nat.le_of_ble_eq_true rfl⟩) hK (bk_recv hK.1 hB hg.2.2.1.1 rfl) hB rfl hl rfl (Nat.le_of_ble_eq_true rfl) dX0_contentOf_31 ⟨Nat.zero_le _, Nat.zero_le _⟩) hS (fun r5 hr5 locs hS => ?_)
      refine lv_if_eq (tgt := 41) hx hb dX0_contentOf_34 (by decide) (fun c6 => ?_) (fun c6 => ?_)
      · refine lv_iconst (v := 0) hx hb dX0_contentOf_41 (by decide) ?_
        refine lv_iadd hx hb dX0_contentOf_42 ?_
        refine lv_const (y := 0) (by decide) ?_
        have e7 := p_X0_contentOf_e7 M g x1 r1 hr1.symm c2 r3 hr3.symm c4 r5 hr5.symm c6
        exact b_iret hx hb hr hlocks hS ⟨_, rfl, e7.symm⟩ dX0_contentOf_43
      · refine lv_iconst (v := 2) hx hb dX0_contentOf_37 (by decide) ?_
        refine lv_goto (tgt := 42) hx hb dX0_contentOf_38 (by decide) ?_
        refine lv_iadd hx hb dX0_contentOf_42 ?_
        refine lv_const (y := 2) (by decide) ?_
        have e8 := p_X0_contentOf_e8 M g x1 r1 hr1.symm c2 r3 hr3.symm c4 r5 hr5.symm c6
        exact b_iret hx hb hr hlocks hS ⟨_, rfl, e8.symm⟩ dX0_contentOf_43
    · refine lv_iconst (v := 1) hx hb dX0_contentOf_21 (by decide) ?_
      refine lv_goto (tgt := 26) hx hb dX0_contentOf_22 (by decide) ?_
      refine lv_aload_n hx hb dX0_contentOf_26 rfl (lv_at hl 0 rfl) ?_
      refine b_get (D := D) (E := E) (L := LRM) (o := o) (M := M) (v := .ref (o + (g + 5))) (C := RX0) (T := TX0) (N := 12) hx hb hts hinX0 hown hK.1 hB g hg.1 rfl 1 (by decide) (hts (.fieldLink RX0 18 "RiverMeeting$Game" "second" "LRiverMeeting$Side;") (List.mem_of_getElem? (i := 2) rfl)) (fun _ h9 => h9) rfl dX0_contentOf_27 ?_
      refine lv_iload_n hx hb dX0_contentOf_30 rfl (lv_at hl 1 rfl) ?_
      refine b_pI (b_runV (As := [.int x1]) (rest := [.int 1]) ⟨hx, hb, hml, hown, hts⟩ (c_X2_holds l D E o M (g + 5) x1 hg.2.2.1) (cwV 1 hts gX0_contentOf_X2_holds rfl rfl rfl (by decide +kernel) ⟨Nat.le_of_ble_eq_true rfl, Nat.le_of_ble_eq_true rfl⟩) hK (bk_recv hK.1 hB hg.2.2.1.1 rfl) hB rfl hl rfl (Nat.le_of_ble_eq_true rfl) dX0_contentOf_31 ⟨Nat.zero_le _, Nat.zero_le _⟩) hS (fun r9 hr9 locs hS => ?_)
      refine lv_if_eq (tgt := 41) hx hb dX0_contentOf_34 (by decide) (fun c10 => ?_) (fun c10 => ?_)
      · refine lv_iconst (v := 0) hx hb dX0_contentOf_41 (by decide) ?_
        refine lv_iadd hx hb dX0_contentOf_42 ?_
        refine lv_const (y := 1) (by decide) ?_
        have e11 := p_X0_contentOf_e11 M g x1 r1 hr1.symm c2 r3 hr3.symm c4 r9 hr9.symm c10
        exact b_iret hx hb hr hlocks hS ⟨_, rfl, e11.symm⟩ dX0_contentOf_43
      · refine lv_iconst (v := 2) hx hb dX0_contentOf_37 (by decide) ?_
        refine lv_goto (tgt := 42) hx hb dX0_contentOf_38 (by decide) ?_
        refine lv_iadd hx hb dX0_contentOf_42 ?_
        refine lv_const (y := 3) (by decide) ?_
        have e12 := p_X0_contentOf_e12 M g x1 r1 hr1.symm c2 r3 hr3.symm c4 r9 hr9.symm c10
        exact b_iret hx hb hr hlocks hS ⟨_, rfl, e12.symm⟩ dX0_contentOf_43
  · refine lv_iconst (v := 4) hx hb dX0_contentOf_8 (by decide) ?_
    have e13 := p_X0_contentOf_e13 M g x1 r1 hr1.symm c2
    exact b_iret hx hb hr hlocks hS ⟨_, rfl, e13.symm⟩ dX0_contentOf_9
def f_X0_settingOf (M : bM) (g : Nat) (x1 : Int32) : Int32 := (if x1 = 0 then (M g 3) else (M g 4))
theorem u_f_X0_settingOf (M : bM) (g : Nat) (x1 : Int32) : f_X0_settingOf M g x1 = (if x1 = 0 then (M g 3) else (M g 4)) := rfl
theorem p_X0_settingOf_e2 (M : bM) (g : Nat) (x1 : Int32) (c1 : ¬ x1 = 0) : f_X0_settingOf M g x1 = (M g 4) := by exact Eq.trans (u_f_X0_settingOf M g x1) (if_neg c1)
theorem p_X0_settingOf_e3 (M : bM) (g : Nat) (x1 : Int32) (c1 : x1 = 0) : f_X0_settingOf M g x1 = (M g 3) := by exact Eq.trans (u_f_X0_settingOf M g x1) (if_pos c1)
set_option maxHeartbeats 4000000 in
set_option maxRecDepth 100000 in
theorem c_X0_settingOf (l : Launch) (D : va_G) (E : Nat → ClassId) (o : Nat) (M : bM) (g : Nat) (x1 : Int32) (hg : isG g) : Met l yX0_settingOf wsX0_settingOf (rmF 0) (bPc D E [.ref (o + g), .int x1] (fun H => bk D E LRM o M H)) (bQ (aI fun r _ => r = f_X0_settingOf M g x1) bNo) 0 0 bNo := by
  refine Met.ofW (cc := cX0_settingOf) (maxL := 2) (ret := (some .int)) (by decide) rfl ?_
  intro p e s m args below meth c s₁ B hml hv
  obtain ⟨rfl, hB, hK⟩ := hv
  have hx := B.exec
  have hb := B.bytes
  have hr := B.returns
  have hts := atoms_spec (ws := wsX0_settingOf) B.pre
  have hown : s.vm.findClass RX0 = some m.cls := findClass_of_methodNamed B.named
  have hlocks := B.notSynchronized
  have hS : bS bNo s.heap s.heap [] := bS.rf
  have hl := lv_entry ([.ref (o + g), .int x1]) (n := 2) (Nat.le_of_ble_eq_true rfl)
  rw [lg_entry_eq]
  generalize (lg_sl ([.ref (o + g), .int x1]) ++ List.replicate (2 - (lg_sl ([.ref (o + g), .int x1])).length) Slot.unset).toArray = ls at hl ⊢
  have hl : lv_has ls 2 [(0, .ref (o + g)), (1, .int x1)] := hl
  have hB : bk D E LRM o M s.heap := hB
  have hinX0 : ∀ w ∈ wsX00, w ∈ wsX0_settingOf := by decide +kernel
  refine lv_iload_n hx hb dX0_settingOf_0 rfl (lv_at hl 1 rfl) ?_
  refine lv_if_ne (tgt := 11) hx hb dX0_settingOf_1 (by decide) (fun c1 => ?_) (fun c1 => ?_)
  · refine lv_aload_n hx hb dX0_settingOf_11 rfl (lv_at hl 0 rfl) ?_
    refine b_get (D := D) (E := E) (L := LRM) (o := o) (M := M) (v := .int (M g 4)) (C := RX0) (T := TX0) (N := 12) hx hb hts hinX0 hown hK.1 hB g hg.1 rfl 4 (by decide) (hts (.fieldLink RX0 29 "RiverMeeting$Game" "factor" "I") (List.mem_of_getElem? (i := 2) rfl)) (fun _ h9 => h9) rfl dX0_settingOf_12 ?_
    have e2 := p_X0_settingOf_e2 M g x1 c1
    exact b_iret hx hb hr hlocks hS ⟨_, rfl, e2.symm⟩ dX0_settingOf_15
  · refine lv_aload_n hx hb dX0_settingOf_4 rfl (lv_at hl 0 rfl) ?_
    refine b_get (D := D) (E := E) (L := LRM) (o := o) (M := M) (v := .int (M g 3)) (C := RX0) (T := TX0) (N := 12) hx hb hts hinX0 hown hK.1 hB g hg.1 rfl 3 (by decide) (hts (.fieldLink RX0 25 "RiverMeeting$Game" "lasting" "I") (List.mem_of_getElem? (i := 1) rfl)) (fun _ h9 => h9) rfl dX0_settingOf_5 ?_
    refine lv_goto (tgt := 15) hx hb dX0_settingOf_8 (by decide) ?_
    have e3 := p_X0_settingOf_e3 M g x1 c1
    exact b_iret hx hb hr hlocks hS ⟨_, rfl, e3.symm⟩ dX0_settingOf_15
def f_X0_changeSetting (M : bM) (g : Nat) (x1 : Int32) (x2 : Int32) : Int32 × bM := (let r1 : Int32 := f_X0_settingOf M g x1; (if x1 = 0 then (let M5 : bM := up2 M g 3 x2; (r1, M5)) else (let M3 : bM := up2 M g 4 x2; (r1, M3))))
theorem u_f_X0_changeSetting (M : bM) (g : Nat) (x1 : Int32) (x2 : Int32) : f_X0_changeSetting M g x1 x2 = (let r1 : Int32 := f_X0_settingOf M g x1; (if x1 = 0 then (let M5 : bM := up2 M g 3 x2; (r1, M5)) else (let M3 : bM := up2 M g 4 x2; (r1, M3)))) := rfl
theorem p_X0_changeSetting_e4 (M : bM) (g : Nat) (x1 : Int32) (x2 : Int32) (r1 : Int32) (hr1 : f_X0_settingOf M g x1 = r1) (c2 : ¬ x1 = 0) (M3 : bM) (hM3 : up2 M g 4 x2 = M3) : f_X0_changeSetting M g x1 x2 = (r1, M3) := by subst hM3 hr1; exact Eq.trans (u_f_X0_changeSetting M g x1 x2) (if_neg c2)
theorem p_X0_changeSetting_e6 (M : bM) (g : Nat) (x1 : Int32) (x2 : Int32) (r1 : Int32) (hr1 : f_X0_settingOf M g x1 = r1) (c2 : x1 = 0) (M5 : bM) (hM5 : up2 M g 3 x2 = M5) : f_X0_changeSetting M g x1 x2 = (r1, M5) := by subst hM5 hr1; exact Eq.trans (u_f_X0_changeSetting M g x1 x2) (if_pos c2)
set_option maxHeartbeats 4000000 in
set_option maxRecDepth 100000 in
theorem c_X0_changeSetting (l : Launch) (D : va_G) (E : Nat → ClassId) (o : Nat) (M : bM) (g : Nat) (x1 : Int32) (x2 : Int32) (hg : isG g) : Met l yX0_changeSetting wsX0_changeSetting (rmF 1) (bPc D E [.ref (o + g), .int x1, .int x2] (fun H => bk D E LRM o M H)) (bQ (aI fun r H => ∃ M1 : bM, (r = (f_X0_changeSetting M g x1 x2).1 ∧ M1 = (f_X0_changeSetting M g x1 x2).2) ∧ bk D E LRM o M1 H) (rA o)) 0 0 (rA o) := by
  refine Met.ofW (cc := cX0_changeSetting) (maxL := 4) (ret := (some .int)) (by decide) rfl ?_
  intro p e s m args below meth c s₁ B hml hv
  obtain ⟨rfl, hB, hK⟩ := hv
  have hx := B.exec
  have hb := B.bytes
  have hr := B.returns
  have hts := atoms_spec (ws := wsX0_changeSetting) B.pre
  have hown : s.vm.findClass RX0 = some m.cls := findClass_of_methodNamed B.named
  have hlocks := B.notSynchronized
  have hS : bS (rA o) s.heap s.heap [] := bS.rf
  have hl := lv_entry ([.ref (o + g), .int x1, .int x2]) (n := 4) (Nat.le_of_ble_eq_true rfl)
  rw [lg_entry_eq]
  generalize (lg_sl ([.ref (o + g), .int x1, .int x2]) ++ List.replicate (4 - (lg_sl ([.ref (o + g), .int x1, .int x2])).length) Slot.unset).toArray = ls at hl ⊢
  have hl : lv_has ls 4 [(0, .ref (o + g)), (1, .int x1), (2, .int x2)] := hl
  have hB : bk D E LRM o M s.heap := hB
  have hinX0 : ∀ w ∈ wsX00, w ∈ wsX0_changeSetting := by decide +kernel
  refine lv_aload_n hx hb dX0_changeSetting_0 rfl (lv_at hl 0 rfl) ?_
  refine lv_iload_n hx hb dX0_changeSetting_1 rfl (lv_at hl 1 rfl) ?_
  refine b_pI (b_runV (As := [.int x1]) (rest := []) ⟨hx, hb, hml, hown, hts⟩ (c_X0_settingOf l D E o M g x1 hg) (cwV 1 hts gX0_changeSetting_X0_settingOf rfl rfl rfl (by decide +kernel) ⟨Nat.le_of_ble_eq_true rfl, Nat.le_of_ble_eq_true rfl⟩) hK (bk_recv hK.1 hB hg.1 rfl) hB rfl hl rfl (Nat.le_of_ble_eq_true rfl) dX0_changeSetting_2 ⟨Nat.zero_le _, Nat.zero_le _⟩) hS (fun r1 hr1 locs hS => ?_)
  refine lv_istore_n (lv' := [(3, .int r1), (0, .ref (o + g)), (1, .int x1), (2, .int x2)]) hx hb dX0_changeSetting_5 rfl hl (by decide) rfl (fun ls hl => ?_)
  refine lv_iload_n hx hb dX0_changeSetting_6 rfl (lv_at hl 2 rfl) ?_
  refine lv_if_ne (tgt := 18) hx hb dX0_changeSetting_7 (by decide) (fun c2 => ?_) (fun c2 => ?_)
  · refine lv_aload_n hx hb dX0_changeSetting_18 rfl (lv_at hl 1 rfl) ?_
    refine lv_iload_n hx hb dX0_changeSetting_19 rfl (lv_at hl 3 rfl) ?_
    refine b_put (D := D) (E := E) (L := LRM) (o := o) (M := M) (v := x2) (ty := .int) (C := RX0) (T := TX0) (N := 12) hx hb hts hinX0 tyX0 tyX0_ok nmX0 hown hK.1 hB hS g (rA_of hg.1) hg.1 rfl 4 (by decide) rfl (hts (.fieldLink RX0 29 "RiverMeeting$Game" "factor" "I") (List.mem_of_getElem? (i := 2) rfl)) (fun _ h9 => h9) rfl (by decide +kernel) rfl rfl dX0_changeSetting_20 (fun M3 hM3 H locs hB _ hS => ?_)
    refine lv_iload_n hx hb dX0_changeSetting_23 rfl (lv_at hl 0 rfl) ?_
    have e4 := p_X0_changeSetting_e4 M g x1 x2 r1 hr1.symm c2 M3 hM3.symm
    exact b_iret hx hb hr hlocks hS ⟨_, rfl, _, ⟨(congrArg Prod.fst e4).symm, (congrArg Prod.snd e4).symm⟩, hB⟩ dX0_changeSetting_24
  · refine lv_aload_n hx hb dX0_changeSetting_10 rfl (lv_at hl 1 rfl) ?_
    refine lv_iload_n hx hb dX0_changeSetting_11 rfl (lv_at hl 3 rfl) ?_
    refine b_put (D := D) (E := E) (L := LRM) (o := o) (M := M) (v := x2) (ty := .int) (C := RX0) (T := TX0) (N := 12) hx hb hts hinX0 tyX0 tyX0_ok nmX0 hown hK.1 hB hS g (rA_of hg.1) hg.1 rfl 3 (by decide) rfl (hts (.fieldLink RX0 25 "RiverMeeting$Game" "lasting" "I") (List.mem_of_getElem? (i := 1) rfl)) (fun _ h9 => h9) rfl (by decide +kernel) rfl rfl dX0_changeSetting_12 (fun M5 hM5 H locs hB _ hS => ?_)
    refine lv_goto (tgt := 23) hx hb dX0_changeSetting_15 (by decide) ?_
    refine lv_iload_n hx hb dX0_changeSetting_23 rfl (lv_at hl 0 rfl) ?_
    have e6 := p_X0_changeSetting_e6 M g x1 x2 r1 hr1.symm c2 M5 hM5.symm
    exact b_iret hx hb hr hlocks hS ⟨_, rfl, _, ⟨(congrArg Prod.fst e6).symm, (congrArg Prod.snd e6).symm⟩, hB⟩ dX0_changeSetting_24
def f_X0_changeIfPossible (M : bM) (g : Nat) (x1 : Int32) (x2 : Int32) : Int32 × bM := (let r1 : Int32 := f_X6_isSettingValue x1 x2; (if r1 = 0 then (0, M) else (let r4 : Int32 := (f_X0_changeSetting M g x1 x2).1; (let M3 : bM := (f_X0_changeSetting M g x1 x2).2; (1, M3)))))
theorem u_f_X0_changeIfPossible (M : bM) (g : Nat) (x1 : Int32) (x2 : Int32) : f_X0_changeIfPossible M g x1 x2 = (let r1 : Int32 := f_X6_isSettingValue x1 x2; (if r1 = 0 then (0, M) else (let r4 : Int32 := (f_X0_changeSetting M g x1 x2).1; (let M3 : bM := (f_X0_changeSetting M g x1 x2).2; (1, M3))))) := rfl
theorem p_X0_changeIfPossible_e5 (M : bM) (g : Nat) (x1 : Int32) (x2 : Int32) (r1 : Int32) (hr1 : f_X6_isSettingValue x1 x2 = r1) (c2 : ¬ r1 = 0) (r4 : Int32) (hr4 : (f_X0_changeSetting M g x1 x2).1 = r4) (M3 : bM) (hM3 : (f_X0_changeSetting M g x1 x2).2 = M3) : f_X0_changeIfPossible M g x1 x2 = (1, M3) := by subst hM3 hr4 hr1; exact Eq.trans (u_f_X0_changeIfPossible M g x1 x2) (if_neg c2)
theorem p_X0_changeIfPossible_e6 (M : bM) (g : Nat) (x1 : Int32) (x2 : Int32) (r1 : Int32) (hr1 : f_X6_isSettingValue x1 x2 = r1) (c2 : r1 = 0) : f_X0_changeIfPossible M g x1 x2 = (0, M) := by subst hr1; exact Eq.trans (u_f_X0_changeIfPossible M g x1 x2) (if_pos c2)
set_option maxHeartbeats 4000000 in
set_option maxRecDepth 100000 in
theorem c_X0_changeIfPossible (l : Launch) (D : va_G) (E : Nat → ClassId) (o : Nat) (M : bM) (g : Nat) (x1 : Int32) (x2 : Int32) (hg : isG g) : Met l yX0_changeIfPossible wsX0_changeIfPossible (rmF 2) (bPc D E [.ref (o + g), .int x1, .int x2] (fun H => bk D E LRM o M H)) (bQ (aI fun r H => ∃ M1 : bM, (r = (f_X0_changeIfPossible M g x1 x2).1 ∧ M1 = (f_X0_changeIfPossible M g x1 x2).2) ∧ bk D E LRM o M1 H) (rA o)) 0 0 (rA o) := by
  refine Met.ofW (cc := cX0_changeIfPossible) (maxL := 3) (ret := (some .boolean)) (by decide) rfl ?_
  intro p e s m args below meth c s₁ B hml hv
  obtain ⟨rfl, hB, hK⟩ := hv
  have hx := B.exec
  have hb := B.bytes
  have hr := B.returns
  have hts := atoms_spec (ws := wsX0_changeIfPossible) B.pre
  have hown : s.vm.findClass RX0 = some m.cls := findClass_of_methodNamed B.named
  have hlocks := B.notSynchronized
  have hS : bS (rA o) s.heap s.heap [] := bS.rf
  have hl := lv_entry ([.ref (o + g), .int x1, .int x2]) (n := 3) (Nat.le_of_ble_eq_true rfl)
  rw [lg_entry_eq]
  generalize (lg_sl ([.ref (o + g), .int x1, .int x2]) ++ List.replicate (3 - (lg_sl ([.ref (o + g), .int x1, .int x2])).length) Slot.unset).toArray = ls at hl ⊢
  have hl : lv_has ls 3 [(0, .ref (o + g)), (1, .int x1), (2, .int x2)] := hl
  have hB : bk D E LRM o M s.heap := hB
  refine lv_iload_n hx hb dX0_changeIfPossible_0 rfl (lv_at hl 1 rfl) ?_
  refine lv_iload_n hx hb dX0_changeIfPossible_1 rfl (lv_at hl 2 rfl) ?_
  refine b_pI (b_runSN (As := [.int x1, .int x2]) (rest := []) ⟨hx, hb, hml, hown, hts⟩ (c_X6_isSettingValue l D E x1 x2) ⟨va_cnB (host := "RiverMeeting") 2 hts gX0_changeIfPossible_X6_isSettingValue_n105 rfl rfl rfl (hK.2 13 _ rfl) (hts (.initialized RX6) (List.mem_of_getElem? (i := 2) rfl)) (by decide +kernel) ⟨Nat.le_of_ble_eq_true rfl, Nat.le_of_ble_eq_true rfl⟩, (hts (.static yX6_isSettingValue) (List.mem_of_getElem? (i := 1) rfl)), trivial⟩ hK trivial rfl hl rfl (Nat.le_of_ble_eq_true rfl) dX0_changeIfPossible_2 ⟨Nat.zero_le _, Nat.zero_le _⟩) hS (fun r1 hr1 locs hS => ?_)
  refine lv_if_ne (tgt := 10) hx hb dX0_changeIfPossible_5 (by decide) (fun c2 => ?_) (fun c2 => ?_)
  · refine lv_aload_n hx hb dX0_changeIfPossible_10 rfl (lv_at hl 0 rfl) ?_
    refine lv_iload_n hx hb dX0_changeIfPossible_11 rfl (lv_at hl 1 rfl) ?_
    refine lv_iload_n hx hb dX0_changeIfPossible_12 rfl (lv_at hl 2 rfl) ?_
    refine b_mI (b_runV (As := [.int x1, .int x2]) (rest := []) ⟨hx, hb, hml, hown, hts⟩ (c_X0_changeSetting l D E o M g x1 x2 hg) (cwV 2 hts gX0_changeIfPossible_X0_changeSetting rfl rfl rfl (by decide +kernel) ⟨Nat.le_of_ble_eq_true rfl, Nat.le_of_ble_eq_true rfl⟩) hK (bk_recv hK.1 hB hg.1 rfl) hB rfl hl rfl (Nat.le_of_ble_eq_true rfl) dX0_changeIfPossible_13 ⟨Nat.zero_le _, Nat.zero_le _⟩) hS (fun q h => h) (fun r4 M3 hM3 H locs hB _ hS => ?_)
    obtain ⟨hr4, hM3⟩ := hM3
    refine lv_pop hx hb dX0_changeIfPossible_16 rfl ?_
    refine lv_iconst (v := 1) hx hb dX0_changeIfPossible_17 (by decide) ?_
    have e5 := p_X0_changeIfPossible_e5 M g x1 x2 r1 hr1.symm c2 r4 hr4.symm M3 hM3.symm
    exact b_zret hx hb hr rfl hlocks hS ⟨_, rfl, _, ⟨(congrArg Prod.fst e5).symm, (congrArg Prod.snd e5).symm⟩, hB⟩ dX0_changeIfPossible_18
  · refine lv_iconst (v := 0) hx hb dX0_changeIfPossible_8 (by decide) ?_
    have e6 := p_X0_changeIfPossible_e6 M g x1 x2 r1 hr1.symm c2
    exact b_zret hx hb hr rfl hlocks hS ⟨_, rfl, _, ⟨(congrArg Prod.fst e6).symm, (congrArg Prod.snd e6).symm⟩, hB⟩ dX0_changeIfPossible_9
def f_X0_reasonAgainstStep (M : bM) (g : Nat) (x1 : Int32) : Int32 := (let k2 : Nat := f_X0_sideOf M g (M g 7); (let r3 : Int32 := f_X2_head M k2; (let r4 : Int32 := f_X6_cellBeside r3 x1; (if r4 = (-1) then 1 else (let r6 : Int32 := f_X0_hasDam M g r4; (if r6 = 0 then (let r8 : Int32 := f_X2_holds M k2 r4; (if r8 = 0 then 0 else 3)) else 2))))))
theorem u_f_X0_reasonAgainstStep (M : bM) (g : Nat) (x1 : Int32) : f_X0_reasonAgainstStep M g x1 = (let k2 : Nat := f_X0_sideOf M g (M g 7); (let r3 : Int32 := f_X2_head M k2; (let r4 : Int32 := f_X6_cellBeside r3 x1; (if r4 = (-1) then 1 else (let r6 : Int32 := f_X0_hasDam M g r4; (if r6 = 0 then (let r8 : Int32 := f_X2_holds M k2 r4; (if r8 = 0 then 0 else 3)) else 2)))))) := rfl
theorem p_X0_reasonAgainstStep_e10 (M : bM) (g : Nat) (x1 : Int32) (k2 : Nat) (hk2 : f_X0_sideOf M g (M g 7) = k2) (r3 : Int32) (hr3 : f_X2_head M k2 = r3) (r4 : Int32) (hr4 : f_X6_cellBeside r3 x1 = r4) (c5 : ¬ r4 = (-1)) (r6 : Int32) (hr6 : f_X0_hasDam M g r4 = r6) (c7 : r6 = 0) (r8 : Int32) (hr8 : f_X2_holds M k2 r4 = r8) (c9 : r8 = 0) : f_X0_reasonAgainstStep M g x1 = 0 := by subst hr8 hr6 hr4 hr3 hk2; exact Eq.trans (u_f_X0_reasonAgainstStep M g x1) (Eq.trans (if_neg c5) (Eq.trans (if_pos c7) (if_pos c9)))
theorem p_X0_reasonAgainstStep_e11 (M : bM) (g : Nat) (x1 : Int32) (k2 : Nat) (hk2 : f_X0_sideOf M g (M g 7) = k2) (r3 : Int32) (hr3 : f_X2_head M k2 = r3) (r4 : Int32) (hr4 : f_X6_cellBeside r3 x1 = r4) (c5 : ¬ r4 = (-1)) (r6 : Int32) (hr6 : f_X0_hasDam M g r4 = r6) (c7 : r6 = 0) (r8 : Int32) (hr8 : f_X2_holds M k2 r4 = r8) (c9 : ¬ r8 = 0) : f_X0_reasonAgainstStep M g x1 = 3 := by subst hr8 hr6 hr4 hr3 hk2; exact Eq.trans (u_f_X0_reasonAgainstStep M g x1) (Eq.trans (if_neg c5) (Eq.trans (if_pos c7) (if_neg c9)))
theorem p_X0_reasonAgainstStep_e12 (M : bM) (g : Nat) (x1 : Int32) (k2 : Nat) (hk2 : f_X0_sideOf M g (M g 7) = k2) (r3 : Int32) (hr3 : f_X2_head M k2 = r3) (r4 : Int32) (hr4 : f_X6_cellBeside r3 x1 = r4) (c5 : ¬ r4 = (-1)) (r6 : Int32) (hr6 : f_X0_hasDam M g r4 = r6) (c7 : ¬ r6 = 0) : f_X0_reasonAgainstStep M g x1 = 2 := by subst hr6 hr4 hr3 hk2; exact Eq.trans (u_f_X0_reasonAgainstStep M g x1) (Eq.trans (if_neg c5) (if_neg c7))
theorem p_X0_reasonAgainstStep_e13 (M : bM) (g : Nat) (x1 : Int32) (k2 : Nat) (hk2 : f_X0_sideOf M g (M g 7) = k2) (r3 : Int32) (hr3 : f_X2_head M k2 = r3) (r4 : Int32) (hr4 : f_X6_cellBeside r3 x1 = r4) (c5 : r4 = (-1)) : f_X0_reasonAgainstStep M g x1 = 1 := by subst hr4 hr3 hk2; exact Eq.trans (u_f_X0_reasonAgainstStep M g x1) (if_pos c5)
set_option maxHeartbeats 4000000 in
set_option maxRecDepth 100000 in
theorem c_X0_reasonAgainstStep (l : Launch) (D : va_G) (E : Nat → ClassId) (o : Nat) (M : bM) (g : Nat) (x1 : Int32) (hg : isG g) : Met l yX0_reasonAgainstStep wsX0_reasonAgainstStep (rmF 2) (bPc D E [.ref (o + g), .int x1] (fun H => bk D E LRM o M H)) (bQ (aI fun r _ => r = f_X0_reasonAgainstStep M g x1) bNo) 0 0 bNo := by
  refine Met.ofW (cc := cX0_reasonAgainstStep) (maxL := 4) (ret := (some .int)) (by decide) rfl ?_
  intro p e s m args below meth c s₁ B hml hv
  obtain ⟨rfl, hB, hK⟩ := hv
  have hx := B.exec
  have hb := B.bytes
  have hr := B.returns
  have hts := atoms_spec (ws := wsX0_reasonAgainstStep) B.pre
  have hown : s.vm.findClass RX0 = some m.cls := findClass_of_methodNamed B.named
  have hlocks := B.notSynchronized
  have hS : bS bNo s.heap s.heap [] := bS.rf
  have hl := lv_entry ([.ref (o + g), .int x1]) (n := 4) (Nat.le_of_ble_eq_true rfl)
  rw [lg_entry_eq]
  generalize (lg_sl ([.ref (o + g), .int x1]) ++ List.replicate (4 - (lg_sl ([.ref (o + g), .int x1])).length) Slot.unset).toArray = ls at hl ⊢
  have hl : lv_has ls 4 [(0, .ref (o + g)), (1, .int x1)] := hl
  have hB : bk D E LRM o M s.heap := hB
  have hinX0 : ∀ w ∈ wsX00, w ∈ wsX0_reasonAgainstStep := by decide +kernel
  refine lv_aload_n hx hb dX0_reasonAgainstStep_0 rfl (lv_at hl 0 rfl) ?_
  refine lv_aload_n hx hb dX0_reasonAgainstStep_1 rfl (lv_at hl 0 rfl) ?_
  refine b_get (D := D) (E := E) (L := LRM) (o := o) (M := M) (v := .int (M g 7)) (C := RX0) (T := TX0) (N := 12) hx hb hts hinX0 hown hK.1 hB g hg.1 rfl 7 (by decide) (hts (.fieldLink RX0 67 "RiverMeeting$Game" "mover" "I") (List.mem_of_getElem? (i := 1) rfl)) (fun _ h9 => h9) rfl dX0_reasonAgainstStep_2 ?_
  refine b_pR (b_runV (As := [.int (M g 7)]) (rest := []) ⟨hx, hb, hml, hown, hts⟩ (c_X0_sideOf l D E o M g (M g 7) hg) (cwV 1 hts gX0_reasonAgainstStep_X0_sideOf rfl rfl rfl (by decide +kernel) ⟨Nat.le_of_ble_eq_true rfl, Nat.le_of_ble_eq_true rfl⟩) hK (bk_recv hK.1 hB hg.1 rfl) hB rfl hl rfl (Nat.le_of_ble_eq_true rfl) dX0_reasonAgainstStep_5 ⟨Nat.zero_le _, Nat.zero_le _⟩) hS (fun r1 hr1 locs hS => ?_)
  obtain ⟨k2, hk2⟩ : ∃ y : Nat, y = f_X0_sideOf M g (M g 7) := ⟨_, rfl⟩
  rw [← hk2] at hr1; subst hr1
  have hfk2 : isS k2 := by rw [hk2]; exact (isS_sideOf hg)
  refine lv_astore_n (lv' := [(2, .ref (o + k2)), (0, .ref (o + g)), (1, .int x1)]) hx hb dX0_reasonAgainstStep_8 rfl hl (by decide) rfl (fun ls hl => ?_)
  refine lv_aload_n hx hb dX0_reasonAgainstStep_9 rfl (lv_at hl 0 rfl) ?_
  refine b_pI (b_runV (As := []) (rest := []) ⟨hx, hb, hml, hown, hts⟩ (c_X2_head l D E o M k2 hfk2) (cwV 0 hts gX0_reasonAgainstStep_X2_head rfl rfl rfl (by decide +kernel) ⟨Nat.le_of_ble_eq_true rfl, Nat.le_of_ble_eq_true rfl⟩) hK (bk_recv hK.1 hB hfk2.1 rfl) hB rfl hl rfl (Nat.le_of_ble_eq_true rfl) dX0_reasonAgainstStep_10 ⟨Nat.zero_le _, Nat.zero_le _⟩) hS (fun r3 hr3 locs hS => ?_)
  refine lv_iload_n hx hb dX0_reasonAgainstStep_13 rfl (lv_at hl 2 rfl) ?_
  refine b_pI (b_runSN (As := [.int r3, .int x1]) (rest := []) ⟨hx, hb, hml, hown, hts⟩ (c_X6_cellBeside l D E r3 x1) ⟨va_cnB (host := "RiverMeeting") 2 hts gX0_reasonAgainstStep_X6_cellBeside_n120 rfl rfl rfl (hK.2 11 _ rfl) (hts (.initialized RX6) (List.mem_of_getElem? (i := 17) rfl)) (by decide +kernel) ⟨Nat.le_of_ble_eq_true rfl, Nat.le_of_ble_eq_true rfl⟩, (hts (.static yX6_cellBeside) (List.mem_of_getElem? (i := 16) rfl)), trivial⟩ hK trivial rfl hl rfl (Nat.le_of_ble_eq_true rfl) dX0_reasonAgainstStep_14 ⟨Nat.zero_le _, Nat.zero_le _⟩) hS (fun r4 hr4 locs hS => ?_)
  refine lv_istore_n (lv' := [(3, .int r4), (2, .ref (o + k2)), (0, .ref (o + g)), (1, .int x1)]) hx hb dX0_reasonAgainstStep_17 rfl hl (by decide) rfl (fun ls hl => ?_)
  refine lv_iload_n hx hb dX0_reasonAgainstStep_18 rfl (lv_at hl 0 rfl) ?_
  refine lv_iconst (v := (-1)) hx hb dX0_reasonAgainstStep_19 (by decide) ?_
  refine lv_icmp_ne (tgt := 25) hx hb dX0_reasonAgainstStep_20 (by decide) (fun c5 => ?_) (fun c5 => ?_)
  · refine lv_aload_n hx hb dX0_reasonAgainstStep_25 rfl (lv_at hl 2 rfl) ?_
    refine lv_iload_n hx hb dX0_reasonAgainstStep_26 rfl (lv_at hl 0 rfl) ?_
    refine b_pI (b_runV (As := [.int r4]) (rest := []) ⟨hx, hb, hml, hown, hts⟩ (c_X0_hasDam l D E o M g r4 hg) (cwV 1 hts gX0_reasonAgainstStep_X0_hasDam rfl rfl rfl (by decide +kernel) ⟨Nat.le_of_ble_eq_true rfl, Nat.le_of_ble_eq_true rfl⟩) hK (bk_recv hK.1 hB hg.1 rfl) hB rfl hl rfl (Nat.le_of_ble_eq_true rfl) dX0_reasonAgainstStep_27 ⟨Nat.zero_le _, Nat.zero_le _⟩) hS (fun r6 hr6 locs hS => ?_)
    refine lv_if_eq (tgt := 35) hx hb dX0_reasonAgainstStep_30 (by decide) (fun c7 => ?_) (fun c7 => ?_)
    · refine lv_aload_n hx hb dX0_reasonAgainstStep_35 rfl (lv_at hl 1 rfl) ?_
      refine lv_iload_n hx hb dX0_reasonAgainstStep_36 rfl (lv_at hl 0 rfl) ?_
      refine b_pI (b_runV (As := [.int r4]) (rest := []) ⟨hx, hb, hml, hown, hts⟩ (c_X2_holds l D E o M k2 r4 hfk2) (cwV 1 hts gX0_reasonAgainstStep_X2_holds rfl rfl rfl (by decide +kernel) ⟨Nat.le_of_ble_eq_true rfl, Nat.le_of_ble_eq_true rfl⟩) hK (bk_recv hK.1 hB hfk2.1 rfl) hB rfl hl rfl (Nat.le_of_ble_eq_true rfl) dX0_reasonAgainstStep_37 ⟨Nat.zero_le _, Nat.zero_le _⟩) hS (fun r8 hr8 locs hS => ?_)
      refine lv_if_eq (tgt := 47) hx hb dX0_reasonAgainstStep_40 (by decide) (fun c9 => ?_) (fun c9 => ?_)
      · refine lv_iconst (v := 0) hx hb dX0_reasonAgainstStep_47 (by decide) ?_
        have e10 := p_X0_reasonAgainstStep_e10 M g x1 k2 hk2.symm r3 hr3.symm r4 hr4.symm c5 r6 hr6.symm c7 r8 hr8.symm c9
        exact b_iret hx hb hr hlocks hS ⟨_, rfl, e10.symm⟩ dX0_reasonAgainstStep_48
      · refine lv_iconst (v := 3) hx hb dX0_reasonAgainstStep_43 (by decide) ?_
        refine lv_goto (tgt := 48) hx hb dX0_reasonAgainstStep_44 (by decide) ?_
        have e11 := p_X0_reasonAgainstStep_e11 M g x1 k2 hk2.symm r3 hr3.symm r4 hr4.symm c5 r6 hr6.symm c7 r8 hr8.symm c9
        exact b_iret hx hb hr hlocks hS ⟨_, rfl, e11.symm⟩ dX0_reasonAgainstStep_48
    · refine lv_iconst (v := 2) hx hb dX0_reasonAgainstStep_33 (by decide) ?_
      have e12 := p_X0_reasonAgainstStep_e12 M g x1 k2 hk2.symm r3 hr3.symm r4 hr4.symm c5 r6 hr6.symm c7
      exact b_iret hx hb hr hlocks hS ⟨_, rfl, e12.symm⟩ dX0_reasonAgainstStep_34
  · refine lv_iconst (v := 1) hx hb dX0_reasonAgainstStep_23 (by decide) ?_
    have e13 := p_X0_reasonAgainstStep_e13 M g x1 k2 hk2.symm r3 hr3.symm r4 hr4.symm c5
    exact b_iret hx hb hr hlocks hS ⟨_, rfl, e13.symm⟩ dX0_reasonAgainstStep_24
def lp_X0_endTurn_22 (g : Nat) : Nat → Nat → bM → (bM)
  | 0, i3, M4 => M4
  | n3 + 1, i3, M4 => (if (M4 (g + 9) i3) = (-1) then lp_X0_endTurn_22 g n3 (i3 + 1) M4 else (let M10 : bM := up2 M4 (g + 9) i3 ((M4 (g + 9) i3) + 1); (if (M10 (g + 9) i3) < (M10 g 3) then lp_X0_endTurn_22 g n3 (i3 + 1) M10 else (let M13 : bM := up2 M10 (g + 9) i3 (-1); lp_X0_endTurn_22 g n3 (i3 + 1) M13))))
theorem u0_lp_X0_endTurn_22 (g : Nat) (i3 : Nat) (M4 : bM) : lp_X0_endTurn_22 g 0 i3 M4 = M4 := rfl
theorem u1_lp_X0_endTurn_22 (g : Nat) (n3 i3 : Nat) (M4 : bM) : lp_X0_endTurn_22 g (n3 + 1) i3 M4 = (if (M4 (g + 9) i3) = (-1) then lp_X0_endTurn_22 g n3 (i3 + 1) M4 else (let M10 : bM := up2 M4 (g + 9) i3 ((M4 (g + 9) i3) + 1); (if (M10 (g + 9) i3) < (M10 g 3) then lp_X0_endTurn_22 g n3 (i3 + 1) M10 else (let M13 : bM := up2 M10 (g + 9) i3 (-1); lp_X0_endTurn_22 g n3 (i3 + 1) M13)))) := rfl
def f_X0_endTurn (M : bM) (g : Nat) : bM := (let M1 : bM := up2 M g 6 ((M g 6) + 1); (let M2 : bM := up2 M1 g 7 ((1 : Int32) - (M1 g 7)); (let M15 : bM := (lp_X0_endTurn_22 g 64 0 M2); M15)))
theorem u_f_X0_endTurn (M : bM) (g : Nat) : f_X0_endTurn M g = (let M1 : bM := up2 M g 6 ((M g 6) + 1); (let M2 : bM := up2 M1 g 7 ((1 : Int32) - (M1 g 7)); (let M15 : bM := (lp_X0_endTurn_22 g 64 0 M2); M15))) := rfl
theorem p_X0_endTurn_e6 (M : bM) (g : Nat) (M1 : bM) (M2 : bM) (M4 : bM) (i3 : Nat)  : lp_X0_endTurn_22 g 0 i3 M4 = M4 := by exact u0_lp_X0_endTurn_22 g i3 M4
theorem p_X0_endTurn_e9 (M : bM) (g : Nat) (M1 : bM) (M2 : bM) (M4 : bM) (i3 : Nat) (n3 : Nat) (c8 : (M4 (g + 9) i3) = (-1)) : lp_X0_endTurn_22 g (n3 + 1) i3 M4 = lp_X0_endTurn_22 g n3 (i3 + 1) M4 := by exact Eq.trans (u1_lp_X0_endTurn_22 g n3 i3 M4) (if_pos c8)
theorem p_X0_endTurn_e12 (M : bM) (g : Nat) (M1 : bM) (M2 : bM) (M4 : bM) (i3 : Nat) (n3 : Nat) (c8 : ¬ (M4 (g + 9) i3) = (-1)) (M10 : bM) (hM10 : up2 M4 (g + 9) i3 ((M4 (g + 9) i3) + 1) = M10) (c11 : (M10 (g + 9) i3) < (M10 g 3)) : lp_X0_endTurn_22 g (n3 + 1) i3 M4 = lp_X0_endTurn_22 g n3 (i3 + 1) M10 := by subst hM10; exact Eq.trans (u1_lp_X0_endTurn_22 g n3 i3 M4) (Eq.trans (if_neg c8) (if_pos c11))
theorem p_X0_endTurn_e14 (M : bM) (g : Nat) (M1 : bM) (M2 : bM) (M4 : bM) (i3 : Nat) (n3 : Nat) (c8 : ¬ (M4 (g + 9) i3) = (-1)) (M10 : bM) (hM10 : up2 M4 (g + 9) i3 ((M4 (g + 9) i3) + 1) = M10) (c11 : ¬ (M10 (g + 9) i3) < (M10 g 3)) (M13 : bM) (hM13 : up2 M10 (g + 9) i3 (-1) = M13) : lp_X0_endTurn_22 g (n3 + 1) i3 M4 = lp_X0_endTurn_22 g n3 (i3 + 1) M13 := by subst hM13 hM10; exact Eq.trans (u1_lp_X0_endTurn_22 g n3 i3 M4) (Eq.trans (if_neg c8) (if_neg c11))
theorem p_X0_endTurn_e16 (M : bM) (g : Nat) (M1 : bM) (hM1 : up2 M g 6 ((M g 6) + 1) = M1) (M2 : bM) (hM2 : up2 M1 g 7 ((1 : Int32) - (M1 g 7)) = M2) (M15 : bM) (hM15 : (lp_X0_endTurn_22 g 64 0 M2) = M15) : f_X0_endTurn M g = M15 := by subst hM15 hM2 hM1; exact u_f_X0_endTurn M g
set_option maxHeartbeats 4000000 in
set_option maxRecDepth 100000 in
theorem c_X0_endTurn (l : Launch) (D : va_G) (E : Nat → ClassId) (o : Nat) (M : bM) (g : Nat) (hg : isG g) : Met l yX0_endTurn wsX0_endTurn (rmF 0) (bPc D E [.ref (o + g)] (fun H => bk D E LRM o M H)) (bQ (aV fun H => ∃ M1 : bM, M1 = f_X0_endTurn M g ∧ bk D E LRM o M1 H) (rA o)) 0 0 (rA o) := by
  refine Met.ofW (cc := cX0_endTurn) (maxL := 2) (ret := none) (by decide) rfl ?_
  intro p e s m args below meth c s₁ B hml hv
  obtain ⟨rfl, hB, hK⟩ := hv
  have hx := B.exec
  have hb := B.bytes
  have hr := B.returns
  have hts := atoms_spec (ws := wsX0_endTurn) B.pre
  have hown : s.vm.findClass RX0 = some m.cls := findClass_of_methodNamed B.named
  have hlocks := B.notSynchronized
  have hS : bS (rA o) s.heap s.heap [] := bS.rf
  have hl := lv_entry ([.ref (o + g)]) (n := 2) (Nat.le_of_ble_eq_true rfl)
  rw [lg_entry_eq]
  generalize (lg_sl ([.ref (o + g)]) ++ List.replicate (2 - (lg_sl ([.ref (o + g)])).length) Slot.unset).toArray = ls at hl ⊢
  have hl : lv_has ls 2 [(0, .ref (o + g))] := hl
  have hB : bk D E LRM o M s.heap := hB
  have hinX0 : ∀ w ∈ wsX00, w ∈ wsX0_endTurn := by decide +kernel
  refine lv_aload_n hx hb dX0_endTurn_0 rfl (lv_at hl 0 rfl) ?_
  refine lv_dup hx hb dX0_endTurn_1 rfl ?_
  refine b_get (D := D) (E := E) (L := LRM) (o := o) (M := M) (v := .int (M g 6)) (C := RX0) (T := TX0) (N := 12) hx hb hts hinX0 hown hK.1 hB g hg.1 rfl 6 (by decide) (hts (.fieldLink RX0 64 "RiverMeeting$Game" "turns" "I") (List.mem_of_getElem? (i := 1) rfl)) (fun _ h9 => h9) rfl dX0_endTurn_2 ?_
  refine lv_iconst (v := 1) hx hb dX0_endTurn_5 (by decide) ?_
  refine lv_iadd hx hb dX0_endTurn_6 ?_
  refine b_put (D := D) (E := E) (L := LRM) (o := o) (M := M) (v := ((M g 6) + 1)) (ty := .int) (C := RX0) (T := TX0) (N := 12) hx hb hts hinX0 tyX0 tyX0_ok nmX0 hown hK.1 hB hS g (rA_of hg.1) hg.1 rfl 6 (by decide) rfl (hts (.fieldLink RX0 64 "RiverMeeting$Game" "turns" "I") (List.mem_of_getElem? (i := 1) rfl)) (fun _ h9 => h9) rfl (by decide +kernel) rfl rfl dX0_endTurn_7 (fun M1 hM1 H locs hB _ hS => ?_)
  refine lv_aload_n hx hb dX0_endTurn_10 rfl (lv_at hl 0 rfl) ?_
  refine lv_iconst (v := 1) hx hb dX0_endTurn_11 (by decide) ?_
  refine lv_aload_n hx hb dX0_endTurn_12 rfl (lv_at hl 0 rfl) ?_
  refine b_get (D := D) (E := E) (L := LRM) (o := o) (M := M1) (v := .int (M1 g 7)) (C := RX0) (T := TX0) (N := 12) hx hb hts hinX0 hown hK.1 hB g hg.1 rfl 7 (by decide) (hts (.fieldLink RX0 67 "RiverMeeting$Game" "mover" "I") (List.mem_of_getElem? (i := 2) rfl)) (fun _ h9 => h9) rfl dX0_endTurn_13 ?_
  refine lv_isub hx hb dX0_endTurn_16 ?_
  refine b_put (D := D) (E := E) (L := LRM) (o := o) (M := M1) (v := ((1 : Int32) - (M1 g 7))) (ty := .int) (C := RX0) (T := TX0) (N := 12) hx hb hts hinX0 tyX0 tyX0_ok nmX0 hown hK.1 hB hS g (rA_of hg.1) hg.1 rfl 7 (by decide) rfl (hts (.fieldLink RX0 67 "RiverMeeting$Game" "mover" "I") (List.mem_of_getElem? (i := 2) rfl)) (fun _ h9 => h9) rfl (by decide +kernel) rfl rfl dX0_endTurn_17 (fun M2 hM2 H locs hB _ hS => ?_)
  refine lv_iconst (v := 0) hx hb dX0_endTurn_20 (by decide) ?_
  refine lv_istore_n (lv' := [(1, .int 0), (0, .ref (o + g))]) hx hb dX0_endTurn_21 rfl hl (by decide) rfl (fun ls hl => ?_)
  have lp3 : ∀ (n3 i3 : Nat) (M4 : bM), i3 + n3 = 64 → ∀ (H : Heap) (locs : List Loc), bk D E LRM o M4 H → bS (rA o) s.heap H locs → ∀ ls : Array Slot, lv_has ls 2 [(1, .int (nI i3)), (0, .ref (o + g))] → (∀ (H : Heap) (locs : List Loc), bk D E LRM o (lp_X0_endTurn_22 g n3 i3 M4) H → bS (rA o) s.heap H locs → ∀ ls : Array Slot, lv_has ls 2 [(0, .ref (o + g))] → W p l e (headSpec wsX0_endTurn (rmF 0)).room s m ([.ref (o + g)] : List Value).toArray below meth c H locs 0 0 (MQ below (bQ (aV fun H => ∃ M1 : bM, M1 = f_X0_endTurn M g ∧ bk D E LRM o M1 H) (rA o)) ([.ref (o + g)] : List Value).toArray s 0 0 (rA o)) (F0 m 74 ls [])) → W p l e (headSpec wsX0_endTurn (rmF 0)).room s m ([.ref (o + g)] : List Value).toArray below meth c H locs 0 0 (MQ below (bQ (aV fun H => ∃ M1 : bM, M1 = f_X0_endTurn M g ∧ bk D E LRM o M1 H) (rA o)) ([.ref (o + g)] : List Value).toArray s 0 0 (rA o)) (F0 m 22 ls []) := by
    intro n3
    induction n3 with
    | zero =>
      intro i3 M4 hi3 H locs hB hS ls hl hexit3
      have hz3 : i3 = 64 := by omega
      refine lv_iload_n hx hb dX0_endTurn_22 rfl (lv_at hl 0 rfl) ?_
      refine lv_bipush (v := 64) hx hb dX0_endTurn_23 (by decide) ?_
      refine lv_icmp_ge (tgt := 74) hx hb dX0_endTurn_25 (by decide) (fun c5 => ?_) (fun c5 => absurd (by rw [hz3]; exact Int32.le_refl _) c5)
      have e6 := p_X0_endTurn_e6 M g M1 M2 M4 i3 
      rw [e6] at hexit3
      exact hexit3 _ _  hB hS ls (lv_sub hl [1] rfl)
    | succ n3 ih3 =>
      intro i3 M4 hi3 H locs hB hS ls hl hexit3
      refine lv_iload_n hx hb dX0_endTurn_22 rfl (lv_at hl 0 rfl) ?_
      refine lv_bipush (v := 64) hx hb dX0_endTurn_23 (by decide) ?_
      refine lv_icmp_ge (tgt := 74) hx hb dX0_endTurn_25 (by decide) (fun c7 => absurd c7 (nI_ge (a := i3) (b := 64) (by omega) (by decide))) (fun c7 => ?_)
      refine lv_aload_n hx hb dX0_endTurn_28 rfl (lv_at hl 1 rfl) ?_
      refine b_get (D := D) (E := E) (L := LRM) (o := o) (M := M4) (v := .ref (o + (g + 9))) (C := RX0) (T := TX0) (N := 12) hx hb hts hinX0 hown hK.1 hB g hg.1 rfl 2 (by decide) (hts (.fieldLink RX0 21 "RiverMeeting$Game" "stood" "[I") (List.mem_of_getElem? (i := 3) rfl)) (fun _ h9 => h9) rfl dX0_endTurn_29 ?_
      refine lv_iload_n hx hb dX0_endTurn_32 rfl (lv_at hl 0 rfl) ?_
      refine b_iald hx hb hK.1 hB (g + 9) hg.2.2.2 (vp_in_nI (by omega) (by decide)) dX0_endTurn_33 ?_
      rw [nI_clamp (n := i3) (by omega)]
      refine lv_iconst (v := (-1)) hx hb dX0_endTurn_34 (by decide) ?_
      refine lv_icmp_eq (tgt := 68) hx hb dX0_endTurn_35 (by decide) (fun c8 => ?_) (fun c8 => ?_)
      · refine lv_iinc (v := nI (i3 + 1)) (lv' := [(1, .int (nI (i3 + 1))), (0, .ref (o + g))]) hx hb dX0_endTurn_68 hl (k := 0) rfl (nI_1 i3) (by decide) rfl (fun ls hl => ?_)
        refine lv_goto (tgt := 22) hx hb dX0_endTurn_71 (by decide) ?_
        have e9 := p_X0_endTurn_e9 M g M1 M2 M4 i3 n3 c8
        rw [e9] at hexit3
        exact ih3 (i3 + 1) M4 (by omega) _ _ hB hS ls (lv_sub hl [0, 1] rfl) hexit3
      · refine lv_aload_n hx hb dX0_endTurn_38 rfl (lv_at hl 1 rfl) ?_
        refine b_get (D := D) (E := E) (L := LRM) (o := o) (M := M4) (v := .ref (o + (g + 9))) (C := RX0) (T := TX0) (N := 12) hx hb hts hinX0 hown hK.1 hB g hg.1 rfl 2 (by decide) (hts (.fieldLink RX0 21 "RiverMeeting$Game" "stood" "[I") (List.mem_of_getElem? (i := 3) rfl)) (fun _ h9 => h9) rfl dX0_endTurn_39 ?_
        refine lv_iload_n hx hb dX0_endTurn_42 rfl (lv_at hl 0 rfl) ?_
        refine lv_dup2_11 hx hb dX0_endTurn_43 rfl rfl ?_
        refine b_iald hx hb hK.1 hB (g + 9) hg.2.2.2 (vp_in_nI (by omega) (by decide)) dX0_endTurn_44 ?_
        rw [nI_clamp (n := i3) (by omega)]
        refine lv_iconst (v := 1) hx hb dX0_endTurn_45 (by decide) ?_
        refine lv_iadd hx hb dX0_endTurn_46 ?_
        refine b_iast hx hb hK.1 hB hS (g + 9) (rA_of hg.2.2.2) hg.2.2.2 (vp_in_nI (by omega) (by decide)) dX0_endTurn_47 (fun M10 hM10 H locs hB _ hS => ?_)
        rw [nI_clamp (n := i3) (by omega)] at hM10
        refine lv_aload_n hx hb dX0_endTurn_48 rfl (lv_at hl 1 rfl) ?_
        refine b_get (D := D) (E := E) (L := LRM) (o := o) (M := M10) (v := .ref (o + (g + 9))) (C := RX0) (T := TX0) (N := 12) hx hb hts hinX0 hown hK.1 hB g hg.1 rfl 2 (by decide) (hts (.fieldLink RX0 21 "RiverMeeting$Game" "stood" "[I") (List.mem_of_getElem? (i := 3) rfl)) (fun _ h9 => h9) rfl dX0_endTurn_49 ?_
        refine lv_iload_n hx hb dX0_endTurn_52 rfl (lv_at hl 0 rfl) ?_
        refine b_iald hx hb hK.1 hB (g + 9) hg.2.2.2 (vp_in_nI (by omega) (by decide)) dX0_endTurn_53 ?_
        rw [nI_clamp (n := i3) (by omega)]
        refine lv_aload_n hx hb dX0_endTurn_54 rfl (lv_at hl 1 rfl) ?_
        refine b_get (D := D) (E := E) (L := LRM) (o := o) (M := M10) (v := .int (M10 g 3)) (C := RX0) (T := TX0) (N := 12) hx hb hts hinX0 hown hK.1 hB g hg.1 rfl 3 (by decide) (hts (.fieldLink RX0 25 "RiverMeeting$Game" "lasting" "I") (List.mem_of_getElem? (i := 4) rfl)) (fun _ h9 => h9) rfl dX0_endTurn_55 ?_
        refine lv_icmp_lt (tgt := 68) hx hb dX0_endTurn_58 (by decide) (fun c11 => ?_) (fun c11 => ?_)
        · refine lv_iinc (v := nI (i3 + 1)) (lv' := [(1, .int (nI (i3 + 1))), (0, .ref (o + g))]) hx hb dX0_endTurn_68 hl (k := 0) rfl (nI_1 i3) (by decide) rfl (fun ls hl => ?_)
          refine lv_goto (tgt := 22) hx hb dX0_endTurn_71 (by decide) ?_
          have e12 := p_X0_endTurn_e12 M g M1 M2 M4 i3 n3 c8 M10 hM10.symm c11
          rw [e12] at hexit3
          exact ih3 (i3 + 1) M10 (by omega) _ _ hB hS ls (lv_sub hl [0, 1] rfl) hexit3
        · refine lv_aload_n hx hb dX0_endTurn_61 rfl (lv_at hl 1 rfl) ?_
          refine b_get (D := D) (E := E) (L := LRM) (o := o) (M := M10) (v := .ref (o + (g + 9))) (C := RX0) (T := TX0) (N := 12) hx hb hts hinX0 hown hK.1 hB g hg.1 rfl 2 (by decide) (hts (.fieldLink RX0 21 "RiverMeeting$Game" "stood" "[I") (List.mem_of_getElem? (i := 3) rfl)) (fun _ h9 => h9) rfl dX0_endTurn_62 ?_
          refine lv_iload_n hx hb dX0_endTurn_65 rfl (lv_at hl 0 rfl) ?_
          refine lv_iconst (v := (-1)) hx hb dX0_endTurn_66 (by decide) ?_
          refine b_iast hx hb hK.1 hB hS (g + 9) (rA_of hg.2.2.2) hg.2.2.2 (vp_in_nI (by omega) (by decide)) dX0_endTurn_67 (fun M13 hM13 H locs hB _ hS => ?_)
          rw [nI_clamp (n := i3) (by omega)] at hM13
          refine lv_iinc (v := nI (i3 + 1)) (lv' := [(1, .int (nI (i3 + 1))), (0, .ref (o + g))]) hx hb dX0_endTurn_68 hl (k := 0) rfl (nI_1 i3) (by decide) rfl (fun ls hl => ?_)
          refine lv_goto (tgt := 22) hx hb dX0_endTurn_71 (by decide) ?_
          have e14 := p_X0_endTurn_e14 M g M1 M2 M4 i3 n3 c8 M10 hM10.symm c11 M13 hM13.symm
          rw [e14] at hexit3
          exact ih3 (i3 + 1) M13 (by omega) _ _ hB hS ls (lv_sub hl [0, 1] rfl) hexit3
  refine lp3 64 0 M2 (by omega) _ _ hB hS ls (lv_sub hl [0, 1] rfl) ?_
  intro H locs hB hS ls hl
  obtain ⟨M15, hM15⟩ : ∃ y : bM, y = (lp_X0_endTurn_22 g 64 0 M2) := ⟨_, rfl⟩
  rw [← hM15] at hB
  have hl : lv_has ls 2 [(0, .ref (o + g))] := hl
  have e16 := p_X0_endTurn_e16 M g M1 hM1.symm M2 hM2.symm M15 hM15.symm
  exact b_vret hx hb hr hlocks hS ⟨rfl, _, e16.symm, hB⟩ dX0_endTurn_74
def f_X0_meetAt (M : bM) (g : Nat) (x1 : Int32) : bM := (let M1 : bM := up2 M g 8 x1; (let r2 : Int32 := f_X2_costOf M1 (g + 1) x1; (let M3 : bM := f_X2_pay M1 (g + 1) ((M1 g 4) * r2); (let r4 : Int32 := f_X2_costOf M3 (g + 5) x1; (let M5 : bM := f_X2_pay M3 (g + 5) ((M3 g 4) * r4); (if (M5 (g + 5) 4) ≤ (M5 (g + 1) 4) then (if (M5 (g + 1) 4) ≤ (M5 (g + 5) 4) then M5 else (let M9 : bM := up2 M5 g 9 1; (let M10 : bM := up2 M9 (g + 5) 6 ((M9 (g + 5) 6) + 1); M10))) else (let M12 : bM := up2 M5 g 9 0; (let M13 : bM := up2 M12 (g + 1) 6 ((M12 (g + 1) 6) + 1); M13))))))))
theorem u_f_X0_meetAt (M : bM) (g : Nat) (x1 : Int32) : f_X0_meetAt M g x1 = (let M1 : bM := up2 M g 8 x1; (let r2 : Int32 := f_X2_costOf M1 (g + 1) x1; (let M3 : bM := f_X2_pay M1 (g + 1) ((M1 g 4) * r2); (let r4 : Int32 := f_X2_costOf M3 (g + 5) x1; (let M5 : bM := f_X2_pay M3 (g + 5) ((M3 g 4) * r4); (if (M5 (g + 5) 4) ≤ (M5 (g + 1) 4) then (if (M5 (g + 1) 4) ≤ (M5 (g + 5) 4) then M5 else (let M9 : bM := up2 M5 g 9 1; (let M10 : bM := up2 M9 (g + 5) 6 ((M9 (g + 5) 6) + 1); M10))) else (let M12 : bM := up2 M5 g 9 0; (let M13 : bM := up2 M12 (g + 1) 6 ((M12 (g + 1) 6) + 1); M13)))))))) := rfl
theorem p_X0_meetAt_e8 (M : bM) (g : Nat) (x1 : Int32) (M1 : bM) (hM1 : up2 M g 8 x1 = M1) (r2 : Int32) (hr2 : f_X2_costOf M1 (g + 1) x1 = r2) (M3 : bM) (hM3 : f_X2_pay M1 (g + 1) ((M1 g 4) * r2) = M3) (r4 : Int32) (hr4 : f_X2_costOf M3 (g + 5) x1 = r4) (M5 : bM) (hM5 : f_X2_pay M3 (g + 5) ((M3 g 4) * r4) = M5) (c6 : (M5 (g + 5) 4) ≤ (M5 (g + 1) 4)) (c7 : (M5 (g + 1) 4) ≤ (M5 (g + 5) 4)) : f_X0_meetAt M g x1 = M5 := by subst hM5 hr4 hM3 hr2 hM1; exact Eq.trans (u_f_X0_meetAt M g x1) (Eq.trans (if_pos c6) (if_pos c7))
theorem p_X0_meetAt_e11 (M : bM) (g : Nat) (x1 : Int32) (M1 : bM) (hM1 : up2 M g 8 x1 = M1) (r2 : Int32) (hr2 : f_X2_costOf M1 (g + 1) x1 = r2) (M3 : bM) (hM3 : f_X2_pay M1 (g + 1) ((M1 g 4) * r2) = M3) (r4 : Int32) (hr4 : f_X2_costOf M3 (g + 5) x1 = r4) (M5 : bM) (hM5 : f_X2_pay M3 (g + 5) ((M3 g 4) * r4) = M5) (c6 : (M5 (g + 5) 4) ≤ (M5 (g + 1) 4)) (c7 : ¬ (M5 (g + 1) 4) ≤ (M5 (g + 5) 4)) (M9 : bM) (hM9 : up2 M5 g 9 1 = M9) (M10 : bM) (hM10 : up2 M9 (g + 5) 6 ((M9 (g + 5) 6) + 1) = M10) : f_X0_meetAt M g x1 = M10 := by subst hM10 hM9 hM5 hr4 hM3 hr2 hM1; exact Eq.trans (u_f_X0_meetAt M g x1) (Eq.trans (if_pos c6) (if_neg c7))
theorem p_X0_meetAt_e14 (M : bM) (g : Nat) (x1 : Int32) (M1 : bM) (hM1 : up2 M g 8 x1 = M1) (r2 : Int32) (hr2 : f_X2_costOf M1 (g + 1) x1 = r2) (M3 : bM) (hM3 : f_X2_pay M1 (g + 1) ((M1 g 4) * r2) = M3) (r4 : Int32) (hr4 : f_X2_costOf M3 (g + 5) x1 = r4) (M5 : bM) (hM5 : f_X2_pay M3 (g + 5) ((M3 g 4) * r4) = M5) (c6 : ¬ (M5 (g + 5) 4) ≤ (M5 (g + 1) 4)) (M12 : bM) (hM12 : up2 M5 g 9 0 = M12) (M13 : bM) (hM13 : up2 M12 (g + 1) 6 ((M12 (g + 1) 6) + 1) = M13) : f_X0_meetAt M g x1 = M13 := by subst hM13 hM12 hM5 hr4 hM3 hr2 hM1; exact Eq.trans (u_f_X0_meetAt M g x1) (if_neg c6)
set_option maxHeartbeats 4000000 in
set_option maxRecDepth 100000 in
theorem c_X0_meetAt (l : Launch) (D : va_G) (E : Nat → ClassId) (o : Nat) (M : bM) (g : Nat) (x1 : Int32) (hg : isG g) : Met l yX0_meetAt wsX0_meetAt (rmF 1) (bPc D E [.ref (o + g), .int x1] (fun H => bk D E LRM o M H)) (bQ (aV fun H => ∃ M1 : bM, M1 = f_X0_meetAt M g x1 ∧ bk D E LRM o M1 H) (rA o)) 0 0 (rA o) := by
  refine Met.ofW (cc := cX0_meetAt) (maxL := 2) (ret := none) (by decide) rfl ?_
  intro p e s m args below meth c s₁ B hml hv
  obtain ⟨rfl, hB, hK⟩ := hv
  have hx := B.exec
  have hb := B.bytes
  have hr := B.returns
  have hts := atoms_spec (ws := wsX0_meetAt) B.pre
  have hown : s.vm.findClass RX0 = some m.cls := findClass_of_methodNamed B.named
  have hlocks := B.notSynchronized
  have hS : bS (rA o) s.heap s.heap [] := bS.rf
  have hl := lv_entry ([.ref (o + g), .int x1]) (n := 2) (Nat.le_of_ble_eq_true rfl)
  rw [lg_entry_eq]
  generalize (lg_sl ([.ref (o + g), .int x1]) ++ List.replicate (2 - (lg_sl ([.ref (o + g), .int x1])).length) Slot.unset).toArray = ls at hl ⊢
  have hl : lv_has ls 2 [(0, .ref (o + g)), (1, .int x1)] := hl
  have hB : bk D E LRM o M s.heap := hB
  have hinX0 : ∀ w ∈ wsX00, w ∈ wsX0_meetAt := by decide +kernel
  have hinX2 : ∀ w ∈ wsX20, w ∈ wsX0_meetAt := by decide +kernel
  refine lv_aload_n hx hb dX0_meetAt_0 rfl (lv_at hl 0 rfl) ?_
  refine lv_iload_n hx hb dX0_meetAt_1 rfl (lv_at hl 1 rfl) ?_
  refine b_put (D := D) (E := E) (L := LRM) (o := o) (M := M) (v := x1) (ty := .int) (C := RX0) (T := TX0) (N := 12) hx hb hts hinX0 tyX0 tyX0_ok nmX0 hown hK.1 hB hS g (rA_of hg.1) hg.1 rfl 8 (by decide) rfl (hts (.fieldLink RX0 70 "RiverMeeting$Game" "meeting" "I") (List.mem_of_getElem? (i := 1) rfl)) (fun _ h9 => h9) rfl (by decide +kernel) rfl rfl dX0_meetAt_2 (fun M1 hM1 H locs hB _ hS => ?_)
  refine lv_aload_n hx hb dX0_meetAt_5 rfl (lv_at hl 0 rfl) ?_
  refine b_get (D := D) (E := E) (L := LRM) (o := o) (M := M1) (v := .ref (o + (g + 1))) (C := RX0) (T := TX0) (N := 12) hx hb hts hinX0 hown hK.1 hB g hg.1 rfl 0 (by decide) (hts (.fieldLink RX0 12 "RiverMeeting$Game" "first" "LRiverMeeting$Side;") (List.mem_of_getElem? (i := 2) rfl)) (fun _ h9 => h9) rfl dX0_meetAt_6 ?_
  refine lv_aload_n hx hb dX0_meetAt_9 rfl (lv_at hl 0 rfl) ?_
  refine b_get (D := D) (E := E) (L := LRM) (o := o) (M := M1) (v := .int (M1 g 4)) (C := RX0) (T := TX0) (N := 12) hx hb hts hinX0 hown hK.1 hB g hg.1 rfl 4 (by decide) (hts (.fieldLink RX0 29 "RiverMeeting$Game" "factor" "I") (List.mem_of_getElem? (i := 3) rfl)) (fun _ h9 => h9) rfl dX0_meetAt_10 ?_
  refine lv_aload_n hx hb dX0_meetAt_13 rfl (lv_at hl 0 rfl) ?_
  refine b_get (D := D) (E := E) (L := LRM) (o := o) (M := M1) (v := .ref (o + (g + 1))) (C := RX0) (T := TX0) (N := 12) hx hb hts hinX0 hown hK.1 hB g hg.1 rfl 0 (by decide) (hts (.fieldLink RX0 12 "RiverMeeting$Game" "first" "LRiverMeeting$Side;") (List.mem_of_getElem? (i := 2) rfl)) (fun _ h9 => h9) rfl dX0_meetAt_14 ?_
  refine lv_iload_n hx hb dX0_meetAt_17 rfl (lv_at hl 1 rfl) ?_
  refine b_pI (b_runV (As := [.int x1]) (rest := [.int (M1 g 4), .ref (o + (g + 1))]) ⟨hx, hb, hml, hown, hts⟩ (c_X2_costOf l D E o M1 (g + 1) x1 hg.2.1) (cwV 1 hts gX0_meetAt_X2_costOf rfl rfl rfl (by decide +kernel) ⟨Nat.le_of_ble_eq_true rfl, Nat.le_of_ble_eq_true rfl⟩) hK (bk_recv hK.1 hB hg.2.1.1 rfl) hB rfl hl rfl (Nat.le_of_ble_eq_true rfl) dX0_meetAt_18 ⟨Nat.zero_le _, Nat.zero_le _⟩) hS (fun r2 hr2 locs hS => ?_)
  refine lv_imul hx hb dX0_meetAt_21 ?_
  refine b_mV (b_runV (As := [.int ((M1 g 4) * r2)]) (rest := []) ⟨hx, hb, hml, hown, hts⟩ (c_X2_pay l D E o M1 (g + 1) ((M1 g 4) * r2) hg.2.1) (cwV 1 hts gX0_meetAt_X2_pay rfl rfl rfl (by decide +kernel) ⟨Nat.le_of_ble_eq_true rfl, Nat.le_of_ble_eq_true rfl⟩) hK (bk_recv hK.1 hB hg.2.1.1 rfl) hB rfl hl rfl (Nat.le_of_ble_eq_true rfl) dX0_meetAt_22 ⟨Nat.zero_le _, Nat.zero_le _⟩) hS (fun q h => h) (fun M3 hM3 H locs hB _ hS => ?_)
  refine lv_aload_n hx hb dX0_meetAt_25 rfl (lv_at hl 0 rfl) ?_
  refine b_get (D := D) (E := E) (L := LRM) (o := o) (M := M3) (v := .ref (o + (g + 5))) (C := RX0) (T := TX0) (N := 12) hx hb hts hinX0 hown hK.1 hB g hg.1 rfl 1 (by decide) (hts (.fieldLink RX0 18 "RiverMeeting$Game" "second" "LRiverMeeting$Side;") (List.mem_of_getElem? (i := 4) rfl)) (fun _ h9 => h9) rfl dX0_meetAt_26 ?_
  refine lv_aload_n hx hb dX0_meetAt_29 rfl (lv_at hl 0 rfl) ?_
  refine b_get (D := D) (E := E) (L := LRM) (o := o) (M := M3) (v := .int (M3 g 4)) (C := RX0) (T := TX0) (N := 12) hx hb hts hinX0 hown hK.1 hB g hg.1 rfl 4 (by decide) (hts (.fieldLink RX0 29 "RiverMeeting$Game" "factor" "I") (List.mem_of_getElem? (i := 3) rfl)) (fun _ h9 => h9) rfl dX0_meetAt_30 ?_
  refine lv_aload_n hx hb dX0_meetAt_33 rfl (lv_at hl 0 rfl) ?_
  refine b_get (D := D) (E := E) (L := LRM) (o := o) (M := M3) (v := .ref (o + (g + 5))) (C := RX0) (T := TX0) (N := 12) hx hb hts hinX0 hown hK.1 hB g hg.1 rfl 1 (by decide) (hts (.fieldLink RX0 18 "RiverMeeting$Game" "second" "LRiverMeeting$Side;") (List.mem_of_getElem? (i := 4) rfl)) (fun _ h9 => h9) rfl dX0_meetAt_34 ?_
  refine lv_iload_n hx hb dX0_meetAt_37 rfl (lv_at hl 1 rfl) ?_
  refine b_pI (b_runV (As := [.int x1]) (rest := [.int (M3 g 4), .ref (o + (g + 5))]) ⟨hx, hb, hml, hown, hts⟩ (c_X2_costOf l D E o M3 (g + 5) x1 hg.2.2.1) (cwV 1 hts gX0_meetAt_X2_costOf rfl rfl rfl (by decide +kernel) ⟨Nat.le_of_ble_eq_true rfl, Nat.le_of_ble_eq_true rfl⟩) hK (bk_recv hK.1 hB hg.2.2.1.1 rfl) hB rfl hl rfl (Nat.le_of_ble_eq_true rfl) dX0_meetAt_38 ⟨Nat.zero_le _, Nat.zero_le _⟩) hS (fun r4 hr4 locs hS => ?_)
  refine lv_imul hx hb dX0_meetAt_41 ?_
  refine b_mV (b_runV (As := [.int ((M3 g 4) * r4)]) (rest := []) ⟨hx, hb, hml, hown, hts⟩ (c_X2_pay l D E o M3 (g + 5) ((M3 g 4) * r4) hg.2.2.1) (cwV 1 hts gX0_meetAt_X2_pay rfl rfl rfl (by decide +kernel) ⟨Nat.le_of_ble_eq_true rfl, Nat.le_of_ble_eq_true rfl⟩) hK (bk_recv hK.1 hB hg.2.2.1.1 rfl) hB rfl hl rfl (Nat.le_of_ble_eq_true rfl) dX0_meetAt_42 ⟨Nat.zero_le _, Nat.zero_le _⟩) hS (fun q h => h) (fun M5 hM5 H locs hB _ hS => ?_)
  refine lv_aload_n hx hb dX0_meetAt_45 rfl (lv_at hl 0 rfl) ?_
  refine b_get (D := D) (E := E) (L := LRM) (o := o) (M := M5) (v := .ref (o + (g + 1))) (C := RX0) (T := TX0) (N := 12) hx hb hts hinX0 hown hK.1 hB g hg.1 rfl 0 (by decide) (hts (.fieldLink RX0 12 "RiverMeeting$Game" "first" "LRiverMeeting$Side;") (List.mem_of_getElem? (i := 2) rfl)) (fun _ h9 => h9) rfl dX0_meetAt_46 ?_
  refine b_get (D := D) (E := E) (L := LRM) (o := o) (M := M5) (v := .int (M5 (g + 1) 4)) (C := RX2) (T := TX2) (N := 8) hx hb hts hinX2 hown hK.1 hB (g + 1) hg.2.1.1 rfl 4 (by decide) (hts (.fieldLink RX0 148 "RiverMeeting$Side" "paid" "I") (List.mem_of_getElem? (i := 5) rfl)) (fun _ h9 => h9) rfl dX0_meetAt_49 ?_
  refine lv_aload_n hx hb dX0_meetAt_52 rfl (lv_at hl 0 rfl) ?_
  refine b_get (D := D) (E := E) (L := LRM) (o := o) (M := M5) (v := .ref (o + (g + 5))) (C := RX0) (T := TX0) (N := 12) hx hb hts hinX0 hown hK.1 hB g hg.1 rfl 1 (by decide) (hts (.fieldLink RX0 18 "RiverMeeting$Game" "second" "LRiverMeeting$Side;") (List.mem_of_getElem? (i := 4) rfl)) (fun _ h9 => h9) rfl dX0_meetAt_53 ?_
  refine b_get (D := D) (E := E) (L := LRM) (o := o) (M := M5) (v := .int (M5 (g + 5) 4)) (C := RX2) (T := TX2) (N := 8) hx hb hts hinX2 hown hK.1 hB (g + 5) hg.2.2.1.1 rfl 4 (by decide) (hts (.fieldLink RX0 148 "RiverMeeting$Side" "paid" "I") (List.mem_of_getElem? (i := 5) rfl)) (fun _ h9 => h9) rfl dX0_meetAt_56 ?_
  refine lv_icmp_ge (tgt := 83) hx hb dX0_meetAt_59 (by decide) (fun c6 => ?_) (fun c6 => ?_)
  · refine lv_aload_n hx hb dX0_meetAt_83 rfl (lv_at hl 0 rfl) ?_
    refine b_get (D := D) (E := E) (L := LRM) (o := o) (M := M5) (v := .ref (o + (g + 5))) (C := RX0) (T := TX0) (N := 12) hx hb hts hinX0 hown hK.1 hB g hg.1 rfl 1 (by decide) (hts (.fieldLink RX0 18 "RiverMeeting$Game" "second" "LRiverMeeting$Side;") (List.mem_of_getElem? (i := 4) rfl)) (fun _ h9 => h9) rfl dX0_meetAt_84 ?_
    refine b_get (D := D) (E := E) (L := LRM) (o := o) (M := M5) (v := .int (M5 (g + 5) 4)) (C := RX2) (T := TX2) (N := 8) hx hb hts hinX2 hown hK.1 hB (g + 5) hg.2.2.1.1 rfl 4 (by decide) (hts (.fieldLink RX0 148 "RiverMeeting$Side" "paid" "I") (List.mem_of_getElem? (i := 5) rfl)) (fun _ h9 => h9) rfl dX0_meetAt_87 ?_
    refine lv_aload_n hx hb dX0_meetAt_90 rfl (lv_at hl 0 rfl) ?_
    refine b_get (D := D) (E := E) (L := LRM) (o := o) (M := M5) (v := .ref (o + (g + 1))) (C := RX0) (T := TX0) (N := 12) hx hb hts hinX0 hown hK.1 hB g hg.1 rfl 0 (by decide) (hts (.fieldLink RX0 12 "RiverMeeting$Game" "first" "LRiverMeeting$Side;") (List.mem_of_getElem? (i := 2) rfl)) (fun _ h9 => h9) rfl dX0_meetAt_91 ?_
    refine b_get (D := D) (E := E) (L := LRM) (o := o) (M := M5) (v := .int (M5 (g + 1) 4)) (C := RX2) (T := TX2) (N := 8) hx hb hts hinX2 hown hK.1 hB (g + 1) hg.2.1.1 rfl 4 (by decide) (hts (.fieldLink RX0 148 "RiverMeeting$Side" "paid" "I") (List.mem_of_getElem? (i := 5) rfl)) (fun _ h9 => h9) rfl dX0_meetAt_94 ?_
    refine lv_icmp_ge (tgt := 118) hx hb dX0_meetAt_97 (by decide) (fun c7 => ?_) (fun c7 => ?_)
    · have e8 := p_X0_meetAt_e8 M g x1 M1 hM1.symm r2 hr2.symm M3 hM3.symm r4 hr4.symm M5 hM5.symm c6 c7
      exact b_vret hx hb hr hlocks hS ⟨rfl, _, e8.symm, hB⟩ dX0_meetAt_118
    · refine lv_aload_n hx hb dX0_meetAt_100 rfl (lv_at hl 0 rfl) ?_
      refine lv_iconst (v := 1) hx hb dX0_meetAt_101 (by decide) ?_
      refine b_put (D := D) (E := E) (L := LRM) (o := o) (M := M5) (v := 1) (ty := .int) (C := RX0) (T := TX0) (N := 12) hx hb hts hinX0 tyX0 tyX0_ok nmX0 hown hK.1 hB hS g (rA_of hg.1) hg.1 rfl 9 (by decide) rfl (hts (.fieldLink RX0 73 "RiverMeeting$Game" "winner" "I") (List.mem_of_getElem? (i := 6) rfl)) (fun _ h9 => h9) rfl (by decide +kernel) rfl rfl dX0_meetAt_102 (fun M9 hM9 H locs hB _ hS => ?_)
      refine lv_aload_n hx hb dX0_meetAt_105 rfl (lv_at hl 0 rfl) ?_
      refine b_get (D := D) (E := E) (L := LRM) (o := o) (M := M9) (v := .ref (o + (g + 5))) (C := RX0) (T := TX0) (N := 12) hx hb hts hinX0 hown hK.1 hB g hg.1 rfl 1 (by decide) (hts (.fieldLink RX0 18 "RiverMeeting$Game" "second" "LRiverMeeting$Side;") (List.mem_of_getElem? (i := 4) rfl)) (fun _ h9 => h9) rfl dX0_meetAt_106 ?_
      refine lv_dup hx hb dX0_meetAt_109 rfl ?_
      refine b_get (D := D) (E := E) (L := LRM) (o := o) (M := M9) (v := .int (M9 (g + 5) 6)) (C := RX2) (T := TX2) (N := 8) hx hb hts hinX2 hown hK.1 hB (g + 5) hg.2.2.1.1 rfl 6 (by decide) (hts (.fieldLink RX0 41 "RiverMeeting$Side" "won" "I") (List.mem_of_getElem? (i := 7) rfl)) (fun _ h9 => h9) rfl dX0_meetAt_110 ?_
      refine lv_iconst (v := 1) hx hb dX0_meetAt_113 (by decide) ?_
      refine lv_iadd hx hb dX0_meetAt_114 ?_
      refine b_put (D := D) (E := E) (L := LRM) (o := o) (M := M9) (v := ((M9 (g + 5) 6) + 1)) (ty := .int) (C := RX2) (T := TX2) (N := 8) hx hb hts hinX2 tyX2 tyX2_ok nmX2 hown hK.1 hB hS (g + 5) (rA_of hg.2.2.1.1) hg.2.2.1.1 rfl 6 (by decide) rfl (hts (.fieldLink RX0 41 "RiverMeeting$Side" "won" "I") (List.mem_of_getElem? (i := 7) rfl)) (fun _ h9 => h9) rfl (by decide +kernel) rfl rfl dX0_meetAt_115 (fun M10 hM10 H locs hB _ hS => ?_)
      have e11 := p_X0_meetAt_e11 M g x1 M1 hM1.symm r2 hr2.symm M3 hM3.symm r4 hr4.symm M5 hM5.symm c6 c7 M9 hM9.symm M10 hM10.symm
      exact b_vret hx hb hr hlocks hS ⟨rfl, _, e11.symm, hB⟩ dX0_meetAt_118
  · refine lv_aload_n hx hb dX0_meetAt_62 rfl (lv_at hl 0 rfl) ?_
    refine lv_iconst (v := 0) hx hb dX0_meetAt_63 (by decide) ?_
    refine b_put (D := D) (E := E) (L := LRM) (o := o) (M := M5) (v := 0) (ty := .int) (C := RX0) (T := TX0) (N := 12) hx hb hts hinX0 tyX0 tyX0_ok nmX0 hown hK.1 hB hS g (rA_of hg.1) hg.1 rfl 9 (by decide) rfl (hts (.fieldLink RX0 73 "RiverMeeting$Game" "winner" "I") (List.mem_of_getElem? (i := 6) rfl)) (fun _ h9 => h9) rfl (by decide +kernel) rfl rfl dX0_meetAt_64 (fun M12 hM12 H locs hB _ hS => ?_)
    refine lv_aload_n hx hb dX0_meetAt_67 rfl (lv_at hl 0 rfl) ?_
    refine b_get (D := D) (E := E) (L := LRM) (o := o) (M := M12) (v := .ref (o + (g + 1))) (C := RX0) (T := TX0) (N := 12) hx hb hts hinX0 hown hK.1 hB g hg.1 rfl 0 (by decide) (hts (.fieldLink RX0 12 "RiverMeeting$Game" "first" "LRiverMeeting$Side;") (List.mem_of_getElem? (i := 2) rfl)) (fun _ h9 => h9) rfl dX0_meetAt_68 ?_
    refine lv_dup hx hb dX0_meetAt_71 rfl ?_
    refine b_get (D := D) (E := E) (L := LRM) (o := o) (M := M12) (v := .int (M12 (g + 1) 6)) (C := RX2) (T := TX2) (N := 8) hx hb hts hinX2 hown hK.1 hB (g + 1) hg.2.1.1 rfl 6 (by decide) (hts (.fieldLink RX0 41 "RiverMeeting$Side" "won" "I") (List.mem_of_getElem? (i := 7) rfl)) (fun _ h9 => h9) rfl dX0_meetAt_72 ?_
    refine lv_iconst (v := 1) hx hb dX0_meetAt_75 (by decide) ?_
    refine lv_iadd hx hb dX0_meetAt_76 ?_
    refine b_put (D := D) (E := E) (L := LRM) (o := o) (M := M12) (v := ((M12 (g + 1) 6) + 1)) (ty := .int) (C := RX2) (T := TX2) (N := 8) hx hb hts hinX2 tyX2 tyX2_ok nmX2 hown hK.1 hB hS (g + 1) (rA_of hg.2.1.1) hg.2.1.1 rfl 6 (by decide) rfl (hts (.fieldLink RX0 41 "RiverMeeting$Side" "won" "I") (List.mem_of_getElem? (i := 7) rfl)) (fun _ h9 => h9) rfl (by decide +kernel) rfl rfl dX0_meetAt_77 (fun M13 hM13 H locs hB _ hS => ?_)
    refine lv_goto (tgt := 118) hx hb dX0_meetAt_80 (by decide) ?_
    have e14 := p_X0_meetAt_e14 M g x1 M1 hM1.symm r2 hr2.symm M3 hM3.symm r4 hr4.symm M5 hM5.symm c6 M12 hM12.symm M13 hM13.symm
    exact b_vret hx hb hr hlocks hS ⟨rfl, _, e14.symm, hB⟩ dX0_meetAt_118
def f_X0_makeStep (M : bM) (g : Nat) (x1 : Int32) : bM := (let k2 : Nat := f_X0_sideOf M g (M g 7); (let r3 : Int32 := f_X2_head M k2; (let r4 : Int32 := f_X6_cellBeside r3 x1; (let M5 : bM := f_X2_flowTo M k2 r4; (let k7 : Nat := f_X0_sideOf M5 g ((1 : Int32) - (M5 g 7)); (let r8 : Int32 := f_X2_holds M5 k7 r4; (if r8 = 0 then (let r10 : Int32 := f_X2_costOf M5 k2 r4; (let M11 : bM := f_X2_pay M5 k2 r10; (let M12 : bM := f_X0_endTurn M11 g; M12))) else (let M14 : bM := f_X0_meetAt M5 g r4; (let M15 : bM := f_X0_endTurn M14 g; M15)))))))))
theorem u_f_X0_makeStep (M : bM) (g : Nat) (x1 : Int32) : f_X0_makeStep M g x1 = (let k2 : Nat := f_X0_sideOf M g (M g 7); (let r3 : Int32 := f_X2_head M k2; (let r4 : Int32 := f_X6_cellBeside r3 x1; (let M5 : bM := f_X2_flowTo M k2 r4; (let k7 : Nat := f_X0_sideOf M5 g ((1 : Int32) - (M5 g 7)); (let r8 : Int32 := f_X2_holds M5 k7 r4; (if r8 = 0 then (let r10 : Int32 := f_X2_costOf M5 k2 r4; (let M11 : bM := f_X2_pay M5 k2 r10; (let M12 : bM := f_X0_endTurn M11 g; M12))) else (let M14 : bM := f_X0_meetAt M5 g r4; (let M15 : bM := f_X0_endTurn M14 g; M15))))))))) := rfl
theorem p_X0_makeStep_e13 (M : bM) (g : Nat) (x1 : Int32) (k2 : Nat) (hk2 : f_X0_sideOf M g (M g 7) = k2) (r3 : Int32) (hr3 : f_X2_head M k2 = r3) (r4 : Int32) (hr4 : f_X6_cellBeside r3 x1 = r4) (M5 : bM) (hM5 : f_X2_flowTo M k2 r4 = M5) (k7 : Nat) (hk7 : f_X0_sideOf M5 g ((1 : Int32) - (M5 g 7)) = k7) (r8 : Int32) (hr8 : f_X2_holds M5 k7 r4 = r8) (c9 : r8 = 0) (r10 : Int32) (hr10 : f_X2_costOf M5 k2 r4 = r10) (M11 : bM) (hM11 : f_X2_pay M5 k2 r10 = M11) (M12 : bM) (hM12 : f_X0_endTurn M11 g = M12) : f_X0_makeStep M g x1 = M12 := by subst hM12 hM11 hr10 hr8 hk7 hM5 hr4 hr3 hk2; exact Eq.trans (u_f_X0_makeStep M g x1) (if_pos c9)
theorem p_X0_makeStep_e16 (M : bM) (g : Nat) (x1 : Int32) (k2 : Nat) (hk2 : f_X0_sideOf M g (M g 7) = k2) (r3 : Int32) (hr3 : f_X2_head M k2 = r3) (r4 : Int32) (hr4 : f_X6_cellBeside r3 x1 = r4) (M5 : bM) (hM5 : f_X2_flowTo M k2 r4 = M5) (k7 : Nat) (hk7 : f_X0_sideOf M5 g ((1 : Int32) - (M5 g 7)) = k7) (r8 : Int32) (hr8 : f_X2_holds M5 k7 r4 = r8) (c9 : ¬ r8 = 0) (M14 : bM) (hM14 : f_X0_meetAt M5 g r4 = M14) (M15 : bM) (hM15 : f_X0_endTurn M14 g = M15) : f_X0_makeStep M g x1 = M15 := by subst hM15 hM14 hr8 hk7 hM5 hr4 hr3 hk2; exact Eq.trans (u_f_X0_makeStep M g x1) (if_neg c9)
set_option maxHeartbeats 4000000 in
set_option maxRecDepth 100000 in
theorem c_X0_makeStep (l : Launch) (D : va_G) (E : Nat → ClassId) (o : Nat) (M : bM) (g : Nat) (x1 : Int32) (hg : isG g) : Met l yX0_makeStep wsX0_makeStep (rmF 2) (bPc D E [.ref (o + g), .int x1] (fun H => bk D E LRM o M H)) (bQ (aV fun H => ∃ M1 : bM, M1 = f_X0_makeStep M g x1 ∧ bk D E LRM o M1 H) (rA o)) 0 0 (rA o) := by
  refine Met.ofW (cc := cX0_makeStep) (maxL := 4) (ret := none) (by decide) rfl ?_
  intro p e s m args below meth c s₁ B hml hv
  obtain ⟨rfl, hB, hK⟩ := hv
  have hx := B.exec
  have hb := B.bytes
  have hr := B.returns
  have hts := atoms_spec (ws := wsX0_makeStep) B.pre
  have hown : s.vm.findClass RX0 = some m.cls := findClass_of_methodNamed B.named
  have hlocks := B.notSynchronized
  have hS : bS (rA o) s.heap s.heap [] := bS.rf
  have hl := lv_entry ([.ref (o + g), .int x1]) (n := 4) (Nat.le_of_ble_eq_true rfl)
  rw [lg_entry_eq]
  generalize (lg_sl ([.ref (o + g), .int x1]) ++ List.replicate (4 - (lg_sl ([.ref (o + g), .int x1])).length) Slot.unset).toArray = ls at hl ⊢
  have hl : lv_has ls 4 [(0, .ref (o + g)), (1, .int x1)] := hl
  have hB : bk D E LRM o M s.heap := hB
  have hinX0 : ∀ w ∈ wsX00, w ∈ wsX0_makeStep := by decide +kernel
  refine lv_aload_n hx hb dX0_makeStep_0 rfl (lv_at hl 0 rfl) ?_
  refine lv_aload_n hx hb dX0_makeStep_1 rfl (lv_at hl 0 rfl) ?_
  refine b_get (D := D) (E := E) (L := LRM) (o := o) (M := M) (v := .int (M g 7)) (C := RX0) (T := TX0) (N := 12) hx hb hts hinX0 hown hK.1 hB g hg.1 rfl 7 (by decide) (hts (.fieldLink RX0 67 "RiverMeeting$Game" "mover" "I") (List.mem_of_getElem? (i := 1) rfl)) (fun _ h9 => h9) rfl dX0_makeStep_2 ?_
  refine b_pR (b_runV (As := [.int (M g 7)]) (rest := []) ⟨hx, hb, hml, hown, hts⟩ (c_X0_sideOf l D E o M g (M g 7) hg) (cwV 1 hts gX0_makeStep_X0_sideOf rfl rfl rfl (by decide +kernel) ⟨Nat.le_of_ble_eq_true rfl, Nat.le_of_ble_eq_true rfl⟩) hK (bk_recv hK.1 hB hg.1 rfl) hB rfl hl rfl (Nat.le_of_ble_eq_true rfl) dX0_makeStep_5 ⟨Nat.zero_le _, Nat.zero_le _⟩) hS (fun r1 hr1 locs hS => ?_)
  obtain ⟨k2, hk2⟩ : ∃ y : Nat, y = f_X0_sideOf M g (M g 7) := ⟨_, rfl⟩
  rw [← hk2] at hr1; subst hr1
  have hfk2 : isS k2 := by rw [hk2]; exact (isS_sideOf hg)
  refine lv_astore_n (lv' := [(2, .ref (o + k2)), (0, .ref (o + g)), (1, .int x1)]) hx hb dX0_makeStep_8 rfl hl (by decide) rfl (fun ls hl => ?_)
  refine lv_aload_n hx hb dX0_makeStep_9 rfl (lv_at hl 0 rfl) ?_
  refine b_pI (b_runV (As := []) (rest := []) ⟨hx, hb, hml, hown, hts⟩ (c_X2_head l D E o M k2 hfk2) (cwV 0 hts gX0_makeStep_X2_head rfl rfl rfl (by decide +kernel) ⟨Nat.le_of_ble_eq_true rfl, Nat.le_of_ble_eq_true rfl⟩) hK (bk_recv hK.1 hB hfk2.1 rfl) hB rfl hl rfl (Nat.le_of_ble_eq_true rfl) dX0_makeStep_10 ⟨Nat.zero_le _, Nat.zero_le _⟩) hS (fun r3 hr3 locs hS => ?_)
  refine lv_iload_n hx hb dX0_makeStep_13 rfl (lv_at hl 2 rfl) ?_
  refine b_pI (b_runSN (As := [.int r3, .int x1]) (rest := []) ⟨hx, hb, hml, hown, hts⟩ (c_X6_cellBeside l D E r3 x1) ⟨va_cnB (host := "RiverMeeting") 2 hts gX0_makeStep_X6_cellBeside_n120 rfl rfl rfl (hK.2 11 _ rfl) (hts (.initialized RX6) (List.mem_of_getElem? (i := 17) rfl)) (by decide +kernel) ⟨Nat.le_of_ble_eq_true rfl, Nat.le_of_ble_eq_true rfl⟩, (hts (.static yX6_cellBeside) (List.mem_of_getElem? (i := 16) rfl)), trivial⟩ hK trivial rfl hl rfl (Nat.le_of_ble_eq_true rfl) dX0_makeStep_14 ⟨Nat.zero_le _, Nat.zero_le _⟩) hS (fun r4 hr4 locs hS => ?_)
  refine lv_istore_n (lv' := [(3, .int r4), (2, .ref (o + k2)), (0, .ref (o + g)), (1, .int x1)]) hx hb dX0_makeStep_17 rfl hl (by decide) rfl (fun ls hl => ?_)
  refine lv_aload_n hx hb dX0_makeStep_18 rfl (lv_at hl 1 rfl) ?_
  refine lv_iload_n hx hb dX0_makeStep_19 rfl (lv_at hl 0 rfl) ?_
  refine b_mV (b_runV (As := [.int r4]) (rest := []) ⟨hx, hb, hml, hown, hts⟩ (c_X2_flowTo l D E o M k2 r4 hfk2) (cwV 1 hts gX0_makeStep_X2_flowTo rfl rfl rfl (by decide +kernel) ⟨Nat.le_of_ble_eq_true rfl, Nat.le_of_ble_eq_true rfl⟩) hK (bk_recv hK.1 hB hfk2.1 rfl) hB rfl hl rfl (Nat.le_of_ble_eq_true rfl) dX0_makeStep_20 ⟨Nat.zero_le _, Nat.zero_le _⟩) hS (fun q h => h) (fun M5 hM5 H locs hB _ hS => ?_)
  refine lv_aload_n hx hb dX0_makeStep_23 rfl (lv_at hl 2 rfl) ?_
  refine lv_iconst (v := 1) hx hb dX0_makeStep_24 (by decide) ?_
  refine lv_aload_n hx hb dX0_makeStep_25 rfl (lv_at hl 2 rfl) ?_
  refine b_get (D := D) (E := E) (L := LRM) (o := o) (M := M5) (v := .int (M5 g 7)) (C := RX0) (T := TX0) (N := 12) hx hb hts hinX0 hown hK.1 hB g hg.1 rfl 7 (by decide) (hts (.fieldLink RX0 67 "RiverMeeting$Game" "mover" "I") (List.mem_of_getElem? (i := 1) rfl)) (fun _ h9 => h9) rfl dX0_makeStep_26 ?_
  refine lv_isub hx hb dX0_makeStep_29 ?_
  refine b_pR (b_runV (As := [.int ((1 : Int32) - (M5 g 7))]) (rest := []) ⟨hx, hb, hml, hown, hts⟩ (c_X0_sideOf l D E o M5 g ((1 : Int32) - (M5 g 7)) hg) (cwV 1 hts gX0_makeStep_X0_sideOf rfl rfl rfl (by decide +kernel) ⟨Nat.le_of_ble_eq_true rfl, Nat.le_of_ble_eq_true rfl⟩) hK (bk_recv hK.1 hB hg.1 rfl) hB rfl hl rfl (Nat.le_of_ble_eq_true rfl) dX0_makeStep_30 ⟨Nat.zero_le _, Nat.zero_le _⟩) hS (fun r6 hr6 locs hS => ?_)
  obtain ⟨k7, hk7⟩ : ∃ y : Nat, y = f_X0_sideOf M5 g ((1 : Int32) - (M5 g 7)) := ⟨_, rfl⟩
  rw [← hk7] at hr6; subst hr6
  have hfk7 : isS k7 := by rw [hk7]; exact (isS_sideOf hg)
  refine lv_iload_n hx hb dX0_makeStep_33 rfl (lv_at hl 0 rfl) ?_
  refine b_pI (b_runV (As := [.int r4]) (rest := []) ⟨hx, hb, hml, hown, hts⟩ (c_X2_holds l D E o M5 k7 r4 hfk7) (cwV 1 hts gX0_makeStep_X2_holds rfl rfl rfl (by decide +kernel) ⟨Nat.le_of_ble_eq_true rfl, Nat.le_of_ble_eq_true rfl⟩) hK (bk_recv hK.1 hB hfk7.1 rfl) hB rfl hl rfl (Nat.le_of_ble_eq_true rfl) dX0_makeStep_34 ⟨Nat.zero_le _, Nat.zero_le _⟩) hS (fun r8 hr8 locs hS => ?_)
  refine lv_if_eq (tgt := 48) hx hb dX0_makeStep_37 (by decide) (fun c9 => ?_) (fun c9 => ?_)
  · refine lv_aload_n hx hb dX0_makeStep_48 rfl (lv_at hl 1 rfl) ?_
    refine lv_aload_n hx hb dX0_makeStep_49 rfl (lv_at hl 1 rfl) ?_
    refine lv_iload_n hx hb dX0_makeStep_50 rfl (lv_at hl 0 rfl) ?_
    refine b_pI (b_runV (As := [.int r4]) (rest := [.ref (o + k2)]) ⟨hx, hb, hml, hown, hts⟩ (c_X2_costOf l D E o M5 k2 r4 hfk2) (cwV 1 hts gX0_makeStep_X2_costOf rfl rfl rfl (by decide +kernel) ⟨Nat.le_of_ble_eq_true rfl, Nat.le_of_ble_eq_true rfl⟩) hK (bk_recv hK.1 hB hfk2.1 rfl) hB rfl hl rfl (Nat.le_of_ble_eq_true rfl) dX0_makeStep_51 ⟨Nat.zero_le _, Nat.zero_le _⟩) hS (fun r10 hr10 locs hS => ?_)
    refine b_mV (b_runV (As := [.int r10]) (rest := []) ⟨hx, hb, hml, hown, hts⟩ (c_X2_pay l D E o M5 k2 r10 hfk2) (cwV 1 hts gX0_makeStep_X2_pay rfl rfl rfl (by decide +kernel) ⟨Nat.le_of_ble_eq_true rfl, Nat.le_of_ble_eq_true rfl⟩) hK (bk_recv hK.1 hB hfk2.1 rfl) hB rfl hl rfl (Nat.le_of_ble_eq_true rfl) dX0_makeStep_54 ⟨Nat.zero_le _, Nat.zero_le _⟩) hS (fun q h => h) (fun M11 hM11 H locs hB _ hS => ?_)
    refine lv_aload_n hx hb dX0_makeStep_57 rfl (lv_at hl 2 rfl) ?_
    refine b_mV (b_runV (As := []) (rest := []) ⟨hx, hb, hml, hown, hts⟩ (c_X0_endTurn l D E o M11 g hg) (cwV 0 hts gX0_makeStep_X0_endTurn rfl rfl rfl (by decide +kernel) ⟨Nat.le_of_ble_eq_true rfl, Nat.le_of_ble_eq_true rfl⟩) hK (bk_recv hK.1 hB hg.1 rfl) hB rfl hl rfl (Nat.le_of_ble_eq_true rfl) dX0_makeStep_58 ⟨Nat.zero_le _, Nat.zero_le _⟩) hS (fun q h => h) (fun M12 hM12 H locs hB _ hS => ?_)
    have e13 := p_X0_makeStep_e13 M g x1 k2 hk2.symm r3 hr3.symm r4 hr4.symm M5 hM5.symm k7 hk7.symm r8 hr8.symm c9 r10 hr10.symm M11 hM11.symm M12 hM12.symm
    exact b_vret hx hb hr hlocks hS ⟨rfl, _, e13.symm, hB⟩ dX0_makeStep_61
  · refine lv_aload_n hx hb dX0_makeStep_40 rfl (lv_at hl 2 rfl) ?_
    refine lv_iload_n hx hb dX0_makeStep_41 rfl (lv_at hl 0 rfl) ?_
    refine b_mV (b_runV (As := [.int r4]) (rest := []) ⟨hx, hb, hml, hown, hts⟩ (c_X0_meetAt l D E o M5 g r4 hg) (cwV 1 hts gX0_makeStep_X0_meetAt rfl rfl rfl (by decide +kernel) ⟨Nat.le_of_ble_eq_true rfl, Nat.le_of_ble_eq_true rfl⟩) hK (bk_recv hK.1 hB hg.1 rfl) hB rfl hl rfl (Nat.le_of_ble_eq_true rfl) dX0_makeStep_42 ⟨Nat.zero_le _, Nat.zero_le _⟩) hS (fun q h => h) (fun M14 hM14 H locs hB _ hS => ?_)
    refine lv_goto (tgt := 57) hx hb dX0_makeStep_45 (by decide) ?_
    refine lv_aload_n hx hb dX0_makeStep_57 rfl (lv_at hl 2 rfl) ?_
    refine b_mV (b_runV (As := []) (rest := []) ⟨hx, hb, hml, hown, hts⟩ (c_X0_endTurn l D E o M14 g hg) (cwV 0 hts gX0_makeStep_X0_endTurn rfl rfl rfl (by decide +kernel) ⟨Nat.le_of_ble_eq_true rfl, Nat.le_of_ble_eq_true rfl⟩) hK (bk_recv hK.1 hB hg.1 rfl) hB rfl hl rfl (Nat.le_of_ble_eq_true rfl) dX0_makeStep_58 ⟨Nat.zero_le _, Nat.zero_le _⟩) hS (fun q h => h) (fun M15 hM15 H locs hB _ hS => ?_)
    have e16 := p_X0_makeStep_e16 M g x1 k2 hk2.symm r3 hr3.symm r4 hr4.symm M5 hM5.symm k7 hk7.symm r8 hr8.symm c9 M14 hM14.symm M15 hM15.symm
    exact b_vret hx hb hr hlocks hS ⟨rfl, _, e16.symm, hB⟩ dX0_makeStep_61
def f_X0_tryStep (M : bM) (g : Nat) (x1 : Int32) : Int32 × bM := (let r1 : Int32 := f_X0_reasonAgainstStep M g x1; (if r1 = 0 then (let M5 : bM := f_X0_makeStep M g x1; (r1, M5)) else (let M3 : bM := up2 M g 10 ((M g 10) + 1); (r1, M3))))
theorem u_f_X0_tryStep (M : bM) (g : Nat) (x1 : Int32) : f_X0_tryStep M g x1 = (let r1 : Int32 := f_X0_reasonAgainstStep M g x1; (if r1 = 0 then (let M5 : bM := f_X0_makeStep M g x1; (r1, M5)) else (let M3 : bM := up2 M g 10 ((M g 10) + 1); (r1, M3)))) := rfl
theorem p_X0_tryStep_e4 (M : bM) (g : Nat) (x1 : Int32) (r1 : Int32) (hr1 : f_X0_reasonAgainstStep M g x1 = r1) (c2 : ¬ r1 = 0) (M3 : bM) (hM3 : up2 M g 10 ((M g 10) + 1) = M3) : f_X0_tryStep M g x1 = (r1, M3) := by subst hM3 hr1; exact Eq.trans (u_f_X0_tryStep M g x1) (if_neg c2)
theorem p_X0_tryStep_e6 (M : bM) (g : Nat) (x1 : Int32) (r1 : Int32) (hr1 : f_X0_reasonAgainstStep M g x1 = r1) (c2 : r1 = 0) (M5 : bM) (hM5 : f_X0_makeStep M g x1 = M5) : f_X0_tryStep M g x1 = (r1, M5) := by subst hM5 hr1; exact Eq.trans (u_f_X0_tryStep M g x1) (if_pos c2)
set_option maxHeartbeats 4000000 in
set_option maxRecDepth 100000 in
theorem c_X0_tryStep (l : Launch) (D : va_G) (E : Nat → ClassId) (o : Nat) (M : bM) (g : Nat) (x1 : Int32) (hg : isG g) : Met l yX0_tryStep wsX0_tryStep (rmF 3) (bPc D E [.ref (o + g), .int x1] (fun H => bk D E LRM o M H)) (bQ (aI fun r H => ∃ M1 : bM, (r = (f_X0_tryStep M g x1).1 ∧ M1 = (f_X0_tryStep M g x1).2) ∧ bk D E LRM o M1 H) (rA o)) 0 0 (rA o) := by
  refine Met.ofW (cc := cX0_tryStep) (maxL := 3) (ret := (some .int)) (by decide) rfl ?_
  intro p e s m args below meth c s₁ B hml hv
  obtain ⟨rfl, hB, hK⟩ := hv
  have hx := B.exec
  have hb := B.bytes
  have hr := B.returns
  have hts := atoms_spec (ws := wsX0_tryStep) B.pre
  have hown : s.vm.findClass RX0 = some m.cls := findClass_of_methodNamed B.named
  have hlocks := B.notSynchronized
  have hS : bS (rA o) s.heap s.heap [] := bS.rf
  have hl := lv_entry ([.ref (o + g), .int x1]) (n := 3) (Nat.le_of_ble_eq_true rfl)
  rw [lg_entry_eq]
  generalize (lg_sl ([.ref (o + g), .int x1]) ++ List.replicate (3 - (lg_sl ([.ref (o + g), .int x1])).length) Slot.unset).toArray = ls at hl ⊢
  have hl : lv_has ls 3 [(0, .ref (o + g)), (1, .int x1)] := hl
  have hB : bk D E LRM o M s.heap := hB
  have hinX0 : ∀ w ∈ wsX00, w ∈ wsX0_tryStep := by decide +kernel
  refine lv_aload_n hx hb dX0_tryStep_0 rfl (lv_at hl 0 rfl) ?_
  refine lv_iload_n hx hb dX0_tryStep_1 rfl (lv_at hl 1 rfl) ?_
  refine b_pI (b_runV (As := [.int x1]) (rest := []) ⟨hx, hb, hml, hown, hts⟩ (c_X0_reasonAgainstStep l D E o M g x1 hg) (cwV 1 hts gX0_tryStep_X0_reasonAgainstStep rfl rfl rfl (by decide +kernel) ⟨Nat.le_of_ble_eq_true rfl, Nat.le_of_ble_eq_true rfl⟩) hK (bk_recv hK.1 hB hg.1 rfl) hB rfl hl rfl (Nat.le_of_ble_eq_true rfl) dX0_tryStep_2 ⟨Nat.zero_le _, Nat.zero_le _⟩) hS (fun r1 hr1 locs hS => ?_)
  refine lv_istore_n (lv' := [(2, .int r1), (0, .ref (o + g)), (1, .int x1)]) hx hb dX0_tryStep_5 rfl hl (by decide) rfl (fun ls hl => ?_)
  refine lv_iload_n hx hb dX0_tryStep_6 rfl (lv_at hl 0 rfl) ?_
  refine lv_if_ne (tgt := 18) hx hb dX0_tryStep_7 (by decide) (fun c2 => ?_) (fun c2 => ?_)
  · refine lv_aload_n hx hb dX0_tryStep_18 rfl (lv_at hl 1 rfl) ?_
    refine lv_dup hx hb dX0_tryStep_19 rfl ?_
    refine b_get (D := D) (E := E) (L := LRM) (o := o) (M := M) (v := .int (M g 10)) (C := RX0) (T := TX0) (N := 12) hx hb hts hinX0 hown hK.1 hB g hg.1 rfl 10 (by decide) (hts (.fieldLink RX0 35 "RiverMeeting$Game" "refusals" "I") (List.mem_of_getElem? (i := 1) rfl)) (fun _ h9 => h9) rfl dX0_tryStep_20 ?_
    refine lv_iconst (v := 1) hx hb dX0_tryStep_23 (by decide) ?_
    refine lv_iadd hx hb dX0_tryStep_24 ?_
    refine b_put (D := D) (E := E) (L := LRM) (o := o) (M := M) (v := ((M g 10) + 1)) (ty := .int) (C := RX0) (T := TX0) (N := 12) hx hb hts hinX0 tyX0 tyX0_ok nmX0 hown hK.1 hB hS g (rA_of hg.1) hg.1 rfl 10 (by decide) rfl (hts (.fieldLink RX0 35 "RiverMeeting$Game" "refusals" "I") (List.mem_of_getElem? (i := 1) rfl)) (fun _ h9 => h9) rfl (by decide +kernel) rfl rfl dX0_tryStep_25 (fun M3 hM3 H locs hB _ hS => ?_)
    refine lv_iload_n hx hb dX0_tryStep_28 rfl (lv_at hl 0 rfl) ?_
    have e4 := p_X0_tryStep_e4 M g x1 r1 hr1.symm c2 M3 hM3.symm
    exact b_iret hx hb hr hlocks hS ⟨_, rfl, _, ⟨(congrArg Prod.fst e4).symm, (congrArg Prod.snd e4).symm⟩, hB⟩ dX0_tryStep_29
  · refine lv_aload_n hx hb dX0_tryStep_10 rfl (lv_at hl 1 rfl) ?_
    refine lv_iload_n hx hb dX0_tryStep_11 rfl (lv_at hl 2 rfl) ?_
    refine b_mV (b_runV (As := [.int x1]) (rest := []) ⟨hx, hb, hml, hown, hts⟩ (c_X0_makeStep l D E o M g x1 hg) (cwV 1 hts gX0_tryStep_X0_makeStep rfl rfl rfl (by decide +kernel) ⟨Nat.le_of_ble_eq_true rfl, Nat.le_of_ble_eq_true rfl⟩) hK (bk_recv hK.1 hB hg.1 rfl) hB rfl hl rfl (Nat.le_of_ble_eq_true rfl) dX0_tryStep_12 ⟨Nat.zero_le _, Nat.zero_le _⟩) hS (fun q h => h) (fun M5 hM5 H locs hB _ hS => ?_)
    refine lv_goto (tgt := 28) hx hb dX0_tryStep_15 (by decide) ?_
    refine lv_iload_n hx hb dX0_tryStep_28 rfl (lv_at hl 0 rfl) ?_
    have e6 := p_X0_tryStep_e6 M g x1 r1 hr1.symm c2 M5 hM5.symm
    exact b_iret hx hb hr hlocks hS ⟨_, rfl, _, ⟨(congrArg Prod.fst e6).symm, (congrArg Prod.snd e6).symm⟩, hB⟩ dX0_tryStep_29
def f_X0_stepIfPossible (M : bM) (g : Nat) (x1 : Int32) : Int32 × bM := (let r1 : Int32 := f_X0_isOver M g; (if r1 = 0 then (let r4 : Int32 := f_X0_reasonAgainstStep M g x1; (if r4 = 0 then (let M6 : bM := f_X0_makeStep M g x1; (1, M6)) else (0, M))) else (0, M)))
theorem u_f_X0_stepIfPossible (M : bM) (g : Nat) (x1 : Int32) : f_X0_stepIfPossible M g x1 = (let r1 : Int32 := f_X0_isOver M g; (if r1 = 0 then (let r4 : Int32 := f_X0_reasonAgainstStep M g x1; (if r4 = 0 then (let M6 : bM := f_X0_makeStep M g x1; (1, M6)) else (0, M))) else (0, M))) := rfl
theorem p_X0_stepIfPossible_e3 (M : bM) (g : Nat) (x1 : Int32) (r1 : Int32) (hr1 : f_X0_isOver M g = r1) (c2 : ¬ r1 = 0) : f_X0_stepIfPossible M g x1 = (0, M) := by subst hr1; exact Eq.trans (u_f_X0_stepIfPossible M g x1) (if_neg c2)
theorem p_X0_stepIfPossible_e7 (M : bM) (g : Nat) (x1 : Int32) (r1 : Int32) (hr1 : f_X0_isOver M g = r1) (c2 : r1 = 0) (r4 : Int32) (hr4 : f_X0_reasonAgainstStep M g x1 = r4) (c5 : r4 = 0) (M6 : bM) (hM6 : f_X0_makeStep M g x1 = M6) : f_X0_stepIfPossible M g x1 = (1, M6) := by subst hM6 hr4 hr1; exact Eq.trans (u_f_X0_stepIfPossible M g x1) (Eq.trans (if_pos c2) (if_pos c5))
theorem p_X0_stepIfPossible_e8 (M : bM) (g : Nat) (x1 : Int32) (r1 : Int32) (hr1 : f_X0_isOver M g = r1) (c2 : r1 = 0) (r4 : Int32) (hr4 : f_X0_reasonAgainstStep M g x1 = r4) (c5 : ¬ r4 = 0) : f_X0_stepIfPossible M g x1 = (0, M) := by subst hr4 hr1; exact Eq.trans (u_f_X0_stepIfPossible M g x1) (Eq.trans (if_pos c2) (if_neg c5))
set_option maxHeartbeats 4000000 in
set_option maxRecDepth 100000 in
theorem c_X0_stepIfPossible (l : Launch) (D : va_G) (E : Nat → ClassId) (o : Nat) (M : bM) (g : Nat) (x1 : Int32) (hg : isG g) : Met l yX0_stepIfPossible wsX0_stepIfPossible (rmF 3) (bPc D E [.ref (o + g), .int x1] (fun H => bk D E LRM o M H)) (bQ (aI fun r H => ∃ M1 : bM, (r = (f_X0_stepIfPossible M g x1).1 ∧ M1 = (f_X0_stepIfPossible M g x1).2) ∧ bk D E LRM o M1 H) (rA o)) 0 0 (rA o) := by
  refine Met.ofW (cc := cX0_stepIfPossible) (maxL := 2) (ret := (some .boolean)) (by decide) rfl ?_
  intro p e s m args below meth c s₁ B hml hv
  obtain ⟨rfl, hB, hK⟩ := hv
  have hx := B.exec
  have hb := B.bytes
  have hr := B.returns
  have hts := atoms_spec (ws := wsX0_stepIfPossible) B.pre
  have hown : s.vm.findClass RX0 = some m.cls := findClass_of_methodNamed B.named
  have hlocks := B.notSynchronized
  have hS : bS (rA o) s.heap s.heap [] := bS.rf
  have hl := lv_entry ([.ref (o + g), .int x1]) (n := 2) (Nat.le_of_ble_eq_true rfl)
  rw [lg_entry_eq]
  generalize (lg_sl ([.ref (o + g), .int x1]) ++ List.replicate (2 - (lg_sl ([.ref (o + g), .int x1])).length) Slot.unset).toArray = ls at hl ⊢
  have hl : lv_has ls 2 [(0, .ref (o + g)), (1, .int x1)] := hl
  have hB : bk D E LRM o M s.heap := hB
  refine lv_aload_n hx hb dX0_stepIfPossible_0 rfl (lv_at hl 0 rfl) ?_
  refine b_pI (b_runV (As := []) (rest := []) ⟨hx, hb, hml, hown, hts⟩ (c_X0_isOver l D E o M g hg) (cwV 0 hts gX0_stepIfPossible_X0_isOver rfl rfl rfl (by decide +kernel) ⟨Nat.le_of_ble_eq_true rfl, Nat.le_of_ble_eq_true rfl⟩) hK (bk_recv hK.1 hB hg.1 rfl) hB rfl hl rfl (Nat.le_of_ble_eq_true rfl) dX0_stepIfPossible_1 ⟨Nat.zero_le _, Nat.zero_le _⟩) hS (fun r1 hr1 locs hS => ?_)
  refine lv_if_ne (tgt := 15) hx hb dX0_stepIfPossible_4 (by decide) (fun c2 => ?_) (fun c2 => ?_)
  · refine lv_iconst (v := 0) hx hb dX0_stepIfPossible_15 (by decide) ?_
    have e3 := p_X0_stepIfPossible_e3 M g x1 r1 hr1.symm c2
    exact b_zret hx hb hr rfl hlocks hS ⟨_, rfl, _, ⟨(congrArg Prod.fst e3).symm, (congrArg Prod.snd e3).symm⟩, hB⟩ dX0_stepIfPossible_16
  · refine lv_aload_n hx hb dX0_stepIfPossible_7 rfl (lv_at hl 0 rfl) ?_
    refine lv_iload_n hx hb dX0_stepIfPossible_8 rfl (lv_at hl 1 rfl) ?_
    refine b_pI (b_runV (As := [.int x1]) (rest := []) ⟨hx, hb, hml, hown, hts⟩ (c_X0_reasonAgainstStep l D E o M g x1 hg) (cwV 1 hts gX0_stepIfPossible_X0_reasonAgainstStep rfl rfl rfl (by decide +kernel) ⟨Nat.le_of_ble_eq_true rfl, Nat.le_of_ble_eq_true rfl⟩) hK (bk_recv hK.1 hB hg.1 rfl) hB rfl hl rfl (Nat.le_of_ble_eq_true rfl) dX0_stepIfPossible_9 ⟨Nat.zero_le _, Nat.zero_le _⟩) hS (fun r4 hr4 locs hS => ?_)
    refine lv_if_eq (tgt := 17) hx hb dX0_stepIfPossible_12 (by decide) (fun c5 => ?_) (fun c5 => ?_)
    · refine lv_aload_n hx hb dX0_stepIfPossible_17 rfl (lv_at hl 0 rfl) ?_
      refine lv_iload_n hx hb dX0_stepIfPossible_18 rfl (lv_at hl 1 rfl) ?_
      refine b_mV (b_runV (As := [.int x1]) (rest := []) ⟨hx, hb, hml, hown, hts⟩ (c_X0_makeStep l D E o M g x1 hg) (cwV 1 hts gX0_stepIfPossible_X0_makeStep rfl rfl rfl (by decide +kernel) ⟨Nat.le_of_ble_eq_true rfl, Nat.le_of_ble_eq_true rfl⟩) hK (bk_recv hK.1 hB hg.1 rfl) hB rfl hl rfl (Nat.le_of_ble_eq_true rfl) dX0_stepIfPossible_19 ⟨Nat.zero_le _, Nat.zero_le _⟩) hS (fun q h => h) (fun M6 hM6 H locs hB _ hS => ?_)
      refine lv_iconst (v := 1) hx hb dX0_stepIfPossible_22 (by decide) ?_
      have e7 := p_X0_stepIfPossible_e7 M g x1 r1 hr1.symm c2 r4 hr4.symm c5 M6 hM6.symm
      exact b_zret hx hb hr rfl hlocks hS ⟨_, rfl, _, ⟨(congrArg Prod.fst e7).symm, (congrArg Prod.snd e7).symm⟩, hB⟩ dX0_stepIfPossible_23
    · refine lv_iconst (v := 0) hx hb dX0_stepIfPossible_15 (by decide) ?_
      have e8 := p_X0_stepIfPossible_e8 M g x1 r1 hr1.symm c2 r4 hr4.symm c5
      exact b_zret hx hb hr rfl hlocks hS ⟨_, rfl, _, ⟨(congrArg Prod.fst e8).symm, (congrArg Prod.snd e8).symm⟩, hB⟩ dX0_stepIfPossible_16
