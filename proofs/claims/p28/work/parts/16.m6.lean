abbrev chOK (M : bM) : Prop := ∀ j : Nat, j < 120 → narrow .char (.int (M 2 j)) = .int (M 2 j)
theorem ch_at {M : bM} (h : chOK M) {x : Int32} (hx : vp_in x 120) : narrow .char (.int (M 2 x.toNatClampNeg)) = .int (M 2 x.toNatClampNeg) := h _ (Nat.not_le.mp fun q => hx (Or.inr q))
theorem in_nneg {x : Int32} {n : Nat} (h : vp_in x n) : ¬ x < 0 := fun q => h (Or.inl q)
theorem in_nge {x : Int32} {n : Nat} {N : Int32} (hN : N = nI n) (hn : n < 2 ^ 31) (h : vp_in x n) : ¬ N ≤ x := by
  subst hN
  obtain ⟨i, hi, rfl⟩ := vp_in_of h hn
  exact nI_ge hi hn
theorem in_pred14 {x : Int32} (h : vp_in x 14) : vp_in (((x + 14) - 1) - ((x + 14) - 1) / 14 * 14) 14 := by
  obtain ⟨i, hi, rfl⟩ := vp_in_of h (by decide)
  rw [show (14 : Int32) = nI 14 from rfl, nI_add, show i + 14 = (i + 13) + 1 by omega, nI_pred]
  have := pk_rem (a := i + 13) (d := 14) (by omega) (by decide) (by decide)
  rw [this]
  exact vp_in_nI (Nat.mod_lt _ (by decide)) (by decide)
def f_X4_isFull (M : bM) : Int32 := (if (M 1 1) < 120 then 0 else 1)
theorem u_f_X4_isFull (M : bM) : f_X4_isFull M = (if (M 1 1) < 120 then 0 else 1) := rfl
theorem p_X4_isFull_e2 (M : bM) (c1 : (M 1 1) < 120) : f_X4_isFull M = 0 := by exact Eq.trans (u_f_X4_isFull M) (if_pos c1)
theorem p_X4_isFull_e3 (M : bM) (c1 : ¬ (M 1 1) < 120) : f_X4_isFull M = 1 := by exact Eq.trans (u_f_X4_isFull M) (if_neg c1)
set_option maxHeartbeats 4000000 in
set_option maxRecDepth 100000 in
theorem c_X4_isFull (l : Launch) (D : va_G) (E : Nat → ClassId) (o : Nat) (M : bM)  : Met l yX4_isFull wsX4_isFull (rmF 0) (bPc D E [.ref (o + 1)] (fun H => bk D E LRM o M H)) (bQ (aI fun r _ => r = f_X4_isFull M) bNo) 0 0 bNo := by
  refine Met.ofW (cc := cX4_isFull) (maxL := 1) (ret := (some .boolean)) (by decide) rfl ?_
  intro p e s m args below meth c s₁ B hml hv
  obtain ⟨rfl, hB, hK⟩ := hv
  have hx := B.exec
  have hb := B.bytes
  have hr := B.returns
  have hts := atoms_spec (ws := wsX4_isFull) B.pre
  have hown : s.vm.findClass RX4 = some m.cls := findClass_of_methodNamed B.named
  have hlocks := B.notSynchronized
  have hS : bS bNo s.heap s.heap [] := bS.rf
  have hl := lv_entry ([.ref (o + 1)]) (n := 1) (Nat.le_of_ble_eq_true rfl)
  rw [lg_entry_eq]
  generalize (lg_sl ([.ref (o + 1)]) ++ List.replicate (1 - (lg_sl ([.ref (o + 1)])).length) Slot.unset).toArray = ls at hl ⊢
  have hl : lv_has ls 1 [(0, .ref (o + 1))] := hl
  have hB : bk D E LRM o M s.heap := hB
  have hinX4 : ∀ w ∈ wsX40, w ∈ wsX4_isFull := by decide +kernel
  refine lv_aload_n hx hb dX4_isFull_0 rfl (lv_at hl 0 rfl) ?_
  refine b_get (D := D) (E := E) (L := LRM) (o := o) (M := M) (v := .int (M 1 1)) (C := RX4) (T := TX4) (N := 2) hx hb hts hinX4 hown hK.1 hB 1 lay_1 rfl 1 (by decide) (hts (.fieldLink RX4 15 "RiverMeeting$TextBuffer" "length" "I") (List.mem_of_getElem? (i := 1) rfl)) (fun _ h9 => h9) rfl dX4_isFull_1 ?_
  refine lv_bipush (v := 120) hx hb dX4_isFull_4 (by decide) ?_
  refine lv_icmp_lt (tgt := 13) hx hb dX4_isFull_6 (by decide) (fun c1 => ?_) (fun c1 => ?_)
  · refine lv_iconst (v := 0) hx hb dX4_isFull_13 (by decide) ?_
    have e2 := p_X4_isFull_e2 M c1
    exact b_zret hx hb hr rfl hlocks hS ⟨_, rfl, e2.symm⟩ dX4_isFull_14
  · refine lv_iconst (v := 1) hx hb dX4_isFull_9 (by decide) ?_
    refine lv_goto (tgt := 14) hx hb dX4_isFull_10 (by decide) ?_
    have e3 := p_X4_isFull_e3 M c1
    exact b_zret hx hb hr rfl hlocks hS ⟨_, rfl, e3.symm⟩ dX4_isFull_14
def f_X4_add (M : bM) (x1 : Int32) : Int32 × bM := (if (M 1 1) < 0 then ((M 1 1), M) else (if 120 ≤ (M 1 1) then ((M 1 1), M) else (let M5 : bM := up2 M 2 (M 1 1).toNatClampNeg (vp_nar .char x1); (let M6 : bM := up2 M5 1 1 ((M5 1 1) + 1); ((M6 1 1), M6)))))
theorem u_f_X4_add (M : bM) (x1 : Int32) : f_X4_add M x1 = (if (M 1 1) < 0 then ((M 1 1), M) else (if 120 ≤ (M 1 1) then ((M 1 1), M) else (let M5 : bM := up2 M 2 (M 1 1).toNatClampNeg (vp_nar .char x1); (let M6 : bM := up2 M5 1 1 ((M5 1 1) + 1); ((M6 1 1), M6))))) := rfl
theorem p_X4_add_e2 (M : bM) (x1 : Int32) (c1 : (M 1 1) < 0) : f_X4_add M x1 = ((M 1 1), M) := by exact Eq.trans (u_f_X4_add M x1) (if_pos c1)
theorem p_X4_add_e4 (M : bM) (x1 : Int32) (c1 : ¬ (M 1 1) < 0) (c3 : 120 ≤ (M 1 1)) : f_X4_add M x1 = ((M 1 1), M) := by exact Eq.trans (u_f_X4_add M x1) (Eq.trans (if_neg c1) (if_pos c3))
theorem p_X4_add_e7 (M : bM) (x1 : Int32) (c1 : ¬ (M 1 1) < 0) (c3 : ¬ 120 ≤ (M 1 1)) (M5 : bM) (hM5 : up2 M 2 (M 1 1).toNatClampNeg (vp_nar .char x1) = M5) (M6 : bM) (hM6 : up2 M5 1 1 ((M5 1 1) + 1) = M6) : f_X4_add M x1 = ((M6 1 1), M6) := by subst hM6 hM5; exact Eq.trans (u_f_X4_add M x1) (Eq.trans (if_neg c1) (if_neg c3))
set_option maxHeartbeats 4000000 in
set_option maxRecDepth 100000 in
theorem c_X4_add (l : Launch) (D : va_G) (E : Nat → ClassId) (o : Nat) (M : bM) (x1 : Int32) : Met l yX4_add wsX4_add (rmF 0) (bPc D E [.ref (o + 1), .int x1] (fun H => bk D E LRM o M H)) (bQ (aI fun r H => ∃ M1 : bM, (r = (f_X4_add M x1).1 ∧ M1 = (f_X4_add M x1).2) ∧ bk D E LRM o M1 H) (rA o)) 0 0 (rA o) := by
  refine Met.ofW (cc := cX4_add) (maxL := 2) (ret := (some .int)) (by decide) rfl ?_
  intro p e s m args below meth c s₁ B hml hv
  obtain ⟨rfl, hB, hK⟩ := hv
  have hx := B.exec
  have hb := B.bytes
  have hr := B.returns
  have hts := atoms_spec (ws := wsX4_add) B.pre
  have hown : s.vm.findClass RX4 = some m.cls := findClass_of_methodNamed B.named
  have hlocks := B.notSynchronized
  have hS : bS (rA o) s.heap s.heap [] := bS.rf
  have hl := lv_entry ([.ref (o + 1), .int x1]) (n := 2) (Nat.le_of_ble_eq_true rfl)
  rw [lg_entry_eq]
  generalize (lg_sl ([.ref (o + 1), .int x1]) ++ List.replicate (2 - (lg_sl ([.ref (o + 1), .int x1])).length) Slot.unset).toArray = ls at hl ⊢
  have hl : lv_has ls 2 [(0, .ref (o + 1)), (1, .int x1)] := hl
  have hB : bk D E LRM o M s.heap := hB
  have hinX4 : ∀ w ∈ wsX40, w ∈ wsX4_add := by decide +kernel
  refine lv_aload_n hx hb dX4_add_0 rfl (lv_at hl 0 rfl) ?_
  refine b_get (D := D) (E := E) (L := LRM) (o := o) (M := M) (v := .int (M 1 1)) (C := RX4) (T := TX4) (N := 2) hx hb hts hinX4 hown hK.1 hB 1 lay_1 rfl 1 (by decide) (hts (.fieldLink RX4 15 "RiverMeeting$TextBuffer" "length" "I") (List.mem_of_getElem? (i := 1) rfl)) (fun _ h9 => h9) rfl dX4_add_1 ?_
  refine lv_if_lt (tgt := 36) hx hb dX4_add_4 (by decide) (fun c1 => ?_) (fun c1 => ?_)
  · refine lv_aload_n hx hb dX4_add_36 rfl (lv_at hl 0 rfl) ?_
    refine b_get (D := D) (E := E) (L := LRM) (o := o) (M := M) (v := .int (M 1 1)) (C := RX4) (T := TX4) (N := 2) hx hb hts hinX4 hown hK.1 hB 1 lay_1 rfl 1 (by decide) (hts (.fieldLink RX4 15 "RiverMeeting$TextBuffer" "length" "I") (List.mem_of_getElem? (i := 1) rfl)) (fun _ h9 => h9) rfl dX4_add_37 ?_
    have e2 := p_X4_add_e2 M x1 c1
    exact b_iret hx hb hr hlocks hS ⟨_, rfl, _, ⟨(congrArg Prod.fst e2).symm, (congrArg Prod.snd e2).symm⟩, hB⟩ dX4_add_40
  · refine lv_aload_n hx hb dX4_add_7 rfl (lv_at hl 0 rfl) ?_
    refine b_get (D := D) (E := E) (L := LRM) (o := o) (M := M) (v := .int (M 1 1)) (C := RX4) (T := TX4) (N := 2) hx hb hts hinX4 hown hK.1 hB 1 lay_1 rfl 1 (by decide) (hts (.fieldLink RX4 15 "RiverMeeting$TextBuffer" "length" "I") (List.mem_of_getElem? (i := 1) rfl)) (fun _ h9 => h9) rfl dX4_add_8 ?_
    refine lv_bipush (v := 120) hx hb dX4_add_11 (by decide) ?_
    refine lv_icmp_ge (tgt := 36) hx hb dX4_add_13 (by decide) (fun c3 => ?_) (fun c3 => ?_)
    · refine lv_aload_n hx hb dX4_add_36 rfl (lv_at hl 0 rfl) ?_
      refine b_get (D := D) (E := E) (L := LRM) (o := o) (M := M) (v := .int (M 1 1)) (C := RX4) (T := TX4) (N := 2) hx hb hts hinX4 hown hK.1 hB 1 lay_1 rfl 1 (by decide) (hts (.fieldLink RX4 15 "RiverMeeting$TextBuffer" "length" "I") (List.mem_of_getElem? (i := 1) rfl)) (fun _ h9 => h9) rfl dX4_add_37 ?_
      have e4 := p_X4_add_e4 M x1 c1 c3
      exact b_iret hx hb hr hlocks hS ⟨_, rfl, _, ⟨(congrArg Prod.fst e4).symm, (congrArg Prod.snd e4).symm⟩, hB⟩ dX4_add_40
    · refine lv_aload_n hx hb dX4_add_16 rfl (lv_at hl 0 rfl) ?_
      refine b_get (D := D) (E := E) (L := LRM) (o := o) (M := M) (v := .ref (o + 2)) (C := RX4) (T := TX4) (N := 2) hx hb hts hinX4 hown hK.1 hB 1 lay_1 rfl 0 (by decide) (hts (.fieldLink RX4 9 "RiverMeeting$TextBuffer" "signs" "[C") (List.mem_of_getElem? (i := 2) rfl)) (fun _ h9 => h9) rfl dX4_add_17 ?_
      refine lv_aload_n hx hb dX4_add_20 rfl (lv_at hl 0 rfl) ?_
      refine b_get (D := D) (E := E) (L := LRM) (o := o) (M := M) (v := .int (M 1 1)) (C := RX4) (T := TX4) (N := 2) hx hb hts hinX4 hown hK.1 hB 1 lay_1 rfl 1 (by decide) (hts (.fieldLink RX4 15 "RiverMeeting$TextBuffer" "length" "I") (List.mem_of_getElem? (i := 1) rfl)) (fun _ h9 => h9) rfl dX4_add_21 ?_
      refine lv_iload_n hx hb dX4_add_24 rfl (lv_at hl 1 rfl) ?_
      refine b_cast hx hb hK.1 hB hS 2 (rA_of lay_2) lay_2 (in_of (N := 120) rfl (by decide) c1 c3) dX4_add_25 (fun M5 hM5 H locs hB _ hS => ?_)
      refine lv_aload_n hx hb dX4_add_26 rfl (lv_at hl 0 rfl) ?_
      refine lv_dup hx hb dX4_add_27 rfl ?_
      refine b_get (D := D) (E := E) (L := LRM) (o := o) (M := M5) (v := .int (M5 1 1)) (C := RX4) (T := TX4) (N := 2) hx hb hts hinX4 hown hK.1 hB 1 lay_1 rfl 1 (by decide) (hts (.fieldLink RX4 15 "RiverMeeting$TextBuffer" "length" "I") (List.mem_of_getElem? (i := 1) rfl)) (fun _ h9 => h9) rfl dX4_add_28 ?_
      refine lv_iconst (v := 1) hx hb dX4_add_31 (by decide) ?_
      refine lv_iadd hx hb dX4_add_32 ?_
      refine b_put (D := D) (E := E) (L := LRM) (o := o) (M := M5) (v := ((M5 1 1) + 1)) (ty := .int) (C := RX4) (T := TX4) (N := 2) hx hb hts hinX4 tyX4 tyX4_ok nmX4 hown hK.1 hB hS 1 (rA_of lay_1) lay_1 rfl 1 (by decide) rfl (hts (.fieldLink RX4 15 "RiverMeeting$TextBuffer" "length" "I") (List.mem_of_getElem? (i := 1) rfl)) (fun _ h9 => h9) rfl (by decide +kernel) rfl rfl dX4_add_33 (fun M6 hM6 H locs hB _ hS => ?_)
      refine lv_aload_n hx hb dX4_add_36 rfl (lv_at hl 0 rfl) ?_
      refine b_get (D := D) (E := E) (L := LRM) (o := o) (M := M6) (v := .int (M6 1 1)) (C := RX4) (T := TX4) (N := 2) hx hb hts hinX4 hown hK.1 hB 1 lay_1 rfl 1 (by decide) (hts (.fieldLink RX4 15 "RiverMeeting$TextBuffer" "length" "I") (List.mem_of_getElem? (i := 1) rfl)) (fun _ h9 => h9) rfl dX4_add_37 ?_
      have e7 := p_X4_add_e7 M x1 c1 c3 M5 hM5.symm M6 hM6.symm
      exact b_iret hx hb hr hlocks hS ⟨_, rfl, _, ⟨(congrArg Prod.fst e7).symm, (congrArg Prod.snd e7).symm⟩, hB⟩ dX4_add_40
def f_X4_signAt (M : bM) (x1 : Int32) : Int32 := (if x1 < 0 then 0 else (if (M 1 1) ≤ x1 then 0 else (if 120 ≤ x1 then 0 else (M 2 x1.toNatClampNeg))))
theorem u_f_X4_signAt (M : bM) (x1 : Int32) : f_X4_signAt M x1 = (if x1 < 0 then 0 else (if (M 1 1) ≤ x1 then 0 else (if 120 ≤ x1 then 0 else (M 2 x1.toNatClampNeg)))) := rfl
theorem p_X4_signAt_e2 (M : bM) (x1 : Int32) (c1 : x1 < 0) : f_X4_signAt M x1 = 0 := by exact Eq.trans (u_f_X4_signAt M x1) (if_pos c1)
theorem p_X4_signAt_e4 (M : bM) (x1 : Int32) (c1 : ¬ x1 < 0) (c3 : (M 1 1) ≤ x1) : f_X4_signAt M x1 = 0 := by exact Eq.trans (u_f_X4_signAt M x1) (Eq.trans (if_neg c1) (if_pos c3))
theorem p_X4_signAt_e6 (M : bM) (x1 : Int32) (c1 : ¬ x1 < 0) (c3 : ¬ (M 1 1) ≤ x1) (c5 : 120 ≤ x1) : f_X4_signAt M x1 = 0 := by exact Eq.trans (u_f_X4_signAt M x1) (Eq.trans (if_neg c1) (Eq.trans (if_neg c3) (if_pos c5)))
theorem p_X4_signAt_e7 (M : bM) (x1 : Int32) (c1 : ¬ x1 < 0) (c3 : ¬ (M 1 1) ≤ x1) (c5 : ¬ 120 ≤ x1) : f_X4_signAt M x1 = (M 2 x1.toNatClampNeg) := by exact Eq.trans (u_f_X4_signAt M x1) (Eq.trans (if_neg c1) (Eq.trans (if_neg c3) (if_neg c5)))
set_option maxHeartbeats 4000000 in
set_option maxRecDepth 100000 in
theorem c_X4_signAt (l : Launch) (D : va_G) (E : Nat → ClassId) (o : Nat) (M : bM) (x1 : Int32) (hch : chOK M) : Met l yX4_signAt wsX4_signAt (rmF 0) (bPc D E [.ref (o + 1), .int x1] (fun H => bk D E LRM o M H)) (bQ (aI fun r _ => r = f_X4_signAt M x1) bNo) 0 0 bNo := by
  refine Met.ofW (cc := cX4_signAt) (maxL := 2) (ret := (some .char)) (by decide) rfl ?_
  intro p e s m args below meth c s₁ B hml hv
  obtain ⟨rfl, hB, hK⟩ := hv
  have hx := B.exec
  have hb := B.bytes
  have hr := B.returns
  have hts := atoms_spec (ws := wsX4_signAt) B.pre
  have hown : s.vm.findClass RX4 = some m.cls := findClass_of_methodNamed B.named
  have hlocks := B.notSynchronized
  have hS : bS bNo s.heap s.heap [] := bS.rf
  have hl := lv_entry ([.ref (o + 1), .int x1]) (n := 2) (Nat.le_of_ble_eq_true rfl)
  rw [lg_entry_eq]
  generalize (lg_sl ([.ref (o + 1), .int x1]) ++ List.replicate (2 - (lg_sl ([.ref (o + 1), .int x1])).length) Slot.unset).toArray = ls at hl ⊢
  have hl : lv_has ls 2 [(0, .ref (o + 1)), (1, .int x1)] := hl
  have hB : bk D E LRM o M s.heap := hB
  have hinX4 : ∀ w ∈ wsX40, w ∈ wsX4_signAt := by decide +kernel
  refine lv_iload_n hx hb dX4_signAt_0 rfl (lv_at hl 1 rfl) ?_
  refine lv_if_lt (tgt := 27) hx hb dX4_signAt_1 (by decide) (fun c1 => ?_) (fun c1 => ?_)
  · refine lv_iconst (v := 0) hx hb dX4_signAt_27 (by decide) ?_
    have e2 := p_X4_signAt_e2 M x1 c1
    exact b_zret hx hb hr rfl hlocks hS ⟨_, rfl, e2.symm⟩ dX4_signAt_28
  · refine lv_iload_n hx hb dX4_signAt_4 rfl (lv_at hl 1 rfl) ?_
    refine lv_aload_n hx hb dX4_signAt_5 rfl (lv_at hl 0 rfl) ?_
    refine b_get (D := D) (E := E) (L := LRM) (o := o) (M := M) (v := .int (M 1 1)) (C := RX4) (T := TX4) (N := 2) hx hb hts hinX4 hown hK.1 hB 1 lay_1 rfl 1 (by decide) (hts (.fieldLink RX4 15 "RiverMeeting$TextBuffer" "length" "I") (List.mem_of_getElem? (i := 1) rfl)) (fun _ h9 => h9) rfl dX4_signAt_6 ?_
    refine lv_icmp_ge (tgt := 27) hx hb dX4_signAt_9 (by decide) (fun c3 => ?_) (fun c3 => ?_)
    · refine lv_iconst (v := 0) hx hb dX4_signAt_27 (by decide) ?_
      have e4 := p_X4_signAt_e4 M x1 c1 c3
      exact b_zret hx hb hr rfl hlocks hS ⟨_, rfl, e4.symm⟩ dX4_signAt_28
    · refine lv_iload_n hx hb dX4_signAt_12 rfl (lv_at hl 1 rfl) ?_
      refine lv_bipush (v := 120) hx hb dX4_signAt_13 (by decide) ?_
      refine lv_icmp_ge (tgt := 27) hx hb dX4_signAt_15 (by decide) (fun c5 => ?_) (fun c5 => ?_)
      · refine lv_iconst (v := 0) hx hb dX4_signAt_27 (by decide) ?_
        have e6 := p_X4_signAt_e6 M x1 c1 c3 c5
        exact b_zret hx hb hr rfl hlocks hS ⟨_, rfl, e6.symm⟩ dX4_signAt_28
      · refine lv_aload_n hx hb dX4_signAt_18 rfl (lv_at hl 0 rfl) ?_
        refine b_get (D := D) (E := E) (L := LRM) (o := o) (M := M) (v := .ref (o + 2)) (C := RX4) (T := TX4) (N := 2) hx hb hts hinX4 hown hK.1 hB 1 lay_1 rfl 0 (by decide) (hts (.fieldLink RX4 9 "RiverMeeting$TextBuffer" "signs" "[C") (List.mem_of_getElem? (i := 2) rfl)) (fun _ h9 => h9) rfl dX4_signAt_19 ?_
        refine lv_iload_n hx hb dX4_signAt_22 rfl (lv_at hl 1 rfl) ?_
        refine b_cald hx hb hK.1 hB 2 lay_2 (in_of (N := 120) rfl (by decide) c1 c5) dX4_signAt_23 ?_
        refine lv_goto (tgt := 28) hx hb dX4_signAt_24 (by decide) ?_
        have e7 := p_X4_signAt_e7 M x1 c1 c3 c5
        exact b_zret hx hb hr (ch_at hch (in_of (N := 120) rfl (by decide) c1 c5)) hlocks hS ⟨_, rfl, e7.symm⟩ dX4_signAt_28
def f_X4_digitAt (M : bM) (x1 : Int32) : Int32 := (let r1 : Int32 := f_X4_signAt M x1; (r1 - 48))
theorem u_f_X4_digitAt (M : bM) (x1 : Int32) : f_X4_digitAt M x1 = (let r1 : Int32 := f_X4_signAt M x1; (r1 - 48)) := rfl
theorem p_X4_digitAt_e2 (M : bM) (x1 : Int32) (r1 : Int32) (hr1 : f_X4_signAt M x1 = r1) : f_X4_digitAt M x1 = (r1 - 48) := by subst hr1; exact u_f_X4_digitAt M x1
set_option maxHeartbeats 4000000 in
set_option maxRecDepth 100000 in
theorem c_X4_digitAt (l : Launch) (D : va_G) (E : Nat → ClassId) (o : Nat) (M : bM) (x1 : Int32) (hch : chOK M) : Met l yX4_digitAt wsX4_digitAt (rmF 1) (bPc D E [.ref (o + 1), .int x1] (fun H => bk D E LRM o M H)) (bQ (aI fun r _ => r = f_X4_digitAt M x1) bNo) 0 0 bNo := by
  refine Met.ofW (cc := cX4_digitAt) (maxL := 2) (ret := (some .int)) (by decide) rfl ?_
  intro p e s m args below meth c s₁ B hml hv
  obtain ⟨rfl, hB, hK⟩ := hv
  have hx := B.exec
  have hb := B.bytes
  have hr := B.returns
  have hts := atoms_spec (ws := wsX4_digitAt) B.pre
  have hown : s.vm.findClass RX4 = some m.cls := findClass_of_methodNamed B.named
  have hlocks := B.notSynchronized
  have hS : bS bNo s.heap s.heap [] := bS.rf
  have hl := lv_entry ([.ref (o + 1), .int x1]) (n := 2) (Nat.le_of_ble_eq_true rfl)
  rw [lg_entry_eq]
  generalize (lg_sl ([.ref (o + 1), .int x1]) ++ List.replicate (2 - (lg_sl ([.ref (o + 1), .int x1])).length) Slot.unset).toArray = ls at hl ⊢
  have hl : lv_has ls 2 [(0, .ref (o + 1)), (1, .int x1)] := hl
  have hB : bk D E LRM o M s.heap := hB
  refine lv_aload_n hx hb dX4_digitAt_0 rfl (lv_at hl 0 rfl) ?_
  refine lv_iload_n hx hb dX4_digitAt_1 rfl (lv_at hl 1 rfl) ?_
  refine b_pI (b_runV (As := [.int x1]) (rest := []) ⟨hx, hb, hml, hown, hts⟩ (c_X4_signAt l D E o M x1 hch) (cwV 1 hts gX4_digitAt_X4_signAt rfl rfl rfl (by decide +kernel) ⟨Nat.le_of_ble_eq_true rfl, Nat.le_of_ble_eq_true rfl⟩) hK (bk_recv hK.1 hB lay_1 rfl) hB rfl hl rfl (Nat.le_of_ble_eq_true rfl) dX4_digitAt_2 ⟨Nat.zero_le _, Nat.zero_le _⟩) hS (fun r1 hr1 locs hS => ?_)
  refine lv_bipush (v := 48) hx hb dX4_digitAt_5 (by decide) ?_
  refine lv_isub hx hb dX4_digitAt_7 ?_
  have e2 := p_X4_digitAt_e2 M x1 r1 hr1.symm
  exact b_iret hx hb hr hlocks hS ⟨_, rfl, e2.symm⟩ dX4_digitAt_8
def f_X4_numberAt (M : bM) (x1 : Int32) : Int32 := (let r1 : Int32 := f_X4_digitAt M x1; (let r2 : Int32 := f_X4_digitAt M (x1 + 1); (((10 : Int32) * r1) + r2)))
theorem u_f_X4_numberAt (M : bM) (x1 : Int32) : f_X4_numberAt M x1 = (let r1 : Int32 := f_X4_digitAt M x1; (let r2 : Int32 := f_X4_digitAt M (x1 + 1); (((10 : Int32) * r1) + r2))) := rfl
theorem p_X4_numberAt_e3 (M : bM) (x1 : Int32) (r1 : Int32) (hr1 : f_X4_digitAt M x1 = r1) (r2 : Int32) (hr2 : f_X4_digitAt M (x1 + 1) = r2) : f_X4_numberAt M x1 = (((10 : Int32) * r1) + r2) := by subst hr2 hr1; exact u_f_X4_numberAt M x1
set_option maxHeartbeats 4000000 in
set_option maxRecDepth 100000 in
theorem c_X4_numberAt (l : Launch) (D : va_G) (E : Nat → ClassId) (o : Nat) (M : bM) (x1 : Int32) (hch : chOK M) : Met l yX4_numberAt wsX4_numberAt (rmF 2) (bPc D E [.ref (o + 1), .int x1] (fun H => bk D E LRM o M H)) (bQ (aI fun r _ => r = f_X4_numberAt M x1) bNo) 0 0 bNo := by
  refine Met.ofW (cc := cX4_numberAt) (maxL := 2) (ret := (some .int)) (by decide) rfl ?_
  intro p e s m args below meth c s₁ B hml hv
  obtain ⟨rfl, hB, hK⟩ := hv
  have hx := B.exec
  have hb := B.bytes
  have hr := B.returns
  have hts := atoms_spec (ws := wsX4_numberAt) B.pre
  have hown : s.vm.findClass RX4 = some m.cls := findClass_of_methodNamed B.named
  have hlocks := B.notSynchronized
  have hS : bS bNo s.heap s.heap [] := bS.rf
  have hl := lv_entry ([.ref (o + 1), .int x1]) (n := 2) (Nat.le_of_ble_eq_true rfl)
  rw [lg_entry_eq]
  generalize (lg_sl ([.ref (o + 1), .int x1]) ++ List.replicate (2 - (lg_sl ([.ref (o + 1), .int x1])).length) Slot.unset).toArray = ls at hl ⊢
  have hl : lv_has ls 2 [(0, .ref (o + 1)), (1, .int x1)] := hl
  have hB : bk D E LRM o M s.heap := hB
  refine lv_bipush (v := 10) hx hb dX4_numberAt_0 (by decide) ?_
  refine lv_aload_n hx hb dX4_numberAt_2 rfl (lv_at hl 0 rfl) ?_
  refine lv_iload_n hx hb dX4_numberAt_3 rfl (lv_at hl 1 rfl) ?_
  refine b_pI (b_runV (As := [.int x1]) (rest := [.int 10]) ⟨hx, hb, hml, hown, hts⟩ (c_X4_digitAt l D E o M x1 hch) (cwV 1 hts gX4_numberAt_X4_digitAt rfl rfl rfl (by decide +kernel) ⟨Nat.le_of_ble_eq_true rfl, Nat.le_of_ble_eq_true rfl⟩) hK (bk_recv hK.1 hB lay_1 rfl) hB rfl hl rfl (Nat.le_of_ble_eq_true rfl) dX4_numberAt_4 ⟨Nat.zero_le _, Nat.zero_le _⟩) hS (fun r1 hr1 locs hS => ?_)
  refine lv_imul hx hb dX4_numberAt_7 ?_
  refine lv_aload_n hx hb dX4_numberAt_8 rfl (lv_at hl 0 rfl) ?_
  refine lv_iload_n hx hb dX4_numberAt_9 rfl (lv_at hl 1 rfl) ?_
  refine lv_iconst (v := 1) hx hb dX4_numberAt_10 (by decide) ?_
  refine lv_iadd hx hb dX4_numberAt_11 ?_
  refine b_pI (b_runV (As := [.int (x1 + 1)]) (rest := [.int ((10 : Int32) * r1)]) ⟨hx, hb, hml, hown, hts⟩ (c_X4_digitAt l D E o M (x1 + 1) hch) (cwV 1 hts gX4_numberAt_X4_digitAt rfl rfl rfl (by decide +kernel) ⟨Nat.le_of_ble_eq_true rfl, Nat.le_of_ble_eq_true rfl⟩) hK (bk_recv hK.1 hB lay_1 rfl) hB rfl hl rfl (Nat.le_of_ble_eq_true rfl) dX4_numberAt_12 ⟨Nat.zero_le _, Nat.zero_le _⟩) hS (fun r2 hr2 locs hS => ?_)
  refine lv_iadd hx hb dX4_numberAt_15 ?_
  have e3 := p_X4_numberAt_e3 M x1 r1 hr1.symm r2 hr2.symm
  exact b_iret hx hb hr hlocks hS ⟨_, rfl, e3.symm⟩ dX4_numberAt_16
def f_X4_sizeOf (x1 : Int32) : Int32 := (if x1 = 98 then 1 else (if x1 = 100 then 3 else (if x1 = 101 then 1 else (if x1 = 102 then 1 else (if x1 = 110 then 3 else (if x1 = 115 then 1 else (if x1 = 118 then 4 else (if x1 = 119 then 1 else 0))))))))
theorem u_f_X4_sizeOf (x1 : Int32) : f_X4_sizeOf x1 = (if x1 = 98 then 1 else (if x1 = 100 then 3 else (if x1 = 101 then 1 else (if x1 = 102 then 1 else (if x1 = 110 then 3 else (if x1 = 115 then 1 else (if x1 = 118 then 4 else (if x1 = 119 then 1 else 0)))))))) := rfl
theorem p_X4_sizeOf_e2 (x1 : Int32) (c1 : x1 = 98) : f_X4_sizeOf x1 = 1 := by exact Eq.trans (u_f_X4_sizeOf x1) (if_pos c1)
theorem p_X4_sizeOf_e4 (x1 : Int32) (c1 : ¬ x1 = 98) (c3 : x1 = 100) : f_X4_sizeOf x1 = 3 := by exact Eq.trans (u_f_X4_sizeOf x1) (Eq.trans (if_neg c1) (if_pos c3))
theorem p_X4_sizeOf_e6 (x1 : Int32) (c1 : ¬ x1 = 98) (c3 : ¬ x1 = 100) (c5 : x1 = 101) : f_X4_sizeOf x1 = 1 := by exact Eq.trans (u_f_X4_sizeOf x1) (Eq.trans (if_neg c1) (Eq.trans (if_neg c3) (if_pos c5)))
theorem p_X4_sizeOf_e8 (x1 : Int32) (c1 : ¬ x1 = 98) (c3 : ¬ x1 = 100) (c5 : ¬ x1 = 101) (c7 : x1 = 102) : f_X4_sizeOf x1 = 1 := by exact Eq.trans (u_f_X4_sizeOf x1) (Eq.trans (if_neg c1) (Eq.trans (if_neg c3) (Eq.trans (if_neg c5) (if_pos c7))))
theorem p_X4_sizeOf_e10 (x1 : Int32) (c1 : ¬ x1 = 98) (c3 : ¬ x1 = 100) (c5 : ¬ x1 = 101) (c7 : ¬ x1 = 102) (c9 : x1 = 110) : f_X4_sizeOf x1 = 3 := by exact Eq.trans (u_f_X4_sizeOf x1) (Eq.trans (if_neg c1) (Eq.trans (if_neg c3) (Eq.trans (if_neg c5) (Eq.trans (if_neg c7) (if_pos c9)))))
theorem p_X4_sizeOf_e12 (x1 : Int32) (c1 : ¬ x1 = 98) (c3 : ¬ x1 = 100) (c5 : ¬ x1 = 101) (c7 : ¬ x1 = 102) (c9 : ¬ x1 = 110) (c11 : x1 = 115) : f_X4_sizeOf x1 = 1 := by exact Eq.trans (u_f_X4_sizeOf x1) (Eq.trans (if_neg c1) (Eq.trans (if_neg c3) (Eq.trans (if_neg c5) (Eq.trans (if_neg c7) (Eq.trans (if_neg c9) (if_pos c11))))))
theorem p_X4_sizeOf_e14 (x1 : Int32) (c1 : ¬ x1 = 98) (c3 : ¬ x1 = 100) (c5 : ¬ x1 = 101) (c7 : ¬ x1 = 102) (c9 : ¬ x1 = 110) (c11 : ¬ x1 = 115) (c13 : x1 = 118) : f_X4_sizeOf x1 = 4 := by exact Eq.trans (u_f_X4_sizeOf x1) (Eq.trans (if_neg c1) (Eq.trans (if_neg c3) (Eq.trans (if_neg c5) (Eq.trans (if_neg c7) (Eq.trans (if_neg c9) (Eq.trans (if_neg c11) (if_pos c13)))))))
theorem p_X4_sizeOf_e16 (x1 : Int32) (c1 : ¬ x1 = 98) (c3 : ¬ x1 = 100) (c5 : ¬ x1 = 101) (c7 : ¬ x1 = 102) (c9 : ¬ x1 = 110) (c11 : ¬ x1 = 115) (c13 : ¬ x1 = 118) (c15 : x1 = 119) : f_X4_sizeOf x1 = 1 := by exact Eq.trans (u_f_X4_sizeOf x1) (Eq.trans (if_neg c1) (Eq.trans (if_neg c3) (Eq.trans (if_neg c5) (Eq.trans (if_neg c7) (Eq.trans (if_neg c9) (Eq.trans (if_neg c11) (Eq.trans (if_neg c13) (if_pos c15))))))))
theorem p_X4_sizeOf_e17 (x1 : Int32) (c1 : ¬ x1 = 98) (c3 : ¬ x1 = 100) (c5 : ¬ x1 = 101) (c7 : ¬ x1 = 102) (c9 : ¬ x1 = 110) (c11 : ¬ x1 = 115) (c13 : ¬ x1 = 118) (c15 : ¬ x1 = 119) : f_X4_sizeOf x1 = 0 := by exact Eq.trans (u_f_X4_sizeOf x1) (Eq.trans (if_neg c1) (Eq.trans (if_neg c3) (Eq.trans (if_neg c5) (Eq.trans (if_neg c7) (Eq.trans (if_neg c9) (Eq.trans (if_neg c11) (Eq.trans (if_neg c13) (if_neg c15))))))))
set_option maxHeartbeats 4000000 in
set_option maxRecDepth 100000 in
theorem c_X4_sizeOf (l : Launch) (D : va_G) (E : Nat → ClassId) (x1 : Int32) : Met l yX4_sizeOf wsX4_sizeOf (rmF 0) (bPc D E [.int x1] (fun _ => True)) (bQ (aI fun r _ => r = f_X4_sizeOf x1) bNo) 0 0 bNo := by
  refine Met.ofW (cc := cX4_sizeOf) (maxL := 1) (ret := (some .int)) (by decide) rfl ?_
  intro p e s m args below meth c s₁ B hml hv
  obtain ⟨rfl, hB, hK⟩ := hv
  have hx := B.exec
  have hb := B.bytes
  have hr := B.returns
  have hts := atoms_spec (ws := wsX4_sizeOf) B.pre
  have hown : s.vm.findClass RX4 = some m.cls := findClass_of_methodNamed B.named
  have hlocks := B.notSynchronized
  have hS : bS bNo s.heap s.heap [] := bS.rf
  have hl := lv_entry ([.int x1]) (n := 1) (Nat.le_of_ble_eq_true rfl)
  rw [lg_entry_eq]
  generalize (lg_sl ([.int x1]) ++ List.replicate (1 - (lg_sl ([.int x1])).length) Slot.unset).toArray = ls at hl ⊢
  have hl : lv_has ls 1 [(0, .int x1)] := hl
  refine lv_iload_n hx hb dX4_sizeOf_0 rfl (lv_at hl 0 rfl) ?_
  by_cases c1 : x1 = 98
  · refine b_tabI (tgt := 104) hx hb 98 dX4_sizeOf_1 (by rw [c1]; rfl) (by decide) (by decide) rfl (by decide) ?_
    refine lv_iconst (v := 1) hx hb dX4_sizeOf_104 (by decide) ?_
    have e2 := p_X4_sizeOf_e2 x1 c1
    exact b_iret hx hb hr hlocks hS ⟨_, rfl, e2.symm⟩ dX4_sizeOf_105
  by_cases c3 : x1 = 100
  · refine b_tabI (tgt := 106) hx hb 100 dX4_sizeOf_1 (by rw [c3]; rfl) (by decide) (by decide) rfl (by decide) ?_
    refine lv_iconst (v := 3) hx hb dX4_sizeOf_106 (by decide) ?_
    have e4 := p_X4_sizeOf_e4 x1 c1 c3
    exact b_iret hx hb hr hlocks hS ⟨_, rfl, e4.symm⟩ dX4_sizeOf_107
  by_cases c5 : x1 = 101
  · refine b_tabI (tgt := 104) hx hb 101 dX4_sizeOf_1 (by rw [c5]; rfl) (by decide) (by decide) rfl (by decide) ?_
    refine lv_iconst (v := 1) hx hb dX4_sizeOf_104 (by decide) ?_
    have e6 := p_X4_sizeOf_e6 x1 c1 c3 c5
    exact b_iret hx hb hr hlocks hS ⟨_, rfl, e6.symm⟩ dX4_sizeOf_105
  by_cases c7 : x1 = 102
  · refine b_tabI (tgt := 104) hx hb 102 dX4_sizeOf_1 (by rw [c7]; rfl) (by decide) (by decide) rfl (by decide) ?_
    refine lv_iconst (v := 1) hx hb dX4_sizeOf_104 (by decide) ?_
    have e8 := p_X4_sizeOf_e8 x1 c1 c3 c5 c7
    exact b_iret hx hb hr hlocks hS ⟨_, rfl, e8.symm⟩ dX4_sizeOf_105
  by_cases c9 : x1 = 110
  · refine b_tabI (tgt := 106) hx hb 110 dX4_sizeOf_1 (by rw [c9]; rfl) (by decide) (by decide) rfl (by decide) ?_
    refine lv_iconst (v := 3) hx hb dX4_sizeOf_106 (by decide) ?_
    have e10 := p_X4_sizeOf_e10 x1 c1 c3 c5 c7 c9
    exact b_iret hx hb hr hlocks hS ⟨_, rfl, e10.symm⟩ dX4_sizeOf_107
  by_cases c11 : x1 = 115
  · refine b_tabI (tgt := 104) hx hb 115 dX4_sizeOf_1 (by rw [c11]; rfl) (by decide) (by decide) rfl (by decide) ?_
    refine lv_iconst (v := 1) hx hb dX4_sizeOf_104 (by decide) ?_
    have e12 := p_X4_sizeOf_e12 x1 c1 c3 c5 c7 c9 c11
    exact b_iret hx hb hr hlocks hS ⟨_, rfl, e12.symm⟩ dX4_sizeOf_105
  by_cases c13 : x1 = 118
  · refine b_tabI (tgt := 108) hx hb 118 dX4_sizeOf_1 (by rw [c13]; rfl) (by decide) (by decide) rfl (by decide) ?_
    refine lv_iconst (v := 4) hx hb dX4_sizeOf_108 (by decide) ?_
    have e14 := p_X4_sizeOf_e14 x1 c1 c3 c5 c7 c9 c11 c13
    exact b_iret hx hb hr hlocks hS ⟨_, rfl, e14.symm⟩ dX4_sizeOf_109
  by_cases c15 : x1 = 119
  · refine b_tabI (tgt := 104) hx hb 119 dX4_sizeOf_1 (by rw [c15]; rfl) (by decide) (by decide) rfl (by decide) ?_
    refine lv_iconst (v := 1) hx hb dX4_sizeOf_104 (by decide) ?_
    have e16 := p_X4_sizeOf_e16 x1 c1 c3 c5 c7 c9 c11 c13 c15
    exact b_iret hx hb hr hlocks hS ⟨_, rfl, e16.symm⟩ dX4_sizeOf_105
  refine b_tabD (tgt := 110) hx hb [98, 100, 101, 102, 110, 115, 118, 119] dX4_sizeOf_1 (by decide) (by decide) (List.forall_mem_cons.mpr ⟨lv_neT c1 (a := 98) rfl, (List.forall_mem_cons.mpr ⟨lv_neT c3 (a := 100) rfl, (List.forall_mem_cons.mpr ⟨lv_neT c5 (a := 101) rfl, (List.forall_mem_cons.mpr ⟨lv_neT c7 (a := 102) rfl, (List.forall_mem_cons.mpr ⟨lv_neT c9 (a := 110) rfl, (List.forall_mem_cons.mpr ⟨lv_neT c11 (a := 115) rfl, (List.forall_mem_cons.mpr ⟨lv_neT c13 (a := 118) rfl, (List.forall_mem_cons.mpr ⟨lv_neT c15 (a := 119) rfl, (fun v h => absurd h List.not_mem_nil)⟩)⟩)⟩)⟩)⟩)⟩)⟩)⟩) (by decide) ?_
  refine lv_iconst (v := 0) hx hb dX4_sizeOf_110 (by decide) ?_
  have e17 := p_X4_sizeOf_e17 x1 c1 c3 c5 c7 c9 c11 c13 c15
  exact b_iret hx hb hr hlocks hS ⟨_, rfl, e17.symm⟩ dX4_sizeOf_111
theorem sizeOf_pos {x : Int32} (h : ¬ f_X4_sizeOf x = 0) : 1 ≤ (f_X4_sizeOf x).toNatClampNeg := by
  have h1 : f_X4_sizeOf x = 0 ∨ f_X4_sizeOf x = 1 ∨ f_X4_sizeOf x = 3 ∨ f_X4_sizeOf x = 4 := by
    rw [u_f_X4_sizeOf]
    repeat' split
    all_goals simp
  rcases h1 with h1 | h1 | h1 | h1
  · exact absurd h1 h
  · rw [h1]; decide
  · rw [h1]; decide
  · rw [h1]; decide
def f_X4_isDigitOfSetting (x1 : Int32) (x2 : Int32) (x3 : Int32) : Int32 := (if x1 = 1 then (if 1 < x2 then 0 else 1) else (if x1 = 2 then (if 4 < x2 then 0 else 1) else (if x3 = 0 then (if x2 ≤ 0 then 0 else 1) else (if x3 < 4 then 1 else (if x2 = 0 then 1 else 0)))))
theorem u_f_X4_isDigitOfSetting (x1 : Int32) (x2 : Int32) (x3 : Int32) : f_X4_isDigitOfSetting x1 x2 x3 = (if x1 = 1 then (if 1 < x2 then 0 else 1) else (if x1 = 2 then (if 4 < x2 then 0 else 1) else (if x3 = 0 then (if x2 ≤ 0 then 0 else 1) else (if x3 < 4 then 1 else (if x2 = 0 then 1 else 0))))) := rfl
theorem z_X4_isDigitOfSetting (x1 : Int32) (x2 : Int32) (x3 : Int32) : f_X4_isDigitOfSetting x1 x2 x3 = 0 ∨ f_X4_isDigitOfSetting x1 x2 x3 = 1 := by
  rw [u_f_X4_isDigitOfSetting x1 x2 x3]
  try dsimp only
  repeat' split
  all_goals first | exact Or.inl rfl | exact Or.inr rfl
theorem p_X4_isDigitOfSetting_e5 (x1 : Int32) (x2 : Int32) (x3 : Int32) (c1 : ¬ x1 = 1) (c2 : ¬ x1 = 2) (c3 : ¬ x3 = 0) (c4 : x3 < 4) : f_X4_isDigitOfSetting x1 x2 x3 = 1 := by exact Eq.trans (u_f_X4_isDigitOfSetting x1 x2 x3) (Eq.trans (if_neg c1) (Eq.trans (if_neg c2) (Eq.trans (if_neg c3) (if_pos c4))))
theorem p_X4_isDigitOfSetting_e7 (x1 : Int32) (x2 : Int32) (x3 : Int32) (c1 : ¬ x1 = 1) (c2 : ¬ x1 = 2) (c3 : ¬ x3 = 0) (c4 : ¬ x3 < 4) (c6 : ¬ x2 = 0) : f_X4_isDigitOfSetting x1 x2 x3 = 0 := by exact Eq.trans (u_f_X4_isDigitOfSetting x1 x2 x3) (Eq.trans (if_neg c1) (Eq.trans (if_neg c2) (Eq.trans (if_neg c3) (Eq.trans (if_neg c4) (if_neg c6)))))
theorem p_X4_isDigitOfSetting_e8 (x1 : Int32) (x2 : Int32) (x3 : Int32) (c1 : ¬ x1 = 1) (c2 : ¬ x1 = 2) (c3 : ¬ x3 = 0) (c4 : ¬ x3 < 4) (c6 : x2 = 0) : f_X4_isDigitOfSetting x1 x2 x3 = 1 := by exact Eq.trans (u_f_X4_isDigitOfSetting x1 x2 x3) (Eq.trans (if_neg c1) (Eq.trans (if_neg c2) (Eq.trans (if_neg c3) (Eq.trans (if_neg c4) (if_pos c6)))))
theorem p_X4_isDigitOfSetting_e10 (x1 : Int32) (x2 : Int32) (x3 : Int32) (c1 : ¬ x1 = 1) (c2 : ¬ x1 = 2) (c3 : x3 = 0) (c9 : x2 ≤ 0) : f_X4_isDigitOfSetting x1 x2 x3 = 0 := by exact Eq.trans (u_f_X4_isDigitOfSetting x1 x2 x3) (Eq.trans (if_neg c1) (Eq.trans (if_neg c2) (Eq.trans (if_pos c3) (if_pos c9))))
theorem p_X4_isDigitOfSetting_e11 (x1 : Int32) (x2 : Int32) (x3 : Int32) (c1 : ¬ x1 = 1) (c2 : ¬ x1 = 2) (c3 : x3 = 0) (c9 : ¬ x2 ≤ 0) : f_X4_isDigitOfSetting x1 x2 x3 = 1 := by exact Eq.trans (u_f_X4_isDigitOfSetting x1 x2 x3) (Eq.trans (if_neg c1) (Eq.trans (if_neg c2) (Eq.trans (if_pos c3) (if_neg c9))))
theorem p_X4_isDigitOfSetting_e13 (x1 : Int32) (x2 : Int32) (x3 : Int32) (c1 : ¬ x1 = 1) (c2 : x1 = 2) (c12 : 4 < x2) : f_X4_isDigitOfSetting x1 x2 x3 = 0 := by exact Eq.trans (u_f_X4_isDigitOfSetting x1 x2 x3) (Eq.trans (if_neg c1) (Eq.trans (if_pos c2) (if_pos c12)))
theorem p_X4_isDigitOfSetting_e14 (x1 : Int32) (x2 : Int32) (x3 : Int32) (c1 : ¬ x1 = 1) (c2 : x1 = 2) (c12 : ¬ 4 < x2) : f_X4_isDigitOfSetting x1 x2 x3 = 1 := by exact Eq.trans (u_f_X4_isDigitOfSetting x1 x2 x3) (Eq.trans (if_neg c1) (Eq.trans (if_pos c2) (if_neg c12)))
theorem p_X4_isDigitOfSetting_e16 (x1 : Int32) (x2 : Int32) (x3 : Int32) (c1 : x1 = 1) (c15 : 1 < x2) : f_X4_isDigitOfSetting x1 x2 x3 = 0 := by exact Eq.trans (u_f_X4_isDigitOfSetting x1 x2 x3) (Eq.trans (if_pos c1) (if_pos c15))
theorem p_X4_isDigitOfSetting_e17 (x1 : Int32) (x2 : Int32) (x3 : Int32) (c1 : x1 = 1) (c15 : ¬ 1 < x2) : f_X4_isDigitOfSetting x1 x2 x3 = 1 := by exact Eq.trans (u_f_X4_isDigitOfSetting x1 x2 x3) (Eq.trans (if_pos c1) (if_neg c15))
set_option maxHeartbeats 4000000 in
set_option maxRecDepth 100000 in
theorem c_X4_isDigitOfSetting (l : Launch) (D : va_G) (E : Nat → ClassId) (x1 : Int32) (x2 : Int32) (x3 : Int32) : Met l yX4_isDigitOfSetting wsX4_isDigitOfSetting (rmF 0) (bPc D E [.int x1, .int x2, .int x3] (fun _ => True)) (bQ (aI fun r _ => r = f_X4_isDigitOfSetting x1 x2 x3) bNo) 0 0 bNo := by
  refine Met.ofW (cc := cX4_isDigitOfSetting) (maxL := 3) (ret := (some .boolean)) (by decide) rfl ?_
  intro p e s m args below meth c s₁ B hml hv
  obtain ⟨rfl, hB, hK⟩ := hv
  have hx := B.exec
  have hb := B.bytes
  have hr := B.returns
  have hts := atoms_spec (ws := wsX4_isDigitOfSetting) B.pre
  have hown : s.vm.findClass RX4 = some m.cls := findClass_of_methodNamed B.named
  have hlocks := B.notSynchronized
  have hS : bS bNo s.heap s.heap [] := bS.rf
  have hl := lv_entry ([.int x1, .int x2, .int x3]) (n := 3) (Nat.le_of_ble_eq_true rfl)
  rw [lg_entry_eq]
  generalize (lg_sl ([.int x1, .int x2, .int x3]) ++ List.replicate (3 - (lg_sl ([.int x1, .int x2, .int x3])).length) Slot.unset).toArray = ls at hl ⊢
  have hl : lv_has ls 3 [(0, .int x1), (1, .int x2), (2, .int x3)] := hl
  refine lv_iload_n hx hb dX4_isDigitOfSetting_0 rfl (lv_at hl 0 rfl) ?_
  refine lv_iconst (v := 1) hx hb dX4_isDigitOfSetting_1 (by decide) ?_
  refine lv_icmp_ne (tgt := 16) hx hb dX4_isDigitOfSetting_2 (by decide) (fun c1 => ?_) (fun c1 => ?_)
  · refine lv_iload_n hx hb dX4_isDigitOfSetting_16 rfl (lv_at hl 0 rfl) ?_
    refine lv_iconst (v := 2) hx hb dX4_isDigitOfSetting_17 (by decide) ?_
    refine lv_icmp_ne (tgt := 32) hx hb dX4_isDigitOfSetting_18 (by decide) (fun c2 => ?_) (fun c2 => ?_)
    · refine lv_iload_n hx hb dX4_isDigitOfSetting_32 rfl (lv_at hl 2 rfl) ?_
      refine lv_if_ne (tgt := 46) hx hb dX4_isDigitOfSetting_33 (by decide) (fun c3 => ?_) (fun c3 => ?_)
      · refine lv_iload_n hx hb dX4_isDigitOfSetting_46 rfl (lv_at hl 2 rfl) ?_
        refine lv_iconst (v := 4) hx hb dX4_isDigitOfSetting_47 (by decide) ?_
        refine lv_icmp_lt (tgt := 55) hx hb dX4_isDigitOfSetting_48 (by decide) (fun c4 => ?_) (fun c4 => ?_)
        · refine lv_iconst (v := 1) hx hb dX4_isDigitOfSetting_55 (by decide) ?_
          refine lv_goto (tgt := 60) hx hb dX4_isDigitOfSetting_56 (by decide) ?_
          have e5 := p_X4_isDigitOfSetting_e5 x1 x2 x3 c1 c2 c3 c4
          exact b_zret hx hb hr rfl hlocks hS ⟨_, rfl, e5.symm⟩ dX4_isDigitOfSetting_60
        · refine lv_iload_n hx hb dX4_isDigitOfSetting_51 rfl (lv_at hl 1 rfl) ?_
          refine lv_if_ne (tgt := 59) hx hb dX4_isDigitOfSetting_52 (by decide) (fun c6 => ?_) (fun c6 => ?_)
          · refine lv_iconst (v := 0) hx hb dX4_isDigitOfSetting_59 (by decide) ?_
            have e7 := p_X4_isDigitOfSetting_e7 x1 x2 x3 c1 c2 c3 c4 c6
            exact b_zret hx hb hr rfl hlocks hS ⟨_, rfl, e7.symm⟩ dX4_isDigitOfSetting_60
          · refine lv_iconst (v := 1) hx hb dX4_isDigitOfSetting_55 (by decide) ?_
            refine lv_goto (tgt := 60) hx hb dX4_isDigitOfSetting_56 (by decide) ?_
            have e8 := p_X4_isDigitOfSetting_e8 x1 x2 x3 c1 c2 c3 c4 c6
            exact b_zret hx hb hr rfl hlocks hS ⟨_, rfl, e8.symm⟩ dX4_isDigitOfSetting_60
      · refine lv_iload_n hx hb dX4_isDigitOfSetting_36 rfl (lv_at hl 1 rfl) ?_
        refine lv_if_le (tgt := 44) hx hb dX4_isDigitOfSetting_37 (by decide) (fun c9 => ?_) (fun c9 => ?_)
        · refine lv_iconst (v := 0) hx hb dX4_isDigitOfSetting_44 (by decide) ?_
          have e10 := p_X4_isDigitOfSetting_e10 x1 x2 x3 c1 c2 c3 c9
          exact b_zret hx hb hr rfl hlocks hS ⟨_, rfl, e10.symm⟩ dX4_isDigitOfSetting_45
        · refine lv_iconst (v := 1) hx hb dX4_isDigitOfSetting_40 (by decide) ?_
          refine lv_goto (tgt := 45) hx hb dX4_isDigitOfSetting_41 (by decide) ?_
          have e11 := p_X4_isDigitOfSetting_e11 x1 x2 x3 c1 c2 c3 c9
          exact b_zret hx hb hr rfl hlocks hS ⟨_, rfl, e11.symm⟩ dX4_isDigitOfSetting_45
    · refine lv_iload_n hx hb dX4_isDigitOfSetting_21 rfl (lv_at hl 1 rfl) ?_
      refine lv_iconst (v := 4) hx hb dX4_isDigitOfSetting_22 (by decide) ?_
      refine lv_icmp_gt (tgt := 30) hx hb dX4_isDigitOfSetting_23 (by decide) (fun c12 => ?_) (fun c12 => ?_)
      · refine lv_iconst (v := 0) hx hb dX4_isDigitOfSetting_30 (by decide) ?_
        have e13 := p_X4_isDigitOfSetting_e13 x1 x2 x3 c1 c2 c12
        exact b_zret hx hb hr rfl hlocks hS ⟨_, rfl, e13.symm⟩ dX4_isDigitOfSetting_31
      · refine lv_iconst (v := 1) hx hb dX4_isDigitOfSetting_26 (by decide) ?_
        refine lv_goto (tgt := 31) hx hb dX4_isDigitOfSetting_27 (by decide) ?_
        have e14 := p_X4_isDigitOfSetting_e14 x1 x2 x3 c1 c2 c12
        exact b_zret hx hb hr rfl hlocks hS ⟨_, rfl, e14.symm⟩ dX4_isDigitOfSetting_31
  · refine lv_iload_n hx hb dX4_isDigitOfSetting_5 rfl (lv_at hl 1 rfl) ?_
    refine lv_iconst (v := 1) hx hb dX4_isDigitOfSetting_6 (by decide) ?_
    refine lv_icmp_gt (tgt := 14) hx hb dX4_isDigitOfSetting_7 (by decide) (fun c15 => ?_) (fun c15 => ?_)
    · refine lv_iconst (v := 0) hx hb dX4_isDigitOfSetting_14 (by decide) ?_
      have e16 := p_X4_isDigitOfSetting_e16 x1 x2 x3 c1 c15
      exact b_zret hx hb hr rfl hlocks hS ⟨_, rfl, e16.symm⟩ dX4_isDigitOfSetting_15
    · refine lv_iconst (v := 1) hx hb dX4_isDigitOfSetting_10 (by decide) ?_
      refine lv_goto (tgt := 15) hx hb dX4_isDigitOfSetting_11 (by decide) ?_
      have e17 := p_X4_isDigitOfSetting_e17 x1 x2 x3 c1 c15
      exact b_zret hx hb hr rfl hlocks hS ⟨_, rfl, e17.symm⟩ dX4_isDigitOfSetting_15
def f_X4_isDigitAllowed (M : bM) (x1 : Int32) (x2 : Int32) : Int32 := (let r1 : Int32 := f_X4_digitAt M (x1 + x2); (if r1 < 0 then 0 else (if r1 ≤ 9 then (let r5 : Int32 := f_X4_signAt M x1; (if r5 = 100 then (if 8 ≤ r1 then 0 else 1) else (if r5 = 110 then 1 else (if r5 = 118 then (let r13 : Int32 := f_X4_digitAt M ((x1 + x2) - 1); (let r14 : Int32 := f_X4_isDigitOfSetting x2 r1 r13; r14)) else 0)))) else 0)))
theorem u_f_X4_isDigitAllowed (M : bM) (x1 : Int32) (x2 : Int32) : f_X4_isDigitAllowed M x1 x2 = (let r1 : Int32 := f_X4_digitAt M (x1 + x2); (if r1 < 0 then 0 else (if r1 ≤ 9 then (let r5 : Int32 := f_X4_signAt M x1; (if r5 = 100 then (if 8 ≤ r1 then 0 else 1) else (if r5 = 110 then 1 else (if r5 = 118 then (let r13 : Int32 := f_X4_digitAt M ((x1 + x2) - 1); (let r14 : Int32 := f_X4_isDigitOfSetting x2 r1 r13; r14)) else 0)))) else 0))) := rfl
theorem p_X4_isDigitAllowed_e3 (M : bM) (x1 : Int32) (x2 : Int32) (r1 : Int32) (hr1 : f_X4_digitAt M (x1 + x2) = r1) (c2 : r1 < 0) : f_X4_isDigitAllowed M x1 x2 = 0 := by subst hr1; exact Eq.trans (u_f_X4_isDigitAllowed M x1 x2) (if_pos c2)
theorem p_X4_isDigitAllowed_e8 (M : bM) (x1 : Int32) (x2 : Int32) (r1 : Int32) (hr1 : f_X4_digitAt M (x1 + x2) = r1) (c2 : ¬ r1 < 0) (c4 : r1 ≤ 9) (r5 : Int32) (hr5 : f_X4_signAt M x1 = r5) (c6 : r5 = 100) (c7 : 8 ≤ r1) : f_X4_isDigitAllowed M x1 x2 = 0 := by subst hr5 hr1; exact Eq.trans (u_f_X4_isDigitAllowed M x1 x2) (Eq.trans (if_neg c2) (Eq.trans (if_pos c4) (Eq.trans (if_pos c6) (if_pos c7))))
theorem p_X4_isDigitAllowed_e9 (M : bM) (x1 : Int32) (x2 : Int32) (r1 : Int32) (hr1 : f_X4_digitAt M (x1 + x2) = r1) (c2 : ¬ r1 < 0) (c4 : r1 ≤ 9) (r5 : Int32) (hr5 : f_X4_signAt M x1 = r5) (c6 : r5 = 100) (c7 : ¬ 8 ≤ r1) : f_X4_isDigitAllowed M x1 x2 = 1 := by subst hr5 hr1; exact Eq.trans (u_f_X4_isDigitAllowed M x1 x2) (Eq.trans (if_neg c2) (Eq.trans (if_pos c4) (Eq.trans (if_pos c6) (if_neg c7))))
theorem p_X4_isDigitAllowed_e11 (M : bM) (x1 : Int32) (x2 : Int32) (r1 : Int32) (hr1 : f_X4_digitAt M (x1 + x2) = r1) (c2 : ¬ r1 < 0) (c4 : r1 ≤ 9) (r5 : Int32) (hr5 : f_X4_signAt M x1 = r5) (c6 : ¬ r5 = 100) (c10 : r5 = 110) : f_X4_isDigitAllowed M x1 x2 = 1 := by subst hr5 hr1; exact Eq.trans (u_f_X4_isDigitAllowed M x1 x2) (Eq.trans (if_neg c2) (Eq.trans (if_pos c4) (Eq.trans (if_neg c6) (if_pos c10))))
theorem p_X4_isDigitAllowed_e15 (M : bM) (x1 : Int32) (x2 : Int32) (r1 : Int32) (hr1 : f_X4_digitAt M (x1 + x2) = r1) (c2 : ¬ r1 < 0) (c4 : r1 ≤ 9) (r5 : Int32) (hr5 : f_X4_signAt M x1 = r5) (c6 : ¬ r5 = 100) (c10 : ¬ r5 = 110) (c12 : r5 = 118) (r13 : Int32) (hr13 : f_X4_digitAt M ((x1 + x2) - 1) = r13) (r14 : Int32) (hr14 : f_X4_isDigitOfSetting x2 r1 r13 = r14) : f_X4_isDigitAllowed M x1 x2 = r14 := by subst hr14 hr13 hr5 hr1; exact Eq.trans (u_f_X4_isDigitAllowed M x1 x2) (Eq.trans (if_neg c2) (Eq.trans (if_pos c4) (Eq.trans (if_neg c6) (Eq.trans (if_neg c10) (if_pos c12)))))
theorem p_X4_isDigitAllowed_e16 (M : bM) (x1 : Int32) (x2 : Int32) (r1 : Int32) (hr1 : f_X4_digitAt M (x1 + x2) = r1) (c2 : ¬ r1 < 0) (c4 : r1 ≤ 9) (r5 : Int32) (hr5 : f_X4_signAt M x1 = r5) (c6 : ¬ r5 = 100) (c10 : ¬ r5 = 110) (c12 : ¬ r5 = 118) : f_X4_isDigitAllowed M x1 x2 = 0 := by subst hr5 hr1; exact Eq.trans (u_f_X4_isDigitAllowed M x1 x2) (Eq.trans (if_neg c2) (Eq.trans (if_pos c4) (Eq.trans (if_neg c6) (Eq.trans (if_neg c10) (if_neg c12)))))
theorem p_X4_isDigitAllowed_e17 (M : bM) (x1 : Int32) (x2 : Int32) (r1 : Int32) (hr1 : f_X4_digitAt M (x1 + x2) = r1) (c2 : ¬ r1 < 0) (c4 : ¬ r1 ≤ 9) : f_X4_isDigitAllowed M x1 x2 = 0 := by subst hr1; exact Eq.trans (u_f_X4_isDigitAllowed M x1 x2) (Eq.trans (if_neg c2) (if_neg c4))
set_option maxHeartbeats 4000000 in
set_option maxRecDepth 100000 in
theorem c_X4_isDigitAllowed (l : Launch) (D : va_G) (E : Nat → ClassId) (o : Nat) (M : bM) (x1 : Int32) (x2 : Int32) (hch : chOK M) : Met l yX4_isDigitAllowed wsX4_isDigitAllowed (rmF 2) (bPc D E [.ref (o + 1), .int x1, .int x2] (fun H => bk D E LRM o M H)) (bQ (aI fun r _ => r = f_X4_isDigitAllowed M x1 x2) bNo) 0 0 bNo := by
  refine Met.ofW (cc := cX4_isDigitAllowed) (maxL := 4) (ret := (some .boolean)) (by decide) rfl ?_
  intro p e s m args below meth c s₁ B hml hv
  obtain ⟨rfl, hB, hK⟩ := hv
  have hx := B.exec
  have hb := B.bytes
  have hr := B.returns
  have hts := atoms_spec (ws := wsX4_isDigitAllowed) B.pre
  have hown : s.vm.findClass RX4 = some m.cls := findClass_of_methodNamed B.named
  have hlocks := B.notSynchronized
  have hS : bS bNo s.heap s.heap [] := bS.rf
  have hl := lv_entry ([.ref (o + 1), .int x1, .int x2]) (n := 4) (Nat.le_of_ble_eq_true rfl)
  rw [lg_entry_eq]
  generalize (lg_sl ([.ref (o + 1), .int x1, .int x2]) ++ List.replicate (4 - (lg_sl ([.ref (o + 1), .int x1, .int x2])).length) Slot.unset).toArray = ls at hl ⊢
  have hl : lv_has ls 4 [(0, .ref (o + 1)), (1, .int x1), (2, .int x2)] := hl
  have hB : bk D E LRM o M s.heap := hB
  refine lv_aload_n hx hb dX4_isDigitAllowed_0 rfl (lv_at hl 0 rfl) ?_
  refine lv_iload_n hx hb dX4_isDigitAllowed_1 rfl (lv_at hl 1 rfl) ?_
  refine lv_iload_n hx hb dX4_isDigitAllowed_2 rfl (lv_at hl 2 rfl) ?_
  refine lv_iadd hx hb dX4_isDigitAllowed_3 ?_
  refine b_pI (b_runV (As := [.int (x1 + x2)]) (rest := []) ⟨hx, hb, hml, hown, hts⟩ (c_X4_digitAt l D E o M (x1 + x2) hch) (cwV 1 hts gX4_isDigitAllowed_X4_digitAt rfl rfl rfl (by decide +kernel) ⟨Nat.le_of_ble_eq_true rfl, Nat.le_of_ble_eq_true rfl⟩) hK (bk_recv hK.1 hB lay_1 rfl) hB rfl hl rfl (Nat.le_of_ble_eq_true rfl) dX4_isDigitAllowed_4 ⟨Nat.zero_le _, Nat.zero_le _⟩) hS (fun r1 hr1 locs hS => ?_)
  refine lv_istore_n (lv' := [(3, .int r1), (0, .ref (o + 1)), (1, .int x1), (2, .int x2)]) hx hb dX4_isDigitAllowed_7 rfl hl (by decide) rfl (fun ls hl => ?_)
  refine lv_iload_n hx hb dX4_isDigitAllowed_8 rfl (lv_at hl 0 rfl) ?_
  refine lv_if_lt (tgt := 18) hx hb dX4_isDigitAllowed_9 (by decide) (fun c2 => ?_) (fun c2 => ?_)
  · refine lv_iconst (v := 0) hx hb dX4_isDigitAllowed_18 (by decide) ?_
    have e3 := p_X4_isDigitAllowed_e3 M x1 x2 r1 hr1.symm c2
    exact b_zret hx hb hr rfl hlocks hS ⟨_, rfl, e3.symm⟩ dX4_isDigitAllowed_19
  · refine lv_iload_n hx hb dX4_isDigitAllowed_12 rfl (lv_at hl 0 rfl) ?_
    refine lv_bipush (v := 9) hx hb dX4_isDigitAllowed_13 (by decide) ?_
    refine lv_icmp_le (tgt := 20) hx hb dX4_isDigitAllowed_15 (by decide) (fun c4 => ?_) (fun c4 => ?_)
    · refine lv_aload_n hx hb dX4_isDigitAllowed_20 rfl (lv_at hl 1 rfl) ?_
      refine lv_iload_n hx hb dX4_isDigitAllowed_21 rfl (lv_at hl 2 rfl) ?_
      refine b_pI (b_runV (As := [.int x1]) (rest := []) ⟨hx, hb, hml, hown, hts⟩ (c_X4_signAt l D E o M x1 hch) (cwV 1 hts gX4_isDigitAllowed_X4_signAt rfl rfl rfl (by decide +kernel) ⟨Nat.le_of_ble_eq_true rfl, Nat.le_of_ble_eq_true rfl⟩) hK (bk_recv hK.1 hB lay_1 rfl) hB rfl hl rfl (Nat.le_of_ble_eq_true rfl) dX4_isDigitAllowed_22 ⟨Nat.zero_le _, Nat.zero_le _⟩) hS (fun r5 hr5 locs hS => ?_)
      by_cases c6 : r5 = 100
      · refine lv_lookup (tgt := 62) (off := 37) hx hb dX4_isDigitAllowed_25 (by decide) (by rw [c6]; rfl) (by decide) ?_
        refine lv_iload_n hx hb dX4_isDigitAllowed_62 rfl (lv_at hl 0 rfl) ?_
        refine lv_bipush (v := 8) hx hb dX4_isDigitAllowed_63 (by decide) ?_
        refine lv_icmp_ge (tgt := 72) hx hb dX4_isDigitAllowed_65 (by decide) (fun c7 => ?_) (fun c7 => ?_)
        · refine lv_iconst (v := 0) hx hb dX4_isDigitAllowed_72 (by decide) ?_
          have e8 := p_X4_isDigitAllowed_e8 M x1 x2 r1 hr1.symm c2 c4 r5 hr5.symm c6 c7
          exact b_zret hx hb hr rfl hlocks hS ⟨_, rfl, e8.symm⟩ dX4_isDigitAllowed_73
        · refine lv_iconst (v := 1) hx hb dX4_isDigitAllowed_68 (by decide) ?_
          refine lv_goto (tgt := 73) hx hb dX4_isDigitAllowed_69 (by decide) ?_
          have e9 := p_X4_isDigitAllowed_e9 M x1 x2 r1 hr1.symm c2 c4 r5 hr5.symm c6 c7
          exact b_zret hx hb hr rfl hlocks hS ⟨_, rfl, e9.symm⟩ dX4_isDigitAllowed_73
      by_cases c10 : r5 = 110
      · refine lv_lookup (tgt := 60) (off := 35) hx hb dX4_isDigitAllowed_25 (by decide) (by rw [c10]; rfl) (by decide) ?_
        refine lv_iconst (v := 1) hx hb dX4_isDigitAllowed_60 (by decide) ?_
        have e11 := p_X4_isDigitAllowed_e11 M x1 x2 r1 hr1.symm c2 c4 r5 hr5.symm c6 c10
        exact b_zret hx hb hr rfl hlocks hS ⟨_, rfl, e11.symm⟩ dX4_isDigitAllowed_61
      by_cases c12 : r5 = 118
      · refine lv_lookup (tgt := 74) (off := 49) hx hb dX4_isDigitAllowed_25 (by decide) (by rw [c12]; rfl) (by decide) ?_
        refine lv_iload_n hx hb dX4_isDigitAllowed_74 rfl (lv_at hl 3 rfl) ?_
        refine lv_iload_n hx hb dX4_isDigitAllowed_75 rfl (lv_at hl 0 rfl) ?_
        refine lv_aload_n hx hb dX4_isDigitAllowed_76 rfl (lv_at hl 1 rfl) ?_
        refine lv_iload_n hx hb dX4_isDigitAllowed_77 rfl (lv_at hl 2 rfl) ?_
        refine lv_iload_n hx hb dX4_isDigitAllowed_78 rfl (lv_at hl 3 rfl) ?_
        refine lv_iadd hx hb dX4_isDigitAllowed_79 ?_
        refine lv_iconst (v := 1) hx hb dX4_isDigitAllowed_80 (by decide) ?_
        refine lv_isub hx hb dX4_isDigitAllowed_81 ?_
        refine b_pI (b_runV (As := [.int ((x1 + x2) - 1)]) (rest := [.int r1, .int x2]) ⟨hx, hb, hml, hown, hts⟩ (c_X4_digitAt l D E o M ((x1 + x2) - 1) hch) (cwV 1 hts gX4_isDigitAllowed_X4_digitAt rfl rfl rfl (by decide +kernel) ⟨Nat.le_of_ble_eq_true rfl, Nat.le_of_ble_eq_true rfl⟩) hK (bk_recv hK.1 hB lay_1 rfl) hB rfl hl rfl (Nat.le_of_ble_eq_true rfl) dX4_isDigitAllowed_82 ⟨Nat.zero_le _, Nat.zero_le _⟩) hS (fun r13 hr13 locs hS => ?_)
        refine b_pI (b_runS (As := [.int x2, .int r1, .int r13]) (rest := []) ⟨hx, hb, hml, hown, hts⟩ (c_X4_isDigitOfSetting l D E x2 r1 r13) (va_cwS 3 hts gX4_isDigitAllowed_X4_isDigitOfSetting rfl rfl rfl (by decide +kernel) ⟨Nat.le_of_ble_eq_true rfl, Nat.le_of_ble_eq_true rfl⟩) hK trivial rfl hl rfl (Nat.le_of_ble_eq_true rfl) dX4_isDigitAllowed_85 ⟨Nat.zero_le _, Nat.zero_le _⟩) hS (fun r14 hr14 locs hS => ?_)
        have e15 := p_X4_isDigitAllowed_e15 M x1 x2 r1 hr1.symm c2 c4 r5 hr5.symm c6 c10 c12 r13 hr13.symm r14 hr14.symm
        exact b_zret hx hb hr (nar_z (by rw [hr14]; exact z_X4_isDigitOfSetting x2 r1 r13)) hlocks hS ⟨_, rfl, e15.symm⟩ dX4_isDigitAllowed_88
      refine lv_lookup (tgt := 89) (off := 64) hx hb dX4_isDigitAllowed_25 (by decide) ((lv_osw c6 rfl).trans ((lv_osw c10 rfl).trans ((lv_osw c12 rfl).trans rfl))) (by decide) ?_
      refine lv_iconst (v := 0) hx hb dX4_isDigitAllowed_89 (by decide) ?_
      have e16 := p_X4_isDigitAllowed_e16 M x1 x2 r1 hr1.symm c2 c4 r5 hr5.symm c6 c10 c12
      exact b_zret hx hb hr rfl hlocks hS ⟨_, rfl, e16.symm⟩ dX4_isDigitAllowed_90
    · refine lv_iconst (v := 0) hx hb dX4_isDigitAllowed_18 (by decide) ?_
      have e17 := p_X4_isDigitAllowed_e17 M x1 x2 r1 hr1.symm c2 c4
      exact b_zret hx hb hr rfl hlocks hS ⟨_, rfl, e17.symm⟩ dX4_isDigitAllowed_19
def lp_X4_firstError_48 (M : bM) (x4 : Int32) : Nat → Nat → (Bool × Int32 × Unit)
  | 0, i13 => (false, 0, ())
  | n13 + 1, i13 => (if (x4 + nI i13) < (M 1 1) then (let r18 : Int32 := f_X4_isDigitAllowed M x4 (nI i13); (if r18 = 0 then (true, (x4 + nI i13), ()) else lp_X4_firstError_48 M x4 n13 (i13 + 1))) else (true, (M 1 1), ()))
theorem u0_lp_X4_firstError_48 (M : bM) (x4 : Int32) (i13 : Nat) : lp_X4_firstError_48 M x4 0 i13 = (false, 0, ()) := rfl
theorem u1_lp_X4_firstError_48 (M : bM) (x4 : Int32) (n13 i13 : Nat) : lp_X4_firstError_48 M x4 (n13 + 1) i13 = (if (x4 + nI i13) < (M 1 1) then (let r18 : Int32 := f_X4_isDigitAllowed M x4 (nI i13); (if r18 = 0 then (true, (x4 + nI i13), ()) else lp_X4_firstError_48 M x4 n13 (i13 + 1))) else (true, (M 1 1), ())) := rfl
def lp_X4_firstError_16 (M : bM) : Nat → Nat → Int32 → (Bool × Int32 × Int32)
  | 0, i3, x4 => (false, 0, x4)
  | n3 + 1, i3, x4 => (if (M 1 1) ≤ x4 then (false, 0, x4) else (let r10 : Int32 := f_X4_signAt M x4; (let r11 : Int32 := f_X4_sizeOf r10; (if r11 = 0 then (true, x4, x4) else (if (lp_X4_firstError_48 M x4 (r11.toNatClampNeg - 1) 1).1 = true then (true, (lp_X4_firstError_48 M x4 (r11.toNatClampNeg - 1) 1).2.1, x4) else (let x24 : Int32 := (x4 + r11); lp_X4_firstError_16 M n3 (i3 + 1) x24))))))
theorem u0_lp_X4_firstError_16 (M : bM) (i3 : Nat) (x4 : Int32) : lp_X4_firstError_16 M 0 i3 x4 = (false, 0, x4) := rfl
theorem u1_lp_X4_firstError_16 (M : bM) (n3 i3 : Nat) (x4 : Int32) : lp_X4_firstError_16 M (n3 + 1) i3 x4 = (if (M 1 1) ≤ x4 then (false, 0, x4) else (let r10 : Int32 := f_X4_signAt M x4; (let r11 : Int32 := f_X4_sizeOf r10; (if r11 = 0 then (true, x4, x4) else (if (lp_X4_firstError_48 M x4 (r11.toNatClampNeg - 1) 1).1 = true then (true, (lp_X4_firstError_48 M x4 (r11.toNatClampNeg - 1) 1).2.1, x4) else (let x24 : Int32 := (x4 + r11); lp_X4_firstError_16 M n3 (i3 + 1) x24)))))) := rfl
def f_X4_firstError (M : bM) : Int32 := (let r1 : Int32 := f_X4_signAt M 0; (if r1 = 87 then (if (lp_X4_firstError_16 M 120 0 1).1 = true then (lp_X4_firstError_16 M 120 0 1).2.1 else (let x28 : Int32 := (lp_X4_firstError_16 M 120 0 1).2.2; (-1))) else 0))
theorem u_f_X4_firstError (M : bM) : f_X4_firstError M = (let r1 : Int32 := f_X4_signAt M 0; (if r1 = 87 then (if (lp_X4_firstError_16 M 120 0 1).1 = true then (lp_X4_firstError_16 M 120 0 1).2.1 else (let x28 : Int32 := (lp_X4_firstError_16 M 120 0 1).2.2; (-1))) else 0)) := rfl
theorem p_X4_firstError_e6 (M : bM) (r1 : Int32) (x4 : Int32) (i3 : Nat)  : lp_X4_firstError_16 M 0 i3 x4 = (false, 0, x4) := by exact u0_lp_X4_firstError_16 M i3 x4
theorem p_X4_firstError_e9 (M : bM) (r1 : Int32) (x4 : Int32) (i3 : Nat) (n3 : Nat) (c8 : (M 1 1) ≤ x4) : lp_X4_firstError_16 M (n3 + 1) i3 x4 = (false, 0, x4) := by exact Eq.trans (u1_lp_X4_firstError_16 M n3 i3 x4) (if_pos c8)
theorem p_X4_firstError_e15 (M : bM) (r1 : Int32) (x4 : Int32) (i3 : Nat) (r10 : Int32) (r11 : Int32) (i13 : Nat)  : lp_X4_firstError_48 M x4 0 i13 = (false, 0, ()) := by exact u0_lp_X4_firstError_48 M x4 i13
theorem p_X4_firstError_e20 (M : bM) (r1 : Int32) (x4 : Int32) (i3 : Nat) (r10 : Int32) (r11 : Int32) (i13 : Nat) (n13 : Nat) (c17 : (x4 + nI i13) < (M 1 1)) (r18 : Int32) (hr18 : f_X4_isDigitAllowed M x4 (nI i13) = r18) (c19 : ¬ r18 = 0) : lp_X4_firstError_48 M x4 (n13 + 1) i13 = lp_X4_firstError_48 M x4 n13 (i13 + 1) := by subst hr18; exact Eq.trans (u1_lp_X4_firstError_48 M x4 n13 i13) (Eq.trans (if_pos c17) (if_neg c19))
theorem p_X4_firstError_e21 (M : bM) (r1 : Int32) (x4 : Int32) (i3 : Nat) (r10 : Int32) (r11 : Int32) (i13 : Nat) (n13 : Nat) (c17 : (x4 + nI i13) < (M 1 1)) (r18 : Int32) (hr18 : f_X4_isDigitAllowed M x4 (nI i13) = r18) (c19 : r18 = 0) : lp_X4_firstError_48 M x4 (n13 + 1) i13 = (true, (x4 + nI i13), ()) := by subst hr18; exact Eq.trans (u1_lp_X4_firstError_48 M x4 n13 i13) (Eq.trans (if_pos c17) (if_pos c19))
theorem p_X4_firstError_e22 (M : bM) (r1 : Int32) (x4 : Int32) (i3 : Nat) (r10 : Int32) (r11 : Int32) (i13 : Nat) (n13 : Nat) (c17 : ¬ (x4 + nI i13) < (M 1 1)) : lp_X4_firstError_48 M x4 (n13 + 1) i13 = (true, (M 1 1), ()) := by exact Eq.trans (u1_lp_X4_firstError_48 M x4 n13 i13) (if_neg c17)
theorem p_X4_firstError_e23 (M : bM) (r1 : Int32) (x4 : Int32) (i3 : Nat) (n3 : Nat) (c8 : ¬ (M 1 1) ≤ x4) (r10 : Int32) (hr10 : f_X4_signAt M x4 = r10) (r11 : Int32) (hr11 : f_X4_sizeOf r10 = r11) (c12 : ¬ r11 = 0) (hfl13 : (lp_X4_firstError_48 M x4 (r11.toNatClampNeg - 1) 1).1 = true) : lp_X4_firstError_16 M (n3 + 1) i3 x4 = (true, (lp_X4_firstError_48 M x4 (r11.toNatClampNeg - 1) 1).2.1, x4) := by subst hr11 hr10; exact Eq.trans (u1_lp_X4_firstError_16 M n3 i3 x4) (Eq.trans (if_neg c8) (Eq.trans (if_neg c12) (if_pos hfl13)))
theorem p_X4_firstError_e25 (M : bM) (r1 : Int32) (x4 : Int32) (i3 : Nat) (n3 : Nat) (c8 : ¬ (M 1 1) ≤ x4) (r10 : Int32) (hr10 : f_X4_signAt M x4 = r10) (r11 : Int32) (hr11 : f_X4_sizeOf r10 = r11) (c12 : ¬ r11 = 0) (hfl13 : (lp_X4_firstError_48 M x4 (r11.toNatClampNeg - 1) 1).1 = false) (x24 : Int32) (hx24 : (x4 + r11) = x24) : lp_X4_firstError_16 M (n3 + 1) i3 x4 = lp_X4_firstError_16 M n3 (i3 + 1) x24 := by subst hx24 hr11 hr10; exact Eq.trans (u1_lp_X4_firstError_16 M n3 i3 x4) (Eq.trans (if_neg c8) (Eq.trans (if_neg c12) (if_neg (fun h9 => Bool.noConfusion (h9.symm.trans hfl13)))))
theorem p_X4_firstError_e26 (M : bM) (r1 : Int32) (x4 : Int32) (i3 : Nat) (n3 : Nat) (c8 : ¬ (M 1 1) ≤ x4) (r10 : Int32) (hr10 : f_X4_signAt M x4 = r10) (r11 : Int32) (hr11 : f_X4_sizeOf r10 = r11) (c12 : r11 = 0) : lp_X4_firstError_16 M (n3 + 1) i3 x4 = (true, x4, x4) := by subst hr11 hr10; exact Eq.trans (u1_lp_X4_firstError_16 M n3 i3 x4) (Eq.trans (if_neg c8) (if_pos c12))
theorem p_X4_firstError_e27 (M : bM) (r1 : Int32) (hr1 : f_X4_signAt M 0 = r1) (c2 : r1 = 87) (hfl3 : (lp_X4_firstError_16 M 120 0 1).1 = true) : f_X4_firstError M = (lp_X4_firstError_16 M 120 0 1).2.1 := by subst hr1; exact Eq.trans (u_f_X4_firstError M) (Eq.trans (if_pos c2) (if_pos hfl3))
theorem p_X4_firstError_e29 (M : bM) (r1 : Int32) (hr1 : f_X4_signAt M 0 = r1) (c2 : r1 = 87) (hfl3 : (lp_X4_firstError_16 M 120 0 1).1 = false) (x28 : Int32) (hx28 : (lp_X4_firstError_16 M 120 0 1).2.2 = x28) : f_X4_firstError M = (-1) := by subst hx28 hr1; exact Eq.trans (u_f_X4_firstError M) (Eq.trans (if_pos c2) (if_neg (fun h9 => Bool.noConfusion (h9.symm.trans hfl3))))
theorem p_X4_firstError_e30 (M : bM) (r1 : Int32) (hr1 : f_X4_signAt M 0 = r1) (c2 : ¬ r1 = 87) : f_X4_firstError M = 0 := by subst hr1; exact Eq.trans (u_f_X4_firstError M) (if_neg c2)
set_option maxHeartbeats 4000000 in
set_option maxRecDepth 100000 in
theorem c_X4_firstError (l : Launch) (D : va_G) (E : Nat → ClassId) (o : Nat) (M : bM) (hch : chOK M) : Met l yX4_firstError wsX4_firstError (rmF 3) (bPc D E [.ref (o + 1)] (fun H => bk D E LRM o M H)) (bQ (aI fun r _ => r = f_X4_firstError M) bNo) 0 0 bNo := by
  refine Met.ofW (cc := cX4_firstError) (maxL := 5) (ret := (some .int)) (by decide) rfl ?_
  intro p e s m args below meth c s₁ B hml hv
  obtain ⟨rfl, hB, hK⟩ := hv
  have hx := B.exec
  have hb := B.bytes
  have hr := B.returns
  have hts := atoms_spec (ws := wsX4_firstError) B.pre
  have hown : s.vm.findClass RX4 = some m.cls := findClass_of_methodNamed B.named
  have hlocks := B.notSynchronized
  have hS : bS bNo s.heap s.heap [] := bS.rf
  have hl := lv_entry ([.ref (o + 1)]) (n := 5) (Nat.le_of_ble_eq_true rfl)
  rw [lg_entry_eq]
  generalize (lg_sl ([.ref (o + 1)]) ++ List.replicate (5 - (lg_sl ([.ref (o + 1)])).length) Slot.unset).toArray = ls at hl ⊢
  have hl : lv_has ls 5 [(0, .ref (o + 1))] := hl
  have hB : bk D E LRM o M s.heap := hB
  have hinX4 : ∀ w ∈ wsX40, w ∈ wsX4_firstError := by decide +kernel
  refine lv_aload_n hx hb dX4_firstError_0 rfl (lv_at hl 0 rfl) ?_
  refine lv_iconst (v := 0) hx hb dX4_firstError_1 (by decide) ?_
  refine b_pI (b_runV (As := [.int 0]) (rest := []) ⟨hx, hb, hml, hown, hts⟩ (c_X4_signAt l D E o M 0 hch) (cwV 1 hts gX4_firstError_X4_signAt rfl rfl rfl (by decide +kernel) ⟨Nat.le_of_ble_eq_true rfl, Nat.le_of_ble_eq_true rfl⟩) hK (bk_recv hK.1 hB lay_1 rfl) hB rfl hl rfl (Nat.le_of_ble_eq_true rfl) dX4_firstError_2 ⟨Nat.zero_le _, Nat.zero_le _⟩) hS (fun r1 hr1 locs hS => ?_)
  refine lv_bipush (v := 87) hx hb dX4_firstError_5 (by decide) ?_
  refine lv_icmp_eq (tgt := 12) hx hb dX4_firstError_7 (by decide) (fun c2 => ?_) (fun c2 => ?_)
  · refine lv_iconst (v := 1) hx hb dX4_firstError_12 (by decide) ?_
    refine lv_istore_n (lv' := [(1, .int 1), (0, .ref (o + 1))]) hx hb dX4_firstError_13 rfl hl (by decide) rfl (fun ls hl => ?_)
    refine lv_iconst (v := 0) hx hb dX4_firstError_14 (by decide) ?_
    refine lv_istore_n (lv' := [(2, .int 0), (1, .int 1), (0, .ref (o + 1))]) hx hb dX4_firstError_15 rfl hl (by decide) rfl (fun ls hl => ?_)
    have lp3 : ∀ (n3 i3 : Nat) (x4 : Int32), i3 + n3 = 120 → ∀ (H : Heap) (locs : List Loc), bk D E LRM o M H → bS bNo s.heap H locs → ∀ ls : Array Slot, lv_has ls 5 [(2, .int (nI i3)), (1, .int x4), (0, .ref (o + 1))] → (∀ H : Heap, (lp_X4_firstError_16 M n3 i3 x4).1 = true → (aI fun r _ => r = f_X4_firstError M) (some (.int (lp_X4_firstError_16 M n3 i3 x4).2.1)) H) → (∀ (H : Heap) (locs : List Loc), (lp_X4_firstError_16 M n3 i3 x4).1 = false → bk D E LRM o M H → bS bNo s.heap H locs → ∀ ls : Array Slot, lv_has ls 5 [(1, .int ((lp_X4_firstError_16 M n3 i3 x4).2.2)), (0, .ref (o + 1))] → W p l e (headSpec wsX4_firstError (rmF 3)).room s m ([.ref (o + 1)] : List Value).toArray below meth c H locs 0 0 (MQ below (bQ (aI fun r _ => r = f_X4_firstError M) bNo) ([.ref (o + 1)] : List Value).toArray s 0 0 bNo) (F0 m 101 ls [])) → W p l e (headSpec wsX4_firstError (rmF 3)).room s m ([.ref (o + 1)] : List Value).toArray below meth c H locs 0 0 (MQ below (bQ (aI fun r _ => r = f_X4_firstError M) bNo) ([.ref (o + 1)] : List Value).toArray s 0 0 bNo) (F0 m 16 ls []) := by
      intro n3
      induction n3 with
      | zero =>
        intro i3 x4 hi3 H locs hB hS ls hl hret3 hexit3
        have hz3 : i3 = 120 := by omega
        refine lv_iload_n hx hb dX4_firstError_16 rfl (lv_at hl 0 rfl) ?_
        refine lv_bipush (v := 120) hx hb dX4_firstError_17 (by decide) ?_
        refine lv_icmp_ge (tgt := 101) hx hb dX4_firstError_19 (by decide) (fun c5 => ?_) (fun c5 => absurd (by rw [hz3]; exact Int32.le_refl _) c5)
        have e6 := p_X4_firstError_e6 M r1 x4 i3 
        rw [e6] at hexit3
        exact hexit3 _ _ rfl hB hS ls (lv_sub hl [1, 2] rfl)
      | succ n3 ih3 =>
        intro i3 x4 hi3 H locs hB hS ls hl hret3 hexit3
        refine lv_iload_n hx hb dX4_firstError_16 rfl (lv_at hl 0 rfl) ?_
        refine lv_bipush (v := 120) hx hb dX4_firstError_17 (by decide) ?_
        refine lv_icmp_ge (tgt := 101) hx hb dX4_firstError_19 (by decide) (fun c7 => absurd c7 (nI_ge (a := i3) (b := 120) (by omega) (by decide))) (fun c7 => ?_)
        refine lv_iload_n hx hb dX4_firstError_22 rfl (lv_at hl 1 rfl) ?_
        refine lv_aload_n hx hb dX4_firstError_23 rfl (lv_at hl 2 rfl) ?_
        refine b_get (D := D) (E := E) (L := LRM) (o := o) (M := M) (v := .int (M 1 1)) (C := RX4) (T := TX4) (N := 2) hx hb hts hinX4 hown hK.1 hB 1 lay_1 rfl 1 (by decide) (hts (.fieldLink RX4 15 "RiverMeeting$TextBuffer" "length" "I") (List.mem_of_getElem? (i := 1) rfl)) (fun _ h9 => h9) rfl dX4_firstError_24 ?_
        refine lv_icmp_ge (tgt := 101) hx hb dX4_firstError_27 (by decide) (fun c8 => ?_) (fun c8 => ?_)
        · have e9 := p_X4_firstError_e9 M r1 x4 i3 n3 c8
          rw [e9] at hexit3
          exact hexit3 _ _ rfl hB hS ls (lv_sub hl [1, 2] rfl)
        · refine lv_aload_n hx hb dX4_firstError_30 rfl (lv_at hl 2 rfl) ?_
          refine lv_iload_n hx hb dX4_firstError_31 rfl (lv_at hl 1 rfl) ?_
          refine b_pI (b_runV (As := [.int x4]) (rest := []) ⟨hx, hb, hml, hown, hts⟩ (c_X4_signAt l D E o M x4 hch) (cwV 1 hts gX4_firstError_X4_signAt rfl rfl rfl (by decide +kernel) ⟨Nat.le_of_ble_eq_true rfl, Nat.le_of_ble_eq_true rfl⟩) hK (bk_recv hK.1 hB lay_1 rfl) hB rfl hl rfl (Nat.le_of_ble_eq_true rfl) dX4_firstError_32 ⟨Nat.zero_le _, Nat.zero_le _⟩) hS (fun r10 hr10 locs hS => ?_)
          refine b_pI (b_runS (As := [.int r10]) (rest := []) ⟨hx, hb, hml, hown, hts⟩ (c_X4_sizeOf l D E r10) (va_cwS 1 hts gX4_firstError_X4_sizeOf rfl rfl rfl (by decide +kernel) ⟨Nat.le_of_ble_eq_true rfl, Nat.le_of_ble_eq_true rfl⟩) hK trivial rfl hl rfl (Nat.le_of_ble_eq_true rfl) dX4_firstError_35 ⟨Nat.zero_le _, Nat.zero_le _⟩) hS (fun r11 hr11 locs hS => ?_)
          refine lv_istore_n (lv' := [(3, .int r11), (2, .int (nI i3)), (1, .int x4), (0, .ref (o + 1))]) hx hb dX4_firstError_38 rfl hl (by decide) rfl (fun ls hl => ?_)
          refine lv_iload_n hx hb dX4_firstError_39 rfl (lv_at hl 0 rfl) ?_
          refine lv_if_ne (tgt := 45) hx hb dX4_firstError_40 (by decide) (fun c12 => ?_) (fun c12 => ?_)
          · refine lv_iconst (v := 1) hx hb dX4_firstError_45 (by decide) ?_
            refine lv_istore (lv' := [(4, .int 1), (3, .int r11), (2, .int (nI i3)), (1, .int x4), (0, .ref (o + 1))]) hx hb dX4_firstError_46 hl (by decide) rfl (fun ls hl => ?_)
            have lp13 : ∀ (n13 i13 : Nat), i13 + n13 = r11.toNatClampNeg → ∀ (H : Heap) (locs : List Loc), bk D E LRM o M H → bS bNo s.heap H locs → ∀ ls : Array Slot, lv_has ls 5 [(4, .int (nI i13)), (3, .int r11), (2, .int (nI i3)), (1, .int x4), (0, .ref (o + 1))] → (∀ H : Heap, (lp_X4_firstError_48 M x4 n13 i13).1 = true → (aI fun r _ => r = f_X4_firstError M) (some (.int (lp_X4_firstError_48 M x4 n13 i13).2.1)) H) → (∀ (H : Heap) (locs : List Loc), (lp_X4_firstError_48 M x4 n13 i13).1 = false → bk D E LRM o M H → bS bNo s.heap H locs → ∀ ls : Array Slot, lv_has ls 5 [(3, .int r11), (2, .int (nI i3)), (1, .int x4), (0, .ref (o + 1))] → W p l e (headSpec wsX4_firstError (rmF 3)).room s m ([.ref (o + 1)] : List Value).toArray below meth c H locs 0 0 (MQ below (bQ (aI fun r _ => r = f_X4_firstError M) bNo) ([.ref (o + 1)] : List Value).toArray s 0 0 bNo) (F0 m 91 ls [])) → W p l e (headSpec wsX4_firstError (rmF 3)).room s m ([.ref (o + 1)] : List Value).toArray below meth c H locs 0 0 (MQ below (bQ (aI fun r _ => r = f_X4_firstError M) bNo) ([.ref (o + 1)] : List Value).toArray s 0 0 bNo) (F0 m 48 ls []) := by
              intro n13
              induction n13 with
              | zero =>
                intro i13 hi13 H locs hB hS ls hl hret13 hexit13
                have hz13 : i13 = r11.toNatClampNeg := by omega
                refine lv_iload hx hb dX4_firstError_48 (lv_at hl 0 rfl) ?_
                refine lv_iload_n hx hb dX4_firstError_50 rfl (lv_at hl 1 rfl) ?_
                refine lv_icmp_ge (tgt := 91) hx hb dX4_firstError_51 (by decide) (fun c14 => ?_) (fun c14 => absurd (by rw [hz13]; exact b_le_N _) c14)
                have e15 := p_X4_firstError_e15 M r1 x4 i3 r10 r11 i13 
                rw [e15] at hexit13
                exact hexit13 _ _ rfl hB hS ls (lv_sub hl [1, 2, 3, 4] rfl)
              | succ n13 ih13 =>
                intro i13 hi13 H locs hB hS ls hl hret13 hexit13
                refine lv_iload hx hb dX4_firstError_48 (lv_at hl 0 rfl) ?_
                refine lv_iload_n hx hb dX4_firstError_50 rfl (lv_at hl 1 rfl) ?_
                refine lv_icmp_ge (tgt := 91) hx hb dX4_firstError_51 (by decide) (fun c16 => absurd c16 (b_nle_N (i := i13) (by omega))) (fun c16 => ?_)
                refine lv_iload_n hx hb dX4_firstError_54 rfl (lv_at hl 3 rfl) ?_
                refine lv_iload hx hb dX4_firstError_55 (lv_at hl 0 rfl) ?_
                refine lv_iadd hx hb dX4_firstError_57 ?_
                refine lv_aload_n hx hb dX4_firstError_58 rfl (lv_at hl 4 rfl) ?_
                refine b_get (D := D) (E := E) (L := LRM) (o := o) (M := M) (v := .int (M 1 1)) (C := RX4) (T := TX4) (N := 2) hx hb hts hinX4 hown hK.1 hB 1 lay_1 rfl 1 (by decide) (hts (.fieldLink RX4 15 "RiverMeeting$TextBuffer" "length" "I") (List.mem_of_getElem? (i := 1) rfl)) (fun _ h9 => h9) rfl dX4_firstError_59 ?_
                refine lv_icmp_lt (tgt := 70) hx hb dX4_firstError_62 (by decide) (fun c17 => ?_) (fun c17 => ?_)
                · refine lv_aload_n hx hb dX4_firstError_70 rfl (lv_at hl 4 rfl) ?_
                  refine lv_iload_n hx hb dX4_firstError_71 rfl (lv_at hl 3 rfl) ?_
                  refine lv_iload hx hb dX4_firstError_72 (lv_at hl 0 rfl) ?_
                  refine b_pI (b_runV (As := [.int x4, .int (nI i13)]) (rest := []) ⟨hx, hb, hml, hown, hts⟩ (c_X4_isDigitAllowed l D E o M x4 (nI i13) hch) (cwV 2 hts gX4_firstError_X4_isDigitAllowed rfl rfl rfl (by decide +kernel) ⟨Nat.le_of_ble_eq_true rfl, Nat.le_of_ble_eq_true rfl⟩) hK (bk_recv hK.1 hB lay_1 rfl) hB rfl hl rfl (Nat.le_of_ble_eq_true rfl) dX4_firstError_74 ⟨Nat.zero_le _, Nat.zero_le _⟩) hS (fun r18 hr18 locs hS => ?_)
                  refine lv_if_ne (tgt := 85) hx hb dX4_firstError_77 (by decide) (fun c19 => ?_) (fun c19 => ?_)
                  · refine lv_iinc (v := nI (i13 + 1)) (lv' := [(4, .int (nI (i13 + 1))), (3, .int r11), (2, .int (nI i3)), (1, .int x4), (0, .ref (o + 1))]) hx hb dX4_firstError_85 hl (k := 0) rfl (nI_1 i13) (by decide) rfl (fun ls hl => ?_)
                    refine lv_goto (tgt := 48) hx hb dX4_firstError_88 (by decide) ?_
                    have e20 := p_X4_firstError_e20 M r1 x4 i3 r10 r11 i13 n13 c17 r18 hr18.symm c19
                    rw [e20] at hexit13 hret13
                    exact ih13 (i13 + 1) (by omega) _ _ hB hS ls (lv_sub hl [0, 1, 2, 3, 4] rfl) hret13 hexit13
                  · refine lv_iload_n hx hb dX4_firstError_80 rfl (lv_at hl 3 rfl) ?_
                    refine lv_iload hx hb dX4_firstError_81 (lv_at hl 0 rfl) ?_
                    refine lv_iadd hx hb dX4_firstError_83 ?_
                    have e21 := p_X4_firstError_e21 M r1 x4 i3 r10 r11 i13 n13 c17 r18 hr18.symm c19
                    rw [e21] at hret13
                    exact b_iret hx hb hr hlocks hS (hret13 _ rfl) dX4_firstError_84
                · refine lv_aload_n hx hb dX4_firstError_65 rfl (lv_at hl 4 rfl) ?_
                  refine b_get (D := D) (E := E) (L := LRM) (o := o) (M := M) (v := .int (M 1 1)) (C := RX4) (T := TX4) (N := 2) hx hb hts hinX4 hown hK.1 hB 1 lay_1 rfl 1 (by decide) (hts (.fieldLink RX4 15 "RiverMeeting$TextBuffer" "length" "I") (List.mem_of_getElem? (i := 1) rfl)) (fun _ h9 => h9) rfl dX4_firstError_66 ?_
                  have e22 := p_X4_firstError_e22 M r1 x4 i3 r10 r11 i13 n13 c17
                  rw [e22] at hret13
                  exact b_iret hx hb hr hlocks hS (hret13 _ rfl) dX4_firstError_69
            have hsz : 1 ≤ r11.toNatClampNeg := by rw [hr11]; exact sizeOf_pos (hr11 ▸ c12)
            refine lp13 (r11.toNatClampNeg - 1) 1 (by omega) _ _ hB hS ls (lv_sub hl [0, 1, 2, 3, 4] rfl) (fun H hfl13 => ?_) ?_
            · have e23 := p_X4_firstError_e23 M r1 x4 i3 n3 c8 r10 hr10.symm r11 hr11.symm c12 hfl13
              rw [e23] at hret3
              exact hret3 _ rfl
            intro H locs hfl13 hB hS ls hl
            have hl : lv_has ls 5 [(3, .int r11), (2, .int (nI i3)), (1, .int x4), (0, .ref (o + 1))] := hl
            refine lv_iload_n hx hb dX4_firstError_91 rfl (lv_at hl 2 rfl) ?_
            refine lv_iload_n hx hb dX4_firstError_92 rfl (lv_at hl 0 rfl) ?_
            refine lv_iadd hx hb dX4_firstError_93 ?_
            refine lv_topi (fun x24 hx24 => ?_)
            refine lv_istore_n (lv' := [(1, .int x24), (3, .int r11), (2, .int (nI i3)), (0, .ref (o + 1))]) hx hb dX4_firstError_94 rfl hl (by decide) rfl (fun ls hl => ?_)
            refine lv_iinc (v := nI (i3 + 1)) (lv' := [(2, .int (nI (i3 + 1))), (1, .int x24), (3, .int r11), (0, .ref (o + 1))]) hx hb dX4_firstError_95 hl (k := 2) rfl (nI_1 i3) (by decide) rfl (fun ls hl => ?_)
            refine lv_goto (tgt := 16) hx hb dX4_firstError_98 (by decide) ?_
            have e25 := p_X4_firstError_e25 M r1 x4 i3 n3 c8 r10 hr10.symm r11 hr11.symm c12 hfl13 x24 hx24.symm
            rw [e25] at hexit3 hret3
            exact ih3 (i3 + 1) x24 (by omega) _ _ hB hS ls (lv_sub hl [0, 1, 3] rfl) hret3 hexit3
          · refine lv_iload_n hx hb dX4_firstError_43 rfl (lv_at hl 2 rfl) ?_
            have e26 := p_X4_firstError_e26 M r1 x4 i3 n3 c8 r10 hr10.symm r11 hr11.symm c12
            rw [e26] at hret3
            exact b_iret hx hb hr hlocks hS (hret3 _ rfl) dX4_firstError_44
    refine lp3 120 0 1 (by omega) _ _ hB hS ls (lv_sub hl [0, 1, 2] rfl) (fun H hfl3 => ?_) ?_
    · have e27 := p_X4_firstError_e27 M r1 hr1.symm c2 hfl3
      exact ⟨_, rfl, e27.symm⟩
    intro H locs hfl3 hB hS ls hl
    obtain ⟨x28, hx28⟩ : ∃ y : Int32, y = (lp_X4_firstError_16 M 120 0 1).2.2 := ⟨_, rfl⟩
    rw [← hx28] at hl
    have hl : lv_has ls 5 [(1, .int x28), (0, .ref (o + 1))] := hl
    refine lv_iconst (v := (-1)) hx hb dX4_firstError_101 (by decide) ?_
    have e29 := p_X4_firstError_e29 M r1 hr1.symm c2 hfl3 x28 hx28.symm
    exact b_iret hx hb hr hlocks hS ⟨_, rfl, e29.symm⟩ dX4_firstError_102
  · refine lv_iconst (v := 0) hx hb dX4_firstError_10 (by decide) ?_
    have e30 := p_X4_firstError_e30 M r1 hr1.symm c2
    exact b_iret hx hb hr hlocks hS ⟨_, rfl, e30.symm⟩ dX4_firstError_11
def f_X1_forgetAll (M : bM) : bM := (let M1 : bM := up2 M 30 2 0; M1)
theorem u_f_X1_forgetAll (M : bM) : f_X1_forgetAll M = (let M1 : bM := up2 M 30 2 0; M1) := rfl
theorem p_X1_forgetAll_e2 (M : bM) (M1 : bM) (hM1 : up2 M 30 2 0 = M1) : f_X1_forgetAll M = M1 := by subst hM1; exact u_f_X1_forgetAll M
set_option maxHeartbeats 4000000 in
set_option maxRecDepth 100000 in
theorem c_X1_forgetAll (l : Launch) (D : va_G) (E : Nat → ClassId) (o : Nat) (M : bM)  : Met l yX1_forgetAll wsX1_forgetAll (rmF 0) (bPc D E [.ref (o + 30)] (fun H => bk D E LRM o M H)) (bQ (aV fun H => ∃ M1 : bM, M1 = f_X1_forgetAll M ∧ bk D E LRM o M1 H) (rA o)) 0 0 (rA o) := by
  refine Met.ofW (cc := cX1_forgetAll) (maxL := 1) (ret := none) (by decide) rfl ?_
  intro p e s m args below meth c s₁ B hml hv
  obtain ⟨rfl, hB, hK⟩ := hv
  have hx := B.exec
  have hb := B.bytes
  have hr := B.returns
  have hts := atoms_spec (ws := wsX1_forgetAll) B.pre
  have hown : s.vm.findClass RX1 = some m.cls := findClass_of_methodNamed B.named
  have hlocks := B.notSynchronized
  have hS : bS (rA o) s.heap s.heap [] := bS.rf
  have hl := lv_entry ([.ref (o + 30)]) (n := 1) (Nat.le_of_ble_eq_true rfl)
  rw [lg_entry_eq]
  generalize (lg_sl ([.ref (o + 30)]) ++ List.replicate (1 - (lg_sl ([.ref (o + 30)])).length) Slot.unset).toArray = ls at hl ⊢
  have hl : lv_has ls 1 [(0, .ref (o + 30))] := hl
  have hB : bk D E LRM o M s.heap := hB
  have hinX1 : ∀ w ∈ wsX10, w ∈ wsX1_forgetAll := by decide +kernel
  refine lv_aload_n hx hb dX1_forgetAll_0 rfl (lv_at hl 0 rfl) ?_
  refine lv_iconst (v := 0) hx hb dX1_forgetAll_1 (by decide) ?_
  refine b_put (D := D) (E := E) (L := LRM) (o := o) (M := M) (v := 0) (ty := .int) (C := RX1) (T := TX1) (N := 3) hx hb hts hinX1 tyX1 tyX1_ok nmX1 hown hK.1 hB hS 30 (rA_of lay_30) lay_30 rfl 2 (by decide) rfl (hts (.fieldLink RX1 18 "RiverMeeting$History" "count" "I") (List.mem_of_getElem? (i := 1) rfl)) (fun _ h9 => h9) rfl (by decide +kernel) rfl rfl dX1_forgetAll_2 (fun M1 hM1 H locs hB _ hS => ?_)
  have e2 := p_X1_forgetAll_e2 M M1 hM1.symm
  exact b_vret hx hb hr hlocks hS ⟨rfl, _, e2.symm, hB⟩ dX1_forgetAll_5
def f_X1_stateAt (M : bM) (x1 : Int32) : Nat := (if x1 < 0 then 0 else (if 14 ≤ x1 then 0 else (let k3 : Nat := 32 + 10 * x1.toNatClampNeg; k3)))
theorem u_f_X1_stateAt (M : bM) (x1 : Int32) : f_X1_stateAt M x1 = (if x1 < 0 then 0 else (if 14 ≤ x1 then 0 else (let k3 : Nat := 32 + 10 * x1.toNatClampNeg; k3))) := rfl
theorem p_X1_stateAt_e4 (M : bM) (x1 : Int32) (c1 : ¬ x1 < 0) (c2 : ¬ 14 ≤ x1) (k3 : Nat) (hk3 : 32 + 10 * x1.toNatClampNeg = k3) : f_X1_stateAt M x1 = k3 := by subst hk3; exact Eq.trans (u_f_X1_stateAt M x1) (Eq.trans (if_neg c1) (if_neg c2))
set_option maxHeartbeats 4000000 in
set_option maxRecDepth 100000 in
theorem c_X1_stateAt (l : Launch) (D : va_G) (E : Nat → ClassId) (o : Nat) (M : bM) (x1 : Int32) (hp : vp_in x1 14) : Met l yX1_stateAt wsX1_stateAt (rmF 0) (bPc D E [.ref (o + 30), .int x1] (fun H => bk D E LRM o M H)) (bQ (aR fun r _ => r = o + f_X1_stateAt M x1) bNo) 0 0 bNo := by
  refine Met.ofW (cc := cX1_stateAt) (maxL := 2) (ret := (some (.object "RiverMeeting$Game"))) (by decide) rfl ?_
  intro p e s m args below meth c s₁ B hml hv
  obtain ⟨rfl, hB, hK⟩ := hv
  have hx := B.exec
  have hb := B.bytes
  have hr := B.returns
  have hts := atoms_spec (ws := wsX1_stateAt) B.pre
  have hown : s.vm.findClass RX1 = some m.cls := findClass_of_methodNamed B.named
  have hlocks := B.notSynchronized
  have hS : bS bNo s.heap s.heap [] := bS.rf
  have hl := lv_entry ([.ref (o + 30), .int x1]) (n := 2) (Nat.le_of_ble_eq_true rfl)
  rw [lg_entry_eq]
  generalize (lg_sl ([.ref (o + 30), .int x1]) ++ List.replicate (2 - (lg_sl ([.ref (o + 30), .int x1])).length) Slot.unset).toArray = ls at hl ⊢
  have hl : lv_has ls 2 [(0, .ref (o + 30)), (1, .int x1)] := hl
  have hB : bk D E LRM o M s.heap := hB
  have hinX1 : ∀ w ∈ wsX10, w ∈ wsX1_stateAt := by decide +kernel
  refine lv_iload_n hx hb dX1_stateAt_0 rfl (lv_at hl 1 rfl) ?_
  refine lv_if_lt (tgt := 19) hx hb dX1_stateAt_1 (by decide) (fun c1 => ?_) (fun c1 => ?_)
  · exact absurd c1 (in_nneg hp)
  · refine lv_iload_n hx hb dX1_stateAt_4 rfl (lv_at hl 1 rfl) ?_
    refine lv_bipush (v := 14) hx hb dX1_stateAt_5 (by decide) ?_
    refine lv_icmp_ge (tgt := 19) hx hb dX1_stateAt_7 (by decide) (fun c2 => ?_) (fun c2 => ?_)
    · exact absurd c2 (in_nge rfl (by decide) hp)
    · refine lv_aload_n hx hb dX1_stateAt_10 rfl (lv_at hl 0 rfl) ?_
      refine b_get (D := D) (E := E) (L := LRM) (o := o) (M := M) (v := .ref (o + 31)) (C := RX1) (T := TX1) (N := 3) hx hb hts hinX1 hown hK.1 hB 30 lay_30 rfl 0 (by decide) (hts (.fieldLink RX1 11 "RiverMeeting$History" "states" "[LRiverMeeting$Game;") (List.mem_of_getElem? (i := 1) rfl)) (fun _ h9 => h9) rfl dX1_stateAt_11 ?_
      refine lv_iload_n hx hb dX1_stateAt_14 rfl (lv_at hl 1 rfl) ?_
      refine b_aald hx hb hK.1 hB 31 lay_31 (in_of (N := 14) rfl (by decide) c1 c2) dX1_stateAt_15 ?_
      obtain ⟨k3, hk3⟩ : ∃ y : Nat, y = 32 + 10 * x1.toNatClampNeg := ⟨_, rfl⟩
      rw [← hk3]
      have hgk3 : isG k3 := by rw [hk3]; exact isG_h _ (in_of (N := 14) rfl (by decide) c1 c2)
      refine lv_goto (tgt := 20) hx hb dX1_stateAt_16 (by decide) ?_
      have e4 := p_X1_stateAt_e4 M x1 c1 c2 k3 hk3.symm
      exact b_aret hx hb hr (Or.inl ⟨_, rfl⟩) hlocks hS ⟨_, rfl, by rw [e4]⟩ dX1_stateAt_20
