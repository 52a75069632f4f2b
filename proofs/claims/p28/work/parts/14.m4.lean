def lp_X5_cheapestUnsettled_7 (M : bM) : Nat → Nat → Int32 → Int32 → (Int32 × Int32)
  | 0, i1, x2, x3 => (x2, x3)
  | n1 + 1, i1, x2, x3 => (if (M 26 i1) = (-1) then lp_X5_cheapestUnsettled_7 M n1 (i1 + 1) x2 x3 else (if (M 29 i1) = 0 then (if x2 ≤ (M 26 i1) then lp_X5_cheapestUnsettled_7 M n1 (i1 + 1) x2 x3 else (let x13 : Int32 := (M 26 i1); lp_X5_cheapestUnsettled_7 M n1 (i1 + 1) x13 (nI i1))) else lp_X5_cheapestUnsettled_7 M n1 (i1 + 1) x2 x3))
theorem u0_lp_X5_cheapestUnsettled_7 (M : bM) (i1 : Nat) (x2 : Int32) (x3 : Int32) : lp_X5_cheapestUnsettled_7 M 0 i1 x2 x3 = (x2, x3) := rfl
theorem u1_lp_X5_cheapestUnsettled_7 (M : bM) (n1 i1 : Nat) (x2 : Int32) (x3 : Int32) : lp_X5_cheapestUnsettled_7 M (n1 + 1) i1 x2 x3 = (if (M 26 i1) = (-1) then lp_X5_cheapestUnsettled_7 M n1 (i1 + 1) x2 x3 else (if (M 29 i1) = 0 then (if x2 ≤ (M 26 i1) then lp_X5_cheapestUnsettled_7 M n1 (i1 + 1) x2 x3 else (let x13 : Int32 := (M 26 i1); lp_X5_cheapestUnsettled_7 M n1 (i1 + 1) x13 (nI i1))) else lp_X5_cheapestUnsettled_7 M n1 (i1 + 1) x2 x3)) := rfl
def f_X5_cheapestUnsettled (M : bM) : Int32 := (let x15 : Int32 := (lp_X5_cheapestUnsettled_7 M 64 0 1000000 (-1)).1; (let x16 : Int32 := (lp_X5_cheapestUnsettled_7 M 64 0 1000000 (-1)).2; x16))
theorem u_f_X5_cheapestUnsettled (M : bM) : f_X5_cheapestUnsettled M = (let x15 : Int32 := (lp_X5_cheapestUnsettled_7 M 64 0 1000000 (-1)).1; (let x16 : Int32 := (lp_X5_cheapestUnsettled_7 M 64 0 1000000 (-1)).2; x16)) := rfl
theorem p_X5_cheapestUnsettled_e5 (M : bM) (x2 : Int32) (x3 : Int32) (i1 : Nat)  : lp_X5_cheapestUnsettled_7 M 0 i1 x2 x3 = (x2, x3) := by exact u0_lp_X5_cheapestUnsettled_7 M i1 x2 x3
theorem p_X5_cheapestUnsettled_e8 (M : bM) (x2 : Int32) (x3 : Int32) (i1 : Nat) (n1 : Nat) (c7 : (M 26 i1) = (-1)) : lp_X5_cheapestUnsettled_7 M (n1 + 1) i1 x2 x3 = lp_X5_cheapestUnsettled_7 M n1 (i1 + 1) x2 x3 := by exact Eq.trans (u1_lp_X5_cheapestUnsettled_7 M n1 i1 x2 x3) (if_pos c7)
theorem p_X5_cheapestUnsettled_e10 (M : bM) (x2 : Int32) (x3 : Int32) (i1 : Nat) (n1 : Nat) (c7 : ¬ (M 26 i1) = (-1)) (c9 : ¬ (M 29 i1) = 0) : lp_X5_cheapestUnsettled_7 M (n1 + 1) i1 x2 x3 = lp_X5_cheapestUnsettled_7 M n1 (i1 + 1) x2 x3 := by exact Eq.trans (u1_lp_X5_cheapestUnsettled_7 M n1 i1 x2 x3) (Eq.trans (if_neg c7) (if_neg c9))
theorem p_X5_cheapestUnsettled_e12 (M : bM) (x2 : Int32) (x3 : Int32) (i1 : Nat) (n1 : Nat) (c7 : ¬ (M 26 i1) = (-1)) (c9 : (M 29 i1) = 0) (c11 : x2 ≤ (M 26 i1)) : lp_X5_cheapestUnsettled_7 M (n1 + 1) i1 x2 x3 = lp_X5_cheapestUnsettled_7 M n1 (i1 + 1) x2 x3 := by exact Eq.trans (u1_lp_X5_cheapestUnsettled_7 M n1 i1 x2 x3) (Eq.trans (if_neg c7) (Eq.trans (if_pos c9) (if_pos c11)))
theorem p_X5_cheapestUnsettled_e14 (M : bM) (x2 : Int32) (x3 : Int32) (i1 : Nat) (n1 : Nat) (c7 : ¬ (M 26 i1) = (-1)) (c9 : (M 29 i1) = 0) (c11 : ¬ x2 ≤ (M 26 i1)) (x13 : Int32) (hx13 : (M 26 i1) = x13) : lp_X5_cheapestUnsettled_7 M (n1 + 1) i1 x2 x3 = lp_X5_cheapestUnsettled_7 M n1 (i1 + 1) x13 (nI i1) := by subst hx13; exact Eq.trans (u1_lp_X5_cheapestUnsettled_7 M n1 i1 x2 x3) (Eq.trans (if_neg c7) (Eq.trans (if_pos c9) (if_neg c11)))
theorem p_X5_cheapestUnsettled_e17 (M : bM) (x15 : Int32) (hx15 : (lp_X5_cheapestUnsettled_7 M 64 0 1000000 (-1)).1 = x15) (x16 : Int32) (hx16 : (lp_X5_cheapestUnsettled_7 M 64 0 1000000 (-1)).2 = x16) : f_X5_cheapestUnsettled M = x16 := by subst hx16 hx15; exact u_f_X5_cheapestUnsettled M
set_option maxHeartbeats 4000000 in
set_option maxRecDepth 100000 in
theorem c_X5_cheapestUnsettled (l : Launch) (D : va_G) (E : Nat → ClassId) (o : Nat) (M : bM)  : Met l yX5_cheapestUnsettled wsX5_cheapestUnsettled (rmF 0) (bPc D E [.ref (o + 23)] (fun H => bk D E LRM o M H)) (bQ (aI fun r _ => r = f_X5_cheapestUnsettled M) bNo) 0 0 bNo := by
  refine Met.ofW (cc := cX5_cheapestUnsettled) (maxL := 4) (ret := (some .int)) (by decide) rfl ?_
  intro p e s m args below meth c s₁ B hml hv
  obtain ⟨rfl, hB, hK⟩ := hv
  have hx := B.exec
  have hb := B.bytes
  have hr := B.returns
  have hts := atoms_spec (ws := wsX5_cheapestUnsettled) B.pre
  have hown : s.vm.findClass RX5 = some m.cls := findClass_of_methodNamed B.named
  have hlocks := B.notSynchronized
  have hS : bS bNo s.heap s.heap [] := bS.rf
  have hl := lv_entry ([.ref (o + 23)]) (n := 4) (Nat.le_of_ble_eq_true rfl)
  rw [lg_entry_eq]
  generalize (lg_sl ([.ref (o + 23)]) ++ List.replicate (4 - (lg_sl ([.ref (o + 23)])).length) Slot.unset).toArray = ls at hl ⊢
  have hl : lv_has ls 4 [(0, .ref (o + 23))] := hl
  have hB : bk D E LRM o M s.heap := hB
  have hinX5 : ∀ w ∈ wsX50, w ∈ wsX5_cheapestUnsettled := by decide +kernel
  refine lv_iconst (v := (-1)) hx hb dX5_cheapestUnsettled_0 (by decide) ?_
  refine lv_istore_n (lv' := [(1, .int (-1)), (0, .ref (o + 23))]) hx hb dX5_cheapestUnsettled_1 rfl hl (by decide) rfl (fun ls hl => ?_)
  refine lv_ldc (v := 1000000) hx hb hown (hts (.constant RX5 94 (1000000)) (List.mem_of_getElem? (i := 1) rfl)) dX5_cheapestUnsettled_2 ?_
  refine lv_istore_n (lv' := [(2, .int 1000000), (1, .int (-1)), (0, .ref (o + 23))]) hx hb dX5_cheapestUnsettled_4 rfl hl (by decide) rfl (fun ls hl => ?_)
  refine lv_iconst (v := 0) hx hb dX5_cheapestUnsettled_5 (by decide) ?_
  refine lv_istore_n (lv' := [(3, .int 0), (2, .int 1000000), (1, .int (-1)), (0, .ref (o + 23))]) hx hb dX5_cheapestUnsettled_6 rfl hl (by decide) rfl (fun ls hl => ?_)
  have lp1 : ∀ (n1 i1 : Nat) (x2 : Int32) (x3 : Int32), i1 + n1 = 64 → ∀ (H : Heap) (locs : List Loc), bk D E LRM o M H → bS bNo s.heap H locs → ∀ ls : Array Slot, lv_has ls 4 [(3, .int (nI i1)), (2, .int x2), (1, .int x3), (0, .ref (o + 23))] → (∀ (H : Heap) (locs : List Loc), bk D E LRM o M H → bS bNo s.heap H locs → ∀ ls : Array Slot, lv_has ls 4 [(2, .int ((lp_X5_cheapestUnsettled_7 M n1 i1 x2 x3).1)), (1, .int ((lp_X5_cheapestUnsettled_7 M n1 i1 x2 x3).2)), (0, .ref (o + 23))] → W p l e (headSpec wsX5_cheapestUnsettled (rmF 0)).room s m ([.ref (o + 23)] : List Value).toArray below meth c H locs 0 0 (MQ below (bQ (aI fun r _ => r = f_X5_cheapestUnsettled M) bNo) ([.ref (o + 23)] : List Value).toArray s 0 0 bNo) (F0 m 57 ls [])) → W p l e (headSpec wsX5_cheapestUnsettled (rmF 0)).room s m ([.ref (o + 23)] : List Value).toArray below meth c H locs 0 0 (MQ below (bQ (aI fun r _ => r = f_X5_cheapestUnsettled M) bNo) ([.ref (o + 23)] : List Value).toArray s 0 0 bNo) (F0 m 7 ls []) := by
    intro n1
    induction n1 with
    | zero =>
      intro i1 x2 x3 hi1 H locs hB hS ls hl hexit1
      have hz1 : i1 = 64 := by omega
      refine lv_iload_n hx hb dX5_cheapestUnsettled_7 rfl (lv_at hl 0 rfl) ?_
      refine lv_bipush (v := 64) hx hb dX5_cheapestUnsettled_8 (by decide) ?_
      refine lv_icmp_ge (tgt := 57) hx hb dX5_cheapestUnsettled_10 (by decide) (fun c4 => ?_) (fun c4 => absurd (by rw [hz1]; exact Int32.le_refl _) c4)
      have e5 := p_X5_cheapestUnsettled_e5 M x2 x3 i1 
      rw [e5] at hexit1
      exact hexit1 _ _  hB hS ls (lv_sub hl [1, 2, 3] rfl)
    | succ n1 ih1 =>
      intro i1 x2 x3 hi1 H locs hB hS ls hl hexit1
      refine lv_iload_n hx hb dX5_cheapestUnsettled_7 rfl (lv_at hl 0 rfl) ?_
      refine lv_bipush (v := 64) hx hb dX5_cheapestUnsettled_8 (by decide) ?_
      refine lv_icmp_ge (tgt := 57) hx hb dX5_cheapestUnsettled_10 (by decide) (fun c6 => absurd c6 (nI_ge (a := i1) (b := 64) (by omega) (by decide))) (fun c6 => ?_)
      refine lv_aload_n hx hb dX5_cheapestUnsettled_13 rfl (lv_at hl 3 rfl) ?_
      refine b_get (D := D) (E := E) (L := LRM) (o := o) (M := M) (v := .ref (o + 26)) (C := RX5) (T := TX5) (N := 6) hx hb hts hinX5 hown hK.1 hB 23 lay_23 rfl 2 (by decide) (hts (.fieldLink RX5 19 "RiverMeeting$Ways" "far" "[I") (List.mem_of_getElem? (i := 2) rfl)) (fun _ h9 => h9) rfl dX5_cheapestUnsettled_14 ?_
      refine lv_iload_n hx hb dX5_cheapestUnsettled_17 rfl (lv_at hl 0 rfl) ?_
      refine b_iald hx hb hK.1 hB 26 lay_26 (vp_in_nI (by omega) (by decide)) dX5_cheapestUnsettled_18 ?_
      rw [nI_clamp (n := i1) (by omega)]
      refine lv_iconst (v := (-1)) hx hb dX5_cheapestUnsettled_19 (by decide) ?_
      refine lv_icmp_eq (tgt := 51) hx hb dX5_cheapestUnsettled_20 (by decide) (fun c7 => ?_) (fun c7 => ?_)
      · refine lv_iinc (v := nI (i1 + 1)) (lv' := [(3, .int (nI (i1 + 1))), (2, .int x2), (1, .int x3), (0, .ref (o + 23))]) hx hb dX5_cheapestUnsettled_51 hl (k := 0) rfl (nI_1 i1) (by decide) rfl (fun ls hl => ?_)
        refine lv_goto (tgt := 7) hx hb dX5_cheapestUnsettled_54 (by decide) ?_
        have e8 := p_X5_cheapestUnsettled_e8 M x2 x3 i1 n1 c7
        rw [e8] at hexit1
        exact ih1 (i1 + 1) x2 x3 (by omega) _ _ hB hS ls (lv_sub hl [0, 1, 2, 3] rfl) hexit1
      · refine lv_aload_n hx hb dX5_cheapestUnsettled_23 rfl (lv_at hl 3 rfl) ?_
        refine b_get (D := D) (E := E) (L := LRM) (o := o) (M := M) (v := .ref (o + 29)) (C := RX5) (T := TX5) (N := 6) hx hb hts hinX5 hown hK.1 hB 23 lay_23 rfl 5 (by decide) (hts (.fieldLink RX5 28 "RiverMeeting$Ways" "settled" "[Z") (List.mem_of_getElem? (i := 3) rfl)) (fun _ h9 => h9) rfl dX5_cheapestUnsettled_24 ?_
        refine lv_iload_n hx hb dX5_cheapestUnsettled_27 rfl (lv_at hl 0 rfl) ?_
        refine b_zald hx hb hK.1 hB 29 lay_29 (vp_in_nI (by omega) (by decide)) dX5_cheapestUnsettled_28 ?_
        rw [nI_clamp (n := i1) (by omega)]
        refine lv_if_ne (tgt := 51) hx hb dX5_cheapestUnsettled_29 (by decide) (fun c9 => ?_) (fun c9 => ?_)
        · refine lv_iinc (v := nI (i1 + 1)) (lv' := [(3, .int (nI (i1 + 1))), (2, .int x2), (1, .int x3), (0, .ref (o + 23))]) hx hb dX5_cheapestUnsettled_51 hl (k := 0) rfl (nI_1 i1) (by decide) rfl (fun ls hl => ?_)
          refine lv_goto (tgt := 7) hx hb dX5_cheapestUnsettled_54 (by decide) ?_
          have e10 := p_X5_cheapestUnsettled_e10 M x2 x3 i1 n1 c7 c9
          rw [e10] at hexit1
          exact ih1 (i1 + 1) x2 x3 (by omega) _ _ hB hS ls (lv_sub hl [0, 1, 2, 3] rfl) hexit1
        · refine lv_aload_n hx hb dX5_cheapestUnsettled_32 rfl (lv_at hl 3 rfl) ?_
          refine b_get (D := D) (E := E) (L := LRM) (o := o) (M := M) (v := .ref (o + 26)) (C := RX5) (T := TX5) (N := 6) hx hb hts hinX5 hown hK.1 hB 23 lay_23 rfl 2 (by decide) (hts (.fieldLink RX5 19 "RiverMeeting$Ways" "far" "[I") (List.mem_of_getElem? (i := 2) rfl)) (fun _ h9 => h9) rfl dX5_cheapestUnsettled_33 ?_
          refine lv_iload_n hx hb dX5_cheapestUnsettled_36 rfl (lv_at hl 0 rfl) ?_
          refine b_iald hx hb hK.1 hB 26 lay_26 (vp_in_nI (by omega) (by decide)) dX5_cheapestUnsettled_37 ?_
          rw [nI_clamp (n := i1) (by omega)]
          refine lv_iload_n hx hb dX5_cheapestUnsettled_38 rfl (lv_at hl 1 rfl) ?_
          refine lv_icmp_ge (tgt := 51) hx hb dX5_cheapestUnsettled_39 (by decide) (fun c11 => ?_) (fun c11 => ?_)
          · refine lv_iinc (v := nI (i1 + 1)) (lv' := [(3, .int (nI (i1 + 1))), (2, .int x2), (1, .int x3), (0, .ref (o + 23))]) hx hb dX5_cheapestUnsettled_51 hl (k := 0) rfl (nI_1 i1) (by decide) rfl (fun ls hl => ?_)
            refine lv_goto (tgt := 7) hx hb dX5_cheapestUnsettled_54 (by decide) ?_
            have e12 := p_X5_cheapestUnsettled_e12 M x2 x3 i1 n1 c7 c9 c11
            rw [e12] at hexit1
            exact ih1 (i1 + 1) x2 x3 (by omega) _ _ hB hS ls (lv_sub hl [0, 1, 2, 3] rfl) hexit1
          · refine lv_iload_n hx hb dX5_cheapestUnsettled_42 rfl (lv_at hl 0 rfl) ?_
            refine lv_istore_n (lv' := [(1, .int (nI i1)), (3, .int (nI i1)), (2, .int x2), (0, .ref (o + 23))]) hx hb dX5_cheapestUnsettled_43 rfl hl (by decide) rfl (fun ls hl => ?_)
            refine lv_aload_n hx hb dX5_cheapestUnsettled_44 rfl (lv_at hl 3 rfl) ?_
            refine b_get (D := D) (E := E) (L := LRM) (o := o) (M := M) (v := .ref (o + 26)) (C := RX5) (T := TX5) (N := 6) hx hb hts hinX5 hown hK.1 hB 23 lay_23 rfl 2 (by decide) (hts (.fieldLink RX5 19 "RiverMeeting$Ways" "far" "[I") (List.mem_of_getElem? (i := 2) rfl)) (fun _ h9 => h9) rfl dX5_cheapestUnsettled_45 ?_
            refine lv_iload_n hx hb dX5_cheapestUnsettled_48 rfl (lv_at hl 1 rfl) ?_
            refine b_iald hx hb hK.1 hB 26 lay_26 (vp_in_nI (by omega) (by decide)) dX5_cheapestUnsettled_49 ?_
            rw [nI_clamp (n := i1) (by omega)]
            refine lv_topi (fun x13 hx13 => ?_)
            refine lv_istore_n (lv' := [(2, .int x13), (1, .int (nI i1)), (3, .int (nI i1)), (0, .ref (o + 23))]) hx hb dX5_cheapestUnsettled_50 rfl hl (by decide) rfl (fun ls hl => ?_)
            refine lv_iinc (v := nI (i1 + 1)) (lv' := [(3, .int (nI (i1 + 1))), (2, .int x13), (1, .int (nI i1)), (0, .ref (o + 23))]) hx hb dX5_cheapestUnsettled_51 hl (k := 2) rfl (nI_1 i1) (by decide) rfl (fun ls hl => ?_)
            refine lv_goto (tgt := 7) hx hb dX5_cheapestUnsettled_54 (by decide) ?_
            have e14 := p_X5_cheapestUnsettled_e14 M x2 x3 i1 n1 c7 c9 c11 x13 hx13.symm
            rw [e14] at hexit1
            exact ih1 (i1 + 1) x13 (nI i1) (by omega) _ _ hB hS ls (lv_sub hl [0, 1, 2, 3] rfl) hexit1
  refine lp1 64 0 1000000 (-1) (by omega) _ _ hB hS ls (lv_sub hl [0, 1, 2, 3] rfl) ?_
  intro H locs hB hS ls hl
  obtain ⟨x15, hx15⟩ : ∃ y : Int32, y = (lp_X5_cheapestUnsettled_7 M 64 0 1000000 (-1)).1 := ⟨_, rfl⟩
  rw [← hx15] at hl
  obtain ⟨x16, hx16⟩ : ∃ y : Int32, y = (lp_X5_cheapestUnsettled_7 M 64 0 1000000 (-1)).2 := ⟨_, rfl⟩
  rw [← hx16] at hl
  have hl : lv_has ls 4 [(2, .int x15), (1, .int x16), (0, .ref (o + 23))] := hl
  refine lv_iload_n hx hb dX5_cheapestUnsettled_57 rfl (lv_at hl 1 rfl) ?_
  have e17 := p_X5_cheapestUnsettled_e17 M x15 hx15.symm x16 hx16.symm
  exact b_iret hx hb hr hlocks hS ⟨_, rfl, e17.symm⟩ dX5_cheapestUnsettled_58
def lp_X5_cheapenBeside_17 (k1 : Nat) (x2 : Int32) : Nat → Nat → Int32 → bM → (Int32 × bM)
  | 0, i4, x5, M6 => (x5, M6)
  | n4 + 1, i4, x5, M6 => (let x10 : Int32 := (M6 24 ((x2 * 3) + nI i4).toNatClampNeg); (if x10 < 0 then lp_X5_cheapenBeside_17 k1 x2 n4 (i4 + 1) x5 M6 else (if 64 ≤ x10 then lp_X5_cheapenBeside_17 k1 x2 n4 (i4 + 1) x5 M6 else (if 64 ≤ x10 then lp_X5_cheapenBeside_17 k1 x2 n4 (i4 + 1) x5 M6 else (if (M6 25 x10.toNatClampNeg) = 0 then lp_X5_cheapenBeside_17 k1 x2 n4 (i4 + 1) x5 M6 else (let x19 : Int32 := ((M6 26 x2.toNatClampNeg) + (M6 k1 x10.toNatClampNeg)); (if (M6 26 x10.toNatClampNeg) = (-1) then (let M21 : bM := up2 M6 26 x10.toNatClampNeg x19; lp_X5_cheapenBeside_17 k1 x2 n4 (i4 + 1) 1 M21) else (if (M6 26 x10.toNatClampNeg) ≤ x19 then lp_X5_cheapenBeside_17 k1 x2 n4 (i4 + 1) x5 M6 else (let M25 : bM := up2 M6 26 x10.toNatClampNeg x19; lp_X5_cheapenBeside_17 k1 x2 n4 (i4 + 1) 1 M25)))))))))
theorem u0_lp_X5_cheapenBeside_17 (k1 : Nat) (x2 : Int32) (i4 : Nat) (x5 : Int32) (M6 : bM) : lp_X5_cheapenBeside_17 k1 x2 0 i4 x5 M6 = (x5, M6) := rfl
theorem u1_lp_X5_cheapenBeside_17 (k1 : Nat) (x2 : Int32) (n4 i4 : Nat) (x5 : Int32) (M6 : bM) : lp_X5_cheapenBeside_17 k1 x2 (n4 + 1) i4 x5 M6 = (let x10 : Int32 := (M6 24 ((x2 * 3) + nI i4).toNatClampNeg); (if x10 < 0 then lp_X5_cheapenBeside_17 k1 x2 n4 (i4 + 1) x5 M6 else (if 64 ≤ x10 then lp_X5_cheapenBeside_17 k1 x2 n4 (i4 + 1) x5 M6 else (if 64 ≤ x10 then lp_X5_cheapenBeside_17 k1 x2 n4 (i4 + 1) x5 M6 else (if (M6 25 x10.toNatClampNeg) = 0 then lp_X5_cheapenBeside_17 k1 x2 n4 (i4 + 1) x5 M6 else (let x19 : Int32 := ((M6 26 x2.toNatClampNeg) + (M6 k1 x10.toNatClampNeg)); (if (M6 26 x10.toNatClampNeg) = (-1) then (let M21 : bM := up2 M6 26 x10.toNatClampNeg x19; lp_X5_cheapenBeside_17 k1 x2 n4 (i4 + 1) 1 M21) else (if (M6 26 x10.toNatClampNeg) ≤ x19 then lp_X5_cheapenBeside_17 k1 x2 n4 (i4 + 1) x5 M6 else (let M25 : bM := up2 M6 26 x10.toNatClampNeg x19; lp_X5_cheapenBeside_17 k1 x2 n4 (i4 + 1) 1 M25))))))))) := rfl
def f_X5_cheapenBeside (M : bM) (k1 : Nat) (x2 : Int32) : Int32 × bM := (if x2 < 0 then (0, M) else (if x2 < 64 then (let x27 : Int32 := (lp_X5_cheapenBeside_17 k1 x2 3 0 0 M).1; (let M28 : bM := (lp_X5_cheapenBeside_17 k1 x2 3 0 0 M).2; (x27, M28))) else (0, M)))
theorem u_f_X5_cheapenBeside (M : bM) (k1 : Nat) (x2 : Int32) : f_X5_cheapenBeside M k1 x2 = (if x2 < 0 then (0, M) else (if x2 < 64 then (let x27 : Int32 := (lp_X5_cheapenBeside_17 k1 x2 3 0 0 M).1; (let M28 : bM := (lp_X5_cheapenBeside_17 k1 x2 3 0 0 M).2; (x27, M28))) else (0, M))) := rfl
theorem p_X5_cheapenBeside_e2 (M : bM) (k1 : Nat) (x2 : Int32) (c1 : x2 < 0) : f_X5_cheapenBeside M k1 x2 = (0, M) := by exact Eq.trans (u_f_X5_cheapenBeside M k1 x2) (if_pos c1)
theorem p_X5_cheapenBeside_e8 (M : bM) (k1 : Nat) (x2 : Int32) (x5 : Int32) (M6 : bM) (i4 : Nat)  : lp_X5_cheapenBeside_17 k1 x2 0 i4 x5 M6 = (x5, M6) := by exact u0_lp_X5_cheapenBeside_17 k1 x2 i4 x5 M6
theorem p_X5_cheapenBeside_e12 (M : bM) (k1 : Nat) (x2 : Int32) (x5 : Int32) (M6 : bM) (i4 : Nat) (n4 : Nat) (x10 : Int32) (hx10 : (M6 24 ((x2 * 3) + nI i4).toNatClampNeg) = x10) (c11 : x10 < 0) : lp_X5_cheapenBeside_17 k1 x2 (n4 + 1) i4 x5 M6 = lp_X5_cheapenBeside_17 k1 x2 n4 (i4 + 1) x5 M6 := by subst hx10; exact Eq.trans (u1_lp_X5_cheapenBeside_17 k1 x2 n4 i4 x5 M6) (if_pos c11)
theorem p_X5_cheapenBeside_e14 (M : bM) (k1 : Nat) (x2 : Int32) (x5 : Int32) (M6 : bM) (i4 : Nat) (n4 : Nat) (x10 : Int32) (hx10 : (M6 24 ((x2 * 3) + nI i4).toNatClampNeg) = x10) (c11 : ¬ x10 < 0) (c13 : 64 ≤ x10) : lp_X5_cheapenBeside_17 k1 x2 (n4 + 1) i4 x5 M6 = lp_X5_cheapenBeside_17 k1 x2 n4 (i4 + 1) x5 M6 := by subst hx10; exact Eq.trans (u1_lp_X5_cheapenBeside_17 k1 x2 n4 i4 x5 M6) (Eq.trans (if_neg c11) (if_pos c13))
theorem p_X5_cheapenBeside_e16 (M : bM) (k1 : Nat) (x2 : Int32) (x5 : Int32) (M6 : bM) (i4 : Nat) (n4 : Nat) (x10 : Int32) (hx10 : (M6 24 ((x2 * 3) + nI i4).toNatClampNeg) = x10) (c11 : ¬ x10 < 0) (c13 : ¬ 64 ≤ x10) (c15 : 64 ≤ x10) : lp_X5_cheapenBeside_17 k1 x2 (n4 + 1) i4 x5 M6 = lp_X5_cheapenBeside_17 k1 x2 n4 (i4 + 1) x5 M6 := by subst hx10; exact Eq.trans (u1_lp_X5_cheapenBeside_17 k1 x2 n4 i4 x5 M6) (Eq.trans (if_neg c11) (Eq.trans (if_neg c13) (if_pos c15)))
theorem p_X5_cheapenBeside_e18 (M : bM) (k1 : Nat) (x2 : Int32) (x5 : Int32) (M6 : bM) (i4 : Nat) (n4 : Nat) (x10 : Int32) (hx10 : (M6 24 ((x2 * 3) + nI i4).toNatClampNeg) = x10) (c11 : ¬ x10 < 0) (c13 : ¬ 64 ≤ x10) (c15 : ¬ 64 ≤ x10) (c17 : (M6 25 x10.toNatClampNeg) = 0) : lp_X5_cheapenBeside_17 k1 x2 (n4 + 1) i4 x5 M6 = lp_X5_cheapenBeside_17 k1 x2 n4 (i4 + 1) x5 M6 := by subst hx10; exact Eq.trans (u1_lp_X5_cheapenBeside_17 k1 x2 n4 i4 x5 M6) (Eq.trans (if_neg c11) (Eq.trans (if_neg c13) (Eq.trans (if_neg c15) (if_pos c17))))
theorem p_X5_cheapenBeside_e22 (M : bM) (k1 : Nat) (x2 : Int32) (x5 : Int32) (M6 : bM) (i4 : Nat) (n4 : Nat) (x10 : Int32) (hx10 : (M6 24 ((x2 * 3) + nI i4).toNatClampNeg) = x10) (c11 : ¬ x10 < 0) (c13 : ¬ 64 ≤ x10) (c15 : ¬ 64 ≤ x10) (c17 : ¬ (M6 25 x10.toNatClampNeg) = 0) (x19 : Int32) (hx19 : ((M6 26 x2.toNatClampNeg) + (M6 k1 x10.toNatClampNeg)) = x19) (c20 : (M6 26 x10.toNatClampNeg) = (-1)) (M21 : bM) (hM21 : up2 M6 26 x10.toNatClampNeg x19 = M21) : lp_X5_cheapenBeside_17 k1 x2 (n4 + 1) i4 x5 M6 = lp_X5_cheapenBeside_17 k1 x2 n4 (i4 + 1) 1 M21 := by subst hM21 hx19 hx10; exact Eq.trans (u1_lp_X5_cheapenBeside_17 k1 x2 n4 i4 x5 M6) (Eq.trans (if_neg c11) (Eq.trans (if_neg c13) (Eq.trans (if_neg c15) (Eq.trans (if_neg c17) (if_pos c20)))))
theorem p_X5_cheapenBeside_e24 (M : bM) (k1 : Nat) (x2 : Int32) (x5 : Int32) (M6 : bM) (i4 : Nat) (n4 : Nat) (x10 : Int32) (hx10 : (M6 24 ((x2 * 3) + nI i4).toNatClampNeg) = x10) (c11 : ¬ x10 < 0) (c13 : ¬ 64 ≤ x10) (c15 : ¬ 64 ≤ x10) (c17 : ¬ (M6 25 x10.toNatClampNeg) = 0) (x19 : Int32) (hx19 : ((M6 26 x2.toNatClampNeg) + (M6 k1 x10.toNatClampNeg)) = x19) (c20 : ¬ (M6 26 x10.toNatClampNeg) = (-1)) (c23 : (M6 26 x10.toNatClampNeg) ≤ x19) : lp_X5_cheapenBeside_17 k1 x2 (n4 + 1) i4 x5 M6 = lp_X5_cheapenBeside_17 k1 x2 n4 (i4 + 1) x5 M6 := by subst hx19 hx10; exact Eq.trans (u1_lp_X5_cheapenBeside_17 k1 x2 n4 i4 x5 M6) (Eq.trans (if_neg c11) (Eq.trans (if_neg c13) (Eq.trans (if_neg c15) (Eq.trans (if_neg c17) (Eq.trans (if_neg c20) (if_pos c23))))))
theorem p_X5_cheapenBeside_e26 (M : bM) (k1 : Nat) (x2 : Int32) (x5 : Int32) (M6 : bM) (i4 : Nat) (n4 : Nat) (x10 : Int32) (hx10 : (M6 24 ((x2 * 3) + nI i4).toNatClampNeg) = x10) (c11 : ¬ x10 < 0) (c13 : ¬ 64 ≤ x10) (c15 : ¬ 64 ≤ x10) (c17 : ¬ (M6 25 x10.toNatClampNeg) = 0) (x19 : Int32) (hx19 : ((M6 26 x2.toNatClampNeg) + (M6 k1 x10.toNatClampNeg)) = x19) (c20 : ¬ (M6 26 x10.toNatClampNeg) = (-1)) (c23 : ¬ (M6 26 x10.toNatClampNeg) ≤ x19) (M25 : bM) (hM25 : up2 M6 26 x10.toNatClampNeg x19 = M25) : lp_X5_cheapenBeside_17 k1 x2 (n4 + 1) i4 x5 M6 = lp_X5_cheapenBeside_17 k1 x2 n4 (i4 + 1) 1 M25 := by subst hM25 hx19 hx10; exact Eq.trans (u1_lp_X5_cheapenBeside_17 k1 x2 n4 i4 x5 M6) (Eq.trans (if_neg c11) (Eq.trans (if_neg c13) (Eq.trans (if_neg c15) (Eq.trans (if_neg c17) (Eq.trans (if_neg c20) (if_neg c23))))))
theorem p_X5_cheapenBeside_e29 (M : bM) (k1 : Nat) (x2 : Int32) (c1 : ¬ x2 < 0) (c3 : x2 < 64) (x27 : Int32) (hx27 : (lp_X5_cheapenBeside_17 k1 x2 3 0 0 M).1 = x27) (M28 : bM) (hM28 : (lp_X5_cheapenBeside_17 k1 x2 3 0 0 M).2 = M28) : f_X5_cheapenBeside M k1 x2 = (x27, M28) := by subst hM28 hx27; exact Eq.trans (u_f_X5_cheapenBeside M k1 x2) (Eq.trans (if_neg c1) (if_pos c3))
theorem p_X5_cheapenBeside_e30 (M : bM) (k1 : Nat) (x2 : Int32) (c1 : ¬ x2 < 0) (c3 : ¬ x2 < 64) : f_X5_cheapenBeside M k1 x2 = (0, M) := by exact Eq.trans (u_f_X5_cheapenBeside M k1 x2) (Eq.trans (if_neg c1) (if_neg c3))
set_option maxHeartbeats 4000000 in
set_option maxRecDepth 100000 in
theorem c_X5_cheapenBeside (l : Launch) (D : va_G) (E : Nat → ClassId) (o : Nat) (M : bM) (k1 : Nat) (x2 : Int32) (hk1 : LRM[k1]? = some (.inl (0, 64))) : Met l yX5_cheapenBeside wsX5_cheapenBeside (rmF 0) (bPc D E [.ref (o + 23), .ref (o + k1), .int x2] (fun H => bk D E LRM o M H)) (bQ (aI fun r H => ∃ M1 : bM, (r = (f_X5_cheapenBeside M k1 x2).1 ∧ M1 = (f_X5_cheapenBeside M k1 x2).2) ∧ bk D E LRM o M1 H) (rA o)) 0 0 (rA o) := by
  refine Met.ofW (cc := cX5_cheapenBeside) (maxL := 7) (ret := (some .boolean)) (by decide) rfl ?_
  intro p e s m args below meth c s₁ B hml hv
  obtain ⟨rfl, hB, hK⟩ := hv
  have hx := B.exec
  have hb := B.bytes
  have hr := B.returns
  have hts := atoms_spec (ws := wsX5_cheapenBeside) B.pre
  have hown : s.vm.findClass RX5 = some m.cls := findClass_of_methodNamed B.named
  have hlocks := B.notSynchronized
  have hS : bS (rA o) s.heap s.heap [] := bS.rf
  have hl := lv_entry ([.ref (o + 23), .ref (o + k1), .int x2]) (n := 7) (Nat.le_of_ble_eq_true rfl)
  rw [lg_entry_eq]
  generalize (lg_sl ([.ref (o + 23), .ref (o + k1), .int x2]) ++ List.replicate (7 - (lg_sl ([.ref (o + 23), .ref (o + k1), .int x2])).length) Slot.unset).toArray = ls at hl ⊢
  have hl : lv_has ls 7 [(0, .ref (o + 23)), (1, .ref (o + k1)), (2, .int x2)] := hl
  have hB : bk D E LRM o M s.heap := hB
  have hinX5 : ∀ w ∈ wsX50, w ∈ wsX5_cheapenBeside := by decide +kernel
  refine lv_iconst (v := 0) hx hb dX5_cheapenBeside_0 (by decide) ?_
  refine lv_istore_n (lv' := [(3, .int 0), (0, .ref (o + 23)), (1, .ref (o + k1)), (2, .int x2)]) hx hb dX5_cheapenBeside_1 rfl hl (by decide) rfl (fun ls hl => ?_)
  refine lv_iload_n hx hb dX5_cheapenBeside_2 rfl (lv_at hl 3 rfl) ?_
  refine lv_if_lt (tgt := 12) hx hb dX5_cheapenBeside_3 (by decide) (fun c1 => ?_) (fun c1 => ?_)
  · refine lv_iconst (v := 0) hx hb dX5_cheapenBeside_12 (by decide) ?_
    have e2 := p_X5_cheapenBeside_e2 M k1 x2 c1
    exact b_zret hx hb hr rfl hlocks hS ⟨_, rfl, _, ⟨(congrArg Prod.fst e2).symm, (congrArg Prod.snd e2).symm⟩, hB⟩ dX5_cheapenBeside_13
  · refine lv_iload_n hx hb dX5_cheapenBeside_6 rfl (lv_at hl 3 rfl) ?_
    refine lv_bipush (v := 64) hx hb dX5_cheapenBeside_7 (by decide) ?_
    refine lv_icmp_lt (tgt := 14) hx hb dX5_cheapenBeside_9 (by decide) (fun c3 => ?_) (fun c3 => ?_)
    · refine lv_iconst (v := 0) hx hb dX5_cheapenBeside_14 (by decide) ?_
      refine lv_istore (lv' := [(4, .int 0), (3, .int 0), (0, .ref (o + 23)), (1, .ref (o + k1)), (2, .int x2)]) hx hb dX5_cheapenBeside_15 hl (by decide) rfl (fun ls hl => ?_)
      have lp4 : ∀ (n4 i4 : Nat) (x5 : Int32) (M6 : bM), i4 + n4 = 3 → (x5 = 0 ∨ x5 = 1) → ∀ (H : Heap) (locs : List Loc), bk D E LRM o M6 H → bS (rA o) s.heap H locs → ∀ ls : Array Slot, lv_has ls 7 [(4, .int (nI i4)), (3, .int x5), (0, .ref (o + 23)), (1, .ref (o + k1)), (2, .int x2)] → (∀ (H : Heap) (locs : List Loc), ((lp_X5_cheapenBeside_17 k1 x2 n4 i4 x5 M6).1 = 0 ∨ (lp_X5_cheapenBeside_17 k1 x2 n4 i4 x5 M6).1 = 1) → bk D E LRM o ((lp_X5_cheapenBeside_17 k1 x2 n4 i4 x5 M6).2) H → bS (rA o) s.heap H locs → ∀ ls : Array Slot, lv_has ls 7 [(3, .int ((lp_X5_cheapenBeside_17 k1 x2 n4 i4 x5 M6).1)), (0, .ref (o + 23)), (1, .ref (o + k1)), (2, .int x2)] → W p l e (headSpec wsX5_cheapenBeside (rmF 0)).room s m ([.ref (o + 23), .ref (o + k1), .int x2] : List Value).toArray below meth c H locs 0 0 (MQ below (bQ (aI fun r H => ∃ M1 : bM, (r = (f_X5_cheapenBeside M k1 x2).1 ∧ M1 = (f_X5_cheapenBeside M k1 x2).2) ∧ bk D E LRM o M1 H) (rA o)) ([.ref (o + 23), .ref (o + k1), .int x2] : List Value).toArray s 0 0 (rA o)) (F0 m 118 ls [])) → W p l e (headSpec wsX5_cheapenBeside (rmF 0)).room s m ([.ref (o + 23), .ref (o + k1), .int x2] : List Value).toArray below meth c H locs 0 0 (MQ below (bQ (aI fun r H => ∃ M1 : bM, (r = (f_X5_cheapenBeside M k1 x2).1 ∧ M1 = (f_X5_cheapenBeside M k1 x2).2) ∧ bk D E LRM o M1 H) (rA o)) ([.ref (o + 23), .ref (o + k1), .int x2] : List Value).toArray s 0 0 (rA o)) (F0 m 17 ls []) := by
        intro n4
        induction n4 with
        | zero =>
          intro i4 x5 M6 hi4 hv0_4 H locs hB hS ls hl hexit4
          have hz4 : i4 = 3 := by omega
          refine lv_iload hx hb dX5_cheapenBeside_17 (lv_at hl 0 rfl) ?_
          refine lv_iconst (v := 3) hx hb dX5_cheapenBeside_19 (by decide) ?_
          refine lv_icmp_ge (tgt := 118) hx hb dX5_cheapenBeside_20 (by decide) (fun c7 => ?_) (fun c7 => absurd (by rw [hz4]; exact Int32.le_refl _) c7)
          have e8 := p_X5_cheapenBeside_e8 M k1 x2 x5 M6 i4 
          rw [e8] at hexit4
          exact hexit4 _ _  hv0_4 hB hS ls (lv_sub hl [1, 2, 3, 4] rfl)
        | succ n4 ih4 =>
          intro i4 x5 M6 hi4 hv0_4 H locs hB hS ls hl hexit4
          refine lv_iload hx hb dX5_cheapenBeside_17 (lv_at hl 0 rfl) ?_
          refine lv_iconst (v := 3) hx hb dX5_cheapenBeside_19 (by decide) ?_
          refine lv_icmp_ge (tgt := 118) hx hb dX5_cheapenBeside_20 (by decide) (fun c9 => absurd c9 (nI_ge (a := i4) (b := 3) (by omega) (by decide))) (fun c9 => ?_)
          refine lv_aload_n hx hb dX5_cheapenBeside_23 rfl (lv_at hl 2 rfl) ?_
          refine b_get (D := D) (E := E) (L := LRM) (o := o) (M := M6) (v := .ref (o + 24)) (C := RX5) (T := TX5) (N := 6) hx hb hts hinX5 hown hK.1 hB 23 lay_23 rfl 0 (by decide) (hts (.fieldLink RX5 9 "RiverMeeting$Ways" "beside" "[I") (List.mem_of_getElem? (i := 1) rfl)) (fun _ h9 => h9) rfl dX5_cheapenBeside_24 ?_
          refine lv_iload_n hx hb dX5_cheapenBeside_27 rfl (lv_at hl 4 rfl) ?_
          refine lv_iconst (v := 3) hx hb dX5_cheapenBeside_28 (by decide) ?_
          refine lv_imul hx hb dX5_cheapenBeside_29 ?_
          refine lv_iload hx hb dX5_cheapenBeside_30 (lv_at hl 0 rfl) ?_
          refine lv_iadd hx hb dX5_cheapenBeside_32 ?_
          refine b_iald hx hb hK.1 hB 24 lay_24 (in_cd (in_of' (N := 64) rfl (by decide) c1 c3) (j := i4) (by omega)) dX5_cheapenBeside_33 ?_
          refine lv_topi (fun x10 hx10 => ?_)
          refine lv_istore (lv' := [(5, .int x10), (4, .int (nI i4)), (3, .int x5), (0, .ref (o + 23)), (1, .ref (o + k1)), (2, .int x2)]) hx hb dX5_cheapenBeside_34 hl (by decide) rfl (fun ls hl => ?_)
          refine lv_iload hx hb dX5_cheapenBeside_36 (lv_at hl 0 rfl) ?_
          refine lv_if_lt (tgt := 112) hx hb dX5_cheapenBeside_38 (by decide) (fun c11 => ?_) (fun c11 => ?_)
          · refine lv_iinc (v := nI (i4 + 1)) (lv' := [(4, .int (nI (i4 + 1))), (5, .int x10), (3, .int x5), (0, .ref (o + 23)), (1, .ref (o + k1)), (2, .int x2)]) hx hb dX5_cheapenBeside_112 hl (k := 1) rfl (nI_1 i4) (by decide) rfl (fun ls hl => ?_)
            refine lv_goto (tgt := 17) hx hb dX5_cheapenBeside_115 (by decide) ?_
            have e12 := p_X5_cheapenBeside_e12 M k1 x2 x5 M6 i4 n4 x10 hx10.symm c11
            rw [e12] at hexit4
            exact ih4 (i4 + 1) x5 M6 (by omega) hv0_4 _ _ hB hS ls (lv_sub hl [0, 2, 3, 4, 5] rfl) hexit4
          · refine lv_iload hx hb dX5_cheapenBeside_41 (lv_at hl 0 rfl) ?_
            refine lv_bipush (v := 64) hx hb dX5_cheapenBeside_43 (by decide) ?_
            refine lv_icmp_ge (tgt := 112) hx hb dX5_cheapenBeside_45 (by decide) (fun c13 => ?_) (fun c13 => ?_)
            · refine lv_iinc (v := nI (i4 + 1)) (lv' := [(4, .int (nI (i4 + 1))), (5, .int x10), (3, .int x5), (0, .ref (o + 23)), (1, .ref (o + k1)), (2, .int x2)]) hx hb dX5_cheapenBeside_112 hl (k := 1) rfl (nI_1 i4) (by decide) rfl (fun ls hl => ?_)
              refine lv_goto (tgt := 17) hx hb dX5_cheapenBeside_115 (by decide) ?_
              have e14 := p_X5_cheapenBeside_e14 M k1 x2 x5 M6 i4 n4 x10 hx10.symm c11 c13
              rw [e14] at hexit4
              exact ih4 (i4 + 1) x5 M6 (by omega) hv0_4 _ _ hB hS ls (lv_sub hl [0, 2, 3, 4, 5] rfl) hexit4
            · refine lv_iload hx hb dX5_cheapenBeside_48 (lv_at hl 0 rfl) ?_
              refine lv_aload_n hx hb dX5_cheapenBeside_50 rfl (lv_at hl 4 rfl) ?_
              refine b_alen hx hb hK.1 hB k1 hk1 (v := 64) rfl dX5_cheapenBeside_51 ?_
              refine lv_icmp_ge (tgt := 112) hx hb dX5_cheapenBeside_52 (by decide) (fun c15 => ?_) (fun c15 => ?_)
              · refine lv_iinc (v := nI (i4 + 1)) (lv' := [(4, .int (nI (i4 + 1))), (5, .int x10), (3, .int x5), (0, .ref (o + 23)), (1, .ref (o + k1)), (2, .int x2)]) hx hb dX5_cheapenBeside_112 hl (k := 1) rfl (nI_1 i4) (by decide) rfl (fun ls hl => ?_)
                refine lv_goto (tgt := 17) hx hb dX5_cheapenBeside_115 (by decide) ?_
                have e16 := p_X5_cheapenBeside_e16 M k1 x2 x5 M6 i4 n4 x10 hx10.symm c11 c13 c15
                rw [e16] at hexit4
                exact ih4 (i4 + 1) x5 M6 (by omega) hv0_4 _ _ hB hS ls (lv_sub hl [0, 2, 3, 4, 5] rfl) hexit4
              · refine lv_aload_n hx hb dX5_cheapenBeside_55 rfl (lv_at hl 3 rfl) ?_
                refine b_get (D := D) (E := E) (L := LRM) (o := o) (M := M6) (v := .ref (o + 25)) (C := RX5) (T := TX5) (N := 6) hx hb hts hinX5 hown hK.1 hB 23 lay_23 rfl 1 (by decide) (hts (.fieldLink RX5 15 "RiverMeeting$Ways" "open" "[Z") (List.mem_of_getElem? (i := 2) rfl)) (fun _ h9 => h9) rfl dX5_cheapenBeside_56 ?_
                refine lv_iload hx hb dX5_cheapenBeside_59 (lv_at hl 0 rfl) ?_
                refine b_zald hx hb hK.1 hB 25 lay_25 (in_of (N := 64) rfl (by decide) c11 c15) dX5_cheapenBeside_61 ?_
                refine lv_if_eq (tgt := 112) hx hb dX5_cheapenBeside_62 (by decide) (fun c17 => ?_) (fun c17 => ?_)
                · refine lv_iinc (v := nI (i4 + 1)) (lv' := [(4, .int (nI (i4 + 1))), (5, .int x10), (3, .int x5), (0, .ref (o + 23)), (1, .ref (o + k1)), (2, .int x2)]) hx hb dX5_cheapenBeside_112 hl (k := 1) rfl (nI_1 i4) (by decide) rfl (fun ls hl => ?_)
                  refine lv_goto (tgt := 17) hx hb dX5_cheapenBeside_115 (by decide) ?_
                  have e18 := p_X5_cheapenBeside_e18 M k1 x2 x5 M6 i4 n4 x10 hx10.symm c11 c13 c15 c17
                  rw [e18] at hexit4
                  exact ih4 (i4 + 1) x5 M6 (by omega) hv0_4 _ _ hB hS ls (lv_sub hl [0, 2, 3, 4, 5] rfl) hexit4
                · refine lv_aload_n hx hb dX5_cheapenBeside_65 rfl (lv_at hl 3 rfl) ?_
                  refine b_get (D := D) (E := E) (L := LRM) (o := o) (M := M6) (v := .ref (o + 26)) (C := RX5) (T := TX5) (N := 6) hx hb hts hinX5 hown hK.1 hB 23 lay_23 rfl 2 (by decide) (hts (.fieldLink RX5 19 "RiverMeeting$Ways" "far" "[I") (List.mem_of_getElem? (i := 3) rfl)) (fun _ h9 => h9) rfl dX5_cheapenBeside_66 ?_
                  refine lv_iload_n hx hb dX5_cheapenBeside_69 rfl (lv_at hl 5 rfl) ?_
                  refine b_iald hx hb hK.1 hB 26 lay_26 (in_of' (N := 64) rfl (by decide) c1 c3) dX5_cheapenBeside_70 ?_
                  refine lv_aload_n hx hb dX5_cheapenBeside_71 rfl (lv_at hl 4 rfl) ?_
                  refine lv_iload hx hb dX5_cheapenBeside_72 (lv_at hl 0 rfl) ?_
                  refine b_iald hx hb hK.1 hB k1 hk1 (in_of (N := 64) rfl (by decide) c11 c15) dX5_cheapenBeside_74 ?_
                  refine lv_iadd hx hb dX5_cheapenBeside_75 ?_
                  refine lv_topi (fun x19 hx19 => ?_)
                  refine lv_istore (lv' := [(6, .int x19), (5, .int x10), (4, .int (nI i4)), (3, .int x5), (0, .ref (o + 23)), (1, .ref (o + k1)), (2, .int x2)]) hx hb dX5_cheapenBeside_76 hl (by decide) rfl (fun ls hl => ?_)
                  refine lv_aload_n hx hb dX5_cheapenBeside_78 rfl (lv_at hl 4 rfl) ?_
                  refine b_get (D := D) (E := E) (L := LRM) (o := o) (M := M6) (v := .ref (o + 26)) (C := RX5) (T := TX5) (N := 6) hx hb hts hinX5 hown hK.1 hB 23 lay_23 rfl 2 (by decide) (hts (.fieldLink RX5 19 "RiverMeeting$Ways" "far" "[I") (List.mem_of_getElem? (i := 3) rfl)) (fun _ h9 => h9) rfl dX5_cheapenBeside_79 ?_
                  refine lv_iload hx hb dX5_cheapenBeside_82 (lv_at hl 1 rfl) ?_
                  refine b_iald hx hb hK.1 hB 26 lay_26 (in_of (N := 64) rfl (by decide) c11 c15) dX5_cheapenBeside_84 ?_
                  refine lv_iconst (v := (-1)) hx hb dX5_cheapenBeside_85 (by decide) ?_
                  refine lv_icmp_eq (tgt := 101) hx hb dX5_cheapenBeside_86 (by decide) (fun c20 => ?_) (fun c20 => ?_)
                  · refine lv_aload_n hx hb dX5_cheapenBeside_101 rfl (lv_at hl 4 rfl) ?_
                    refine b_get (D := D) (E := E) (L := LRM) (o := o) (M := M6) (v := .ref (o + 26)) (C := RX5) (T := TX5) (N := 6) hx hb hts hinX5 hown hK.1 hB 23 lay_23 rfl 2 (by decide) (hts (.fieldLink RX5 19 "RiverMeeting$Ways" "far" "[I") (List.mem_of_getElem? (i := 3) rfl)) (fun _ h9 => h9) rfl dX5_cheapenBeside_102 ?_
                    refine lv_iload hx hb dX5_cheapenBeside_105 (lv_at hl 1 rfl) ?_
                    refine lv_iload hx hb dX5_cheapenBeside_107 (lv_at hl 0 rfl) ?_
                    refine b_iast hx hb hK.1 hB hS 26 (rA_of lay_26) lay_26 (in_of (N := 64) rfl (by decide) c11 c15) dX5_cheapenBeside_109 (fun M21 hM21 H locs hB _ hS => ?_)
                    refine lv_iconst (v := 1) hx hb dX5_cheapenBeside_110 (by decide) ?_
                    refine lv_istore_n (lv' := [(3, .int 1), (6, .int x19), (5, .int x10), (4, .int (nI i4)), (0, .ref (o + 23)), (1, .ref (o + k1)), (2, .int x2)]) hx hb dX5_cheapenBeside_111 rfl hl (by decide) rfl (fun ls hl => ?_)
                    refine lv_iinc (v := nI (i4 + 1)) (lv' := [(4, .int (nI (i4 + 1))), (3, .int 1), (6, .int x19), (5, .int x10), (0, .ref (o + 23)), (1, .ref (o + k1)), (2, .int x2)]) hx hb dX5_cheapenBeside_112 hl (k := 3) rfl (nI_1 i4) (by decide) rfl (fun ls hl => ?_)
                    refine lv_goto (tgt := 17) hx hb dX5_cheapenBeside_115 (by decide) ?_
                    have e22 := p_X5_cheapenBeside_e22 M k1 x2 x5 M6 i4 n4 x10 hx10.symm c11 c13 c15 c17 x19 hx19.symm c20 M21 hM21.symm
                    rw [e22] at hexit4
                    exact ih4 (i4 + 1) 1 M21 (by omega) (Or.inr rfl) _ _ hB hS ls (lv_sub hl [0, 1, 4, 5, 6] rfl) hexit4
                  · refine lv_iload hx hb dX5_cheapenBeside_89 (lv_at hl 0 rfl) ?_
                    refine lv_aload_n hx hb dX5_cheapenBeside_91 rfl (lv_at hl 4 rfl) ?_
                    refine b_get (D := D) (E := E) (L := LRM) (o := o) (M := M6) (v := .ref (o + 26)) (C := RX5) (T := TX5) (N := 6) hx hb hts hinX5 hown hK.1 hB 23 lay_23 rfl 2 (by decide) (hts (.fieldLink RX5 19 "RiverMeeting$Ways" "far" "[I") (List.mem_of_getElem? (i := 3) rfl)) (fun _ h9 => h9) rfl dX5_cheapenBeside_92 ?_
                    refine lv_iload hx hb dX5_cheapenBeside_95 (lv_at hl 1 rfl) ?_
                    refine b_iald hx hb hK.1 hB 26 lay_26 (in_of (N := 64) rfl (by decide) c11 c15) dX5_cheapenBeside_97 ?_
                    refine lv_icmp_ge (tgt := 112) hx hb dX5_cheapenBeside_98 (by decide) (fun c23 => ?_) (fun c23 => ?_)
                    · refine lv_iinc (v := nI (i4 + 1)) (lv' := [(4, .int (nI (i4 + 1))), (6, .int x19), (5, .int x10), (3, .int x5), (0, .ref (o + 23)), (1, .ref (o + k1)), (2, .int x2)]) hx hb dX5_cheapenBeside_112 hl (k := 2) rfl (nI_1 i4) (by decide) rfl (fun ls hl => ?_)
                      refine lv_goto (tgt := 17) hx hb dX5_cheapenBeside_115 (by decide) ?_
                      have e24 := p_X5_cheapenBeside_e24 M k1 x2 x5 M6 i4 n4 x10 hx10.symm c11 c13 c15 c17 x19 hx19.symm c20 c23
                      rw [e24] at hexit4
                      exact ih4 (i4 + 1) x5 M6 (by omega) hv0_4 _ _ hB hS ls (lv_sub hl [0, 3, 4, 5, 6] rfl) hexit4
                    · refine lv_aload_n hx hb dX5_cheapenBeside_101 rfl (lv_at hl 4 rfl) ?_
                      refine b_get (D := D) (E := E) (L := LRM) (o := o) (M := M6) (v := .ref (o + 26)) (C := RX5) (T := TX5) (N := 6) hx hb hts hinX5 hown hK.1 hB 23 lay_23 rfl 2 (by decide) (hts (.fieldLink RX5 19 "RiverMeeting$Ways" "far" "[I") (List.mem_of_getElem? (i := 3) rfl)) (fun _ h9 => h9) rfl dX5_cheapenBeside_102 ?_
                      refine lv_iload hx hb dX5_cheapenBeside_105 (lv_at hl 1 rfl) ?_
                      refine lv_iload hx hb dX5_cheapenBeside_107 (lv_at hl 0 rfl) ?_
                      refine b_iast hx hb hK.1 hB hS 26 (rA_of lay_26) lay_26 (in_of (N := 64) rfl (by decide) c11 c15) dX5_cheapenBeside_109 (fun M25 hM25 H locs hB _ hS => ?_)
                      refine lv_iconst (v := 1) hx hb dX5_cheapenBeside_110 (by decide) ?_
                      refine lv_istore_n (lv' := [(3, .int 1), (6, .int x19), (5, .int x10), (4, .int (nI i4)), (0, .ref (o + 23)), (1, .ref (o + k1)), (2, .int x2)]) hx hb dX5_cheapenBeside_111 rfl hl (by decide) rfl (fun ls hl => ?_)
                      refine lv_iinc (v := nI (i4 + 1)) (lv' := [(4, .int (nI (i4 + 1))), (3, .int 1), (6, .int x19), (5, .int x10), (0, .ref (o + 23)), (1, .ref (o + k1)), (2, .int x2)]) hx hb dX5_cheapenBeside_112 hl (k := 3) rfl (nI_1 i4) (by decide) rfl (fun ls hl => ?_)
                      refine lv_goto (tgt := 17) hx hb dX5_cheapenBeside_115 (by decide) ?_
                      have e26 := p_X5_cheapenBeside_e26 M k1 x2 x5 M6 i4 n4 x10 hx10.symm c11 c13 c15 c17 x19 hx19.symm c20 c23 M25 hM25.symm
                      rw [e26] at hexit4
                      exact ih4 (i4 + 1) 1 M25 (by omega) (Or.inr rfl) _ _ hB hS ls (lv_sub hl [0, 1, 4, 5, 6] rfl) hexit4
      refine lp4 3 0 0 M (by omega) (Or.inl rfl) _ _ hB hS ls (lv_sub hl [0, 1, 2, 3, 4] rfl) ?_
      intro H locs hw0_4 hB hS ls hl
      obtain ⟨x27, hx27⟩ : ∃ y : Int32, y = (lp_X5_cheapenBeside_17 k1 x2 3 0 0 M).1 := ⟨_, rfl⟩
      rw [← hx27] at hl hw0_4
      obtain ⟨M28, hM28⟩ : ∃ y : bM, y = (lp_X5_cheapenBeside_17 k1 x2 3 0 0 M).2 := ⟨_, rfl⟩
      rw [← hM28] at hB
      have hl : lv_has ls 7 [(3, .int x27), (0, .ref (o + 23)), (1, .ref (o + k1)), (2, .int x2)] := hl
      refine lv_iload_n hx hb dX5_cheapenBeside_118 rfl (lv_at hl 0 rfl) ?_
      have e29 := p_X5_cheapenBeside_e29 M k1 x2 c1 c3 x27 hx27.symm M28 hM28.symm
      exact b_zret hx hb hr (nar_z hw0_4) hlocks hS ⟨_, rfl, _, ⟨(congrArg Prod.fst e29).symm, (congrArg Prod.snd e29).symm⟩, hB⟩ dX5_cheapenBeside_119
    · refine lv_iconst (v := 0) hx hb dX5_cheapenBeside_12 (by decide) ?_
      have e30 := p_X5_cheapenBeside_e30 M k1 x2 c1 c3
      exact b_zret hx hb hr rfl hlocks hS ⟨_, rfl, _, ⟨(congrArg Prod.fst e30).symm, (congrArg Prod.snd e30).symm⟩, hB⟩ dX5_cheapenBeside_13
def lp_X5_cheapestCellFirst_7 (k1 : Nat) : Nat → Nat → bM → (Bool × Int32 × bM)
  | 0, i2, M3 => (false, 0, M3)
  | n2 + 1, i2, M3 => (let r7 : Int32 := f_X5_cheapestUnsettled M3; (let r8 : Int32 := f_X6_fits r7; (if r8 = 0 then (true, (-1), M3) else (if (r7 / 8) = 7 then (true, (M3 26 r7.toNatClampNeg), M3) else (let M11 : bM := up2 M3 29 r7.toNatClampNeg 1; (let r13 : Int32 := (f_X5_cheapenBeside M11 k1 r7).1; (let M12 : bM := (f_X5_cheapenBeside M11 k1 r7).2; lp_X5_cheapestCellFirst_7 k1 n2 (i2 + 1) M12)))))))
theorem u0_lp_X5_cheapestCellFirst_7 (k1 : Nat) (i2 : Nat) (M3 : bM) : lp_X5_cheapestCellFirst_7 k1 0 i2 M3 = (false, 0, M3) := rfl
theorem u1_lp_X5_cheapestCellFirst_7 (k1 : Nat) (n2 i2 : Nat) (M3 : bM) : lp_X5_cheapestCellFirst_7 k1 (n2 + 1) i2 M3 = (let r7 : Int32 := f_X5_cheapestUnsettled M3; (let r8 : Int32 := f_X6_fits r7; (if r8 = 0 then (true, (-1), M3) else (if (r7 / 8) = 7 then (true, (M3 26 r7.toNatClampNeg), M3) else (let M11 : bM := up2 M3 29 r7.toNatClampNeg 1; (let r13 : Int32 := (f_X5_cheapenBeside M11 k1 r7).1; (let M12 : bM := (f_X5_cheapenBeside M11 k1 r7).2; lp_X5_cheapestCellFirst_7 k1 n2 (i2 + 1) M12))))))) := rfl
def f_X5_cheapestCellFirst (M : bM) (k1 : Nat) (x2 : Int32) : Int32 × bM := (let M1 : bM := f_X5_beginFrom M x2; (if (lp_X5_cheapestCellFirst_7 k1 64 0 M1).1 = true then ((lp_X5_cheapestCellFirst_7 k1 64 0 M1).2.1, (lp_X5_cheapestCellFirst_7 k1 64 0 M1).2.2) else (let M18 : bM := (lp_X5_cheapestCellFirst_7 k1 64 0 M1).2.2; ((-1), M18))))
theorem u_f_X5_cheapestCellFirst (M : bM) (k1 : Nat) (x2 : Int32) : f_X5_cheapestCellFirst M k1 x2 = (let M1 : bM := f_X5_beginFrom M x2; (if (lp_X5_cheapestCellFirst_7 k1 64 0 M1).1 = true then ((lp_X5_cheapestCellFirst_7 k1 64 0 M1).2.1, (lp_X5_cheapestCellFirst_7 k1 64 0 M1).2.2) else (let M18 : bM := (lp_X5_cheapestCellFirst_7 k1 64 0 M1).2.2; ((-1), M18)))) := rfl
theorem p_X5_cheapestCellFirst_e5 (M : bM) (k1 : Nat) (x2 : Int32) (M1 : bM) (M3 : bM) (i2 : Nat)  : lp_X5_cheapestCellFirst_7 k1 0 i2 M3 = (false, 0, M3) := by exact u0_lp_X5_cheapestCellFirst_7 k1 i2 M3
theorem p_X5_cheapestCellFirst_e14 (M : bM) (k1 : Nat) (x2 : Int32) (M1 : bM) (M3 : bM) (i2 : Nat) (n2 : Nat) (r7 : Int32) (hr7 : f_X5_cheapestUnsettled M3 = r7) (r8 : Int32) (hr8 : f_X6_fits r7 = r8) (c9 : ¬ r8 = 0) (c10 : ¬ (r7 / 8) = 7) (M11 : bM) (hM11 : up2 M3 29 r7.toNatClampNeg 1 = M11) (r13 : Int32) (hr13 : (f_X5_cheapenBeside M11 k1 r7).1 = r13) (M12 : bM) (hM12 : (f_X5_cheapenBeside M11 k1 r7).2 = M12) : lp_X5_cheapestCellFirst_7 k1 (n2 + 1) i2 M3 = lp_X5_cheapestCellFirst_7 k1 n2 (i2 + 1) M12 := by subst hM12 hr13 hM11 hr8 hr7; exact Eq.trans (u1_lp_X5_cheapestCellFirst_7 k1 n2 i2 M3) (Eq.trans (if_neg c9) (if_neg c10))
theorem p_X5_cheapestCellFirst_e15 (M : bM) (k1 : Nat) (x2 : Int32) (M1 : bM) (M3 : bM) (i2 : Nat) (n2 : Nat) (r7 : Int32) (hr7 : f_X5_cheapestUnsettled M3 = r7) (r8 : Int32) (hr8 : f_X6_fits r7 = r8) (c9 : ¬ r8 = 0) (c10 : (r7 / 8) = 7) : lp_X5_cheapestCellFirst_7 k1 (n2 + 1) i2 M3 = (true, (M3 26 r7.toNatClampNeg), M3) := by subst hr8 hr7; exact Eq.trans (u1_lp_X5_cheapestCellFirst_7 k1 n2 i2 M3) (Eq.trans (if_neg c9) (if_pos c10))
theorem p_X5_cheapestCellFirst_e16 (M : bM) (k1 : Nat) (x2 : Int32) (M1 : bM) (M3 : bM) (i2 : Nat) (n2 : Nat) (r7 : Int32) (hr7 : f_X5_cheapestUnsettled M3 = r7) (r8 : Int32) (hr8 : f_X6_fits r7 = r8) (c9 : r8 = 0) : lp_X5_cheapestCellFirst_7 k1 (n2 + 1) i2 M3 = (true, (-1), M3) := by subst hr8 hr7; exact Eq.trans (u1_lp_X5_cheapestCellFirst_7 k1 n2 i2 M3) (if_pos c9)
theorem p_X5_cheapestCellFirst_e17 (M : bM) (k1 : Nat) (x2 : Int32) (M1 : bM) (hM1 : f_X5_beginFrom M x2 = M1) (hfl2 : (lp_X5_cheapestCellFirst_7 k1 64 0 M1).1 = true) : f_X5_cheapestCellFirst M k1 x2 = ((lp_X5_cheapestCellFirst_7 k1 64 0 M1).2.1, (lp_X5_cheapestCellFirst_7 k1 64 0 M1).2.2) := by subst hM1; exact Eq.trans (u_f_X5_cheapestCellFirst M k1 x2) (if_pos hfl2)
theorem p_X5_cheapestCellFirst_e19 (M : bM) (k1 : Nat) (x2 : Int32) (M1 : bM) (hM1 : f_X5_beginFrom M x2 = M1) (hfl2 : (lp_X5_cheapestCellFirst_7 k1 64 0 M1).1 = false) (M18 : bM) (hM18 : (lp_X5_cheapestCellFirst_7 k1 64 0 M1).2.2 = M18) : f_X5_cheapestCellFirst M k1 x2 = ((-1), M18) := by subst hM18 hM1; exact Eq.trans (u_f_X5_cheapestCellFirst M k1 x2) (if_neg (fun h9 => Bool.noConfusion (h9.symm.trans hfl2)))
set_option maxHeartbeats 4000000 in
set_option maxRecDepth 100000 in
theorem c_X5_cheapestCellFirst (l : Launch) (D : va_G) (E : Nat → ClassId) (o : Nat) (M : bM) (k1 : Nat) (x2 : Int32) (hk1 : LRM[k1]? = some (.inl (0, 64))) : Met l yX5_cheapestCellFirst wsX5_cheapestCellFirst (rmF 1) (bPc D E [.ref (o + 23), .ref (o + k1), .int x2] (fun H => bk D E LRM o M H)) (bQ (aI fun r H => ∃ M1 : bM, (r = (f_X5_cheapestCellFirst M k1 x2).1 ∧ M1 = (f_X5_cheapestCellFirst M k1 x2).2) ∧ bk D E LRM o M1 H) (rA o)) 0 0 (rA o) := by
  refine Met.ofW (cc := cX5_cheapestCellFirst) (maxL := 5) (ret := (some .int)) (by decide) rfl ?_
  intro p e s m args below meth c s₁ B hml hv
  obtain ⟨rfl, hB, hK⟩ := hv
  have hx := B.exec
  have hb := B.bytes
  have hr := B.returns
  have hts := atoms_spec (ws := wsX5_cheapestCellFirst) B.pre
  have hown : s.vm.findClass RX5 = some m.cls := findClass_of_methodNamed B.named
  have hlocks := B.notSynchronized
  have hS : bS (rA o) s.heap s.heap [] := bS.rf
  have hl := lv_entry ([.ref (o + 23), .ref (o + k1), .int x2]) (n := 5) (Nat.le_of_ble_eq_true rfl)
  rw [lg_entry_eq]
  generalize (lg_sl ([.ref (o + 23), .ref (o + k1), .int x2]) ++ List.replicate (5 - (lg_sl ([.ref (o + 23), .ref (o + k1), .int x2])).length) Slot.unset).toArray = ls at hl ⊢
  have hl : lv_has ls 5 [(0, .ref (o + 23)), (1, .ref (o + k1)), (2, .int x2)] := hl
  have hB : bk D E LRM o M s.heap := hB
  have hinX5 : ∀ w ∈ wsX50, w ∈ wsX5_cheapestCellFirst := by decide +kernel
  refine lv_aload_n hx hb dX5_cheapestCellFirst_0 rfl (lv_at hl 0 rfl) ?_
  refine lv_iload_n hx hb dX5_cheapestCellFirst_1 rfl (lv_at hl 2 rfl) ?_
  refine b_mV (b_runV (As := [.int x2]) (rest := []) ⟨hx, hb, hml, hown, hts⟩ (c_X5_beginFrom l D E o M x2) (cwV 1 hts gX5_cheapestCellFirst_X5_beginFrom rfl rfl rfl (by decide +kernel) ⟨Nat.le_of_ble_eq_true rfl, Nat.le_of_ble_eq_true rfl⟩) hK (bk_recv hK.1 hB lay_23 rfl) hB rfl hl rfl (Nat.le_of_ble_eq_true rfl) dX5_cheapestCellFirst_2 ⟨Nat.zero_le _, Nat.zero_le _⟩) hS (fun q h => h) (fun M1 hM1 H locs hB _ hS => ?_)
  refine lv_iconst (v := 0) hx hb dX5_cheapestCellFirst_5 (by decide) ?_
  refine lv_istore_n (lv' := [(3, .int 0), (0, .ref (o + 23)), (1, .ref (o + k1)), (2, .int x2)]) hx hb dX5_cheapestCellFirst_6 rfl hl (by decide) rfl (fun ls hl => ?_)
  have lp2 : ∀ (n2 i2 : Nat) (M3 : bM), i2 + n2 = 64 → ∀ (H : Heap) (locs : List Loc), bk D E LRM o M3 H → bS (rA o) s.heap H locs → ∀ ls : Array Slot, lv_has ls 5 [(3, .int (nI i2)), (0, .ref (o + 23)), (1, .ref (o + k1)), (2, .int x2)] → (∀ H : Heap, (lp_X5_cheapestCellFirst_7 k1 n2 i2 M3).1 = true → bk D E LRM o ((lp_X5_cheapestCellFirst_7 k1 n2 i2 M3).2.2) H → (aI fun r H => ∃ M1 : bM, (r = (f_X5_cheapestCellFirst M k1 x2).1 ∧ M1 = (f_X5_cheapestCellFirst M k1 x2).2) ∧ bk D E LRM o M1 H) (some (.int (lp_X5_cheapestCellFirst_7 k1 n2 i2 M3).2.1)) H) → (∀ (H : Heap) (locs : List Loc), (lp_X5_cheapestCellFirst_7 k1 n2 i2 M3).1 = false → bk D E LRM o ((lp_X5_cheapestCellFirst_7 k1 n2 i2 M3).2.2) H → bS (rA o) s.heap H locs → ∀ ls : Array Slot, lv_has ls 5 [(0, .ref (o + 23)), (1, .ref (o + k1)), (2, .int x2)] → W p l e (headSpec wsX5_cheapestCellFirst (rmF 1)).room s m ([.ref (o + 23), .ref (o + k1), .int x2] : List Value).toArray below meth c H locs 0 0 (MQ below (bQ (aI fun r H => ∃ M1 : bM, (r = (f_X5_cheapestCellFirst M k1 x2).1 ∧ M1 = (f_X5_cheapestCellFirst M k1 x2).2) ∧ bk D E LRM o M1 H) (rA o)) ([.ref (o + 23), .ref (o + k1), .int x2] : List Value).toArray s 0 0 (rA o)) (F0 m 69 ls [])) → W p l e (headSpec wsX5_cheapestCellFirst (rmF 1)).room s m ([.ref (o + 23), .ref (o + k1), .int x2] : List Value).toArray below meth c H locs 0 0 (MQ below (bQ (aI fun r H => ∃ M1 : bM, (r = (f_X5_cheapestCellFirst M k1 x2).1 ∧ M1 = (f_X5_cheapestCellFirst M k1 x2).2) ∧ bk D E LRM o M1 H) (rA o)) ([.ref (o + 23), .ref (o + k1), .int x2] : List Value).toArray s 0 0 (rA o)) (F0 m 7 ls []) := by
    intro n2
    induction n2 with
    | zero =>
      intro i2 M3 hi2 H locs hB hS ls hl hret2 hexit2
      have hz2 : i2 = 64 := by omega
      refine lv_iload_n hx hb dX5_cheapestCellFirst_7 rfl (lv_at hl 0 rfl) ?_
      refine lv_bipush (v := 64) hx hb dX5_cheapestCellFirst_8 (by decide) ?_
      refine lv_icmp_ge (tgt := 69) hx hb dX5_cheapestCellFirst_10 (by decide) (fun c4 => ?_) (fun c4 => absurd (by rw [hz2]; exact Int32.le_refl _) c4)
      have e5 := p_X5_cheapestCellFirst_e5 M k1 x2 M1 M3 i2 
      rw [e5] at hexit2
      exact hexit2 _ _ rfl hB hS ls (lv_sub hl [1, 2, 3] rfl)
    | succ n2 ih2 =>
      intro i2 M3 hi2 H locs hB hS ls hl hret2 hexit2
      refine lv_iload_n hx hb dX5_cheapestCellFirst_7 rfl (lv_at hl 0 rfl) ?_
      refine lv_bipush (v := 64) hx hb dX5_cheapestCellFirst_8 (by decide) ?_
      refine lv_icmp_ge (tgt := 69) hx hb dX5_cheapestCellFirst_10 (by decide) (fun c6 => absurd c6 (nI_ge (a := i2) (b := 64) (by omega) (by decide))) (fun c6 => ?_)
      refine lv_aload_n hx hb dX5_cheapestCellFirst_13 rfl (lv_at hl 1 rfl) ?_
      refine b_pI (b_runV (As := []) (rest := []) ⟨hx, hb, hml, hown, hts⟩ (c_X5_cheapestUnsettled l D E o M3) (cwV 0 hts gX5_cheapestCellFirst_X5_cheapestUnsettled rfl rfl rfl (by decide +kernel) ⟨Nat.le_of_ble_eq_true rfl, Nat.le_of_ble_eq_true rfl⟩) hK (bk_recv hK.1 hB lay_23 rfl) hB rfl hl rfl (Nat.le_of_ble_eq_true rfl) dX5_cheapestCellFirst_14 ⟨Nat.zero_le _, Nat.zero_le _⟩) hS (fun r7 hr7 locs hS => ?_)
      refine lv_istore (lv' := [(4, .int r7), (3, .int (nI i2)), (0, .ref (o + 23)), (1, .ref (o + k1)), (2, .int x2)]) hx hb dX5_cheapestCellFirst_17 hl (by decide) rfl (fun ls hl => ?_)
      refine lv_iload hx hb dX5_cheapestCellFirst_19 (lv_at hl 0 rfl) ?_
      refine b_pI (b_runSN (As := [.int r7]) (rest := []) ⟨hx, hb, hml, hown, hts⟩ (c_X6_fits l D E r7) ⟨va_cnB (host := "RiverMeeting") 1 hts gX5_cheapestCellFirst_X6_fits_n56 rfl rfl rfl (hK.2 1 _ rfl) (hts (.initialized RX6) (List.mem_of_getElem? (i := 14) rfl)) (by decide +kernel) ⟨Nat.le_of_ble_eq_true rfl, Nat.le_of_ble_eq_true rfl⟩, (hts (.static yX6_fits) (List.mem_of_getElem? (i := 13) rfl)), trivial⟩ hK trivial rfl hl rfl (Nat.le_of_ble_eq_true rfl) dX5_cheapestCellFirst_21 ⟨Nat.zero_le _, Nat.zero_le _⟩) hS (fun r8 hr8 locs hS => ?_)
      refine lv_if_ne (tgt := 29) hx hb dX5_cheapestCellFirst_24 (by decide) (fun c9 => ?_) (fun c9 => ?_)
      · refine lv_iload hx hb dX5_cheapestCellFirst_29 (lv_at hl 0 rfl) ?_
        refine lv_bipush (v := 8) hx hb dX5_cheapestCellFirst_31 (by decide) ?_
        refine lv_idiv hx hb dX5_cheapestCellFirst_33 (by decide) ?_
        refine lv_bipush (v := 7) hx hb dX5_cheapestCellFirst_34 (by decide) ?_
        refine lv_icmp_ne (tgt := 47) hx hb dX5_cheapestCellFirst_36 (by decide) (fun c10 => ?_) (fun c10 => ?_)
        · refine lv_aload_n hx hb dX5_cheapestCellFirst_47 rfl (lv_at hl 2 rfl) ?_
          refine b_get (D := D) (E := E) (L := LRM) (o := o) (M := M3) (v := .ref (o + 29)) (C := RX5) (T := TX5) (N := 6) hx hb hts hinX5 hown hK.1 hB 23 lay_23 rfl 5 (by decide) (hts (.fieldLink RX5 28 "RiverMeeting$Ways" "settled" "[Z") (List.mem_of_getElem? (i := 2) rfl)) (fun _ h9 => h9) rfl dX5_cheapestCellFirst_48 ?_
          refine lv_iload hx hb dX5_cheapestCellFirst_51 (lv_at hl 0 rfl) ?_
          refine lv_iconst (v := 1) hx hb dX5_cheapestCellFirst_53 (by decide) ?_
          refine b_zast hx hb hK.1 hB hS 29 (rA_of lay_29) lay_29 (fits_in (hr8 ▸ c9)) dX5_cheapestCellFirst_54 (fun M11 hM11 H locs hB _ hS => ?_)
          rw [show vp_nar .boolean 1 = 1 from rfl] at hM11
          refine lv_aload_n hx hb dX5_cheapestCellFirst_55 rfl (lv_at hl 2 rfl) ?_
          refine lv_aload_n hx hb dX5_cheapestCellFirst_56 rfl (lv_at hl 3 rfl) ?_
          refine lv_iload hx hb dX5_cheapestCellFirst_57 (lv_at hl 0 rfl) ?_
          refine b_mI (b_runV (As := [.ref (o + k1), .int r7]) (rest := []) ⟨hx, hb, hml, hown, hts⟩ (c_X5_cheapenBeside l D E o M11 k1 r7 hk1) (cwV 2 hts gX5_cheapestCellFirst_X5_cheapenBeside rfl rfl rfl (by decide +kernel) ⟨Nat.le_of_ble_eq_true rfl, Nat.le_of_ble_eq_true rfl⟩) hK (bk_recv hK.1 hB lay_23 rfl) hB rfl hl rfl (Nat.le_of_ble_eq_true rfl) dX5_cheapestCellFirst_59 ⟨Nat.zero_le _, Nat.zero_le _⟩) hS (fun q h => h) (fun r13 M12 hM12 H locs hB _ hS => ?_)
          obtain ⟨hr13, hM12⟩ := hM12
          refine lv_pop hx hb dX5_cheapestCellFirst_62 rfl ?_
          refine lv_iinc (v := nI (i2 + 1)) (lv' := [(3, .int (nI (i2 + 1))), (4, .int r7), (0, .ref (o + 23)), (1, .ref (o + k1)), (2, .int x2)]) hx hb dX5_cheapestCellFirst_63 hl (k := 1) rfl (nI_1 i2) (by decide) rfl (fun ls hl => ?_)
          refine lv_goto (tgt := 7) hx hb dX5_cheapestCellFirst_66 (by decide) ?_
          have e14 := p_X5_cheapestCellFirst_e14 M k1 x2 M1 M3 i2 n2 r7 hr7.symm r8 hr8.symm c9 c10 M11 hM11.symm r13 hr13.symm M12 hM12.symm
          rw [e14] at hexit2 hret2
          exact ih2 (i2 + 1) M12 (by omega) _ _ hB hS ls (lv_sub hl [0, 2, 3, 4] rfl) hret2 hexit2
        · refine lv_aload_n hx hb dX5_cheapestCellFirst_39 rfl (lv_at hl 2 rfl) ?_
          refine b_get (D := D) (E := E) (L := LRM) (o := o) (M := M3) (v := .ref (o + 26)) (C := RX5) (T := TX5) (N := 6) hx hb hts hinX5 hown hK.1 hB 23 lay_23 rfl 2 (by decide) (hts (.fieldLink RX5 19 "RiverMeeting$Ways" "far" "[I") (List.mem_of_getElem? (i := 1) rfl)) (fun _ h9 => h9) rfl dX5_cheapestCellFirst_40 ?_
          refine lv_iload hx hb dX5_cheapestCellFirst_43 (lv_at hl 0 rfl) ?_
          refine b_iald hx hb hK.1 hB 26 lay_26 (fits_in (hr8 ▸ c9)) dX5_cheapestCellFirst_45 ?_
          have e15 := p_X5_cheapestCellFirst_e15 M k1 x2 M1 M3 i2 n2 r7 hr7.symm r8 hr8.symm c9 c10
          rw [e15] at hret2
          exact b_iret hx hb hr hlocks hS (hret2 _ rfl hB) dX5_cheapestCellFirst_46
      · refine lv_iconst (v := (-1)) hx hb dX5_cheapestCellFirst_27 (by decide) ?_
        have e16 := p_X5_cheapestCellFirst_e16 M k1 x2 M1 M3 i2 n2 r7 hr7.symm r8 hr8.symm c9
        rw [e16] at hret2
        exact b_iret hx hb hr hlocks hS (hret2 _ rfl hB) dX5_cheapestCellFirst_28
  refine lp2 64 0 M1 (by omega) _ _ hB hS ls (lv_sub hl [0, 1, 2, 3] rfl) (fun H hfl2 hB => ?_) ?_
  · have e17 := p_X5_cheapestCellFirst_e17 M k1 x2 M1 hM1.symm hfl2
    exact ⟨_, rfl, _, ⟨(congrArg Prod.fst e17).symm, (congrArg Prod.snd e17).symm⟩, hB⟩
  intro H locs hfl2 hB hS ls hl
  obtain ⟨M18, hM18⟩ : ∃ y : bM, y = (lp_X5_cheapestCellFirst_7 k1 64 0 M1).2.2 := ⟨_, rfl⟩
  rw [← hM18] at hB
  have hl : lv_has ls 5 [(0, .ref (o + 23)), (1, .ref (o + k1)), (2, .int x2)] := hl
  refine lv_iconst (v := (-1)) hx hb dX5_cheapestCellFirst_69 (by decide) ?_
  have e19 := p_X5_cheapestCellFirst_e19 M k1 x2 M1 hM1.symm hfl2 M18 hM18.symm
  exact b_iret hx hb hr hlocks hS ⟨_, rfl, _, ⟨(congrArg Prod.fst e19).symm, (congrArg Prod.snd e19).symm⟩, hB⟩ dX5_cheapestCellFirst_70
def lp_X5_cheapestByRounds_26 (k1 : Nat) : Nat → Nat → Int32 → bM → (Int32 × bM)
  | 0, i10, x11, M12 => (x11, M12)
  | n10 + 1, i10, x11, M12 => (if (M12 26 i10) = (-1) then lp_X5_cheapestByRounds_26 k1 n10 (i10 + 1) x11 M12 else (let r19 : Int32 := (f_X5_cheapenBeside M12 k1 (nI i10)).1; (let M18 : bM := (f_X5_cheapenBeside M12 k1 (nI i10)).2; (if r19 = 0 then lp_X5_cheapestByRounds_26 k1 n10 (i10 + 1) x11 M18 else lp_X5_cheapestByRounds_26 k1 n10 (i10 + 1) 1 M18))))
theorem u0_lp_X5_cheapestByRounds_26 (k1 : Nat) (i10 : Nat) (x11 : Int32) (M12 : bM) : lp_X5_cheapestByRounds_26 k1 0 i10 x11 M12 = (x11, M12) := rfl
theorem u1_lp_X5_cheapestByRounds_26 (k1 : Nat) (n10 i10 : Nat) (x11 : Int32) (M12 : bM) : lp_X5_cheapestByRounds_26 k1 (n10 + 1) i10 x11 M12 = (if (M12 26 i10) = (-1) then lp_X5_cheapestByRounds_26 k1 n10 (i10 + 1) x11 M12 else (let r19 : Int32 := (f_X5_cheapenBeside M12 k1 (nI i10)).1; (let M18 : bM := (f_X5_cheapenBeside M12 k1 (nI i10)).2; (if r19 = 0 then lp_X5_cheapestByRounds_26 k1 n10 (i10 + 1) x11 M18 else lp_X5_cheapestByRounds_26 k1 n10 (i10 + 1) 1 M18)))) := rfl
def lp_X5_cheapestByRounds_10 (k1 : Nat) : Nat → Nat → Int32 → bM → (Int32 × bM)
  | 0, i2, x3, M4 => (x3, M4)
  | n2 + 1, i2, x3, M4 => (if x3 = 0 then (x3, M4) else (let x23 : Int32 := (lp_X5_cheapestByRounds_26 k1 64 0 0 M4).1; (let M24 : bM := (lp_X5_cheapestByRounds_26 k1 64 0 0 M4).2; lp_X5_cheapestByRounds_10 k1 n2 (i2 + 1) x23 M24)))
theorem u0_lp_X5_cheapestByRounds_10 (k1 : Nat) (i2 : Nat) (x3 : Int32) (M4 : bM) : lp_X5_cheapestByRounds_10 k1 0 i2 x3 M4 = (x3, M4) := rfl
theorem u1_lp_X5_cheapestByRounds_10 (k1 : Nat) (n2 i2 : Nat) (x3 : Int32) (M4 : bM) : lp_X5_cheapestByRounds_10 k1 (n2 + 1) i2 x3 M4 = (if x3 = 0 then (x3, M4) else (let x23 : Int32 := (lp_X5_cheapestByRounds_26 k1 64 0 0 M4).1; (let M24 : bM := (lp_X5_cheapestByRounds_26 k1 64 0 0 M4).2; lp_X5_cheapestByRounds_10 k1 n2 (i2 + 1) x23 M24))) := rfl
def lp_X5_cheapestByRounds_75 (M27 : bM) : Nat → Nat → Int32 → (Int32)
  | 0, i28, x29 => x29
  | n28 + 1, i28, x29 => (if (M27 26 i28) = (-1) then lp_X5_cheapestByRounds_75 M27 n28 (i28 + 1) x29 else (if x29 = (-1) then (let x36 : Int32 := (M27 26 i28); lp_X5_cheapestByRounds_75 M27 n28 (i28 + 1) x36) else (if x29 ≤ (M27 26 i28) then lp_X5_cheapestByRounds_75 M27 n28 (i28 + 1) x29 else (let x40 : Int32 := (M27 26 i28); lp_X5_cheapestByRounds_75 M27 n28 (i28 + 1) x40))))
theorem u0_lp_X5_cheapestByRounds_75 (M27 : bM) (i28 : Nat) (x29 : Int32) : lp_X5_cheapestByRounds_75 M27 0 i28 x29 = x29 := rfl
theorem u1_lp_X5_cheapestByRounds_75 (M27 : bM) (n28 i28 : Nat) (x29 : Int32) : lp_X5_cheapestByRounds_75 M27 (n28 + 1) i28 x29 = (if (M27 26 i28) = (-1) then lp_X5_cheapestByRounds_75 M27 n28 (i28 + 1) x29 else (if x29 = (-1) then (let x36 : Int32 := (M27 26 i28); lp_X5_cheapestByRounds_75 M27 n28 (i28 + 1) x36) else (if x29 ≤ (M27 26 i28) then lp_X5_cheapestByRounds_75 M27 n28 (i28 + 1) x29 else (let x40 : Int32 := (M27 26 i28); lp_X5_cheapestByRounds_75 M27 n28 (i28 + 1) x40)))) := rfl
def f_X5_cheapestByRounds (M : bM) (k1 : Nat) (x2 : Int32) : Int32 × bM := (let M1 : bM := f_X5_beginFrom M x2; (let x26 : Int32 := (lp_X5_cheapestByRounds_10 k1 64 0 1 M1).1; (let M27 : bM := (lp_X5_cheapestByRounds_10 k1 64 0 1 M1).2; (let x42 : Int32 := (lp_X5_cheapestByRounds_75 M27 8 56 (-1)); (x42, M27)))))
theorem u_f_X5_cheapestByRounds (M : bM) (k1 : Nat) (x2 : Int32) : f_X5_cheapestByRounds M k1 x2 = (let M1 : bM := f_X5_beginFrom M x2; (let x26 : Int32 := (lp_X5_cheapestByRounds_10 k1 64 0 1 M1).1; (let M27 : bM := (lp_X5_cheapestByRounds_10 k1 64 0 1 M1).2; (let x42 : Int32 := (lp_X5_cheapestByRounds_75 M27 8 56 (-1)); (x42, M27))))) := rfl
theorem p_X5_cheapestByRounds_e6 (M : bM) (k1 : Nat) (x2 : Int32) (M1 : bM) (x3 : Int32) (M4 : bM) (i2 : Nat)  : lp_X5_cheapestByRounds_10 k1 0 i2 x3 M4 = (x3, M4) := by exact u0_lp_X5_cheapestByRounds_10 k1 i2 x3 M4
theorem p_X5_cheapestByRounds_e9 (M : bM) (k1 : Nat) (x2 : Int32) (M1 : bM) (x3 : Int32) (M4 : bM) (i2 : Nat) (n2 : Nat) (c8 : x3 = 0) : lp_X5_cheapestByRounds_10 k1 (n2 + 1) i2 x3 M4 = (x3, M4) := by exact Eq.trans (u1_lp_X5_cheapestByRounds_10 k1 n2 i2 x3 M4) (if_pos c8)
theorem p_X5_cheapestByRounds_e14 (M : bM) (k1 : Nat) (x2 : Int32) (M1 : bM) (x3 : Int32) (M4 : bM) (i2 : Nat) (x11 : Int32) (M12 : bM) (i10 : Nat)  : lp_X5_cheapestByRounds_26 k1 0 i10 x11 M12 = (x11, M12) := by exact u0_lp_X5_cheapestByRounds_26 k1 i10 x11 M12
theorem p_X5_cheapestByRounds_e17 (M : bM) (k1 : Nat) (x2 : Int32) (M1 : bM) (x3 : Int32) (M4 : bM) (i2 : Nat) (x11 : Int32) (M12 : bM) (i10 : Nat) (n10 : Nat) (c16 : (M12 26 i10) = (-1)) : lp_X5_cheapestByRounds_26 k1 (n10 + 1) i10 x11 M12 = lp_X5_cheapestByRounds_26 k1 n10 (i10 + 1) x11 M12 := by exact Eq.trans (u1_lp_X5_cheapestByRounds_26 k1 n10 i10 x11 M12) (if_pos c16)
theorem p_X5_cheapestByRounds_e21 (M : bM) (k1 : Nat) (x2 : Int32) (M1 : bM) (x3 : Int32) (M4 : bM) (i2 : Nat) (x11 : Int32) (M12 : bM) (i10 : Nat) (n10 : Nat) (c16 : ¬ (M12 26 i10) = (-1)) (r19 : Int32) (hr19 : (f_X5_cheapenBeside M12 k1 (nI i10)).1 = r19) (M18 : bM) (hM18 : (f_X5_cheapenBeside M12 k1 (nI i10)).2 = M18) (c20 : r19 = 0) : lp_X5_cheapestByRounds_26 k1 (n10 + 1) i10 x11 M12 = lp_X5_cheapestByRounds_26 k1 n10 (i10 + 1) x11 M18 := by subst hM18 hr19; exact Eq.trans (u1_lp_X5_cheapestByRounds_26 k1 n10 i10 x11 M12) (Eq.trans (if_neg c16) (if_pos c20))
theorem p_X5_cheapestByRounds_e22 (M : bM) (k1 : Nat) (x2 : Int32) (M1 : bM) (x3 : Int32) (M4 : bM) (i2 : Nat) (x11 : Int32) (M12 : bM) (i10 : Nat) (n10 : Nat) (c16 : ¬ (M12 26 i10) = (-1)) (r19 : Int32) (hr19 : (f_X5_cheapenBeside M12 k1 (nI i10)).1 = r19) (M18 : bM) (hM18 : (f_X5_cheapenBeside M12 k1 (nI i10)).2 = M18) (c20 : ¬ r19 = 0) : lp_X5_cheapestByRounds_26 k1 (n10 + 1) i10 x11 M12 = lp_X5_cheapestByRounds_26 k1 n10 (i10 + 1) 1 M18 := by subst hM18 hr19; exact Eq.trans (u1_lp_X5_cheapestByRounds_26 k1 n10 i10 x11 M12) (Eq.trans (if_neg c16) (if_neg c20))
theorem p_X5_cheapestByRounds_e25 (M : bM) (k1 : Nat) (x2 : Int32) (M1 : bM) (x3 : Int32) (M4 : bM) (i2 : Nat) (n2 : Nat) (c8 : ¬ x3 = 0) (x23 : Int32) (hx23 : (lp_X5_cheapestByRounds_26 k1 64 0 0 M4).1 = x23) (M24 : bM) (hM24 : (lp_X5_cheapestByRounds_26 k1 64 0 0 M4).2 = M24) : lp_X5_cheapestByRounds_10 k1 (n2 + 1) i2 x3 M4 = lp_X5_cheapestByRounds_10 k1 n2 (i2 + 1) x23 M24 := by subst hM24 hx23; exact Eq.trans (u1_lp_X5_cheapestByRounds_10 k1 n2 i2 x3 M4) (if_neg c8)
theorem p_X5_cheapestByRounds_e31 (M : bM) (k1 : Nat) (x2 : Int32) (M1 : bM) (x26 : Int32) (M27 : bM) (x29 : Int32) (i28 : Nat)  : lp_X5_cheapestByRounds_75 M27 0 i28 x29 = x29 := by exact u0_lp_X5_cheapestByRounds_75 M27 i28 x29
theorem p_X5_cheapestByRounds_e34 (M : bM) (k1 : Nat) (x2 : Int32) (M1 : bM) (x26 : Int32) (M27 : bM) (x29 : Int32) (i28 : Nat) (n28 : Nat) (c33 : (M27 26 i28) = (-1)) : lp_X5_cheapestByRounds_75 M27 (n28 + 1) i28 x29 = lp_X5_cheapestByRounds_75 M27 n28 (i28 + 1) x29 := by exact Eq.trans (u1_lp_X5_cheapestByRounds_75 M27 n28 i28 x29) (if_pos c33)
theorem p_X5_cheapestByRounds_e37 (M : bM) (k1 : Nat) (x2 : Int32) (M1 : bM) (x26 : Int32) (M27 : bM) (x29 : Int32) (i28 : Nat) (n28 : Nat) (c33 : ¬ (M27 26 i28) = (-1)) (c35 : x29 = (-1)) (x36 : Int32) (hx36 : (M27 26 i28) = x36) : lp_X5_cheapestByRounds_75 M27 (n28 + 1) i28 x29 = lp_X5_cheapestByRounds_75 M27 n28 (i28 + 1) x36 := by subst hx36; exact Eq.trans (u1_lp_X5_cheapestByRounds_75 M27 n28 i28 x29) (Eq.trans (if_neg c33) (if_pos c35))
theorem p_X5_cheapestByRounds_e39 (M : bM) (k1 : Nat) (x2 : Int32) (M1 : bM) (x26 : Int32) (M27 : bM) (x29 : Int32) (i28 : Nat) (n28 : Nat) (c33 : ¬ (M27 26 i28) = (-1)) (c35 : ¬ x29 = (-1)) (c38 : x29 ≤ (M27 26 i28)) : lp_X5_cheapestByRounds_75 M27 (n28 + 1) i28 x29 = lp_X5_cheapestByRounds_75 M27 n28 (i28 + 1) x29 := by exact Eq.trans (u1_lp_X5_cheapestByRounds_75 M27 n28 i28 x29) (Eq.trans (if_neg c33) (Eq.trans (if_neg c35) (if_pos c38)))
theorem p_X5_cheapestByRounds_e41 (M : bM) (k1 : Nat) (x2 : Int32) (M1 : bM) (x26 : Int32) (M27 : bM) (x29 : Int32) (i28 : Nat) (n28 : Nat) (c33 : ¬ (M27 26 i28) = (-1)) (c35 : ¬ x29 = (-1)) (c38 : ¬ x29 ≤ (M27 26 i28)) (x40 : Int32) (hx40 : (M27 26 i28) = x40) : lp_X5_cheapestByRounds_75 M27 (n28 + 1) i28 x29 = lp_X5_cheapestByRounds_75 M27 n28 (i28 + 1) x40 := by subst hx40; exact Eq.trans (u1_lp_X5_cheapestByRounds_75 M27 n28 i28 x29) (Eq.trans (if_neg c33) (Eq.trans (if_neg c35) (if_neg c38)))
theorem p_X5_cheapestByRounds_e43 (M : bM) (k1 : Nat) (x2 : Int32) (M1 : bM) (hM1 : f_X5_beginFrom M x2 = M1) (x26 : Int32) (hx26 : (lp_X5_cheapestByRounds_10 k1 64 0 1 M1).1 = x26) (M27 : bM) (hM27 : (lp_X5_cheapestByRounds_10 k1 64 0 1 M1).2 = M27) (x42 : Int32) (hx42 : (lp_X5_cheapestByRounds_75 M27 8 56 (-1)) = x42) : f_X5_cheapestByRounds M k1 x2 = (x42, M27) := by subst hx42 hM27 hx26 hM1; exact u_f_X5_cheapestByRounds M k1 x2
set_option maxHeartbeats 4000000 in
set_option maxRecDepth 100000 in
theorem c_X5_cheapestByRounds (l : Launch) (D : va_G) (E : Nat → ClassId) (o : Nat) (M : bM) (k1 : Nat) (x2 : Int32) (hk1 : LRM[k1]? = some (.inl (0, 64))) : Met l yX5_cheapestByRounds wsX5_cheapestByRounds (rmF 1) (bPc D E [.ref (o + 23), .ref (o + k1), .int x2] (fun H => bk D E LRM o M H)) (bQ (aI fun r H => ∃ M1 : bM, (r = (f_X5_cheapestByRounds M k1 x2).1 ∧ M1 = (f_X5_cheapestByRounds M k1 x2).2) ∧ bk D E LRM o M1 H) (rA o)) 0 0 (rA o) := by
  refine Met.ofW (cc := cX5_cheapestByRounds) (maxL := 6) (ret := (some .int)) (by decide) rfl ?_
  intro p e s m args below meth c s₁ B hml hv
  obtain ⟨rfl, hB, hK⟩ := hv
  have hx := B.exec
  have hb := B.bytes
  have hr := B.returns
  have hts := atoms_spec (ws := wsX5_cheapestByRounds) B.pre
  have hown : s.vm.findClass RX5 = some m.cls := findClass_of_methodNamed B.named
  have hlocks := B.notSynchronized
  have hS : bS (rA o) s.heap s.heap [] := bS.rf
  have hl := lv_entry ([.ref (o + 23), .ref (o + k1), .int x2]) (n := 6) (Nat.le_of_ble_eq_true rfl)
  rw [lg_entry_eq]
  generalize (lg_sl ([.ref (o + 23), .ref (o + k1), .int x2]) ++ List.replicate (6 - (lg_sl ([.ref (o + 23), .ref (o + k1), .int x2])).length) Slot.unset).toArray = ls at hl ⊢
  have hl : lv_has ls 6 [(0, .ref (o + 23)), (1, .ref (o + k1)), (2, .int x2)] := hl
  have hB : bk D E LRM o M s.heap := hB
  have hinX5 : ∀ w ∈ wsX50, w ∈ wsX5_cheapestByRounds := by decide +kernel
  refine lv_aload_n hx hb dX5_cheapestByRounds_0 rfl (lv_at hl 0 rfl) ?_
  refine lv_iload_n hx hb dX5_cheapestByRounds_1 rfl (lv_at hl 2 rfl) ?_
  refine b_mV (b_runV (As := [.int x2]) (rest := []) ⟨hx, hb, hml, hown, hts⟩ (c_X5_beginFrom l D E o M x2) (cwV 1 hts gX5_cheapestByRounds_X5_beginFrom rfl rfl rfl (by decide +kernel) ⟨Nat.le_of_ble_eq_true rfl, Nat.le_of_ble_eq_true rfl⟩) hK (bk_recv hK.1 hB lay_23 rfl) hB rfl hl rfl (Nat.le_of_ble_eq_true rfl) dX5_cheapestByRounds_2 ⟨Nat.zero_le _, Nat.zero_le _⟩) hS (fun q h => h) (fun M1 hM1 H locs hB _ hS => ?_)
  refine lv_iconst (v := 1) hx hb dX5_cheapestByRounds_5 (by decide) ?_
  refine lv_istore_n (lv' := [(3, .int 1), (0, .ref (o + 23)), (1, .ref (o + k1)), (2, .int x2)]) hx hb dX5_cheapestByRounds_6 rfl hl (by decide) rfl (fun ls hl => ?_)
  refine lv_iconst (v := 0) hx hb dX5_cheapestByRounds_7 (by decide) ?_
  refine lv_istore (lv' := [(4, .int 0), (3, .int 1), (0, .ref (o + 23)), (1, .ref (o + k1)), (2, .int x2)]) hx hb dX5_cheapestByRounds_8 hl (by decide) rfl (fun ls hl => ?_)
  have lp2 : ∀ (n2 i2 : Nat) (x3 : Int32) (M4 : bM), i2 + n2 = 64 → ∀ (H : Heap) (locs : List Loc), bk D E LRM o M4 H → bS (rA o) s.heap H locs → ∀ ls : Array Slot, lv_has ls 6 [(4, .int (nI i2)), (3, .int x3), (0, .ref (o + 23)), (1, .ref (o + k1)), (2, .int x2)] → (∀ (H : Heap) (locs : List Loc), bk D E LRM o ((lp_X5_cheapestByRounds_10 k1 n2 i2 x3 M4).2) H → bS (rA o) s.heap H locs → ∀ ls : Array Slot, lv_has ls 6 [(3, .int ((lp_X5_cheapestByRounds_10 k1 n2 i2 x3 M4).1)), (0, .ref (o + 23)), (1, .ref (o + k1)), (2, .int x2)] → W p l e (headSpec wsX5_cheapestByRounds (rmF 1)).room s m ([.ref (o + 23), .ref (o + k1), .int x2] : List Value).toArray below meth c H locs 0 0 (MQ below (bQ (aI fun r H => ∃ M1 : bM, (r = (f_X5_cheapestByRounds M k1 x2).1 ∧ M1 = (f_X5_cheapestByRounds M k1 x2).2) ∧ bk D E LRM o M1 H) (rA o)) ([.ref (o + 23), .ref (o + k1), .int x2] : List Value).toArray s 0 0 (rA o)) (F0 m 68 ls [])) → W p l e (headSpec wsX5_cheapestByRounds (rmF 1)).room s m ([.ref (o + 23), .ref (o + k1), .int x2] : List Value).toArray below meth c H locs 0 0 (MQ below (bQ (aI fun r H => ∃ M1 : bM, (r = (f_X5_cheapestByRounds M k1 x2).1 ∧ M1 = (f_X5_cheapestByRounds M k1 x2).2) ∧ bk D E LRM o M1 H) (rA o)) ([.ref (o + 23), .ref (o + k1), .int x2] : List Value).toArray s 0 0 (rA o)) (F0 m 10 ls []) := by
    intro n2
    induction n2 with
    | zero =>
      intro i2 x3 M4 hi2 H locs hB hS ls hl hexit2
      have hz2 : i2 = 64 := by omega
      refine lv_iload hx hb dX5_cheapestByRounds_10 (lv_at hl 0 rfl) ?_
      refine lv_bipush (v := 64) hx hb dX5_cheapestByRounds_12 (by decide) ?_
      refine lv_icmp_ge (tgt := 68) hx hb dX5_cheapestByRounds_14 (by decide) (fun c5 => ?_) (fun c5 => absurd (by rw [hz2]; exact Int32.le_refl _) c5)
      have e6 := p_X5_cheapestByRounds_e6 M k1 x2 M1 x3 M4 i2 
      rw [e6] at hexit2
      exact hexit2 _ _  hB hS ls (lv_sub hl [1, 2, 3, 4] rfl)
    | succ n2 ih2 =>
      intro i2 x3 M4 hi2 H locs hB hS ls hl hexit2
      refine lv_iload hx hb dX5_cheapestByRounds_10 (lv_at hl 0 rfl) ?_
      refine lv_bipush (v := 64) hx hb dX5_cheapestByRounds_12 (by decide) ?_
      refine lv_icmp_ge (tgt := 68) hx hb dX5_cheapestByRounds_14 (by decide) (fun c7 => absurd c7 (nI_ge (a := i2) (b := 64) (by omega) (by decide))) (fun c7 => ?_)
      refine lv_iload_n hx hb dX5_cheapestByRounds_17 rfl (lv_at hl 1 rfl) ?_
      refine lv_if_eq (tgt := 68) hx hb dX5_cheapestByRounds_18 (by decide) (fun c8 => ?_) (fun c8 => ?_)
      · have e9 := p_X5_cheapestByRounds_e9 M k1 x2 M1 x3 M4 i2 n2 c8
        rw [e9] at hexit2
        exact hexit2 _ _  hB hS ls (lv_sub hl [1, 2, 3, 4] rfl)
      · refine lv_iconst (v := 0) hx hb dX5_cheapestByRounds_21 (by decide) ?_
        refine lv_istore_n (lv' := [(3, .int 0), (4, .int (nI i2)), (0, .ref (o + 23)), (1, .ref (o + k1)), (2, .int x2)]) hx hb dX5_cheapestByRounds_22 rfl hl (by decide) rfl (fun ls hl => ?_)
        refine lv_iconst (v := 0) hx hb dX5_cheapestByRounds_23 (by decide) ?_
        refine lv_istore (lv' := [(5, .int 0), (3, .int 0), (4, .int (nI i2)), (0, .ref (o + 23)), (1, .ref (o + k1)), (2, .int x2)]) hx hb dX5_cheapestByRounds_24 hl (by decide) rfl (fun ls hl => ?_)
        have lp10 : ∀ (n10 i10 : Nat) (x11 : Int32) (M12 : bM), i10 + n10 = 64 → ∀ (H : Heap) (locs : List Loc), bk D E LRM o M12 H → bS (rA o) s.heap H locs → ∀ ls : Array Slot, lv_has ls 6 [(5, .int (nI i10)), (3, .int x11), (4, .int (nI i2)), (0, .ref (o + 23)), (1, .ref (o + k1)), (2, .int x2)] → (∀ (H : Heap) (locs : List Loc), bk D E LRM o ((lp_X5_cheapestByRounds_26 k1 n10 i10 x11 M12).2) H → bS (rA o) s.heap H locs → ∀ ls : Array Slot, lv_has ls 6 [(3, .int ((lp_X5_cheapestByRounds_26 k1 n10 i10 x11 M12).1)), (4, .int (nI i2)), (0, .ref (o + 23)), (1, .ref (o + k1)), (2, .int x2)] → W p l e (headSpec wsX5_cheapestByRounds (rmF 1)).room s m ([.ref (o + 23), .ref (o + k1), .int x2] : List Value).toArray below meth c H locs 0 0 (MQ below (bQ (aI fun r H => ∃ M1 : bM, (r = (f_X5_cheapestByRounds M k1 x2).1 ∧ M1 = (f_X5_cheapestByRounds M k1 x2).2) ∧ bk D E LRM o M1 H) (rA o)) ([.ref (o + 23), .ref (o + k1), .int x2] : List Value).toArray s 0 0 (rA o)) (F0 m 62 ls [])) → W p l e (headSpec wsX5_cheapestByRounds (rmF 1)).room s m ([.ref (o + 23), .ref (o + k1), .int x2] : List Value).toArray below meth c H locs 0 0 (MQ below (bQ (aI fun r H => ∃ M1 : bM, (r = (f_X5_cheapestByRounds M k1 x2).1 ∧ M1 = (f_X5_cheapestByRounds M k1 x2).2) ∧ bk D E LRM o M1 H) (rA o)) ([.ref (o + 23), .ref (o + k1), .int x2] : List Value).toArray s 0 0 (rA o)) (F0 m 26 ls []) := by
          intro n10
          induction n10 with
          | zero =>
            intro i10 x11 M12 hi10 H locs hB hS ls hl hexit10
            have hz10 : i10 = 64 := by omega
            refine lv_iload hx hb dX5_cheapestByRounds_26 (lv_at hl 0 rfl) ?_
            refine lv_bipush (v := 64) hx hb dX5_cheapestByRounds_28 (by decide) ?_
            refine lv_icmp_ge (tgt := 62) hx hb dX5_cheapestByRounds_30 (by decide) (fun c13 => ?_) (fun c13 => absurd (by rw [hz10]; exact Int32.le_refl _) c13)
            have e14 := p_X5_cheapestByRounds_e14 M k1 x2 M1 x3 M4 i2 x11 M12 i10 
            rw [e14] at hexit10
            exact hexit10 _ _  hB hS ls (lv_sub hl [1, 2, 3, 4, 5] rfl)
          | succ n10 ih10 =>
            intro i10 x11 M12 hi10 H locs hB hS ls hl hexit10
            refine lv_iload hx hb dX5_cheapestByRounds_26 (lv_at hl 0 rfl) ?_
            refine lv_bipush (v := 64) hx hb dX5_cheapestByRounds_28 (by decide) ?_
            refine lv_icmp_ge (tgt := 62) hx hb dX5_cheapestByRounds_30 (by decide) (fun c15 => absurd c15 (nI_ge (a := i10) (b := 64) (by omega) (by decide))) (fun c15 => ?_)
            refine lv_aload_n hx hb dX5_cheapestByRounds_33 rfl (lv_at hl 3 rfl) ?_
            refine b_get (D := D) (E := E) (L := LRM) (o := o) (M := M12) (v := .ref (o + 26)) (C := RX5) (T := TX5) (N := 6) hx hb hts hinX5 hown hK.1 hB 23 lay_23 rfl 2 (by decide) (hts (.fieldLink RX5 19 "RiverMeeting$Ways" "far" "[I") (List.mem_of_getElem? (i := 1) rfl)) (fun _ h9 => h9) rfl dX5_cheapestByRounds_34 ?_
            refine lv_iload hx hb dX5_cheapestByRounds_37 (lv_at hl 0 rfl) ?_
            refine b_iald hx hb hK.1 hB 26 lay_26 (vp_in_nI (by omega) (by decide)) dX5_cheapestByRounds_39 ?_
            rw [nI_clamp (n := i10) (by omega)]
            refine lv_iconst (v := (-1)) hx hb dX5_cheapestByRounds_40 (by decide) ?_
            refine lv_icmp_eq (tgt := 56) hx hb dX5_cheapestByRounds_41 (by decide) (fun c16 => ?_) (fun c16 => ?_)
            · refine lv_iinc (v := nI (i10 + 1)) (lv' := [(5, .int (nI (i10 + 1))), (3, .int x11), (4, .int (nI i2)), (0, .ref (o + 23)), (1, .ref (o + k1)), (2, .int x2)]) hx hb dX5_cheapestByRounds_56 hl (k := 0) rfl (nI_1 i10) (by decide) rfl (fun ls hl => ?_)
              refine lv_goto (tgt := 26) hx hb dX5_cheapestByRounds_59 (by decide) ?_
              have e17 := p_X5_cheapestByRounds_e17 M k1 x2 M1 x3 M4 i2 x11 M12 i10 n10 c16
              rw [e17] at hexit10
              exact ih10 (i10 + 1) x11 M12 (by omega) _ _ hB hS ls (lv_sub hl [0, 1, 2, 3, 4, 5] rfl) hexit10
            · refine lv_aload_n hx hb dX5_cheapestByRounds_44 rfl (lv_at hl 3 rfl) ?_
              refine lv_aload_n hx hb dX5_cheapestByRounds_45 rfl (lv_at hl 4 rfl) ?_
              refine lv_iload hx hb dX5_cheapestByRounds_46 (lv_at hl 0 rfl) ?_
              refine b_mI (b_runV (As := [.ref (o + k1), .int (nI i10)]) (rest := []) ⟨hx, hb, hml, hown, hts⟩ (c_X5_cheapenBeside l D E o M12 k1 (nI i10) hk1) (cwV 2 hts gX5_cheapestByRounds_X5_cheapenBeside rfl rfl rfl (by decide +kernel) ⟨Nat.le_of_ble_eq_true rfl, Nat.le_of_ble_eq_true rfl⟩) hK (bk_recv hK.1 hB lay_23 rfl) hB rfl hl rfl (Nat.le_of_ble_eq_true rfl) dX5_cheapestByRounds_48 ⟨Nat.zero_le _, Nat.zero_le _⟩) hS (fun q h => h) (fun r19 M18 hM18 H locs hB _ hS => ?_)
              obtain ⟨hr19, hM18⟩ := hM18
              refine lv_if_eq (tgt := 56) hx hb dX5_cheapestByRounds_51 (by decide) (fun c20 => ?_) (fun c20 => ?_)
              · refine lv_iinc (v := nI (i10 + 1)) (lv' := [(5, .int (nI (i10 + 1))), (3, .int x11), (4, .int (nI i2)), (0, .ref (o + 23)), (1, .ref (o + k1)), (2, .int x2)]) hx hb dX5_cheapestByRounds_56 hl (k := 0) rfl (nI_1 i10) (by decide) rfl (fun ls hl => ?_)
                refine lv_goto (tgt := 26) hx hb dX5_cheapestByRounds_59 (by decide) ?_
                have e21 := p_X5_cheapestByRounds_e21 M k1 x2 M1 x3 M4 i2 x11 M12 i10 n10 c16 r19 hr19.symm M18 hM18.symm c20
                rw [e21] at hexit10
                exact ih10 (i10 + 1) x11 M18 (by omega) _ _ hB hS ls (lv_sub hl [0, 1, 2, 3, 4, 5] rfl) hexit10
              · refine lv_iconst (v := 1) hx hb dX5_cheapestByRounds_54 (by decide) ?_
                refine lv_istore_n (lv' := [(3, .int 1), (5, .int (nI i10)), (4, .int (nI i2)), (0, .ref (o + 23)), (1, .ref (o + k1)), (2, .int x2)]) hx hb dX5_cheapestByRounds_55 rfl hl (by decide) rfl (fun ls hl => ?_)
                refine lv_iinc (v := nI (i10 + 1)) (lv' := [(5, .int (nI (i10 + 1))), (3, .int 1), (4, .int (nI i2)), (0, .ref (o + 23)), (1, .ref (o + k1)), (2, .int x2)]) hx hb dX5_cheapestByRounds_56 hl (k := 1) rfl (nI_1 i10) (by decide) rfl (fun ls hl => ?_)
                refine lv_goto (tgt := 26) hx hb dX5_cheapestByRounds_59 (by decide) ?_
                have e22 := p_X5_cheapestByRounds_e22 M k1 x2 M1 x3 M4 i2 x11 M12 i10 n10 c16 r19 hr19.symm M18 hM18.symm c20
                rw [e22] at hexit10
                exact ih10 (i10 + 1) 1 M18 (by omega) _ _ hB hS ls (lv_sub hl [0, 1, 2, 3, 4, 5] rfl) hexit10
        refine lp10 64 0 0 M4 (by omega) _ _ hB hS ls (lv_sub hl [0, 1, 2, 3, 4, 5] rfl) ?_
        intro H locs hB hS ls hl
        obtain ⟨x23, hx23⟩ : ∃ y : Int32, y = (lp_X5_cheapestByRounds_26 k1 64 0 0 M4).1 := ⟨_, rfl⟩
        rw [← hx23] at hl
        obtain ⟨M24, hM24⟩ : ∃ y : bM, y = (lp_X5_cheapestByRounds_26 k1 64 0 0 M4).2 := ⟨_, rfl⟩
        rw [← hM24] at hB
        have hl : lv_has ls 6 [(3, .int x23), (4, .int (nI i2)), (0, .ref (o + 23)), (1, .ref (o + k1)), (2, .int x2)] := hl
        refine lv_iinc (v := nI (i2 + 1)) (lv' := [(4, .int (nI (i2 + 1))), (3, .int x23), (0, .ref (o + 23)), (1, .ref (o + k1)), (2, .int x2)]) hx hb dX5_cheapestByRounds_62 hl (k := 1) rfl (nI_1 i2) (by decide) rfl (fun ls hl => ?_)
        refine lv_goto (tgt := 10) hx hb dX5_cheapestByRounds_65 (by decide) ?_
        have e25 := p_X5_cheapestByRounds_e25 M k1 x2 M1 x3 M4 i2 n2 c8 x23 hx23.symm M24 hM24.symm
        rw [e25] at hexit2
        exact ih2 (i2 + 1) x23 M24 (by omega) _ _ hB hS ls (lv_sub hl [0, 1, 2, 3, 4] rfl) hexit2
  refine lp2 64 0 1 M1 (by omega) _ _ hB hS ls (lv_sub hl [0, 1, 2, 3, 4] rfl) ?_
  intro H locs hB hS ls hl
  obtain ⟨x26, hx26⟩ : ∃ y : Int32, y = (lp_X5_cheapestByRounds_10 k1 64 0 1 M1).1 := ⟨_, rfl⟩
  rw [← hx26] at hl
  obtain ⟨M27, hM27⟩ : ∃ y : bM, y = (lp_X5_cheapestByRounds_10 k1 64 0 1 M1).2 := ⟨_, rfl⟩
  rw [← hM27] at hB
  have hl : lv_has ls 6 [(3, .int x26), (0, .ref (o + 23)), (1, .ref (o + k1)), (2, .int x2)] := hl
  refine lv_iconst (v := (-1)) hx hb dX5_cheapestByRounds_68 (by decide) ?_
  refine lv_istore (lv' := [(4, .int (-1)), (3, .int x26), (0, .ref (o + 23)), (1, .ref (o + k1)), (2, .int x2)]) hx hb dX5_cheapestByRounds_69 hl (by decide) rfl (fun ls hl => ?_)
  refine lv_bipush (v := 56) hx hb dX5_cheapestByRounds_71 (by decide) ?_
  refine lv_istore (lv' := [(5, .int 56), (4, .int (-1)), (3, .int x26), (0, .ref (o + 23)), (1, .ref (o + k1)), (2, .int x2)]) hx hb dX5_cheapestByRounds_73 hl (by decide) rfl (fun ls hl => ?_)
  have lp28 : ∀ (n28 i28 : Nat) (x29 : Int32), i28 + n28 = 64 → ∀ (H : Heap) (locs : List Loc), bk D E LRM o M27 H → bS (rA o) s.heap H locs → ∀ ls : Array Slot, lv_has ls 6 [(5, .int (nI i28)), (4, .int x29), (3, .int x26), (0, .ref (o + 23)), (1, .ref (o + k1)), (2, .int x2)] → (∀ (H : Heap) (locs : List Loc), bk D E LRM o M27 H → bS (rA o) s.heap H locs → ∀ ls : Array Slot, lv_has ls 6 [(4, .int (lp_X5_cheapestByRounds_75 M27 n28 i28 x29)), (3, .int x26), (0, .ref (o + 23)), (1, .ref (o + k1)), (2, .int x2)] → W p l e (headSpec wsX5_cheapestByRounds (rmF 1)).room s m ([.ref (o + 23), .ref (o + k1), .int x2] : List Value).toArray below meth c H locs 0 0 (MQ below (bQ (aI fun r H => ∃ M1 : bM, (r = (f_X5_cheapestByRounds M k1 x2).1 ∧ M1 = (f_X5_cheapestByRounds M k1 x2).2) ∧ bk D E LRM o M1 H) (rA o)) ([.ref (o + 23), .ref (o + k1), .int x2] : List Value).toArray s 0 0 (rA o)) (F0 m 126 ls [])) → W p l e (headSpec wsX5_cheapestByRounds (rmF 1)).room s m ([.ref (o + 23), .ref (o + k1), .int x2] : List Value).toArray below meth c H locs 0 0 (MQ below (bQ (aI fun r H => ∃ M1 : bM, (r = (f_X5_cheapestByRounds M k1 x2).1 ∧ M1 = (f_X5_cheapestByRounds M k1 x2).2) ∧ bk D E LRM o M1 H) (rA o)) ([.ref (o + 23), .ref (o + k1), .int x2] : List Value).toArray s 0 0 (rA o)) (F0 m 75 ls []) := by
    intro n28
    induction n28 with
    | zero =>
      intro i28 x29 hi28 H locs hB hS ls hl hexit28
      have hz28 : i28 = 64 := by omega
      refine lv_iload hx hb dX5_cheapestByRounds_75 (lv_at hl 0 rfl) ?_
      refine lv_bipush (v := 64) hx hb dX5_cheapestByRounds_77 (by decide) ?_
      refine lv_icmp_ge (tgt := 126) hx hb dX5_cheapestByRounds_79 (by decide) (fun c30 => ?_) (fun c30 => absurd (by rw [hz28]; exact Int32.le_refl _) c30)
      have e31 := p_X5_cheapestByRounds_e31 M k1 x2 M1 x26 M27 x29 i28 
      rw [e31] at hexit28
      exact hexit28 _ _  hB hS ls (lv_sub hl [1, 2, 3, 4, 5] rfl)
    | succ n28 ih28 =>
      intro i28 x29 hi28 H locs hB hS ls hl hexit28
      refine lv_iload hx hb dX5_cheapestByRounds_75 (lv_at hl 0 rfl) ?_
      refine lv_bipush (v := 64) hx hb dX5_cheapestByRounds_77 (by decide) ?_
      refine lv_icmp_ge (tgt := 126) hx hb dX5_cheapestByRounds_79 (by decide) (fun c32 => absurd c32 (nI_ge (a := i28) (b := 64) (by omega) (by decide))) (fun c32 => ?_)
      refine lv_aload_n hx hb dX5_cheapestByRounds_82 rfl (lv_at hl 3 rfl) ?_
      refine b_get (D := D) (E := E) (L := LRM) (o := o) (M := M27) (v := .ref (o + 26)) (C := RX5) (T := TX5) (N := 6) hx hb hts hinX5 hown hK.1 hB 23 lay_23 rfl 2 (by decide) (hts (.fieldLink RX5 19 "RiverMeeting$Ways" "far" "[I") (List.mem_of_getElem? (i := 1) rfl)) (fun _ h9 => h9) rfl dX5_cheapestByRounds_83 ?_
      refine lv_iload hx hb dX5_cheapestByRounds_86 (lv_at hl 0 rfl) ?_
      refine b_iald hx hb hK.1 hB 26 lay_26 (vp_in_nI (by omega) (by decide)) dX5_cheapestByRounds_88 ?_
      rw [nI_clamp (n := i28) (by omega)]
      refine lv_iconst (v := (-1)) hx hb dX5_cheapestByRounds_89 (by decide) ?_
      refine lv_icmp_eq (tgt := 120) hx hb dX5_cheapestByRounds_90 (by decide) (fun c33 => ?_) (fun c33 => ?_)
      · refine lv_iinc (v := nI (i28 + 1)) (lv' := [(5, .int (nI (i28 + 1))), (4, .int x29), (3, .int x26), (0, .ref (o + 23)), (1, .ref (o + k1)), (2, .int x2)]) hx hb dX5_cheapestByRounds_120 hl (k := 0) rfl (nI_1 i28) (by decide) rfl (fun ls hl => ?_)
        refine lv_goto (tgt := 75) hx hb dX5_cheapestByRounds_123 (by decide) ?_
        have e34 := p_X5_cheapestByRounds_e34 M k1 x2 M1 x26 M27 x29 i28 n28 c33
        rw [e34] at hexit28
        exact ih28 (i28 + 1) x29 (by omega) _ _ hB hS ls (lv_sub hl [0, 1, 2, 3, 4, 5] rfl) hexit28
      · refine lv_iload hx hb dX5_cheapestByRounds_93 (lv_at hl 1 rfl) ?_
        refine lv_iconst (v := (-1)) hx hb dX5_cheapestByRounds_95 (by decide) ?_
        refine lv_icmp_eq (tgt := 111) hx hb dX5_cheapestByRounds_96 (by decide) (fun c35 => ?_) (fun c35 => ?_)
        · refine lv_aload_n hx hb dX5_cheapestByRounds_111 rfl (lv_at hl 3 rfl) ?_
          refine b_get (D := D) (E := E) (L := LRM) (o := o) (M := M27) (v := .ref (o + 26)) (C := RX5) (T := TX5) (N := 6) hx hb hts hinX5 hown hK.1 hB 23 lay_23 rfl 2 (by decide) (hts (.fieldLink RX5 19 "RiverMeeting$Ways" "far" "[I") (List.mem_of_getElem? (i := 1) rfl)) (fun _ h9 => h9) rfl dX5_cheapestByRounds_112 ?_
          refine lv_iload hx hb dX5_cheapestByRounds_115 (lv_at hl 0 rfl) ?_
          refine b_iald hx hb hK.1 hB 26 lay_26 (vp_in_nI (by omega) (by decide)) dX5_cheapestByRounds_117 ?_
          rw [nI_clamp (n := i28) (by omega)]
          refine lv_topi (fun x36 hx36 => ?_)
          refine lv_istore (lv' := [(4, .int x36), (5, .int (nI i28)), (3, .int x26), (0, .ref (o + 23)), (1, .ref (o + k1)), (2, .int x2)]) hx hb dX5_cheapestByRounds_118 hl (by decide) rfl (fun ls hl => ?_)
          refine lv_iinc (v := nI (i28 + 1)) (lv' := [(5, .int (nI (i28 + 1))), (4, .int x36), (3, .int x26), (0, .ref (o + 23)), (1, .ref (o + k1)), (2, .int x2)]) hx hb dX5_cheapestByRounds_120 hl (k := 1) rfl (nI_1 i28) (by decide) rfl (fun ls hl => ?_)
          refine lv_goto (tgt := 75) hx hb dX5_cheapestByRounds_123 (by decide) ?_
          have e37 := p_X5_cheapestByRounds_e37 M k1 x2 M1 x26 M27 x29 i28 n28 c33 c35 x36 hx36.symm
          rw [e37] at hexit28
          exact ih28 (i28 + 1) x36 (by omega) _ _ hB hS ls (lv_sub hl [0, 1, 2, 3, 4, 5] rfl) hexit28
        · refine lv_aload_n hx hb dX5_cheapestByRounds_99 rfl (lv_at hl 3 rfl) ?_
          refine b_get (D := D) (E := E) (L := LRM) (o := o) (M := M27) (v := .ref (o + 26)) (C := RX5) (T := TX5) (N := 6) hx hb hts hinX5 hown hK.1 hB 23 lay_23 rfl 2 (by decide) (hts (.fieldLink RX5 19 "RiverMeeting$Ways" "far" "[I") (List.mem_of_getElem? (i := 1) rfl)) (fun _ h9 => h9) rfl dX5_cheapestByRounds_100 ?_
          refine lv_iload hx hb dX5_cheapestByRounds_103 (lv_at hl 0 rfl) ?_
          refine b_iald hx hb hK.1 hB 26 lay_26 (vp_in_nI (by omega) (by decide)) dX5_cheapestByRounds_105 ?_
          rw [nI_clamp (n := i28) (by omega)]
          refine lv_iload hx hb dX5_cheapestByRounds_106 (lv_at hl 1 rfl) ?_
          refine lv_icmp_ge (tgt := 120) hx hb dX5_cheapestByRounds_108 (by decide) (fun c38 => ?_) (fun c38 => ?_)
          · refine lv_iinc (v := nI (i28 + 1)) (lv' := [(5, .int (nI (i28 + 1))), (4, .int x29), (3, .int x26), (0, .ref (o + 23)), (1, .ref (o + k1)), (2, .int x2)]) hx hb dX5_cheapestByRounds_120 hl (k := 0) rfl (nI_1 i28) (by decide) rfl (fun ls hl => ?_)
            refine lv_goto (tgt := 75) hx hb dX5_cheapestByRounds_123 (by decide) ?_
            have e39 := p_X5_cheapestByRounds_e39 M k1 x2 M1 x26 M27 x29 i28 n28 c33 c35 c38
            rw [e39] at hexit28
            exact ih28 (i28 + 1) x29 (by omega) _ _ hB hS ls (lv_sub hl [0, 1, 2, 3, 4, 5] rfl) hexit28
          · refine lv_aload_n hx hb dX5_cheapestByRounds_111 rfl (lv_at hl 3 rfl) ?_
            refine b_get (D := D) (E := E) (L := LRM) (o := o) (M := M27) (v := .ref (o + 26)) (C := RX5) (T := TX5) (N := 6) hx hb hts hinX5 hown hK.1 hB 23 lay_23 rfl 2 (by decide) (hts (.fieldLink RX5 19 "RiverMeeting$Ways" "far" "[I") (List.mem_of_getElem? (i := 1) rfl)) (fun _ h9 => h9) rfl dX5_cheapestByRounds_112 ?_
            refine lv_iload hx hb dX5_cheapestByRounds_115 (lv_at hl 0 rfl) ?_
            refine b_iald hx hb hK.1 hB 26 lay_26 (vp_in_nI (by omega) (by decide)) dX5_cheapestByRounds_117 ?_
            rw [nI_clamp (n := i28) (by omega)]
            refine lv_topi (fun x40 hx40 => ?_)
            refine lv_istore (lv' := [(4, .int x40), (5, .int (nI i28)), (3, .int x26), (0, .ref (o + 23)), (1, .ref (o + k1)), (2, .int x2)]) hx hb dX5_cheapestByRounds_118 hl (by decide) rfl (fun ls hl => ?_)
            refine lv_iinc (v := nI (i28 + 1)) (lv' := [(5, .int (nI (i28 + 1))), (4, .int x40), (3, .int x26), (0, .ref (o + 23)), (1, .ref (o + k1)), (2, .int x2)]) hx hb dX5_cheapestByRounds_120 hl (k := 1) rfl (nI_1 i28) (by decide) rfl (fun ls hl => ?_)
            refine lv_goto (tgt := 75) hx hb dX5_cheapestByRounds_123 (by decide) ?_
            have e41 := p_X5_cheapestByRounds_e41 M k1 x2 M1 x26 M27 x29 i28 n28 c33 c35 c38 x40 hx40.symm
            rw [e41] at hexit28
            exact ih28 (i28 + 1) x40 (by omega) _ _ hB hS ls (lv_sub hl [0, 1, 2, 3, 4, 5] rfl) hexit28
  refine lp28 8 56 (-1) (by omega) _ _ hB hS ls (lv_sub hl [0, 1, 2, 3, 4, 5] rfl) ?_
  intro H locs hB hS ls hl
  obtain ⟨x42, hx42⟩ : ∃ y : Int32, y = (lp_X5_cheapestByRounds_75 M27 8 56 (-1)) := ⟨_, rfl⟩
  rw [← hx42] at hl
  have hl : lv_has ls 6 [(4, .int x42), (3, .int x26), (0, .ref (o + 23)), (1, .ref (o + k1)), (2, .int x2)] := hl
  refine lv_iload hx hb dX5_cheapestByRounds_126 (lv_at hl 0 rfl) ?_
  have e43 := p_X5_cheapestByRounds_e43 M k1 x2 M1 hM1.symm x26 hx26.symm M27 hM27.symm x42 hx42.symm
  exact b_iret hx hb hr hlocks hS ⟨_, rfl, _, ⟨(congrArg Prod.fst e43).symm, (congrArg Prod.snd e43).symm⟩, hB⟩ dX5_cheapestByRounds_128
def f_X5_priceOfStep (M : bM) (g1 : Nat) (x2 : Int32) : Int32 × bM := (let k2 : Nat := f_X0_sideOf M g1 (M g1 7); (let r3 : Int32 := f_X2_head M k2; (let r4 : Int32 := f_X6_cellBeside r3 x2; (let k6 : Nat := f_X0_sideOf M g1 ((1 : Int32) - (M g1 7)); (let r7 : Int32 := f_X2_holds M k6 r4; (if r7 = 0 then (let r10 : Int32 := (f_X5_cheapestCellFirst M (k2 + 1) r4).1; (let M9 : bM := (f_X5_cheapestCellFirst M (k2 + 1) r4).2; (if r10 = (-1) then (1000000, M9) else (let r12 : Int32 := f_X2_costOf M9 k2 r4; ((r12 + r10), M9))))) else (let r15 : Int32 := f_X2_costOf M k2 r4; (((M g1 4) * r15), M))))))))
theorem u_f_X5_priceOfStep (M : bM) (g1 : Nat) (x2 : Int32) : f_X5_priceOfStep M g1 x2 = (let k2 : Nat := f_X0_sideOf M g1 (M g1 7); (let r3 : Int32 := f_X2_head M k2; (let r4 : Int32 := f_X6_cellBeside r3 x2; (let k6 : Nat := f_X0_sideOf M g1 ((1 : Int32) - (M g1 7)); (let r7 : Int32 := f_X2_holds M k6 r4; (if r7 = 0 then (let r10 : Int32 := (f_X5_cheapestCellFirst M (k2 + 1) r4).1; (let M9 : bM := (f_X5_cheapestCellFirst M (k2 + 1) r4).2; (if r10 = (-1) then (1000000, M9) else (let r12 : Int32 := f_X2_costOf M9 k2 r4; ((r12 + r10), M9))))) else (let r15 : Int32 := f_X2_costOf M k2 r4; (((M g1 4) * r15), M)))))))) := rfl
theorem p_X5_priceOfStep_e13 (M : bM) (g1 : Nat) (x2 : Int32) (k2 : Nat) (hk2 : f_X0_sideOf M g1 (M g1 7) = k2) (r3 : Int32) (hr3 : f_X2_head M k2 = r3) (r4 : Int32) (hr4 : f_X6_cellBeside r3 x2 = r4) (k6 : Nat) (hk6 : f_X0_sideOf M g1 ((1 : Int32) - (M g1 7)) = k6) (r7 : Int32) (hr7 : f_X2_holds M k6 r4 = r7) (c8 : r7 = 0) (r10 : Int32) (hr10 : (f_X5_cheapestCellFirst M (k2 + 1) r4).1 = r10) (M9 : bM) (hM9 : (f_X5_cheapestCellFirst M (k2 + 1) r4).2 = M9) (c11 : ¬ r10 = (-1)) (r12 : Int32) (hr12 : f_X2_costOf M9 k2 r4 = r12) : f_X5_priceOfStep M g1 x2 = ((r12 + r10), M9) := by subst hr12 hM9 hr10 hr7 hk6 hr4 hr3 hk2; exact Eq.trans (u_f_X5_priceOfStep M g1 x2) (Eq.trans (if_pos c8) (if_neg c11))
theorem p_X5_priceOfStep_e14 (M : bM) (g1 : Nat) (x2 : Int32) (k2 : Nat) (hk2 : f_X0_sideOf M g1 (M g1 7) = k2) (r3 : Int32) (hr3 : f_X2_head M k2 = r3) (r4 : Int32) (hr4 : f_X6_cellBeside r3 x2 = r4) (k6 : Nat) (hk6 : f_X0_sideOf M g1 ((1 : Int32) - (M g1 7)) = k6) (r7 : Int32) (hr7 : f_X2_holds M k6 r4 = r7) (c8 : r7 = 0) (r10 : Int32) (hr10 : (f_X5_cheapestCellFirst M (k2 + 1) r4).1 = r10) (M9 : bM) (hM9 : (f_X5_cheapestCellFirst M (k2 + 1) r4).2 = M9) (c11 : r10 = (-1)) : f_X5_priceOfStep M g1 x2 = (1000000, M9) := by subst hM9 hr10 hr7 hk6 hr4 hr3 hk2; exact Eq.trans (u_f_X5_priceOfStep M g1 x2) (Eq.trans (if_pos c8) (if_pos c11))
theorem p_X5_priceOfStep_e16 (M : bM) (g1 : Nat) (x2 : Int32) (k2 : Nat) (hk2 : f_X0_sideOf M g1 (M g1 7) = k2) (r3 : Int32) (hr3 : f_X2_head M k2 = r3) (r4 : Int32) (hr4 : f_X6_cellBeside r3 x2 = r4) (k6 : Nat) (hk6 : f_X0_sideOf M g1 ((1 : Int32) - (M g1 7)) = k6) (r7 : Int32) (hr7 : f_X2_holds M k6 r4 = r7) (c8 : ¬ r7 = 0) (r15 : Int32) (hr15 : f_X2_costOf M k2 r4 = r15) : f_X5_priceOfStep M g1 x2 = (((M g1 4) * r15), M) := by subst hr15 hr7 hk6 hr4 hr3 hk2; exact Eq.trans (u_f_X5_priceOfStep M g1 x2) (if_neg c8)
set_option maxHeartbeats 4000000 in
set_option maxRecDepth 100000 in
theorem c_X5_priceOfStep (l : Launch) (D : va_G) (E : Nat → ClassId) (o : Nat) (M : bM) (g1 : Nat) (x2 : Int32) (hg1 : isG g1) : Met l yX5_priceOfStep wsX5_priceOfStep (rmF 2) (bPc D E [.ref (o + 23), .ref (o + g1), .int x2] (fun H => bk D E LRM o M H)) (bQ (aI fun r H => ∃ M1 : bM, (r = (f_X5_priceOfStep M g1 x2).1 ∧ M1 = (f_X5_priceOfStep M g1 x2).2) ∧ bk D E LRM o M1 H) (rA o)) 0 0 (rA o) := by
  refine Met.ofW (cc := cX5_priceOfStep) (maxL := 6) (ret := (some .int)) (by decide) rfl ?_
  intro p e s m args below meth c s₁ B hml hv
  obtain ⟨rfl, hB, hK⟩ := hv
  have hx := B.exec
  have hb := B.bytes
  have hr := B.returns
  have hts := atoms_spec (ws := wsX5_priceOfStep) B.pre
  have hown : s.vm.findClass RX5 = some m.cls := findClass_of_methodNamed B.named
  have hlocks := B.notSynchronized
  have hS : bS (rA o) s.heap s.heap [] := bS.rf
  have hl := lv_entry ([.ref (o + 23), .ref (o + g1), .int x2]) (n := 6) (Nat.le_of_ble_eq_true rfl)
  rw [lg_entry_eq]
  generalize (lg_sl ([.ref (o + 23), .ref (o + g1), .int x2]) ++ List.replicate (6 - (lg_sl ([.ref (o + 23), .ref (o + g1), .int x2])).length) Slot.unset).toArray = ls at hl ⊢
  have hl : lv_has ls 6 [(0, .ref (o + 23)), (1, .ref (o + g1)), (2, .int x2)] := hl
  have hB : bk D E LRM o M s.heap := hB
  have hinX0 : ∀ w ∈ wsX00, w ∈ wsX5_priceOfStep := by decide +kernel
  have hinX2 : ∀ w ∈ wsX20, w ∈ wsX5_priceOfStep := by decide +kernel
  refine lv_aload_n hx hb dX5_priceOfStep_0 rfl (lv_at hl 1 rfl) ?_
  refine lv_aload_n hx hb dX5_priceOfStep_1 rfl (lv_at hl 1 rfl) ?_
  refine b_get (D := D) (E := E) (L := LRM) (o := o) (M := M) (v := .int (M g1 7)) (C := RX0) (T := TX0) (N := 12) hx hb hts hinX0 hown hK.1 hB g1 hg1.1 rfl 7 (by decide) (hts (.fieldLink RX5 102 "RiverMeeting$Game" "mover" "I") (List.mem_of_getElem? (i := 1) rfl)) (fun _ h9 => h9) rfl dX5_priceOfStep_2 ?_
  refine b_pR (b_runV (As := [.int (M g1 7)]) (rest := []) ⟨hx, hb, hml, hown, hts⟩ (c_X0_sideOf l D E o M g1 (M g1 7) hg1) (cwV 1 hts gX5_priceOfStep_X0_sideOf rfl rfl rfl (by decide +kernel) ⟨Nat.le_of_ble_eq_true rfl, Nat.le_of_ble_eq_true rfl⟩) hK (bk_recv hK.1 hB hg1.1 rfl) hB rfl hl rfl (Nat.le_of_ble_eq_true rfl) dX5_priceOfStep_5 ⟨Nat.zero_le _, Nat.zero_le _⟩) hS (fun r1 hr1 locs hS => ?_)
  obtain ⟨k2, hk2⟩ : ∃ y : Nat, y = f_X0_sideOf M g1 (M g1 7) := ⟨_, rfl⟩
  rw [← hk2] at hr1; subst hr1
  have hfk2 : isS k2 := by rw [hk2]; exact (isS_sideOf hg1)
  refine lv_astore_n (lv' := [(3, .ref (o + k2)), (0, .ref (o + 23)), (1, .ref (o + g1)), (2, .int x2)]) hx hb dX5_priceOfStep_8 rfl hl (by decide) rfl (fun ls hl => ?_)
  refine lv_aload_n hx hb dX5_priceOfStep_9 rfl (lv_at hl 0 rfl) ?_
  refine b_pI (b_runV (As := []) (rest := []) ⟨hx, hb, hml, hown, hts⟩ (c_X2_head l D E o M k2 hfk2) (cwV 0 hts gX5_priceOfStep_X2_head rfl rfl rfl (by decide +kernel) ⟨Nat.le_of_ble_eq_true rfl, Nat.le_of_ble_eq_true rfl⟩) hK (bk_recv hK.1 hB hfk2.1 rfl) hB rfl hl rfl (Nat.le_of_ble_eq_true rfl) dX5_priceOfStep_10 ⟨Nat.zero_le _, Nat.zero_le _⟩) hS (fun r3 hr3 locs hS => ?_)
  refine lv_iload_n hx hb dX5_priceOfStep_13 rfl (lv_at hl 3 rfl) ?_
  refine b_pI (b_runSN (As := [.int r3, .int x2]) (rest := []) ⟨hx, hb, hml, hown, hts⟩ (c_X6_cellBeside l D E r3 x2) ⟨va_cnB (host := "RiverMeeting") 2 hts gX5_priceOfStep_X6_cellBeside_n31 rfl rfl rfl (hK.2 2 _ rfl) (hts (.initialized RX6) (List.mem_of_getElem? (i := 20) rfl)) (by decide +kernel) ⟨Nat.le_of_ble_eq_true rfl, Nat.le_of_ble_eq_true rfl⟩, (hts (.static yX6_cellBeside) (List.mem_of_getElem? (i := 19) rfl)), trivial⟩ hK trivial rfl hl rfl (Nat.le_of_ble_eq_true rfl) dX5_priceOfStep_14 ⟨Nat.zero_le _, Nat.zero_le _⟩) hS (fun r4 hr4 locs hS => ?_)
  refine lv_istore (lv' := [(4, .int r4), (3, .ref (o + k2)), (0, .ref (o + 23)), (1, .ref (o + g1)), (2, .int x2)]) hx hb dX5_priceOfStep_17 hl (by decide) rfl (fun ls hl => ?_)
  refine lv_aload_n hx hb dX5_priceOfStep_19 rfl (lv_at hl 3 rfl) ?_
  refine lv_iconst (v := 1) hx hb dX5_priceOfStep_20 (by decide) ?_
  refine lv_aload_n hx hb dX5_priceOfStep_21 rfl (lv_at hl 3 rfl) ?_
  refine b_get (D := D) (E := E) (L := LRM) (o := o) (M := M) (v := .int (M g1 7)) (C := RX0) (T := TX0) (N := 12) hx hb hts hinX0 hown hK.1 hB g1 hg1.1 rfl 7 (by decide) (hts (.fieldLink RX5 102 "RiverMeeting$Game" "mover" "I") (List.mem_of_getElem? (i := 1) rfl)) (fun _ h9 => h9) rfl dX5_priceOfStep_22 ?_
  refine lv_isub hx hb dX5_priceOfStep_25 ?_
  refine b_pR (b_runV (As := [.int ((1 : Int32) - (M g1 7))]) (rest := []) ⟨hx, hb, hml, hown, hts⟩ (c_X0_sideOf l D E o M g1 ((1 : Int32) - (M g1 7)) hg1) (cwV 1 hts gX5_priceOfStep_X0_sideOf rfl rfl rfl (by decide +kernel) ⟨Nat.le_of_ble_eq_true rfl, Nat.le_of_ble_eq_true rfl⟩) hK (bk_recv hK.1 hB hg1.1 rfl) hB rfl hl rfl (Nat.le_of_ble_eq_true rfl) dX5_priceOfStep_26 ⟨Nat.zero_le _, Nat.zero_le _⟩) hS (fun r5 hr5 locs hS => ?_)
  obtain ⟨k6, hk6⟩ : ∃ y : Nat, y = f_X0_sideOf M g1 ((1 : Int32) - (M g1 7)) := ⟨_, rfl⟩
  rw [← hk6] at hr5; subst hr5
  have hfk6 : isS k6 := by rw [hk6]; exact (isS_sideOf hg1)
  refine lv_iload hx hb dX5_priceOfStep_29 (lv_at hl 0 rfl) ?_
  refine b_pI (b_runV (As := [.int r4]) (rest := []) ⟨hx, hb, hml, hown, hts⟩ (c_X2_holds l D E o M k6 r4 hfk6) (cwV 1 hts gX5_priceOfStep_X2_holds rfl rfl rfl (by decide +kernel) ⟨Nat.le_of_ble_eq_true rfl, Nat.le_of_ble_eq_true rfl⟩) hK (bk_recv hK.1 hB hfk6.1 rfl) hB rfl hl rfl (Nat.le_of_ble_eq_true rfl) dX5_priceOfStep_31 ⟨Nat.zero_le _, Nat.zero_le _⟩) hS (fun r7 hr7 locs hS => ?_)
  refine lv_if_eq (tgt := 49) hx hb dX5_priceOfStep_34 (by decide) (fun c8 => ?_) (fun c8 => ?_)
  · refine lv_aload_n hx hb dX5_priceOfStep_49 rfl (lv_at hl 2 rfl) ?_
    refine lv_aload_n hx hb dX5_priceOfStep_50 rfl (lv_at hl 1 rfl) ?_
    refine b_get (D := D) (E := E) (L := LRM) (o := o) (M := M) (v := .ref (o + (k2 + 1))) (C := RX2) (T := TX2) (N := 8) hx hb hts hinX2 hown hK.1 hB k2 hfk2.1 rfl 0 (by decide) (hts (.fieldLink RX5 109 "RiverMeeting$Side" "costs" "[I") (List.mem_of_getElem? (i := 3) rfl)) (fun _ h9 => h9) rfl dX5_priceOfStep_51 ?_
    refine lv_iload hx hb dX5_priceOfStep_54 (lv_at hl 0 rfl) ?_
    refine b_mI (b_runV (As := [.ref (o + (k2 + 1)), .int r4]) (rest := []) ⟨hx, hb, hml, hown, hts⟩ (c_X5_cheapestCellFirst l D E o M (k2 + 1) r4 hfk2.2.1) (cwV 2 hts gX5_priceOfStep_X5_cheapestCellFirst rfl rfl rfl (by decide +kernel) ⟨Nat.le_of_ble_eq_true rfl, Nat.le_of_ble_eq_true rfl⟩) hK (bk_recv hK.1 hB lay_23 rfl) hB rfl hl rfl (Nat.le_of_ble_eq_true rfl) dX5_priceOfStep_56 ⟨Nat.zero_le _, Nat.zero_le _⟩) hS (fun q h => h) (fun r10 M9 hM9 H locs hB _ hS => ?_)
    obtain ⟨hr10, hM9⟩ := hM9
    refine lv_istore (lv' := [(5, .int r10), (4, .int r4), (3, .ref (o + k2)), (0, .ref (o + 23)), (1, .ref (o + g1)), (2, .int x2)]) hx hb dX5_priceOfStep_59 hl (by decide) rfl (fun ls hl => ?_)
    refine lv_iload hx hb dX5_priceOfStep_61 (lv_at hl 0 rfl) ?_
    refine lv_iconst (v := (-1)) hx hb dX5_priceOfStep_63 (by decide) ?_
    refine lv_icmp_ne (tgt := 72) hx hb dX5_priceOfStep_64 (by decide) (fun c11 => ?_) (fun c11 => ?_)
    · refine lv_aload_n hx hb dX5_priceOfStep_72 rfl (lv_at hl 2 rfl) ?_
      refine lv_iload hx hb dX5_priceOfStep_73 (lv_at hl 1 rfl) ?_
      refine b_pI (b_runV (As := [.int r4]) (rest := []) ⟨hx, hb, hml, hown, hts⟩ (c_X2_costOf l D E o M9 k2 r4 hfk2) (cwV 1 hts gX5_priceOfStep_X2_costOf rfl rfl rfl (by decide +kernel) ⟨Nat.le_of_ble_eq_true rfl, Nat.le_of_ble_eq_true rfl⟩) hK (bk_recv hK.1 hB hfk2.1 rfl) hB rfl hl rfl (Nat.le_of_ble_eq_true rfl) dX5_priceOfStep_75 ⟨Nat.zero_le _, Nat.zero_le _⟩) hS (fun r12 hr12 locs hS => ?_)
      refine lv_iload hx hb dX5_priceOfStep_78 (lv_at hl 0 rfl) ?_
      refine lv_iadd hx hb dX5_priceOfStep_80 ?_
      have e13 := p_X5_priceOfStep_e13 M g1 x2 k2 hk2.symm r3 hr3.symm r4 hr4.symm k6 hk6.symm r7 hr7.symm c8 r10 hr10.symm M9 hM9.symm c11 r12 hr12.symm
      exact b_iret hx hb hr hlocks hS ⟨_, rfl, _, ⟨(congrArg Prod.fst e13).symm, (congrArg Prod.snd e13).symm⟩, hB⟩ dX5_priceOfStep_81
    · refine lv_ldc (v := 1000000) hx hb hown (hts (.constant RX5 94 (1000000)) (List.mem_of_getElem? (i := 4) rfl)) dX5_priceOfStep_67 ?_
      refine lv_goto (tgt := 81) hx hb dX5_priceOfStep_69 (by decide) ?_
      have e14 := p_X5_priceOfStep_e14 M g1 x2 k2 hk2.symm r3 hr3.symm r4 hr4.symm k6 hk6.symm r7 hr7.symm c8 r10 hr10.symm M9 hM9.symm c11
      exact b_iret hx hb hr hlocks hS ⟨_, rfl, _, ⟨(congrArg Prod.fst e14).symm, (congrArg Prod.snd e14).symm⟩, hB⟩ dX5_priceOfStep_81
  · refine lv_aload_n hx hb dX5_priceOfStep_37 rfl (lv_at hl 3 rfl) ?_
    refine b_get (D := D) (E := E) (L := LRM) (o := o) (M := M) (v := .int (M g1 4)) (C := RX0) (T := TX0) (N := 12) hx hb hts hinX0 hown hK.1 hB g1 hg1.1 rfl 4 (by decide) (hts (.fieldLink RX5 106 "RiverMeeting$Game" "factor" "I") (List.mem_of_getElem? (i := 2) rfl)) (fun _ h9 => h9) rfl dX5_priceOfStep_38 ?_
    refine lv_aload_n hx hb dX5_priceOfStep_41 rfl (lv_at hl 1 rfl) ?_
    refine lv_iload hx hb dX5_priceOfStep_42 (lv_at hl 0 rfl) ?_
    refine b_pI (b_runV (As := [.int r4]) (rest := [.int (M g1 4)]) ⟨hx, hb, hml, hown, hts⟩ (c_X2_costOf l D E o M k2 r4 hfk2) (cwV 1 hts gX5_priceOfStep_X2_costOf rfl rfl rfl (by decide +kernel) ⟨Nat.le_of_ble_eq_true rfl, Nat.le_of_ble_eq_true rfl⟩) hK (bk_recv hK.1 hB hfk2.1 rfl) hB rfl hl rfl (Nat.le_of_ble_eq_true rfl) dX5_priceOfStep_44 ⟨Nat.zero_le _, Nat.zero_le _⟩) hS (fun r15 hr15 locs hS => ?_)
    refine lv_imul hx hb dX5_priceOfStep_47 ?_
    have e16 := p_X5_priceOfStep_e16 M g1 x2 k2 hk2.symm r3 hr3.symm r4 hr4.symm k6 hk6.symm r7 hr7.symm c8 r15 hr15.symm
    exact b_iret hx hb hr hlocks hS ⟨_, rfl, _, ⟨(congrArg Prod.fst e16).symm, (congrArg Prod.snd e16).symm⟩, hB⟩ dX5_priceOfStep_48
def lp_X5_bestStep_22 (g1 : Nat) : Nat → Nat → Int32 → Int32 → bM → (Int32 × Int32 × bM)
  | 0, i4, x5, x6, M7 => (x5, x6, M7)
  | n4 + 1, i4, x5, x6, M7 => (let r11 : Int32 := f_X0_reasonAgainstStep M7 g1 (nI i4); (if r11 = 0 then (let r15 : Int32 := (f_X5_priceOfStep M7 g1 (nI i4)).1; (let M14 : bM := (f_X5_priceOfStep M7 g1 (nI i4)).2; (if x6 = (-1) then lp_X5_bestStep_22 g1 n4 (i4 + 1) r15 (nI i4) M14 else (if x5 ≤ r15 then lp_X5_bestStep_22 g1 n4 (i4 + 1) x5 x6 M14 else lp_X5_bestStep_22 g1 n4 (i4 + 1) r15 (nI i4) M14)))) else lp_X5_bestStep_22 g1 n4 (i4 + 1) x5 x6 M7))
theorem u0_lp_X5_bestStep_22 (g1 : Nat) (i4 : Nat) (x5 : Int32) (x6 : Int32) (M7 : bM) : lp_X5_bestStep_22 g1 0 i4 x5 x6 M7 = (x5, x6, M7) := rfl
theorem u1_lp_X5_bestStep_22 (g1 : Nat) (n4 i4 : Nat) (x5 : Int32) (x6 : Int32) (M7 : bM) : lp_X5_bestStep_22 g1 (n4 + 1) i4 x5 x6 M7 = (let r11 : Int32 := f_X0_reasonAgainstStep M7 g1 (nI i4); (if r11 = 0 then (let r15 : Int32 := (f_X5_priceOfStep M7 g1 (nI i4)).1; (let M14 : bM := (f_X5_priceOfStep M7 g1 (nI i4)).2; (if x6 = (-1) then lp_X5_bestStep_22 g1 n4 (i4 + 1) r15 (nI i4) M14 else (if x5 ≤ r15 then lp_X5_bestStep_22 g1 n4 (i4 + 1) x5 x6 M14 else lp_X5_bestStep_22 g1 n4 (i4 + 1) r15 (nI i4) M14)))) else lp_X5_bestStep_22 g1 n4 (i4 + 1) x5 x6 M7)) := rfl
def f_X5_bestStep (M : bM) (g1 : Nat) : Int32 × bM := (let r1 : Int32 := f_X0_isOver M g1; (if r1 = 0 then (let M3 : bM := f_X5_openFree M g1; (let x21 : Int32 := (lp_X5_bestStep_22 g1 3 0 1000000 (-1) M3).1; (let x22 : Int32 := (lp_X5_bestStep_22 g1 3 0 1000000 (-1) M3).2.1; (let M23 : bM := (lp_X5_bestStep_22 g1 3 0 1000000 (-1) M3).2.2; (x22, M23))))) else ((-1), M)))
theorem u_f_X5_bestStep (M : bM) (g1 : Nat) : f_X5_bestStep M g1 = (let r1 : Int32 := f_X0_isOver M g1; (if r1 = 0 then (let M3 : bM := f_X5_openFree M g1; (let x21 : Int32 := (lp_X5_bestStep_22 g1 3 0 1000000 (-1) M3).1; (let x22 : Int32 := (lp_X5_bestStep_22 g1 3 0 1000000 (-1) M3).2.1; (let M23 : bM := (lp_X5_bestStep_22 g1 3 0 1000000 (-1) M3).2.2; (x22, M23))))) else ((-1), M))) := rfl
theorem p_X5_bestStep_e9 (M : bM) (g1 : Nat) (r1 : Int32) (M3 : bM) (x5 : Int32) (x6 : Int32) (M7 : bM) (i4 : Nat)  : lp_X5_bestStep_22 g1 0 i4 x5 x6 M7 = (x5, x6, M7) := by exact u0_lp_X5_bestStep_22 g1 i4 x5 x6 M7
theorem p_X5_bestStep_e13 (M : bM) (g1 : Nat) (r1 : Int32) (M3 : bM) (x5 : Int32) (x6 : Int32) (M7 : bM) (i4 : Nat) (n4 : Nat) (r11 : Int32) (hr11 : f_X0_reasonAgainstStep M7 g1 (nI i4) = r11) (c12 : ¬ r11 = 0) : lp_X5_bestStep_22 g1 (n4 + 1) i4 x5 x6 M7 = lp_X5_bestStep_22 g1 n4 (i4 + 1) x5 x6 M7 := by subst hr11; exact Eq.trans (u1_lp_X5_bestStep_22 g1 n4 i4 x5 x6 M7) (if_neg c12)
theorem p_X5_bestStep_e17 (M : bM) (g1 : Nat) (r1 : Int32) (M3 : bM) (x5 : Int32) (x6 : Int32) (M7 : bM) (i4 : Nat) (n4 : Nat) (r11 : Int32) (hr11 : f_X0_reasonAgainstStep M7 g1 (nI i4) = r11) (c12 : r11 = 0) (r15 : Int32) (hr15 : (f_X5_priceOfStep M7 g1 (nI i4)).1 = r15) (M14 : bM) (hM14 : (f_X5_priceOfStep M7 g1 (nI i4)).2 = M14) (c16 : x6 = (-1)) : lp_X5_bestStep_22 g1 (n4 + 1) i4 x5 x6 M7 = lp_X5_bestStep_22 g1 n4 (i4 + 1) r15 (nI i4) M14 := by subst hM14 hr15 hr11; exact Eq.trans (u1_lp_X5_bestStep_22 g1 n4 i4 x5 x6 M7) (Eq.trans (if_pos c12) (if_pos c16))
theorem p_X5_bestStep_e19 (M : bM) (g1 : Nat) (r1 : Int32) (M3 : bM) (x5 : Int32) (x6 : Int32) (M7 : bM) (i4 : Nat) (n4 : Nat) (r11 : Int32) (hr11 : f_X0_reasonAgainstStep M7 g1 (nI i4) = r11) (c12 : r11 = 0) (r15 : Int32) (hr15 : (f_X5_priceOfStep M7 g1 (nI i4)).1 = r15) (M14 : bM) (hM14 : (f_X5_priceOfStep M7 g1 (nI i4)).2 = M14) (c16 : ¬ x6 = (-1)) (c18 : x5 ≤ r15) : lp_X5_bestStep_22 g1 (n4 + 1) i4 x5 x6 M7 = lp_X5_bestStep_22 g1 n4 (i4 + 1) x5 x6 M14 := by subst hM14 hr15 hr11; exact Eq.trans (u1_lp_X5_bestStep_22 g1 n4 i4 x5 x6 M7) (Eq.trans (if_pos c12) (Eq.trans (if_neg c16) (if_pos c18)))
theorem p_X5_bestStep_e20 (M : bM) (g1 : Nat) (r1 : Int32) (M3 : bM) (x5 : Int32) (x6 : Int32) (M7 : bM) (i4 : Nat) (n4 : Nat) (r11 : Int32) (hr11 : f_X0_reasonAgainstStep M7 g1 (nI i4) = r11) (c12 : r11 = 0) (r15 : Int32) (hr15 : (f_X5_priceOfStep M7 g1 (nI i4)).1 = r15) (M14 : bM) (hM14 : (f_X5_priceOfStep M7 g1 (nI i4)).2 = M14) (c16 : ¬ x6 = (-1)) (c18 : ¬ x5 ≤ r15) : lp_X5_bestStep_22 g1 (n4 + 1) i4 x5 x6 M7 = lp_X5_bestStep_22 g1 n4 (i4 + 1) r15 (nI i4) M14 := by subst hM14 hr15 hr11; exact Eq.trans (u1_lp_X5_bestStep_22 g1 n4 i4 x5 x6 M7) (Eq.trans (if_pos c12) (Eq.trans (if_neg c16) (if_neg c18)))
theorem p_X5_bestStep_e24 (M : bM) (g1 : Nat) (r1 : Int32) (hr1 : f_X0_isOver M g1 = r1) (c2 : r1 = 0) (M3 : bM) (hM3 : f_X5_openFree M g1 = M3) (x21 : Int32) (hx21 : (lp_X5_bestStep_22 g1 3 0 1000000 (-1) M3).1 = x21) (x22 : Int32) (hx22 : (lp_X5_bestStep_22 g1 3 0 1000000 (-1) M3).2.1 = x22) (M23 : bM) (hM23 : (lp_X5_bestStep_22 g1 3 0 1000000 (-1) M3).2.2 = M23) : f_X5_bestStep M g1 = (x22, M23) := by subst hM23 hx22 hx21 hM3 hr1; exact Eq.trans (u_f_X5_bestStep M g1) (if_pos c2)
theorem p_X5_bestStep_e25 (M : bM) (g1 : Nat) (r1 : Int32) (hr1 : f_X0_isOver M g1 = r1) (c2 : ¬ r1 = 0) : f_X5_bestStep M g1 = ((-1), M) := by subst hr1; exact Eq.trans (u_f_X5_bestStep M g1) (if_neg c2)
set_option maxHeartbeats 4000000 in
set_option maxRecDepth 100000 in
theorem c_X5_bestStep (l : Launch) (D : va_G) (E : Nat → ClassId) (o : Nat) (M : bM) (g1 : Nat) (hg1 : isG g1) : Met l yX5_bestStep wsX5_bestStep (rmF 3) (bPc D E [.ref (o + 23), .ref (o + g1)] (fun H => bk D E LRM o M H)) (bQ (aI fun r H => ∃ M1 : bM, (r = (f_X5_bestStep M g1).1 ∧ M1 = (f_X5_bestStep M g1).2) ∧ bk D E LRM o M1 H) (rA o)) 0 0 (rA o) := by
  refine Met.ofW (cc := cX5_bestStep) (maxL := 6) (ret := (some .int)) (by decide) rfl ?_
  intro p e s m args below meth c s₁ B hml hv
  obtain ⟨rfl, hB, hK⟩ := hv
  have hx := B.exec
  have hb := B.bytes
  have hr := B.returns
  have hts := atoms_spec (ws := wsX5_bestStep) B.pre
  have hown : s.vm.findClass RX5 = some m.cls := findClass_of_methodNamed B.named
  have hlocks := B.notSynchronized
  have hS : bS (rA o) s.heap s.heap [] := bS.rf
  have hl := lv_entry ([.ref (o + 23), .ref (o + g1)]) (n := 6) (Nat.le_of_ble_eq_true rfl)
  rw [lg_entry_eq]
  generalize (lg_sl ([.ref (o + 23), .ref (o + g1)]) ++ List.replicate (6 - (lg_sl ([.ref (o + 23), .ref (o + g1)])).length) Slot.unset).toArray = ls at hl ⊢
  have hl : lv_has ls 6 [(0, .ref (o + 23)), (1, .ref (o + g1))] := hl
  have hB : bk D E LRM o M s.heap := hB
  refine lv_aload_n hx hb dX5_bestStep_0 rfl (lv_at hl 1 rfl) ?_
  refine b_pI (b_runV (As := []) (rest := []) ⟨hx, hb, hml, hown, hts⟩ (c_X0_isOver l D E o M g1 hg1) (cwV 0 hts gX5_bestStep_X0_isOver rfl rfl rfl (by decide +kernel) ⟨Nat.le_of_ble_eq_true rfl, Nat.le_of_ble_eq_true rfl⟩) hK (bk_recv hK.1 hB hg1.1 rfl) hB rfl hl rfl (Nat.le_of_ble_eq_true rfl) dX5_bestStep_1 ⟨Nat.zero_le _, Nat.zero_le _⟩) hS (fun r1 hr1 locs hS => ?_)
  refine lv_if_eq (tgt := 9) hx hb dX5_bestStep_4 (by decide) (fun c2 => ?_) (fun c2 => ?_)
  · refine lv_aload_n hx hb dX5_bestStep_9 rfl (lv_at hl 0 rfl) ?_
    refine lv_aload_n hx hb dX5_bestStep_10 rfl (lv_at hl 1 rfl) ?_
    refine b_mV (b_runV (As := [.ref (o + g1)]) (rest := []) ⟨hx, hb, hml, hown, hts⟩ (c_X5_openFree l D E o M g1 hg1) (cwV 1 hts gX5_bestStep_X5_openFree rfl rfl rfl (by decide +kernel) ⟨Nat.le_of_ble_eq_true rfl, Nat.le_of_ble_eq_true rfl⟩) hK (bk_recv hK.1 hB lay_23 rfl) hB rfl hl rfl (Nat.le_of_ble_eq_true rfl) dX5_bestStep_11 ⟨Nat.zero_le _, Nat.zero_le _⟩) hS (fun q h => h) (fun M3 hM3 H locs hB _ hS => ?_)
    refine lv_iconst (v := (-1)) hx hb dX5_bestStep_14 (by decide) ?_
    refine lv_istore_n (lv' := [(2, .int (-1)), (0, .ref (o + 23)), (1, .ref (o + g1))]) hx hb dX5_bestStep_15 rfl hl (by decide) rfl (fun ls hl => ?_)
    refine lv_ldc (v := 1000000) hx hb hown (hts (.constant RX5 94 (1000000)) (List.mem_of_getElem? (i := 1) rfl)) dX5_bestStep_16 ?_
    refine lv_istore_n (lv' := [(3, .int 1000000), (2, .int (-1)), (0, .ref (o + 23)), (1, .ref (o + g1))]) hx hb dX5_bestStep_18 rfl hl (by decide) rfl (fun ls hl => ?_)
    refine lv_iconst (v := 0) hx hb dX5_bestStep_19 (by decide) ?_
    refine lv_istore (lv' := [(4, .int 0), (3, .int 1000000), (2, .int (-1)), (0, .ref (o + 23)), (1, .ref (o + g1))]) hx hb dX5_bestStep_20 hl (by decide) rfl (fun ls hl => ?_)
    have lp4 : ∀ (n4 i4 : Nat) (x5 : Int32) (x6 : Int32) (M7 : bM), i4 + n4 = 3 → ∀ (H : Heap) (locs : List Loc), bk D E LRM o M7 H → bS (rA o) s.heap H locs → ∀ ls : Array Slot, lv_has ls 6 [(4, .int (nI i4)), (3, .int x5), (2, .int x6), (0, .ref (o + 23)), (1, .ref (o + g1))] → (∀ (H : Heap) (locs : List Loc), bk D E LRM o ((lp_X5_bestStep_22 g1 n4 i4 x5 x6 M7).2.2) H → bS (rA o) s.heap H locs → ∀ ls : Array Slot, lv_has ls 6 [(3, .int ((lp_X5_bestStep_22 g1 n4 i4 x5 x6 M7).1)), (2, .int ((lp_X5_bestStep_22 g1 n4 i4 x5 x6 M7).2.1)), (0, .ref (o + 23)), (1, .ref (o + g1))] → W p l e (headSpec wsX5_bestStep (rmF 3)).room s m ([.ref (o + 23), .ref (o + g1)] : List Value).toArray below meth c H locs 0 0 (MQ below (bQ (aI fun r H => ∃ M1 : bM, (r = (f_X5_bestStep M g1).1 ∧ M1 = (f_X5_bestStep M g1).2) ∧ bk D E LRM o M1 H) (rA o)) ([.ref (o + 23), .ref (o + g1)] : List Value).toArray s 0 0 (rA o)) (F0 m 69 ls [])) → W p l e (headSpec wsX5_bestStep (rmF 3)).room s m ([.ref (o + 23), .ref (o + g1)] : List Value).toArray below meth c H locs 0 0 (MQ below (bQ (aI fun r H => ∃ M1 : bM, (r = (f_X5_bestStep M g1).1 ∧ M1 = (f_X5_bestStep M g1).2) ∧ bk D E LRM o M1 H) (rA o)) ([.ref (o + 23), .ref (o + g1)] : List Value).toArray s 0 0 (rA o)) (F0 m 22 ls []) := by
      intro n4
      induction n4 with
      | zero =>
        intro i4 x5 x6 M7 hi4 H locs hB hS ls hl hexit4
        have hz4 : i4 = 3 := by omega
        refine lv_iload hx hb dX5_bestStep_22 (lv_at hl 0 rfl) ?_
        refine lv_iconst (v := 3) hx hb dX5_bestStep_24 (by decide) ?_
        refine lv_icmp_ge (tgt := 69) hx hb dX5_bestStep_25 (by decide) (fun c8 => ?_) (fun c8 => absurd (by rw [hz4]; exact Int32.le_refl _) c8)
        have e9 := p_X5_bestStep_e9 M g1 r1 M3 x5 x6 M7 i4 
        rw [e9] at hexit4
        exact hexit4 _ _  hB hS ls (lv_sub hl [1, 2, 3, 4] rfl)
      | succ n4 ih4 =>
        intro i4 x5 x6 M7 hi4 H locs hB hS ls hl hexit4
        refine lv_iload hx hb dX5_bestStep_22 (lv_at hl 0 rfl) ?_
        refine lv_iconst (v := 3) hx hb dX5_bestStep_24 (by decide) ?_
        refine lv_icmp_ge (tgt := 69) hx hb dX5_bestStep_25 (by decide) (fun c10 => absurd c10 (nI_ge (a := i4) (b := 3) (by omega) (by decide))) (fun c10 => ?_)
        refine lv_aload_n hx hb dX5_bestStep_28 rfl (lv_at hl 4 rfl) ?_
        refine lv_iload hx hb dX5_bestStep_29 (lv_at hl 0 rfl) ?_
        refine b_pI (b_runV (As := [.int (nI i4)]) (rest := []) ⟨hx, hb, hml, hown, hts⟩ (c_X0_reasonAgainstStep l D E o M7 g1 (nI i4) hg1) (cwV 1 hts gX5_bestStep_X0_reasonAgainstStep rfl rfl rfl (by decide +kernel) ⟨Nat.le_of_ble_eq_true rfl, Nat.le_of_ble_eq_true rfl⟩) hK (bk_recv hK.1 hB hg1.1 rfl) hB rfl hl rfl (Nat.le_of_ble_eq_true rfl) dX5_bestStep_31 ⟨Nat.zero_le _, Nat.zero_le _⟩) hS (fun r11 hr11 locs hS => ?_)
        refine lv_if_ne (tgt := 63) hx hb dX5_bestStep_34 (by decide) (fun c12 => ?_) (fun c12 => ?_)
        · refine lv_iinc (v := nI (i4 + 1)) (lv' := [(4, .int (nI (i4 + 1))), (3, .int x5), (2, .int x6), (0, .ref (o + 23)), (1, .ref (o + g1))]) hx hb dX5_bestStep_63 hl (k := 0) rfl (nI_1 i4) (by decide) rfl (fun ls hl => ?_)
          refine lv_goto (tgt := 22) hx hb dX5_bestStep_66 (by decide) ?_
          have e13 := p_X5_bestStep_e13 M g1 r1 M3 x5 x6 M7 i4 n4 r11 hr11.symm c12
          rw [e13] at hexit4
          exact ih4 (i4 + 1) x5 x6 M7 (by omega) _ _ hB hS ls (lv_sub hl [0, 1, 2, 3, 4] rfl) hexit4
        · refine lv_aload_n hx hb dX5_bestStep_37 rfl (lv_at hl 3 rfl) ?_
          refine lv_aload_n hx hb dX5_bestStep_38 rfl (lv_at hl 4 rfl) ?_
          refine lv_iload hx hb dX5_bestStep_39 (lv_at hl 0 rfl) ?_
          refine b_mI (b_runV (As := [.ref (o + g1), .int (nI i4)]) (rest := []) ⟨hx, hb, hml, hown, hts⟩ (c_X5_priceOfStep l D E o M7 g1 (nI i4) hg1) (cwV 2 hts gX5_bestStep_X5_priceOfStep rfl rfl rfl (by decide +kernel) ⟨Nat.le_of_ble_eq_true rfl, Nat.le_of_ble_eq_true rfl⟩) hK (bk_recv hK.1 hB lay_23 rfl) hB rfl hl rfl (Nat.le_of_ble_eq_true rfl) dX5_bestStep_41 ⟨Nat.zero_le _, Nat.zero_le _⟩) hS (fun q h => h) (fun r15 M14 hM14 H locs hB _ hS => ?_)
          obtain ⟨hr15, hM14⟩ := hM14
          refine lv_istore (lv' := [(5, .int r15), (4, .int (nI i4)), (3, .int x5), (2, .int x6), (0, .ref (o + 23)), (1, .ref (o + g1))]) hx hb dX5_bestStep_44 hl (by decide) rfl (fun ls hl => ?_)
          refine lv_iload_n hx hb dX5_bestStep_46 rfl (lv_at hl 3 rfl) ?_
          refine lv_iconst (v := (-1)) hx hb dX5_bestStep_47 (by decide) ?_
          refine lv_icmp_eq (tgt := 57) hx hb dX5_bestStep_48 (by decide) (fun c16 => ?_) (fun c16 => ?_)
          · refine lv_iload hx hb dX5_bestStep_57 (lv_at hl 1 rfl) ?_
            refine lv_istore_n (lv' := [(2, .int (nI i4)), (5, .int r15), (4, .int (nI i4)), (3, .int x5), (0, .ref (o + 23)), (1, .ref (o + g1))]) hx hb dX5_bestStep_59 rfl hl (by decide) rfl (fun ls hl => ?_)
            refine lv_iload hx hb dX5_bestStep_60 (lv_at hl 1 rfl) ?_
            refine lv_istore_n (lv' := [(3, .int r15), (2, .int (nI i4)), (5, .int r15), (4, .int (nI i4)), (0, .ref (o + 23)), (1, .ref (o + g1))]) hx hb dX5_bestStep_62 rfl hl (by decide) rfl (fun ls hl => ?_)
            refine lv_iinc (v := nI (i4 + 1)) (lv' := [(4, .int (nI (i4 + 1))), (3, .int r15), (2, .int (nI i4)), (5, .int r15), (0, .ref (o + 23)), (1, .ref (o + g1))]) hx hb dX5_bestStep_63 hl (k := 3) rfl (nI_1 i4) (by decide) rfl (fun ls hl => ?_)
            refine lv_goto (tgt := 22) hx hb dX5_bestStep_66 (by decide) ?_
            have e17 := p_X5_bestStep_e17 M g1 r1 M3 x5 x6 M7 i4 n4 r11 hr11.symm c12 r15 hr15.symm M14 hM14.symm c16
            rw [e17] at hexit4
            exact ih4 (i4 + 1) r15 (nI i4) M14 (by omega) _ _ hB hS ls (lv_sub hl [0, 1, 2, 4, 5] rfl) hexit4
          · refine lv_iload hx hb dX5_bestStep_51 (lv_at hl 0 rfl) ?_
            refine lv_iload_n hx hb dX5_bestStep_53 rfl (lv_at hl 2 rfl) ?_
            refine lv_icmp_ge (tgt := 63) hx hb dX5_bestStep_54 (by decide) (fun c18 => ?_) (fun c18 => ?_)
            · refine lv_iinc (v := nI (i4 + 1)) (lv' := [(4, .int (nI (i4 + 1))), (5, .int r15), (3, .int x5), (2, .int x6), (0, .ref (o + 23)), (1, .ref (o + g1))]) hx hb dX5_bestStep_63 hl (k := 1) rfl (nI_1 i4) (by decide) rfl (fun ls hl => ?_)
              refine lv_goto (tgt := 22) hx hb dX5_bestStep_66 (by decide) ?_
              have e19 := p_X5_bestStep_e19 M g1 r1 M3 x5 x6 M7 i4 n4 r11 hr11.symm c12 r15 hr15.symm M14 hM14.symm c16 c18
              rw [e19] at hexit4
              exact ih4 (i4 + 1) x5 x6 M14 (by omega) _ _ hB hS ls (lv_sub hl [0, 2, 3, 4, 5] rfl) hexit4
            · refine lv_iload hx hb dX5_bestStep_57 (lv_at hl 1 rfl) ?_
              refine lv_istore_n (lv' := [(2, .int (nI i4)), (5, .int r15), (4, .int (nI i4)), (3, .int x5), (0, .ref (o + 23)), (1, .ref (o + g1))]) hx hb dX5_bestStep_59 rfl hl (by decide) rfl (fun ls hl => ?_)
              refine lv_iload hx hb dX5_bestStep_60 (lv_at hl 1 rfl) ?_
              refine lv_istore_n (lv' := [(3, .int r15), (2, .int (nI i4)), (5, .int r15), (4, .int (nI i4)), (0, .ref (o + 23)), (1, .ref (o + g1))]) hx hb dX5_bestStep_62 rfl hl (by decide) rfl (fun ls hl => ?_)
              refine lv_iinc (v := nI (i4 + 1)) (lv' := [(4, .int (nI (i4 + 1))), (3, .int r15), (2, .int (nI i4)), (5, .int r15), (0, .ref (o + 23)), (1, .ref (o + g1))]) hx hb dX5_bestStep_63 hl (k := 3) rfl (nI_1 i4) (by decide) rfl (fun ls hl => ?_)
              refine lv_goto (tgt := 22) hx hb dX5_bestStep_66 (by decide) ?_
              have e20 := p_X5_bestStep_e20 M g1 r1 M3 x5 x6 M7 i4 n4 r11 hr11.symm c12 r15 hr15.symm M14 hM14.symm c16 c18
              rw [e20] at hexit4
              exact ih4 (i4 + 1) r15 (nI i4) M14 (by omega) _ _ hB hS ls (lv_sub hl [0, 1, 2, 4, 5] rfl) hexit4
    refine lp4 3 0 1000000 (-1) M3 (by omega) _ _ hB hS ls (lv_sub hl [0, 1, 2, 3, 4] rfl) ?_
    intro H locs hB hS ls hl
    obtain ⟨x21, hx21⟩ : ∃ y : Int32, y = (lp_X5_bestStep_22 g1 3 0 1000000 (-1) M3).1 := ⟨_, rfl⟩
    rw [← hx21] at hl
    obtain ⟨x22, hx22⟩ : ∃ y : Int32, y = (lp_X5_bestStep_22 g1 3 0 1000000 (-1) M3).2.1 := ⟨_, rfl⟩
    rw [← hx22] at hl
    obtain ⟨M23, hM23⟩ : ∃ y : bM, y = (lp_X5_bestStep_22 g1 3 0 1000000 (-1) M3).2.2 := ⟨_, rfl⟩
    rw [← hM23] at hB
    have hl : lv_has ls 6 [(3, .int x21), (2, .int x22), (0, .ref (o + 23)), (1, .ref (o + g1))] := hl
    refine lv_iload_n hx hb dX5_bestStep_69 rfl (lv_at hl 1 rfl) ?_
    have e24 := p_X5_bestStep_e24 M g1 r1 hr1.symm c2 M3 hM3.symm x21 hx21.symm x22 hx22.symm M23 hM23.symm
    exact b_iret hx hb hr hlocks hS ⟨_, rfl, _, ⟨(congrArg Prod.fst e24).symm, (congrArg Prod.snd e24).symm⟩, hB⟩ dX5_bestStep_70
  · refine lv_iconst (v := (-1)) hx hb dX5_bestStep_7 (by decide) ?_
    have e25 := p_X5_bestStep_e25 M g1 r1 hr1.symm c2
    exact b_iret hx hb hr hlocks hS ⟨_, rfl, _, ⟨(congrArg Prod.fst e25).symm, (congrArg Prod.snd e25).symm⟩, hB⟩ dX5_bestStep_8
