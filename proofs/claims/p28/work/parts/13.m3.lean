theorem in_cd {x : Int32} (h : vp_in x 64) {j : Nat} (hj : j < 3) : vp_in (x * 3 + nI j) 192 := by
  obtain ⟨i, hi, rfl⟩ := vp_in_of h (by decide)
  have e : nI i * 3 + nI j = nI (i * 3 + j) := by
    rw [← nI_add, ← pk_mul]
    rfl
  rw [e]
  exact vp_in_nI (by omega) (by decide)
theorem nn_succ {x : Int32} {n : Nat} (h : vp_in x n) (hn : n < 2 ^ 30) : ¬ x + 1 < 0 := by
  obtain ⟨i, hi, rfl⟩ := vp_in_of h (by omega)
  rw [nI_1]
  exact nI_pos (by omega)
def lp_X5_openFree_2 (g1 : Nat) : Nat → Nat → bM → (bM)
  | 0, i1, M2 => M2
  | n1 + 1, i1, M2 => (if (M2 (g1 + 9) i1) = (-1) then (if (M2 (g1 + 4) i1) = 0 then (if (M2 (g1 + 8) i1) = 0 then (let M15 : bM := up2 M2 25 i1 1; lp_X5_openFree_2 g1 n1 (i1 + 1) M15) else (let M13 : bM := up2 M2 25 i1 0; lp_X5_openFree_2 g1 n1 (i1 + 1) M13)) else (let M10 : bM := up2 M2 25 i1 0; lp_X5_openFree_2 g1 n1 (i1 + 1) M10)) else (let M7 : bM := up2 M2 25 i1 0; lp_X5_openFree_2 g1 n1 (i1 + 1) M7))
theorem u0_lp_X5_openFree_2 (g1 : Nat) (i1 : Nat) (M2 : bM) : lp_X5_openFree_2 g1 0 i1 M2 = M2 := rfl
theorem u1_lp_X5_openFree_2 (g1 : Nat) (n1 i1 : Nat) (M2 : bM) : lp_X5_openFree_2 g1 (n1 + 1) i1 M2 = (if (M2 (g1 + 9) i1) = (-1) then (if (M2 (g1 + 4) i1) = 0 then (if (M2 (g1 + 8) i1) = 0 then (let M15 : bM := up2 M2 25 i1 1; lp_X5_openFree_2 g1 n1 (i1 + 1) M15) else (let M13 : bM := up2 M2 25 i1 0; lp_X5_openFree_2 g1 n1 (i1 + 1) M13)) else (let M10 : bM := up2 M2 25 i1 0; lp_X5_openFree_2 g1 n1 (i1 + 1) M10)) else (let M7 : bM := up2 M2 25 i1 0; lp_X5_openFree_2 g1 n1 (i1 + 1) M7)) := rfl
def f_X5_openFree (M : bM) (g1 : Nat) : bM := (let M17 : bM := (lp_X5_openFree_2 g1 64 0 M); M17)
theorem u_f_X5_openFree (M : bM) (g1 : Nat) : f_X5_openFree M g1 = (let M17 : bM := (lp_X5_openFree_2 g1 64 0 M); M17) := rfl
theorem p_X5_openFree_e4 (M : bM) (g1 : Nat) (M2 : bM) (i1 : Nat)  : lp_X5_openFree_2 g1 0 i1 M2 = M2 := by exact u0_lp_X5_openFree_2 g1 i1 M2
theorem p_X5_openFree_e8 (M : bM) (g1 : Nat) (M2 : bM) (i1 : Nat) (n1 : Nat) (c6 : ¬ (M2 (g1 + 9) i1) = (-1)) (M7 : bM) (hM7 : up2 M2 25 i1 0 = M7) : lp_X5_openFree_2 g1 (n1 + 1) i1 M2 = lp_X5_openFree_2 g1 n1 (i1 + 1) M7 := by subst hM7; exact Eq.trans (u1_lp_X5_openFree_2 g1 n1 i1 M2) (if_neg c6)
theorem p_X5_openFree_e11 (M : bM) (g1 : Nat) (M2 : bM) (i1 : Nat) (n1 : Nat) (c6 : (M2 (g1 + 9) i1) = (-1)) (c9 : ¬ (M2 (g1 + 4) i1) = 0) (M10 : bM) (hM10 : up2 M2 25 i1 0 = M10) : lp_X5_openFree_2 g1 (n1 + 1) i1 M2 = lp_X5_openFree_2 g1 n1 (i1 + 1) M10 := by subst hM10; exact Eq.trans (u1_lp_X5_openFree_2 g1 n1 i1 M2) (Eq.trans (if_pos c6) (if_neg c9))
theorem p_X5_openFree_e14 (M : bM) (g1 : Nat) (M2 : bM) (i1 : Nat) (n1 : Nat) (c6 : (M2 (g1 + 9) i1) = (-1)) (c9 : (M2 (g1 + 4) i1) = 0) (c12 : ¬ (M2 (g1 + 8) i1) = 0) (M13 : bM) (hM13 : up2 M2 25 i1 0 = M13) : lp_X5_openFree_2 g1 (n1 + 1) i1 M2 = lp_X5_openFree_2 g1 n1 (i1 + 1) M13 := by subst hM13; exact Eq.trans (u1_lp_X5_openFree_2 g1 n1 i1 M2) (Eq.trans (if_pos c6) (Eq.trans (if_pos c9) (if_neg c12)))
theorem p_X5_openFree_e16 (M : bM) (g1 : Nat) (M2 : bM) (i1 : Nat) (n1 : Nat) (c6 : (M2 (g1 + 9) i1) = (-1)) (c9 : (M2 (g1 + 4) i1) = 0) (c12 : (M2 (g1 + 8) i1) = 0) (M15 : bM) (hM15 : up2 M2 25 i1 1 = M15) : lp_X5_openFree_2 g1 (n1 + 1) i1 M2 = lp_X5_openFree_2 g1 n1 (i1 + 1) M15 := by subst hM15; exact Eq.trans (u1_lp_X5_openFree_2 g1 n1 i1 M2) (Eq.trans (if_pos c6) (Eq.trans (if_pos c9) (if_pos c12)))
theorem p_X5_openFree_e18 (M : bM) (g1 : Nat) (M17 : bM) (hM17 : (lp_X5_openFree_2 g1 64 0 M) = M17) : f_X5_openFree M g1 = M17 := by subst hM17; exact u_f_X5_openFree M g1
set_option maxHeartbeats 4000000 in
set_option maxRecDepth 100000 in
theorem c_X5_openFree (l : Launch) (D : va_G) (E : Nat → ClassId) (o : Nat) (M : bM) (g1 : Nat) (hg1 : isG g1) : Met l yX5_openFree wsX5_openFree (rmF 0) (bPc D E [.ref (o + 23), .ref (o + g1)] (fun H => bk D E LRM o M H)) (bQ (aV fun H => ∃ M1 : bM, M1 = f_X5_openFree M g1 ∧ bk D E LRM o M1 H) (rA o)) 0 0 (rA o) := by
  refine Met.ofW (cc := cX5_openFree) (maxL := 3) (ret := none) (by decide) rfl ?_
  intro p e s m args below meth c s₁ B hml hv
  obtain ⟨rfl, hB, hK⟩ := hv
  have hx := B.exec
  have hb := B.bytes
  have hr := B.returns
  have hts := atoms_spec (ws := wsX5_openFree) B.pre
  have hown : s.vm.findClass RX5 = some m.cls := findClass_of_methodNamed B.named
  have hlocks := B.notSynchronized
  have hS : bS (rA o) s.heap s.heap [] := bS.rf
  have hl := lv_entry ([.ref (o + 23), .ref (o + g1)]) (n := 3) (Nat.le_of_ble_eq_true rfl)
  rw [lg_entry_eq]
  generalize (lg_sl ([.ref (o + 23), .ref (o + g1)]) ++ List.replicate (3 - (lg_sl ([.ref (o + 23), .ref (o + g1)])).length) Slot.unset).toArray = ls at hl ⊢
  have hl : lv_has ls 3 [(0, .ref (o + 23)), (1, .ref (o + g1))] := hl
  have hB : bk D E LRM o M s.heap := hB
  have hinX0 : ∀ w ∈ wsX00, w ∈ wsX5_openFree := by decide +kernel
  have hinX2 : ∀ w ∈ wsX20, w ∈ wsX5_openFree := by decide +kernel
  have hinX5 : ∀ w ∈ wsX50, w ∈ wsX5_openFree := by decide +kernel
  refine lv_iconst (v := 0) hx hb dX5_openFree_0 (by decide) ?_
  refine lv_istore_n (lv' := [(2, .int 0), (0, .ref (o + 23)), (1, .ref (o + g1))]) hx hb dX5_openFree_1 rfl hl (by decide) rfl (fun ls hl => ?_)
  have lp1 : ∀ (n1 i1 : Nat) (M2 : bM), i1 + n1 = 64 → ∀ (H : Heap) (locs : List Loc), bk D E LRM o M2 H → bS (rA o) s.heap H locs → ∀ ls : Array Slot, lv_has ls 3 [(2, .int (nI i1)), (0, .ref (o + 23)), (1, .ref (o + g1))] → (∀ (H : Heap) (locs : List Loc), bk D E LRM o (lp_X5_openFree_2 g1 n1 i1 M2) H → bS (rA o) s.heap H locs → ∀ ls : Array Slot, lv_has ls 3 [(0, .ref (o + 23)), (1, .ref (o + g1))] → W p l e (headSpec wsX5_openFree (rmF 0)).room s m ([.ref (o + 23), .ref (o + g1)] : List Value).toArray below meth c H locs 0 0 (MQ below (bQ (aV fun H => ∃ M1 : bM, M1 = f_X5_openFree M g1 ∧ bk D E LRM o M1 H) (rA o)) ([.ref (o + 23), .ref (o + g1)] : List Value).toArray s 0 0 (rA o)) (F0 m 59 ls [])) → W p l e (headSpec wsX5_openFree (rmF 0)).room s m ([.ref (o + 23), .ref (o + g1)] : List Value).toArray below meth c H locs 0 0 (MQ below (bQ (aV fun H => ∃ M1 : bM, M1 = f_X5_openFree M g1 ∧ bk D E LRM o M1 H) (rA o)) ([.ref (o + 23), .ref (o + g1)] : List Value).toArray s 0 0 (rA o)) (F0 m 2 ls []) := by
    intro n1
    induction n1 with
    | zero =>
      intro i1 M2 hi1 H locs hB hS ls hl hexit1
      have hz1 : i1 = 64 := by omega
      refine lv_iload_n hx hb dX5_openFree_2 rfl (lv_at hl 0 rfl) ?_
      refine lv_bipush (v := 64) hx hb dX5_openFree_3 (by decide) ?_
      refine lv_icmp_ge (tgt := 59) hx hb dX5_openFree_5 (by decide) (fun c3 => ?_) (fun c3 => absurd (by rw [hz1]; exact Int32.le_refl _) c3)
      have e4 := p_X5_openFree_e4 M g1 M2 i1 
      rw [e4] at hexit1
      exact hexit1 _ _  hB hS ls (lv_sub hl [1, 2] rfl)
    | succ n1 ih1 =>
      intro i1 M2 hi1 H locs hB hS ls hl hexit1
      refine lv_iload_n hx hb dX5_openFree_2 rfl (lv_at hl 0 rfl) ?_
      refine lv_bipush (v := 64) hx hb dX5_openFree_3 (by decide) ?_
      refine lv_icmp_ge (tgt := 59) hx hb dX5_openFree_5 (by decide) (fun c5 => absurd c5 (nI_ge (a := i1) (b := 64) (by omega) (by decide))) (fun c5 => ?_)
      refine lv_aload_n hx hb dX5_openFree_8 rfl (lv_at hl 1 rfl) ?_
      refine b_get (D := D) (E := E) (L := LRM) (o := o) (M := M2) (v := .ref (o + 25)) (C := RX5) (T := TX5) (N := 6) hx hb hts hinX5 hown hK.1 hB 23 lay_23 rfl 1 (by decide) (hts (.fieldLink RX5 15 "RiverMeeting$Ways" "open" "[Z") (List.mem_of_getElem? (i := 1) rfl)) (fun _ h9 => h9) rfl dX5_openFree_9 ?_
      refine lv_iload_n hx hb dX5_openFree_12 rfl (lv_at hl 0 rfl) ?_
      refine lv_aload_n hx hb dX5_openFree_13 rfl (lv_at hl 2 rfl) ?_
      refine b_get (D := D) (E := E) (L := LRM) (o := o) (M := M2) (v := .ref (o + (g1 + 9))) (C := RX0) (T := TX0) (N := 12) hx hb hts hinX0 hown hK.1 hB g1 hg1.1 rfl 2 (by decide) (hts (.fieldLink RX5 35 "RiverMeeting$Game" "stood" "[I") (List.mem_of_getElem? (i := 2) rfl)) (fun _ h9 => h9) rfl dX5_openFree_14 ?_
      refine lv_iload_n hx hb dX5_openFree_17 rfl (lv_at hl 0 rfl) ?_
      refine b_iald hx hb hK.1 hB (g1 + 9) hg1.2.2.2 (vp_in_nI (by omega) (by decide)) dX5_openFree_18 ?_
      rw [nI_clamp (n := i1) (by omega)]
      refine lv_iconst (v := (-1)) hx hb dX5_openFree_19 (by decide) ?_
      refine lv_icmp_ne (tgt := 51) hx hb dX5_openFree_20 (by decide) (fun c6 => ?_) (fun c6 => ?_)
      · refine lv_iconst (v := 0) hx hb dX5_openFree_51 (by decide) ?_
        refine b_zast hx hb hK.1 hB hS 25 (rA_of lay_25) lay_25 (vp_in_nI (by omega) (by decide)) dX5_openFree_52 (fun M7 hM7 H locs hB _ hS => ?_)
        rw [show vp_nar .boolean 0 = 0 from rfl] at hM7
        rw [nI_clamp (n := i1) (by omega)] at hM7
        refine lv_iinc (v := nI (i1 + 1)) (lv' := [(2, .int (nI (i1 + 1))), (0, .ref (o + 23)), (1, .ref (o + g1))]) hx hb dX5_openFree_53 hl (k := 0) rfl (nI_1 i1) (by decide) rfl (fun ls hl => ?_)
        refine lv_goto (tgt := 2) hx hb dX5_openFree_56 (by decide) ?_
        have e8 := p_X5_openFree_e8 M g1 M2 i1 n1 c6 M7 hM7.symm
        rw [e8] at hexit1
        exact ih1 (i1 + 1) M7 (by omega) _ _ hB hS ls (lv_sub hl [0, 1, 2] rfl) hexit1
      · refine lv_aload_n hx hb dX5_openFree_23 rfl (lv_at hl 2 rfl) ?_
        refine b_get (D := D) (E := E) (L := LRM) (o := o) (M := M2) (v := .ref (o + (g1 + 1))) (C := RX0) (T := TX0) (N := 12) hx hb hts hinX0 hown hK.1 hB g1 hg1.1 rfl 0 (by decide) (hts (.fieldLink RX5 40 "RiverMeeting$Game" "first" "LRiverMeeting$Side;") (List.mem_of_getElem? (i := 3) rfl)) (fun _ h9 => h9) rfl dX5_openFree_24 ?_
        refine b_get (D := D) (E := E) (L := LRM) (o := o) (M := M2) (v := .ref (o + (g1 + 4))) (C := RX2) (T := TX2) (N := 8) hx hb hts hinX2 hown hK.1 hB (g1 + 1) hg1.2.1.1 rfl 2 (by decide) (hts (.fieldLink RX5 44 "RiverMeeting$Side" "bed" "[Z") (List.mem_of_getElem? (i := 4) rfl)) (fun _ h9 => h9) rfl dX5_openFree_27 ?_
        refine lv_iload_n hx hb dX5_openFree_30 rfl (lv_at hl 0 rfl) ?_
        refine b_zald hx hb hK.1 hB (g1 + 4) hg1.2.1.2.2.2 (vp_in_nI (by omega) (by decide)) dX5_openFree_31 ?_
        rw [nI_clamp (n := i1) (by omega)]
        refine lv_if_ne (tgt := 51) hx hb dX5_openFree_32 (by decide) (fun c9 => ?_) (fun c9 => ?_)
        · refine lv_iconst (v := 0) hx hb dX5_openFree_51 (by decide) ?_
          refine b_zast hx hb hK.1 hB hS 25 (rA_of lay_25) lay_25 (vp_in_nI (by omega) (by decide)) dX5_openFree_52 (fun M10 hM10 H locs hB _ hS => ?_)
          rw [show vp_nar .boolean 0 = 0 from rfl] at hM10
          rw [nI_clamp (n := i1) (by omega)] at hM10
          refine lv_iinc (v := nI (i1 + 1)) (lv' := [(2, .int (nI (i1 + 1))), (0, .ref (o + 23)), (1, .ref (o + g1))]) hx hb dX5_openFree_53 hl (k := 0) rfl (nI_1 i1) (by decide) rfl (fun ls hl => ?_)
          refine lv_goto (tgt := 2) hx hb dX5_openFree_56 (by decide) ?_
          have e11 := p_X5_openFree_e11 M g1 M2 i1 n1 c6 c9 M10 hM10.symm
          rw [e11] at hexit1
          exact ih1 (i1 + 1) M10 (by omega) _ _ hB hS ls (lv_sub hl [0, 1, 2] rfl) hexit1
        · refine lv_aload_n hx hb dX5_openFree_35 rfl (lv_at hl 2 rfl) ?_
          refine b_get (D := D) (E := E) (L := LRM) (o := o) (M := M2) (v := .ref (o + (g1 + 5))) (C := RX0) (T := TX0) (N := 12) hx hb hts hinX0 hown hK.1 hB g1 hg1.1 rfl 1 (by decide) (hts (.fieldLink RX5 49 "RiverMeeting$Game" "second" "LRiverMeeting$Side;") (List.mem_of_getElem? (i := 5) rfl)) (fun _ h9 => h9) rfl dX5_openFree_36 ?_
          refine b_get (D := D) (E := E) (L := LRM) (o := o) (M := M2) (v := .ref (o + (g1 + 8))) (C := RX2) (T := TX2) (N := 8) hx hb hts hinX2 hown hK.1 hB (g1 + 5) hg1.2.2.1.1 rfl 2 (by decide) (hts (.fieldLink RX5 44 "RiverMeeting$Side" "bed" "[Z") (List.mem_of_getElem? (i := 4) rfl)) (fun _ h9 => h9) rfl dX5_openFree_39 ?_
          refine lv_iload_n hx hb dX5_openFree_42 rfl (lv_at hl 0 rfl) ?_
          refine b_zald hx hb hK.1 hB (g1 + 8) hg1.2.2.1.2.2.2 (vp_in_nI (by omega) (by decide)) dX5_openFree_43 ?_
          rw [nI_clamp (n := i1) (by omega)]
          refine lv_if_ne (tgt := 51) hx hb dX5_openFree_44 (by decide) (fun c12 => ?_) (fun c12 => ?_)
          · refine lv_iconst (v := 0) hx hb dX5_openFree_51 (by decide) ?_
            refine b_zast hx hb hK.1 hB hS 25 (rA_of lay_25) lay_25 (vp_in_nI (by omega) (by decide)) dX5_openFree_52 (fun M13 hM13 H locs hB _ hS => ?_)
            rw [show vp_nar .boolean 0 = 0 from rfl] at hM13
            rw [nI_clamp (n := i1) (by omega)] at hM13
            refine lv_iinc (v := nI (i1 + 1)) (lv' := [(2, .int (nI (i1 + 1))), (0, .ref (o + 23)), (1, .ref (o + g1))]) hx hb dX5_openFree_53 hl (k := 0) rfl (nI_1 i1) (by decide) rfl (fun ls hl => ?_)
            refine lv_goto (tgt := 2) hx hb dX5_openFree_56 (by decide) ?_
            have e14 := p_X5_openFree_e14 M g1 M2 i1 n1 c6 c9 c12 M13 hM13.symm
            rw [e14] at hexit1
            exact ih1 (i1 + 1) M13 (by omega) _ _ hB hS ls (lv_sub hl [0, 1, 2] rfl) hexit1
          · refine lv_iconst (v := 1) hx hb dX5_openFree_47 (by decide) ?_
            refine lv_goto (tgt := 52) hx hb dX5_openFree_48 (by decide) ?_
            refine b_zast hx hb hK.1 hB hS 25 (rA_of lay_25) lay_25 (vp_in_nI (by omega) (by decide)) dX5_openFree_52 (fun M15 hM15 H locs hB _ hS => ?_)
            rw [show vp_nar .boolean 1 = 1 from rfl] at hM15
            rw [nI_clamp (n := i1) (by omega)] at hM15
            refine lv_iinc (v := nI (i1 + 1)) (lv' := [(2, .int (nI (i1 + 1))), (0, .ref (o + 23)), (1, .ref (o + g1))]) hx hb dX5_openFree_53 hl (k := 0) rfl (nI_1 i1) (by decide) rfl (fun ls hl => ?_)
            refine lv_goto (tgt := 2) hx hb dX5_openFree_56 (by decide) ?_
            have e16 := p_X5_openFree_e16 M g1 M2 i1 n1 c6 c9 c12 M15 hM15.symm
            rw [e16] at hexit1
            exact ih1 (i1 + 1) M15 (by omega) _ _ hB hS ls (lv_sub hl [0, 1, 2] rfl) hexit1
  refine lp1 64 0 M (by omega) _ _ hB hS ls (lv_sub hl [0, 1, 2] rfl) ?_
  intro H locs hB hS ls hl
  obtain ⟨M17, hM17⟩ : ∃ y : bM, y = (lp_X5_openFree_2 g1 64 0 M) := ⟨_, rfl⟩
  rw [← hM17] at hB
  have hl : lv_has ls 3 [(0, .ref (o + 23)), (1, .ref (o + g1))] := hl
  have e18 := p_X5_openFree_e18 M g1 M17 hM17.symm
  exact b_vret hx hb hr hlocks hS ⟨rfl, _, e18.symm, hB⟩ dX5_openFree_59
def lp_X5_openBesides_2 (g1 : Nat) (w2 : Nat) : Nat → Nat → bM → (bM)
  | 0, i1, M2 => M2
  | n1 + 1, i1, M2 => (if (M2 (g1 + 9) i1) = (-1) then (if (M2 (w2 + 3) i1) = 0 then (let M12 : bM := up2 M2 25 i1 1; lp_X5_openBesides_2 g1 w2 n1 (i1 + 1) M12) else (let M10 : bM := up2 M2 25 i1 0; lp_X5_openBesides_2 g1 w2 n1 (i1 + 1) M10)) else (let M7 : bM := up2 M2 25 i1 0; lp_X5_openBesides_2 g1 w2 n1 (i1 + 1) M7))
theorem u0_lp_X5_openBesides_2 (g1 : Nat) (w2 : Nat) (i1 : Nat) (M2 : bM) : lp_X5_openBesides_2 g1 w2 0 i1 M2 = M2 := rfl
theorem u1_lp_X5_openBesides_2 (g1 : Nat) (w2 : Nat) (n1 i1 : Nat) (M2 : bM) : lp_X5_openBesides_2 g1 w2 (n1 + 1) i1 M2 = (if (M2 (g1 + 9) i1) = (-1) then (if (M2 (w2 + 3) i1) = 0 then (let M12 : bM := up2 M2 25 i1 1; lp_X5_openBesides_2 g1 w2 n1 (i1 + 1) M12) else (let M10 : bM := up2 M2 25 i1 0; lp_X5_openBesides_2 g1 w2 n1 (i1 + 1) M10)) else (let M7 : bM := up2 M2 25 i1 0; lp_X5_openBesides_2 g1 w2 n1 (i1 + 1) M7)) := rfl
def f_X5_openBesides (M : bM) (g1 : Nat) (w2 : Nat) : bM := (let M14 : bM := (lp_X5_openBesides_2 g1 w2 64 0 M); M14)
theorem u_f_X5_openBesides (M : bM) (g1 : Nat) (w2 : Nat) : f_X5_openBesides M g1 w2 = (let M14 : bM := (lp_X5_openBesides_2 g1 w2 64 0 M); M14) := rfl
theorem p_X5_openBesides_e4 (M : bM) (g1 : Nat) (w2 : Nat) (M2 : bM) (i1 : Nat)  : lp_X5_openBesides_2 g1 w2 0 i1 M2 = M2 := by exact u0_lp_X5_openBesides_2 g1 w2 i1 M2
theorem p_X5_openBesides_e8 (M : bM) (g1 : Nat) (w2 : Nat) (M2 : bM) (i1 : Nat) (n1 : Nat) (c6 : ¬ (M2 (g1 + 9) i1) = (-1)) (M7 : bM) (hM7 : up2 M2 25 i1 0 = M7) : lp_X5_openBesides_2 g1 w2 (n1 + 1) i1 M2 = lp_X5_openBesides_2 g1 w2 n1 (i1 + 1) M7 := by subst hM7; exact Eq.trans (u1_lp_X5_openBesides_2 g1 w2 n1 i1 M2) (if_neg c6)
theorem p_X5_openBesides_e11 (M : bM) (g1 : Nat) (w2 : Nat) (M2 : bM) (i1 : Nat) (n1 : Nat) (c6 : (M2 (g1 + 9) i1) = (-1)) (c9 : ¬ (M2 (w2 + 3) i1) = 0) (M10 : bM) (hM10 : up2 M2 25 i1 0 = M10) : lp_X5_openBesides_2 g1 w2 (n1 + 1) i1 M2 = lp_X5_openBesides_2 g1 w2 n1 (i1 + 1) M10 := by subst hM10; exact Eq.trans (u1_lp_X5_openBesides_2 g1 w2 n1 i1 M2) (Eq.trans (if_pos c6) (if_neg c9))
theorem p_X5_openBesides_e13 (M : bM) (g1 : Nat) (w2 : Nat) (M2 : bM) (i1 : Nat) (n1 : Nat) (c6 : (M2 (g1 + 9) i1) = (-1)) (c9 : (M2 (w2 + 3) i1) = 0) (M12 : bM) (hM12 : up2 M2 25 i1 1 = M12) : lp_X5_openBesides_2 g1 w2 (n1 + 1) i1 M2 = lp_X5_openBesides_2 g1 w2 n1 (i1 + 1) M12 := by subst hM12; exact Eq.trans (u1_lp_X5_openBesides_2 g1 w2 n1 i1 M2) (Eq.trans (if_pos c6) (if_pos c9))
theorem p_X5_openBesides_e15 (M : bM) (g1 : Nat) (w2 : Nat) (M14 : bM) (hM14 : (lp_X5_openBesides_2 g1 w2 64 0 M) = M14) : f_X5_openBesides M g1 w2 = M14 := by subst hM14; exact u_f_X5_openBesides M g1 w2
set_option maxHeartbeats 4000000 in
set_option maxRecDepth 100000 in
theorem c_X5_openBesides (l : Launch) (D : va_G) (E : Nat → ClassId) (o : Nat) (M : bM) (g1 : Nat) (w2 : Nat) (hg1 : isG g1) (hw2 : isS w2) : Met l yX5_openBesides wsX5_openBesides (rmF 0) (bPc D E [.ref (o + 23), .ref (o + g1), .ref (o + w2)] (fun H => bk D E LRM o M H)) (bQ (aV fun H => ∃ M1 : bM, M1 = f_X5_openBesides M g1 w2 ∧ bk D E LRM o M1 H) (rA o)) 0 0 (rA o) := by
  refine Met.ofW (cc := cX5_openBesides) (maxL := 4) (ret := none) (by decide) rfl ?_
  intro p e s m args below meth c s₁ B hml hv
  obtain ⟨rfl, hB, hK⟩ := hv
  have hx := B.exec
  have hb := B.bytes
  have hr := B.returns
  have hts := atoms_spec (ws := wsX5_openBesides) B.pre
  have hown : s.vm.findClass RX5 = some m.cls := findClass_of_methodNamed B.named
  have hlocks := B.notSynchronized
  have hS : bS (rA o) s.heap s.heap [] := bS.rf
  have hl := lv_entry ([.ref (o + 23), .ref (o + g1), .ref (o + w2)]) (n := 4) (Nat.le_of_ble_eq_true rfl)
  rw [lg_entry_eq]
  generalize (lg_sl ([.ref (o + 23), .ref (o + g1), .ref (o + w2)]) ++ List.replicate (4 - (lg_sl ([.ref (o + 23), .ref (o + g1), .ref (o + w2)])).length) Slot.unset).toArray = ls at hl ⊢
  have hl : lv_has ls 4 [(0, .ref (o + 23)), (1, .ref (o + g1)), (2, .ref (o + w2))] := hl
  have hB : bk D E LRM o M s.heap := hB
  have hinX0 : ∀ w ∈ wsX00, w ∈ wsX5_openBesides := by decide +kernel
  have hinX2 : ∀ w ∈ wsX20, w ∈ wsX5_openBesides := by decide +kernel
  have hinX5 : ∀ w ∈ wsX50, w ∈ wsX5_openBesides := by decide +kernel
  refine lv_iconst (v := 0) hx hb dX5_openBesides_0 (by decide) ?_
  refine lv_istore_n (lv' := [(3, .int 0), (0, .ref (o + 23)), (1, .ref (o + g1)), (2, .ref (o + w2))]) hx hb dX5_openBesides_1 rfl hl (by decide) rfl (fun ls hl => ?_)
  have lp1 : ∀ (n1 i1 : Nat) (M2 : bM), i1 + n1 = 64 → ∀ (H : Heap) (locs : List Loc), bk D E LRM o M2 H → bS (rA o) s.heap H locs → ∀ ls : Array Slot, lv_has ls 4 [(3, .int (nI i1)), (0, .ref (o + 23)), (1, .ref (o + g1)), (2, .ref (o + w2))] → (∀ (H : Heap) (locs : List Loc), bk D E LRM o (lp_X5_openBesides_2 g1 w2 n1 i1 M2) H → bS (rA o) s.heap H locs → ∀ ls : Array Slot, lv_has ls 4 [(0, .ref (o + 23)), (1, .ref (o + g1)), (2, .ref (o + w2))] → W p l e (headSpec wsX5_openBesides (rmF 0)).room s m ([.ref (o + 23), .ref (o + g1), .ref (o + w2)] : List Value).toArray below meth c H locs 0 0 (MQ below (bQ (aV fun H => ∃ M1 : bM, M1 = f_X5_openBesides M g1 w2 ∧ bk D E LRM o M1 H) (rA o)) ([.ref (o + 23), .ref (o + g1), .ref (o + w2)] : List Value).toArray s 0 0 (rA o)) (F0 m 44 ls [])) → W p l e (headSpec wsX5_openBesides (rmF 0)).room s m ([.ref (o + 23), .ref (o + g1), .ref (o + w2)] : List Value).toArray below meth c H locs 0 0 (MQ below (bQ (aV fun H => ∃ M1 : bM, M1 = f_X5_openBesides M g1 w2 ∧ bk D E LRM o M1 H) (rA o)) ([.ref (o + 23), .ref (o + g1), .ref (o + w2)] : List Value).toArray s 0 0 (rA o)) (F0 m 2 ls []) := by
    intro n1
    induction n1 with
    | zero =>
      intro i1 M2 hi1 H locs hB hS ls hl hexit1
      have hz1 : i1 = 64 := by omega
      refine lv_iload_n hx hb dX5_openBesides_2 rfl (lv_at hl 0 rfl) ?_
      refine lv_bipush (v := 64) hx hb dX5_openBesides_3 (by decide) ?_
      refine lv_icmp_ge (tgt := 44) hx hb dX5_openBesides_5 (by decide) (fun c3 => ?_) (fun c3 => absurd (by rw [hz1]; exact Int32.le_refl _) c3)
      have e4 := p_X5_openBesides_e4 M g1 w2 M2 i1 
      rw [e4] at hexit1
      exact hexit1 _ _  hB hS ls (lv_sub hl [1, 2, 3] rfl)
    | succ n1 ih1 =>
      intro i1 M2 hi1 H locs hB hS ls hl hexit1
      refine lv_iload_n hx hb dX5_openBesides_2 rfl (lv_at hl 0 rfl) ?_
      refine lv_bipush (v := 64) hx hb dX5_openBesides_3 (by decide) ?_
      refine lv_icmp_ge (tgt := 44) hx hb dX5_openBesides_5 (by decide) (fun c5 => absurd c5 (nI_ge (a := i1) (b := 64) (by omega) (by decide))) (fun c5 => ?_)
      refine lv_aload_n hx hb dX5_openBesides_8 rfl (lv_at hl 1 rfl) ?_
      refine b_get (D := D) (E := E) (L := LRM) (o := o) (M := M2) (v := .ref (o + 25)) (C := RX5) (T := TX5) (N := 6) hx hb hts hinX5 hown hK.1 hB 23 lay_23 rfl 1 (by decide) (hts (.fieldLink RX5 15 "RiverMeeting$Ways" "open" "[Z") (List.mem_of_getElem? (i := 1) rfl)) (fun _ h9 => h9) rfl dX5_openBesides_9 ?_
      refine lv_iload_n hx hb dX5_openBesides_12 rfl (lv_at hl 0 rfl) ?_
      refine lv_aload_n hx hb dX5_openBesides_13 rfl (lv_at hl 2 rfl) ?_
      refine b_get (D := D) (E := E) (L := LRM) (o := o) (M := M2) (v := .ref (o + (g1 + 9))) (C := RX0) (T := TX0) (N := 12) hx hb hts hinX0 hown hK.1 hB g1 hg1.1 rfl 2 (by decide) (hts (.fieldLink RX5 35 "RiverMeeting$Game" "stood" "[I") (List.mem_of_getElem? (i := 2) rfl)) (fun _ h9 => h9) rfl dX5_openBesides_14 ?_
      refine lv_iload_n hx hb dX5_openBesides_17 rfl (lv_at hl 0 rfl) ?_
      refine b_iald hx hb hK.1 hB (g1 + 9) hg1.2.2.2 (vp_in_nI (by omega) (by decide)) dX5_openBesides_18 ?_
      rw [nI_clamp (n := i1) (by omega)]
      refine lv_iconst (v := (-1)) hx hb dX5_openBesides_19 (by decide) ?_
      refine lv_icmp_ne (tgt := 36) hx hb dX5_openBesides_20 (by decide) (fun c6 => ?_) (fun c6 => ?_)
      · refine lv_iconst (v := 0) hx hb dX5_openBesides_36 (by decide) ?_
        refine b_zast hx hb hK.1 hB hS 25 (rA_of lay_25) lay_25 (vp_in_nI (by omega) (by decide)) dX5_openBesides_37 (fun M7 hM7 H locs hB _ hS => ?_)
        rw [show vp_nar .boolean 0 = 0 from rfl] at hM7
        rw [nI_clamp (n := i1) (by omega)] at hM7
        refine lv_iinc (v := nI (i1 + 1)) (lv' := [(3, .int (nI (i1 + 1))), (0, .ref (o + 23)), (1, .ref (o + g1)), (2, .ref (o + w2))]) hx hb dX5_openBesides_38 hl (k := 0) rfl (nI_1 i1) (by decide) rfl (fun ls hl => ?_)
        refine lv_goto (tgt := 2) hx hb dX5_openBesides_41 (by decide) ?_
        have e8 := p_X5_openBesides_e8 M g1 w2 M2 i1 n1 c6 M7 hM7.symm
        rw [e8] at hexit1
        exact ih1 (i1 + 1) M7 (by omega) _ _ hB hS ls (lv_sub hl [0, 1, 2, 3] rfl) hexit1
      · refine lv_aload_n hx hb dX5_openBesides_23 rfl (lv_at hl 3 rfl) ?_
        refine b_get (D := D) (E := E) (L := LRM) (o := o) (M := M2) (v := .ref (o + (w2 + 3))) (C := RX2) (T := TX2) (N := 8) hx hb hts hinX2 hown hK.1 hB w2 hw2.1 rfl 2 (by decide) (hts (.fieldLink RX5 44 "RiverMeeting$Side" "bed" "[Z") (List.mem_of_getElem? (i := 3) rfl)) (fun _ h9 => h9) rfl dX5_openBesides_24 ?_
        refine lv_iload_n hx hb dX5_openBesides_27 rfl (lv_at hl 0 rfl) ?_
        refine b_zald hx hb hK.1 hB (w2 + 3) hw2.2.2.2 (vp_in_nI (by omega) (by decide)) dX5_openBesides_28 ?_
        rw [nI_clamp (n := i1) (by omega)]
        refine lv_if_ne (tgt := 36) hx hb dX5_openBesides_29 (by decide) (fun c9 => ?_) (fun c9 => ?_)
        · refine lv_iconst (v := 0) hx hb dX5_openBesides_36 (by decide) ?_
          refine b_zast hx hb hK.1 hB hS 25 (rA_of lay_25) lay_25 (vp_in_nI (by omega) (by decide)) dX5_openBesides_37 (fun M10 hM10 H locs hB _ hS => ?_)
          rw [show vp_nar .boolean 0 = 0 from rfl] at hM10
          rw [nI_clamp (n := i1) (by omega)] at hM10
          refine lv_iinc (v := nI (i1 + 1)) (lv' := [(3, .int (nI (i1 + 1))), (0, .ref (o + 23)), (1, .ref (o + g1)), (2, .ref (o + w2))]) hx hb dX5_openBesides_38 hl (k := 0) rfl (nI_1 i1) (by decide) rfl (fun ls hl => ?_)
          refine lv_goto (tgt := 2) hx hb dX5_openBesides_41 (by decide) ?_
          have e11 := p_X5_openBesides_e11 M g1 w2 M2 i1 n1 c6 c9 M10 hM10.symm
          rw [e11] at hexit1
          exact ih1 (i1 + 1) M10 (by omega) _ _ hB hS ls (lv_sub hl [0, 1, 2, 3] rfl) hexit1
        · refine lv_iconst (v := 1) hx hb dX5_openBesides_32 (by decide) ?_
          refine lv_goto (tgt := 37) hx hb dX5_openBesides_33 (by decide) ?_
          refine b_zast hx hb hK.1 hB hS 25 (rA_of lay_25) lay_25 (vp_in_nI (by omega) (by decide)) dX5_openBesides_37 (fun M12 hM12 H locs hB _ hS => ?_)
          rw [show vp_nar .boolean 1 = 1 from rfl] at hM12
          rw [nI_clamp (n := i1) (by omega)] at hM12
          refine lv_iinc (v := nI (i1 + 1)) (lv' := [(3, .int (nI (i1 + 1))), (0, .ref (o + 23)), (1, .ref (o + g1)), (2, .ref (o + w2))]) hx hb dX5_openBesides_38 hl (k := 0) rfl (nI_1 i1) (by decide) rfl (fun ls hl => ?_)
          refine lv_goto (tgt := 2) hx hb dX5_openBesides_41 (by decide) ?_
          have e13 := p_X5_openBesides_e13 M g1 w2 M2 i1 n1 c6 c9 M12 hM12.symm
          rw [e13] at hexit1
          exact ih1 (i1 + 1) M12 (by omega) _ _ hB hS ls (lv_sub hl [0, 1, 2, 3] rfl) hexit1
  refine lp1 64 0 M (by omega) _ _ hB hS ls (lv_sub hl [0, 1, 2, 3] rfl) ?_
  intro H locs hB hS ls hl
  obtain ⟨M14, hM14⟩ : ∃ y : bM, y = (lp_X5_openBesides_2 g1 w2 64 0 M) := ⟨_, rfl⟩
  rw [← hM14] at hB
  have hl : lv_has ls 4 [(0, .ref (o + 23)), (1, .ref (o + g1)), (2, .ref (o + w2))] := hl
  have e15 := p_X5_openBesides_e15 M g1 w2 M14 hM14.symm
  exact b_vret hx hb hr hlocks hS ⟨rfl, _, e15.symm, hB⟩ dX5_openBesides_44
def lp_X5_beginFrom_2 (x1 : Int32) : Nat → Nat → bM → (bM)
  | 0, i1, M2 => M2
  | n1 + 1, i1, M2 => (if nI i1 = x1 then (let M10 : bM := up2 M2 26 i1 0; (let M11 : bM := up2 M10 29 i1 0; lp_X5_beginFrom_2 x1 n1 (i1 + 1) M11)) else (let M7 : bM := up2 M2 26 i1 (-1); (let M8 : bM := up2 M7 29 i1 0; lp_X5_beginFrom_2 x1 n1 (i1 + 1) M8)))
theorem u0_lp_X5_beginFrom_2 (x1 : Int32) (i1 : Nat) (M2 : bM) : lp_X5_beginFrom_2 x1 0 i1 M2 = M2 := rfl
theorem u1_lp_X5_beginFrom_2 (x1 : Int32) (n1 i1 : Nat) (M2 : bM) : lp_X5_beginFrom_2 x1 (n1 + 1) i1 M2 = (if nI i1 = x1 then (let M10 : bM := up2 M2 26 i1 0; (let M11 : bM := up2 M10 29 i1 0; lp_X5_beginFrom_2 x1 n1 (i1 + 1) M11)) else (let M7 : bM := up2 M2 26 i1 (-1); (let M8 : bM := up2 M7 29 i1 0; lp_X5_beginFrom_2 x1 n1 (i1 + 1) M8))) := rfl
def f_X5_beginFrom (M : bM) (x1 : Int32) : bM := (let M13 : bM := (lp_X5_beginFrom_2 x1 64 0 M); M13)
theorem u_f_X5_beginFrom (M : bM) (x1 : Int32) : f_X5_beginFrom M x1 = (let M13 : bM := (lp_X5_beginFrom_2 x1 64 0 M); M13) := rfl
theorem p_X5_beginFrom_e4 (M : bM) (x1 : Int32) (M2 : bM) (i1 : Nat)  : lp_X5_beginFrom_2 x1 0 i1 M2 = M2 := by exact u0_lp_X5_beginFrom_2 x1 i1 M2
theorem p_X5_beginFrom_e9 (M : bM) (x1 : Int32) (M2 : bM) (i1 : Nat) (n1 : Nat) (c6 : ¬ nI i1 = x1) (M7 : bM) (hM7 : up2 M2 26 i1 (-1) = M7) (M8 : bM) (hM8 : up2 M7 29 i1 0 = M8) : lp_X5_beginFrom_2 x1 (n1 + 1) i1 M2 = lp_X5_beginFrom_2 x1 n1 (i1 + 1) M8 := by subst hM8 hM7; exact Eq.trans (u1_lp_X5_beginFrom_2 x1 n1 i1 M2) (if_neg c6)
theorem p_X5_beginFrom_e12 (M : bM) (x1 : Int32) (M2 : bM) (i1 : Nat) (n1 : Nat) (c6 : nI i1 = x1) (M10 : bM) (hM10 : up2 M2 26 i1 0 = M10) (M11 : bM) (hM11 : up2 M10 29 i1 0 = M11) : lp_X5_beginFrom_2 x1 (n1 + 1) i1 M2 = lp_X5_beginFrom_2 x1 n1 (i1 + 1) M11 := by subst hM11 hM10; exact Eq.trans (u1_lp_X5_beginFrom_2 x1 n1 i1 M2) (if_pos c6)
theorem p_X5_beginFrom_e14 (M : bM) (x1 : Int32) (M13 : bM) (hM13 : (lp_X5_beginFrom_2 x1 64 0 M) = M13) : f_X5_beginFrom M x1 = M13 := by subst hM13; exact u_f_X5_beginFrom M x1
set_option maxHeartbeats 4000000 in
set_option maxRecDepth 100000 in
theorem c_X5_beginFrom (l : Launch) (D : va_G) (E : Nat → ClassId) (o : Nat) (M : bM) (x1 : Int32) : Met l yX5_beginFrom wsX5_beginFrom (rmF 0) (bPc D E [.ref (o + 23), .int x1] (fun H => bk D E LRM o M H)) (bQ (aV fun H => ∃ M1 : bM, M1 = f_X5_beginFrom M x1 ∧ bk D E LRM o M1 H) (rA o)) 0 0 (rA o) := by
  refine Met.ofW (cc := cX5_beginFrom) (maxL := 3) (ret := none) (by decide) rfl ?_
  intro p e s m args below meth c s₁ B hml hv
  obtain ⟨rfl, hB, hK⟩ := hv
  have hx := B.exec
  have hb := B.bytes
  have hr := B.returns
  have hts := atoms_spec (ws := wsX5_beginFrom) B.pre
  have hown : s.vm.findClass RX5 = some m.cls := findClass_of_methodNamed B.named
  have hlocks := B.notSynchronized
  have hS : bS (rA o) s.heap s.heap [] := bS.rf
  have hl := lv_entry ([.ref (o + 23), .int x1]) (n := 3) (Nat.le_of_ble_eq_true rfl)
  rw [lg_entry_eq]
  generalize (lg_sl ([.ref (o + 23), .int x1]) ++ List.replicate (3 - (lg_sl ([.ref (o + 23), .int x1])).length) Slot.unset).toArray = ls at hl ⊢
  have hl : lv_has ls 3 [(0, .ref (o + 23)), (1, .int x1)] := hl
  have hB : bk D E LRM o M s.heap := hB
  have hinX5 : ∀ w ∈ wsX50, w ∈ wsX5_beginFrom := by decide +kernel
  refine lv_iconst (v := 0) hx hb dX5_beginFrom_0 (by decide) ?_
  refine lv_istore_n (lv' := [(2, .int 0), (0, .ref (o + 23)), (1, .int x1)]) hx hb dX5_beginFrom_1 rfl hl (by decide) rfl (fun ls hl => ?_)
  have lp1 : ∀ (n1 i1 : Nat) (M2 : bM), i1 + n1 = 64 → ∀ (H : Heap) (locs : List Loc), bk D E LRM o M2 H → bS (rA o) s.heap H locs → ∀ ls : Array Slot, lv_has ls 3 [(2, .int (nI i1)), (0, .ref (o + 23)), (1, .int x1)] → (∀ (H : Heap) (locs : List Loc), bk D E LRM o (lp_X5_beginFrom_2 x1 n1 i1 M2) H → bS (rA o) s.heap H locs → ∀ ls : Array Slot, lv_has ls 3 [(0, .ref (o + 23)), (1, .int x1)] → W p l e (headSpec wsX5_beginFrom (rmF 0)).room s m ([.ref (o + 23), .int x1] : List Value).toArray below meth c H locs 0 0 (MQ below (bQ (aV fun H => ∃ M1 : bM, M1 = f_X5_beginFrom M x1 ∧ bk D E LRM o M1 H) (rA o)) ([.ref (o + 23), .int x1] : List Value).toArray s 0 0 (rA o)) (F0 m 37 ls [])) → W p l e (headSpec wsX5_beginFrom (rmF 0)).room s m ([.ref (o + 23), .int x1] : List Value).toArray below meth c H locs 0 0 (MQ below (bQ (aV fun H => ∃ M1 : bM, M1 = f_X5_beginFrom M x1 ∧ bk D E LRM o M1 H) (rA o)) ([.ref (o + 23), .int x1] : List Value).toArray s 0 0 (rA o)) (F0 m 2 ls []) := by
    intro n1
    induction n1 with
    | zero =>
      intro i1 M2 hi1 H locs hB hS ls hl hexit1
      have hz1 : i1 = 64 := by omega
      refine lv_iload_n hx hb dX5_beginFrom_2 rfl (lv_at hl 0 rfl) ?_
      refine lv_bipush (v := 64) hx hb dX5_beginFrom_3 (by decide) ?_
      refine lv_icmp_ge (tgt := 37) hx hb dX5_beginFrom_5 (by decide) (fun c3 => ?_) (fun c3 => absurd (by rw [hz1]; exact Int32.le_refl _) c3)
      have e4 := p_X5_beginFrom_e4 M x1 M2 i1 
      rw [e4] at hexit1
      exact hexit1 _ _  hB hS ls (lv_sub hl [1, 2] rfl)
    | succ n1 ih1 =>
      intro i1 M2 hi1 H locs hB hS ls hl hexit1
      refine lv_iload_n hx hb dX5_beginFrom_2 rfl (lv_at hl 0 rfl) ?_
      refine lv_bipush (v := 64) hx hb dX5_beginFrom_3 (by decide) ?_
      refine lv_icmp_ge (tgt := 37) hx hb dX5_beginFrom_5 (by decide) (fun c5 => absurd c5 (nI_ge (a := i1) (b := 64) (by omega) (by decide))) (fun c5 => ?_)
      refine lv_aload_n hx hb dX5_beginFrom_8 rfl (lv_at hl 1 rfl) ?_
      refine b_get (D := D) (E := E) (L := LRM) (o := o) (M := M2) (v := .ref (o + 26)) (C := RX5) (T := TX5) (N := 6) hx hb hts hinX5 hown hK.1 hB 23 lay_23 rfl 2 (by decide) (hts (.fieldLink RX5 19 "RiverMeeting$Ways" "far" "[I") (List.mem_of_getElem? (i := 1) rfl)) (fun _ h9 => h9) rfl dX5_beginFrom_9 ?_
      refine lv_iload_n hx hb dX5_beginFrom_12 rfl (lv_at hl 0 rfl) ?_
      refine lv_iload_n hx hb dX5_beginFrom_13 rfl (lv_at hl 0 rfl) ?_
      refine lv_iload_n hx hb dX5_beginFrom_14 rfl (lv_at hl 2 rfl) ?_
      refine lv_icmp_ne (tgt := 22) hx hb dX5_beginFrom_15 (by decide) (fun c6 => ?_) (fun c6 => ?_)
      · refine lv_iconst (v := (-1)) hx hb dX5_beginFrom_22 (by decide) ?_
        refine b_iast hx hb hK.1 hB hS 26 (rA_of lay_26) lay_26 (vp_in_nI (by omega) (by decide)) dX5_beginFrom_23 (fun M7 hM7 H locs hB _ hS => ?_)
        rw [nI_clamp (n := i1) (by omega)] at hM7
        refine lv_aload_n hx hb dX5_beginFrom_24 rfl (lv_at hl 1 rfl) ?_
        refine b_get (D := D) (E := E) (L := LRM) (o := o) (M := M7) (v := .ref (o + 29)) (C := RX5) (T := TX5) (N := 6) hx hb hts hinX5 hown hK.1 hB 23 lay_23 rfl 5 (by decide) (hts (.fieldLink RX5 28 "RiverMeeting$Ways" "settled" "[Z") (List.mem_of_getElem? (i := 2) rfl)) (fun _ h9 => h9) rfl dX5_beginFrom_25 ?_
        refine lv_iload_n hx hb dX5_beginFrom_28 rfl (lv_at hl 0 rfl) ?_
        refine lv_iconst (v := 0) hx hb dX5_beginFrom_29 (by decide) ?_
        refine b_zast hx hb hK.1 hB hS 29 (rA_of lay_29) lay_29 (vp_in_nI (by omega) (by decide)) dX5_beginFrom_30 (fun M8 hM8 H locs hB _ hS => ?_)
        rw [show vp_nar .boolean 0 = 0 from rfl] at hM8
        rw [nI_clamp (n := i1) (by omega)] at hM8
        refine lv_iinc (v := nI (i1 + 1)) (lv' := [(2, .int (nI (i1 + 1))), (0, .ref (o + 23)), (1, .int x1)]) hx hb dX5_beginFrom_31 hl (k := 0) rfl (nI_1 i1) (by decide) rfl (fun ls hl => ?_)
        refine lv_goto (tgt := 2) hx hb dX5_beginFrom_34 (by decide) ?_
        have e9 := p_X5_beginFrom_e9 M x1 M2 i1 n1 c6 M7 hM7.symm M8 hM8.symm
        rw [e9] at hexit1
        exact ih1 (i1 + 1) M8 (by omega) _ _ hB hS ls (lv_sub hl [0, 1, 2] rfl) hexit1
      · refine lv_iconst (v := 0) hx hb dX5_beginFrom_18 (by decide) ?_
        refine lv_goto (tgt := 23) hx hb dX5_beginFrom_19 (by decide) ?_
        refine b_iast hx hb hK.1 hB hS 26 (rA_of lay_26) lay_26 (vp_in_nI (by omega) (by decide)) dX5_beginFrom_23 (fun M10 hM10 H locs hB _ hS => ?_)
        rw [nI_clamp (n := i1) (by omega)] at hM10
        refine lv_aload_n hx hb dX5_beginFrom_24 rfl (lv_at hl 1 rfl) ?_
        refine b_get (D := D) (E := E) (L := LRM) (o := o) (M := M10) (v := .ref (o + 29)) (C := RX5) (T := TX5) (N := 6) hx hb hts hinX5 hown hK.1 hB 23 lay_23 rfl 5 (by decide) (hts (.fieldLink RX5 28 "RiverMeeting$Ways" "settled" "[Z") (List.mem_of_getElem? (i := 2) rfl)) (fun _ h9 => h9) rfl dX5_beginFrom_25 ?_
        refine lv_iload_n hx hb dX5_beginFrom_28 rfl (lv_at hl 0 rfl) ?_
        refine lv_iconst (v := 0) hx hb dX5_beginFrom_29 (by decide) ?_
        refine b_zast hx hb hK.1 hB hS 29 (rA_of lay_29) lay_29 (vp_in_nI (by omega) (by decide)) dX5_beginFrom_30 (fun M11 hM11 H locs hB _ hS => ?_)
        rw [show vp_nar .boolean 0 = 0 from rfl] at hM11
        rw [nI_clamp (n := i1) (by omega)] at hM11
        refine lv_iinc (v := nI (i1 + 1)) (lv' := [(2, .int (nI (i1 + 1))), (0, .ref (o + 23)), (1, .int x1)]) hx hb dX5_beginFrom_31 hl (k := 0) rfl (nI_1 i1) (by decide) rfl (fun ls hl => ?_)
        refine lv_goto (tgt := 2) hx hb dX5_beginFrom_34 (by decide) ?_
        have e12 := p_X5_beginFrom_e12 M x1 M2 i1 n1 c6 M10 hM10.symm M11 hM11.symm
        rw [e12] at hexit1
        exact ih1 (i1 + 1) M11 (by omega) _ _ hB hS ls (lv_sub hl [0, 1, 2] rfl) hexit1
  refine lp1 64 0 M (by omega) _ _ hB hS ls (lv_sub hl [0, 1, 2] rfl) ?_
  intro H locs hB hS ls hl
  obtain ⟨M13, hM13⟩ : ∃ y : bM, y = (lp_X5_beginFrom_2 x1 64 0 M) := ⟨_, rfl⟩
  rw [← hM13] at hB
  have hl : lv_has ls 3 [(0, .ref (o + 23)), (1, .int x1)] := hl
  have e14 := p_X5_beginFrom_e14 M x1 M13 hM13.symm
  exact b_vret hx hb hr hlocks hS ⟨rfl, _, e14.symm, hB⟩ dX5_beginFrom_37
def lp_X5_spreadFrom_38 (x13 : Int32) : Nat → Nat → Int32 → bM → (Int32 × bM)
  | 0, i14, x15, M16 => (let r17 : Int32 := f_X6_fits x13; (if r17 = 0 then (x15, M16) else (x15, M16)))
  | n14 + 1, i14, x15, M16 => (let r22 : Int32 := f_X6_fits x13; (if r22 = 0 then (x15, M16) else (let x26 : Int32 := (M16 24 ((x13 * 3) + nI i14).toNatClampNeg); (let r27 : Int32 := f_X6_fits x26; (if r27 = 0 then lp_X5_spreadFrom_38 x13 n14 (i14 + 1) x15 M16 else (if (M16 25 x26.toNatClampNeg) = 0 then lp_X5_spreadFrom_38 x13 n14 (i14 + 1) x15 M16 else (if (M16 26 x26.toNatClampNeg) = (-1) then (if 64 ≤ x15 then lp_X5_spreadFrom_38 x13 n14 (i14 + 1) x15 M16 else (let M36 : bM := up2 M16 26 x26.toNatClampNeg ((M16 26 x13.toNatClampNeg) + 1); (let M37 : bM := up2 M36 28 x15.toNatClampNeg x26; (let x38 : Int32 := x15 + 1; lp_X5_spreadFrom_38 x13 n14 (i14 + 1) x38 M37)))) else lp_X5_spreadFrom_38 x13 n14 (i14 + 1) x15 M16)))))))
theorem u0_lp_X5_spreadFrom_38 (x13 : Int32) (i14 : Nat) (x15 : Int32) (M16 : bM) : lp_X5_spreadFrom_38 x13 0 i14 x15 M16 = (let r17 : Int32 := f_X6_fits x13; (if r17 = 0 then (x15, M16) else (x15, M16))) := rfl
theorem u1_lp_X5_spreadFrom_38 (x13 : Int32) (n14 i14 : Nat) (x15 : Int32) (M16 : bM) : lp_X5_spreadFrom_38 x13 (n14 + 1) i14 x15 M16 = (let r22 : Int32 := f_X6_fits x13; (if r22 = 0 then (x15, M16) else (let x26 : Int32 := (M16 24 ((x13 * 3) + nI i14).toNatClampNeg); (let r27 : Int32 := f_X6_fits x26; (if r27 = 0 then lp_X5_spreadFrom_38 x13 n14 (i14 + 1) x15 M16 else (if (M16 25 x26.toNatClampNeg) = 0 then lp_X5_spreadFrom_38 x13 n14 (i14 + 1) x15 M16 else (if (M16 26 x26.toNatClampNeg) = (-1) then (if 64 ≤ x15 then lp_X5_spreadFrom_38 x13 n14 (i14 + 1) x15 M16 else (let M36 : bM := up2 M16 26 x26.toNatClampNeg ((M16 26 x13.toNatClampNeg) + 1); (let M37 : bM := up2 M36 28 x15.toNatClampNeg x26; (let x38 : Int32 := x15 + 1; lp_X5_spreadFrom_38 x13 n14 (i14 + 1) x38 M37)))) else lp_X5_spreadFrom_38 x13 n14 (i14 + 1) x15 M16))))))) := rfl
def lp_X5_spreadFrom_16  : Nat → Nat → Int32 → bM → (Int32 × bM)
  | 0, i3, x4, M5 => (if x4 ≤ nI i3 then (x4, M5) else (x4, M5))
  | n3 + 1, i3, x4, M5 => (if x4 ≤ nI i3 then (x4, M5) else (let x13 : Int32 := (M5 28 i3); (let x40 : Int32 := (lp_X5_spreadFrom_38 x13 3 0 x4 M5).1; (let M41 : bM := (lp_X5_spreadFrom_38 x13 3 0 x4 M5).2; lp_X5_spreadFrom_16 n3 (i3 + 1) x40 M41))))
theorem u0_lp_X5_spreadFrom_16  (i3 : Nat) (x4 : Int32) (M5 : bM) : lp_X5_spreadFrom_16 0 i3 x4 M5 = (if x4 ≤ nI i3 then (x4, M5) else (x4, M5)) := rfl
theorem u1_lp_X5_spreadFrom_16  (n3 i3 : Nat) (x4 : Int32) (M5 : bM) : lp_X5_spreadFrom_16 (n3 + 1) i3 x4 M5 = (if x4 ≤ nI i3 then (x4, M5) else (let x13 : Int32 := (M5 28 i3); (let x40 : Int32 := (lp_X5_spreadFrom_38 x13 3 0 x4 M5).1; (let M41 : bM := (lp_X5_spreadFrom_38 x13 3 0 x4 M5).2; lp_X5_spreadFrom_16 n3 (i3 + 1) x40 M41)))) := rfl
def f_X5_spreadFrom (M : bM) (x1 : Int32) : bM := (let M1 : bM := f_X5_beginFrom M x1; (let M2 : bM := up2 M1 28 0 x1; (let x43 : Int32 := (lp_X5_spreadFrom_16 64 0 1 M2).1; (let M44 : bM := (lp_X5_spreadFrom_16 64 0 1 M2).2; M44))))
theorem u_f_X5_spreadFrom (M : bM) (x1 : Int32) : f_X5_spreadFrom M x1 = (let M1 : bM := f_X5_beginFrom M x1; (let M2 : bM := up2 M1 28 0 x1; (let x43 : Int32 := (lp_X5_spreadFrom_16 64 0 1 M2).1; (let M44 : bM := (lp_X5_spreadFrom_16 64 0 1 M2).2; M44)))) := rfl
theorem p_X5_spreadFrom_e7 (M : bM) (x1 : Int32) (M1 : bM) (M2 : bM) (x4 : Int32) (M5 : bM) (i3 : Nat) (c6 : x4 ≤ nI i3) : lp_X5_spreadFrom_16 0 i3 x4 M5 = (x4, M5) := by exact Eq.trans (u0_lp_X5_spreadFrom_16 i3 x4 M5) (if_pos c6)
theorem p_X5_spreadFrom_e9 (M : bM) (x1 : Int32) (M1 : bM) (M2 : bM) (x4 : Int32) (M5 : bM) (i3 : Nat) (c6 : ¬ x4 ≤ nI i3) : lp_X5_spreadFrom_16 0 i3 x4 M5 = (x4, M5) := by exact Eq.trans (u0_lp_X5_spreadFrom_16 i3 x4 M5) (if_neg c6)
theorem p_X5_spreadFrom_e11 (M : bM) (x1 : Int32) (M1 : bM) (M2 : bM) (x4 : Int32) (M5 : bM) (i3 : Nat) (n3 : Nat) (c10 : x4 ≤ nI i3) : lp_X5_spreadFrom_16 (n3 + 1) i3 x4 M5 = (x4, M5) := by exact Eq.trans (u1_lp_X5_spreadFrom_16 n3 i3 x4 M5) (if_pos c10)
theorem p_X5_spreadFrom_e19 (M : bM) (x1 : Int32) (M1 : bM) (M2 : bM) (x4 : Int32) (M5 : bM) (i3 : Nat) (x13 : Int32) (x15 : Int32) (M16 : bM) (i14 : Nat) (r17 : Int32) (hr17 : f_X6_fits x13 = r17) (c18 : r17 = 0) : lp_X5_spreadFrom_38 x13 0 i14 x15 M16 = (x15, M16) := by subst hr17; exact Eq.trans (u0_lp_X5_spreadFrom_38 x13 i14 x15 M16) (if_pos c18)
theorem p_X5_spreadFrom_e21 (M : bM) (x1 : Int32) (M1 : bM) (M2 : bM) (x4 : Int32) (M5 : bM) (i3 : Nat) (x13 : Int32) (x15 : Int32) (M16 : bM) (i14 : Nat) (r17 : Int32) (hr17 : f_X6_fits x13 = r17) (c18 : ¬ r17 = 0) : lp_X5_spreadFrom_38 x13 0 i14 x15 M16 = (x15, M16) := by subst hr17; exact Eq.trans (u0_lp_X5_spreadFrom_38 x13 i14 x15 M16) (if_neg c18)
theorem p_X5_spreadFrom_e24 (M : bM) (x1 : Int32) (M1 : bM) (M2 : bM) (x4 : Int32) (M5 : bM) (i3 : Nat) (x13 : Int32) (x15 : Int32) (M16 : bM) (i14 : Nat) (n14 : Nat) (r22 : Int32) (hr22 : f_X6_fits x13 = r22) (c23 : r22 = 0) : lp_X5_spreadFrom_38 x13 (n14 + 1) i14 x15 M16 = (x15, M16) := by subst hr22; exact Eq.trans (u1_lp_X5_spreadFrom_38 x13 n14 i14 x15 M16) (if_pos c23)
theorem p_X5_spreadFrom_e29 (M : bM) (x1 : Int32) (M1 : bM) (M2 : bM) (x4 : Int32) (M5 : bM) (i3 : Nat) (x13 : Int32) (x15 : Int32) (M16 : bM) (i14 : Nat) (n14 : Nat) (r22 : Int32) (hr22 : f_X6_fits x13 = r22) (c23 : ¬ r22 = 0) (x26 : Int32) (hx26 : (M16 24 ((x13 * 3) + nI i14).toNatClampNeg) = x26) (r27 : Int32) (hr27 : f_X6_fits x26 = r27) (c28 : r27 = 0) : lp_X5_spreadFrom_38 x13 (n14 + 1) i14 x15 M16 = lp_X5_spreadFrom_38 x13 n14 (i14 + 1) x15 M16 := by subst hr27 hx26 hr22; exact Eq.trans (u1_lp_X5_spreadFrom_38 x13 n14 i14 x15 M16) (Eq.trans (if_neg c23) (if_pos c28))
theorem p_X5_spreadFrom_e31 (M : bM) (x1 : Int32) (M1 : bM) (M2 : bM) (x4 : Int32) (M5 : bM) (i3 : Nat) (x13 : Int32) (x15 : Int32) (M16 : bM) (i14 : Nat) (n14 : Nat) (r22 : Int32) (hr22 : f_X6_fits x13 = r22) (c23 : ¬ r22 = 0) (x26 : Int32) (hx26 : (M16 24 ((x13 * 3) + nI i14).toNatClampNeg) = x26) (r27 : Int32) (hr27 : f_X6_fits x26 = r27) (c28 : ¬ r27 = 0) (c30 : (M16 25 x26.toNatClampNeg) = 0) : lp_X5_spreadFrom_38 x13 (n14 + 1) i14 x15 M16 = lp_X5_spreadFrom_38 x13 n14 (i14 + 1) x15 M16 := by subst hr27 hx26 hr22; exact Eq.trans (u1_lp_X5_spreadFrom_38 x13 n14 i14 x15 M16) (Eq.trans (if_neg c23) (Eq.trans (if_neg c28) (if_pos c30)))
theorem p_X5_spreadFrom_e33 (M : bM) (x1 : Int32) (M1 : bM) (M2 : bM) (x4 : Int32) (M5 : bM) (i3 : Nat) (x13 : Int32) (x15 : Int32) (M16 : bM) (i14 : Nat) (n14 : Nat) (r22 : Int32) (hr22 : f_X6_fits x13 = r22) (c23 : ¬ r22 = 0) (x26 : Int32) (hx26 : (M16 24 ((x13 * 3) + nI i14).toNatClampNeg) = x26) (r27 : Int32) (hr27 : f_X6_fits x26 = r27) (c28 : ¬ r27 = 0) (c30 : ¬ (M16 25 x26.toNatClampNeg) = 0) (c32 : ¬ (M16 26 x26.toNatClampNeg) = (-1)) : lp_X5_spreadFrom_38 x13 (n14 + 1) i14 x15 M16 = lp_X5_spreadFrom_38 x13 n14 (i14 + 1) x15 M16 := by subst hr27 hx26 hr22; exact Eq.trans (u1_lp_X5_spreadFrom_38 x13 n14 i14 x15 M16) (Eq.trans (if_neg c23) (Eq.trans (if_neg c28) (Eq.trans (if_neg c30) (if_neg c32))))
theorem p_X5_spreadFrom_e35 (M : bM) (x1 : Int32) (M1 : bM) (M2 : bM) (x4 : Int32) (M5 : bM) (i3 : Nat) (x13 : Int32) (x15 : Int32) (M16 : bM) (i14 : Nat) (n14 : Nat) (r22 : Int32) (hr22 : f_X6_fits x13 = r22) (c23 : ¬ r22 = 0) (x26 : Int32) (hx26 : (M16 24 ((x13 * 3) + nI i14).toNatClampNeg) = x26) (r27 : Int32) (hr27 : f_X6_fits x26 = r27) (c28 : ¬ r27 = 0) (c30 : ¬ (M16 25 x26.toNatClampNeg) = 0) (c32 : (M16 26 x26.toNatClampNeg) = (-1)) (c34 : 64 ≤ x15) : lp_X5_spreadFrom_38 x13 (n14 + 1) i14 x15 M16 = lp_X5_spreadFrom_38 x13 n14 (i14 + 1) x15 M16 := by subst hr27 hx26 hr22; exact Eq.trans (u1_lp_X5_spreadFrom_38 x13 n14 i14 x15 M16) (Eq.trans (if_neg c23) (Eq.trans (if_neg c28) (Eq.trans (if_neg c30) (Eq.trans (if_pos c32) (if_pos c34)))))
theorem p_X5_spreadFrom_e39 (M : bM) (x1 : Int32) (M1 : bM) (M2 : bM) (x4 : Int32) (M5 : bM) (i3 : Nat) (x13 : Int32) (x15 : Int32) (M16 : bM) (i14 : Nat) (n14 : Nat) (r22 : Int32) (hr22 : f_X6_fits x13 = r22) (c23 : ¬ r22 = 0) (x26 : Int32) (hx26 : (M16 24 ((x13 * 3) + nI i14).toNatClampNeg) = x26) (r27 : Int32) (hr27 : f_X6_fits x26 = r27) (c28 : ¬ r27 = 0) (c30 : ¬ (M16 25 x26.toNatClampNeg) = 0) (c32 : (M16 26 x26.toNatClampNeg) = (-1)) (c34 : ¬ 64 ≤ x15) (M36 : bM) (hM36 : up2 M16 26 x26.toNatClampNeg ((M16 26 x13.toNatClampNeg) + 1) = M36) (M37 : bM) (hM37 : up2 M36 28 x15.toNatClampNeg x26 = M37) (x38 : Int32) (hx38 : x15 + 1 = x38) : lp_X5_spreadFrom_38 x13 (n14 + 1) i14 x15 M16 = lp_X5_spreadFrom_38 x13 n14 (i14 + 1) x38 M37 := by subst hx38 hM37 hM36 hr27 hx26 hr22; exact Eq.trans (u1_lp_X5_spreadFrom_38 x13 n14 i14 x15 M16) (Eq.trans (if_neg c23) (Eq.trans (if_neg c28) (Eq.trans (if_neg c30) (Eq.trans (if_pos c32) (if_neg c34)))))
theorem p_X5_spreadFrom_e42 (M : bM) (x1 : Int32) (M1 : bM) (M2 : bM) (x4 : Int32) (M5 : bM) (i3 : Nat) (n3 : Nat) (c10 : ¬ x4 ≤ nI i3) (x13 : Int32) (hx13 : (M5 28 i3) = x13) (x40 : Int32) (hx40 : (lp_X5_spreadFrom_38 x13 3 0 x4 M5).1 = x40) (M41 : bM) (hM41 : (lp_X5_spreadFrom_38 x13 3 0 x4 M5).2 = M41) : lp_X5_spreadFrom_16 (n3 + 1) i3 x4 M5 = lp_X5_spreadFrom_16 n3 (i3 + 1) x40 M41 := by subst hM41 hx40 hx13; exact Eq.trans (u1_lp_X5_spreadFrom_16 n3 i3 x4 M5) (if_neg c10)
theorem p_X5_spreadFrom_e45 (M : bM) (x1 : Int32) (M1 : bM) (hM1 : f_X5_beginFrom M x1 = M1) (M2 : bM) (hM2 : up2 M1 28 0 x1 = M2) (x43 : Int32) (hx43 : (lp_X5_spreadFrom_16 64 0 1 M2).1 = x43) (M44 : bM) (hM44 : (lp_X5_spreadFrom_16 64 0 1 M2).2 = M44) : f_X5_spreadFrom M x1 = M44 := by subst hM44 hx43 hM2 hM1; exact u_f_X5_spreadFrom M x1
set_option maxHeartbeats 4000000 in
set_option maxRecDepth 100000 in
theorem c_X5_spreadFrom (l : Launch) (D : va_G) (E : Nat → ClassId) (o : Nat) (M : bM) (x1 : Int32) : Met l yX5_spreadFrom wsX5_spreadFrom (rmF 1) (bPc D E [.ref (o + 23), .int x1] (fun H => bk D E LRM o M H)) (bQ (aV fun H => ∃ M1 : bM, M1 = f_X5_spreadFrom M x1 ∧ bk D E LRM o M1 H) (rA o)) 0 0 (rA o) := by
  refine Met.ofW (cc := cX5_spreadFrom) (maxL := 7) (ret := none) (by decide) rfl ?_
  intro p e s m args below meth c s₁ B hml hv
  obtain ⟨rfl, hB, hK⟩ := hv
  have hx := B.exec
  have hb := B.bytes
  have hr := B.returns
  have hts := atoms_spec (ws := wsX5_spreadFrom) B.pre
  have hown : s.vm.findClass RX5 = some m.cls := findClass_of_methodNamed B.named
  have hlocks := B.notSynchronized
  have hS : bS (rA o) s.heap s.heap [] := bS.rf
  have hl := lv_entry ([.ref (o + 23), .int x1]) (n := 7) (Nat.le_of_ble_eq_true rfl)
  rw [lg_entry_eq]
  generalize (lg_sl ([.ref (o + 23), .int x1]) ++ List.replicate (7 - (lg_sl ([.ref (o + 23), .int x1])).length) Slot.unset).toArray = ls at hl ⊢
  have hl : lv_has ls 7 [(0, .ref (o + 23)), (1, .int x1)] := hl
  have hB : bk D E LRM o M s.heap := hB
  have hinX5 : ∀ w ∈ wsX50, w ∈ wsX5_spreadFrom := by decide +kernel
  refine lv_aload_n hx hb dX5_spreadFrom_0 rfl (lv_at hl 0 rfl) ?_
  refine lv_iload_n hx hb dX5_spreadFrom_1 rfl (lv_at hl 1 rfl) ?_
  refine b_mV (b_runV (As := [.int x1]) (rest := []) ⟨hx, hb, hml, hown, hts⟩ (c_X5_beginFrom l D E o M x1) (cwV 1 hts gX5_spreadFrom_X5_beginFrom rfl rfl rfl (by decide +kernel) ⟨Nat.le_of_ble_eq_true rfl, Nat.le_of_ble_eq_true rfl⟩) hK (bk_recv hK.1 hB lay_23 rfl) hB rfl hl rfl (Nat.le_of_ble_eq_true rfl) dX5_spreadFrom_2 ⟨Nat.zero_le _, Nat.zero_le _⟩) hS (fun q h => h) (fun M1 hM1 H locs hB _ hS => ?_)
  refine lv_aload_n hx hb dX5_spreadFrom_5 rfl (lv_at hl 0 rfl) ?_
  refine b_get (D := D) (E := E) (L := LRM) (o := o) (M := M1) (v := .ref (o + 28)) (C := RX5) (T := TX5) (N := 6) hx hb hts hinX5 hown hK.1 hB 23 lay_23 rfl 4 (by decide) (hts (.fieldLink RX5 25 "RiverMeeting$Ways" "waiting" "[I") (List.mem_of_getElem? (i := 1) rfl)) (fun _ h9 => h9) rfl dX5_spreadFrom_6 ?_
  refine lv_iconst (v := 0) hx hb dX5_spreadFrom_9 (by decide) ?_
  refine lv_iload_n hx hb dX5_spreadFrom_10 rfl (lv_at hl 1 rfl) ?_
  refine b_iast hx hb hK.1 hB hS 28 (rA_of lay_28) lay_28 (vp_in_nI (n := 0) (by decide) (by decide)) dX5_spreadFrom_11 (fun M2 hM2 H locs hB _ hS => ?_)
  rw [show (0 : Int32).toNatClampNeg = 0 from rfl] at hM2
  refine lv_iconst (v := 1) hx hb dX5_spreadFrom_12 (by decide) ?_
  refine lv_istore_n (lv' := [(2, .int 1), (0, .ref (o + 23)), (1, .int x1)]) hx hb dX5_spreadFrom_13 rfl hl (by decide) rfl (fun ls hl => ?_)
  refine lv_iconst (v := 0) hx hb dX5_spreadFrom_14 (by decide) ?_
  refine lv_istore_n (lv' := [(3, .int 0), (2, .int 1), (0, .ref (o + 23)), (1, .int x1)]) hx hb dX5_spreadFrom_15 rfl hl (by decide) rfl (fun ls hl => ?_)
  have lp3 : ∀ (n3 i3 : Nat) (x4 : Int32) (M5 : bM), i3 + n3 = 64 → (¬ x4 < 0) → ∀ (H : Heap) (locs : List Loc), bk D E LRM o M5 H → bS (rA o) s.heap H locs → ∀ ls : Array Slot, lv_has ls 7 [(3, .int (nI i3)), (2, .int x4), (0, .ref (o + 23)), (1, .int x1)] → (∀ (H : Heap) (locs : List Loc), (¬ (lp_X5_spreadFrom_16 n3 i3 x4 M5).1 < 0) → bk D E LRM o ((lp_X5_spreadFrom_16 n3 i3 x4 M5).2) H → bS (rA o) s.heap H locs → ∀ ls : Array Slot, lv_has ls 7 [(2, .int ((lp_X5_spreadFrom_16 n3 i3 x4 M5).1)), (0, .ref (o + 23)), (1, .int x1)] → W p l e (headSpec wsX5_spreadFrom (rmF 1)).room s m ([.ref (o + 23), .int x1] : List Value).toArray below meth c H locs 0 0 (MQ below (bQ (aV fun H => ∃ M1 : bM, M1 = f_X5_spreadFrom M x1 ∧ bk D E LRM o M1 H) (rA o)) ([.ref (o + 23), .int x1] : List Value).toArray s 0 0 (rA o)) (F0 m 140 ls [])) → W p l e (headSpec wsX5_spreadFrom (rmF 1)).room s m ([.ref (o + 23), .int x1] : List Value).toArray below meth c H locs 0 0 (MQ below (bQ (aV fun H => ∃ M1 : bM, M1 = f_X5_spreadFrom M x1 ∧ bk D E LRM o M1 H) (rA o)) ([.ref (o + 23), .int x1] : List Value).toArray s 0 0 (rA o)) (F0 m 16 ls []) := by
    intro n3
    induction n3 with
    | zero =>
      intro i3 x4 M5 hi3 hv0_3 H locs hB hS ls hl hexit3
      have hz3 : i3 = 64 := by omega
      refine lv_iload_n hx hb dX5_spreadFrom_16 rfl (lv_at hl 0 rfl) ?_
      refine lv_iload_n hx hb dX5_spreadFrom_17 rfl (lv_at hl 1 rfl) ?_
      refine lv_icmp_ge (tgt := 140) hx hb dX5_spreadFrom_18 (by decide) (fun c6 => ?_) (fun c6 => ?_)
      · have e7 := p_X5_spreadFrom_e7 M x1 M1 M2 x4 M5 i3 c6
        rw [e7] at hexit3
        exact hexit3 _ _  hv0_3 hB hS ls (lv_sub hl [1, 2, 3] rfl)
      · refine lv_iload_n hx hb dX5_spreadFrom_21 rfl (lv_at hl 0 rfl) ?_
        refine lv_bipush (v := 64) hx hb dX5_spreadFrom_22 (by decide) ?_
        refine lv_icmp_ge (tgt := 140) hx hb dX5_spreadFrom_24 (by decide) (fun c8 => ?_) (fun c8 => absurd (by rw [hz3]; exact Int32.le_refl _) c8)
        have e9 := p_X5_spreadFrom_e9 M x1 M1 M2 x4 M5 i3 c6
        rw [e9] at hexit3
        exact hexit3 _ _  hv0_3 hB hS ls (lv_sub hl [1, 2, 3] rfl)
    | succ n3 ih3 =>
      intro i3 x4 M5 hi3 hv0_3 H locs hB hS ls hl hexit3
      refine lv_iload_n hx hb dX5_spreadFrom_16 rfl (lv_at hl 0 rfl) ?_
      refine lv_iload_n hx hb dX5_spreadFrom_17 rfl (lv_at hl 1 rfl) ?_
      refine lv_icmp_ge (tgt := 140) hx hb dX5_spreadFrom_18 (by decide) (fun c10 => ?_) (fun c10 => ?_)
      · have e11 := p_X5_spreadFrom_e11 M x1 M1 M2 x4 M5 i3 n3 c10
        rw [e11] at hexit3
        exact hexit3 _ _  hv0_3 hB hS ls (lv_sub hl [1, 2, 3] rfl)
      · refine lv_iload_n hx hb dX5_spreadFrom_21 rfl (lv_at hl 0 rfl) ?_
        refine lv_bipush (v := 64) hx hb dX5_spreadFrom_22 (by decide) ?_
        refine lv_icmp_ge (tgt := 140) hx hb dX5_spreadFrom_24 (by decide) (fun c12 => absurd c12 (nI_ge (a := i3) (b := 64) (by omega) (by decide))) (fun c12 => ?_)
        refine lv_aload_n hx hb dX5_spreadFrom_27 rfl (lv_at hl 2 rfl) ?_
        refine b_get (D := D) (E := E) (L := LRM) (o := o) (M := M5) (v := .ref (o + 28)) (C := RX5) (T := TX5) (N := 6) hx hb hts hinX5 hown hK.1 hB 23 lay_23 rfl 4 (by decide) (hts (.fieldLink RX5 25 "RiverMeeting$Ways" "waiting" "[I") (List.mem_of_getElem? (i := 1) rfl)) (fun _ h9 => h9) rfl dX5_spreadFrom_28 ?_
        refine lv_iload_n hx hb dX5_spreadFrom_31 rfl (lv_at hl 0 rfl) ?_
        refine b_iald hx hb hK.1 hB 28 lay_28 (vp_in_nI (by omega) (by decide)) dX5_spreadFrom_32 ?_
        rw [nI_clamp (n := i3) (by omega)]
        refine lv_topi (fun x13 hx13 => ?_)
        refine lv_istore (lv' := [(4, .int x13), (3, .int (nI i3)), (2, .int x4), (0, .ref (o + 23)), (1, .int x1)]) hx hb dX5_spreadFrom_33 hl (by decide) rfl (fun ls hl => ?_)
        refine lv_iconst (v := 0) hx hb dX5_spreadFrom_35 (by decide) ?_
        refine lv_istore (lv' := [(5, .int 0), (4, .int x13), (3, .int (nI i3)), (2, .int x4), (0, .ref (o + 23)), (1, .int x1)]) hx hb dX5_spreadFrom_36 hl (by decide) rfl (fun ls hl => ?_)
        have lp14 : ∀ (n14 i14 : Nat) (x15 : Int32) (M16 : bM), i14 + n14 = 3 → (¬ x15 < 0) → ∀ (H : Heap) (locs : List Loc), bk D E LRM o M16 H → bS (rA o) s.heap H locs → ∀ ls : Array Slot, lv_has ls 7 [(5, .int (nI i14)), (4, .int x13), (3, .int (nI i3)), (2, .int x15), (0, .ref (o + 23)), (1, .int x1)] → (∀ (H : Heap) (locs : List Loc), (¬ (lp_X5_spreadFrom_38 x13 n14 i14 x15 M16).1 < 0) → bk D E LRM o ((lp_X5_spreadFrom_38 x13 n14 i14 x15 M16).2) H → bS (rA o) s.heap H locs → ∀ ls : Array Slot, lv_has ls 7 [(4, .int x13), (3, .int (nI i3)), (2, .int ((lp_X5_spreadFrom_38 x13 n14 i14 x15 M16).1)), (0, .ref (o + 23)), (1, .int x1)] → W p l e (headSpec wsX5_spreadFrom (rmF 1)).room s m ([.ref (o + 23), .int x1] : List Value).toArray below meth c H locs 0 0 (MQ below (bQ (aV fun H => ∃ M1 : bM, M1 = f_X5_spreadFrom M x1 ∧ bk D E LRM o M1 H) (rA o)) ([.ref (o + 23), .int x1] : List Value).toArray s 0 0 (rA o)) (F0 m 134 ls [])) → W p l e (headSpec wsX5_spreadFrom (rmF 1)).room s m ([.ref (o + 23), .int x1] : List Value).toArray below meth c H locs 0 0 (MQ below (bQ (aV fun H => ∃ M1 : bM, M1 = f_X5_spreadFrom M x1 ∧ bk D E LRM o M1 H) (rA o)) ([.ref (o + 23), .int x1] : List Value).toArray s 0 0 (rA o)) (F0 m 38 ls []) := by
          intro n14
          induction n14 with
          | zero =>
            intro i14 x15 M16 hi14 hv0_14 H locs hB hS ls hl hexit14
            have hz14 : i14 = 3 := by omega
            refine lv_iload hx hb dX5_spreadFrom_38 (lv_at hl 1 rfl) ?_
            refine b_pI (b_runSN (As := [.int x13]) (rest := []) ⟨hx, hb, hml, hown, hts⟩ (c_X6_fits l D E x13) ⟨va_cnB (host := "RiverMeeting") 1 hts gX5_spreadFrom_X6_fits_n56 rfl rfl rfl (hK.2 1 _ rfl) (hts (.initialized RX6) (List.mem_of_getElem? (i := 12) rfl)) (by decide +kernel) ⟨Nat.le_of_ble_eq_true rfl, Nat.le_of_ble_eq_true rfl⟩, (hts (.static yX6_fits) (List.mem_of_getElem? (i := 11) rfl)), trivial⟩ hK trivial rfl hl rfl (Nat.le_of_ble_eq_true rfl) dX5_spreadFrom_40 ⟨Nat.zero_le _, Nat.zero_le _⟩) hS (fun r17 hr17 locs hS => ?_)
            refine lv_if_eq (tgt := 134) hx hb dX5_spreadFrom_43 (by decide) (fun c18 => ?_) (fun c18 => ?_)
            · have e19 := p_X5_spreadFrom_e19 M x1 M1 M2 x4 M5 i3 x13 x15 M16 i14 r17 hr17.symm c18
              rw [e19] at hexit14
              exact hexit14 _ _  hv0_14 hB hS ls (lv_sub hl [1, 2, 3, 4, 5] rfl)
            · refine lv_iload hx hb dX5_spreadFrom_46 (lv_at hl 0 rfl) ?_
              refine lv_iconst (v := 3) hx hb dX5_spreadFrom_48 (by decide) ?_
              refine lv_icmp_ge (tgt := 134) hx hb dX5_spreadFrom_49 (by decide) (fun c20 => ?_) (fun c20 => absurd (by rw [hz14]; exact Int32.le_refl _) c20)
              have e21 := p_X5_spreadFrom_e21 M x1 M1 M2 x4 M5 i3 x13 x15 M16 i14 r17 hr17.symm c18
              rw [e21] at hexit14
              exact hexit14 _ _  hv0_14 hB hS ls (lv_sub hl [1, 2, 3, 4, 5] rfl)
          | succ n14 ih14 =>
            intro i14 x15 M16 hi14 hv0_14 H locs hB hS ls hl hexit14
            refine lv_iload hx hb dX5_spreadFrom_38 (lv_at hl 1 rfl) ?_
            refine b_pI (b_runSN (As := [.int x13]) (rest := []) ⟨hx, hb, hml, hown, hts⟩ (c_X6_fits l D E x13) ⟨va_cnB (host := "RiverMeeting") 1 hts gX5_spreadFrom_X6_fits_n56 rfl rfl rfl (hK.2 1 _ rfl) (hts (.initialized RX6) (List.mem_of_getElem? (i := 12) rfl)) (by decide +kernel) ⟨Nat.le_of_ble_eq_true rfl, Nat.le_of_ble_eq_true rfl⟩, (hts (.static yX6_fits) (List.mem_of_getElem? (i := 11) rfl)), trivial⟩ hK trivial rfl hl rfl (Nat.le_of_ble_eq_true rfl) dX5_spreadFrom_40 ⟨Nat.zero_le _, Nat.zero_le _⟩) hS (fun r22 hr22 locs hS => ?_)
            refine lv_if_eq (tgt := 134) hx hb dX5_spreadFrom_43 (by decide) (fun c23 => ?_) (fun c23 => ?_)
            · have e24 := p_X5_spreadFrom_e24 M x1 M1 M2 x4 M5 i3 x13 x15 M16 i14 n14 r22 hr22.symm c23
              rw [e24] at hexit14
              exact hexit14 _ _  hv0_14 hB hS ls (lv_sub hl [1, 2, 3, 4, 5] rfl)
            · refine lv_iload hx hb dX5_spreadFrom_46 (lv_at hl 0 rfl) ?_
              refine lv_iconst (v := 3) hx hb dX5_spreadFrom_48 (by decide) ?_
              refine lv_icmp_ge (tgt := 134) hx hb dX5_spreadFrom_49 (by decide) (fun c25 => absurd c25 (nI_ge (a := i14) (b := 3) (by omega) (by decide))) (fun c25 => ?_)
              refine lv_aload_n hx hb dX5_spreadFrom_52 rfl (lv_at hl 4 rfl) ?_
              refine b_get (D := D) (E := E) (L := LRM) (o := o) (M := M16) (v := .ref (o + 24)) (C := RX5) (T := TX5) (N := 6) hx hb hts hinX5 hown hK.1 hB 23 lay_23 rfl 0 (by decide) (hts (.fieldLink RX5 9 "RiverMeeting$Ways" "beside" "[I") (List.mem_of_getElem? (i := 2) rfl)) (fun _ h9 => h9) rfl dX5_spreadFrom_53 ?_
              refine lv_iload hx hb dX5_spreadFrom_56 (lv_at hl 1 rfl) ?_
              refine lv_iconst (v := 3) hx hb dX5_spreadFrom_58 (by decide) ?_
              refine lv_imul hx hb dX5_spreadFrom_59 ?_
              refine lv_iload hx hb dX5_spreadFrom_60 (lv_at hl 0 rfl) ?_
              refine lv_iadd hx hb dX5_spreadFrom_62 ?_
              refine b_iald hx hb hK.1 hB 24 lay_24 (in_cd (fits_in (hr22 ▸ c23)) (j := i14) (by omega)) dX5_spreadFrom_63 ?_
              refine lv_topi (fun x26 hx26 => ?_)
              refine lv_istore (lv' := [(6, .int x26), (5, .int (nI i14)), (4, .int x13), (3, .int (nI i3)), (2, .int x15), (0, .ref (o + 23)), (1, .int x1)]) hx hb dX5_spreadFrom_64 hl (by decide) rfl (fun ls hl => ?_)
              refine lv_iload hx hb dX5_spreadFrom_66 (lv_at hl 0 rfl) ?_
              refine b_pI (b_runSN (As := [.int x26]) (rest := []) ⟨hx, hb, hml, hown, hts⟩ (c_X6_fits l D E x26) ⟨va_cnB (host := "RiverMeeting") 1 hts gX5_spreadFrom_X6_fits_n56 rfl rfl rfl (hK.2 1 _ rfl) (hts (.initialized RX6) (List.mem_of_getElem? (i := 12) rfl)) (by decide +kernel) ⟨Nat.le_of_ble_eq_true rfl, Nat.le_of_ble_eq_true rfl⟩, (hts (.static yX6_fits) (List.mem_of_getElem? (i := 11) rfl)), trivial⟩ hK trivial rfl hl rfl (Nat.le_of_ble_eq_true rfl) dX5_spreadFrom_68 ⟨Nat.zero_le _, Nat.zero_le _⟩) hS (fun r27 hr27 locs hS => ?_)
              refine lv_if_eq (tgt := 128) hx hb dX5_spreadFrom_71 (by decide) (fun c28 => ?_) (fun c28 => ?_)
              · refine lv_iinc (v := nI (i14 + 1)) (lv' := [(5, .int (nI (i14 + 1))), (6, .int x26), (4, .int x13), (3, .int (nI i3)), (2, .int x15), (0, .ref (o + 23)), (1, .int x1)]) hx hb dX5_spreadFrom_128 hl (k := 1) rfl (nI_1 i14) (by decide) rfl (fun ls hl => ?_)
                refine lv_goto (tgt := 38) hx hb dX5_spreadFrom_131 (by decide) ?_
                have e29 := p_X5_spreadFrom_e29 M x1 M1 M2 x4 M5 i3 x13 x15 M16 i14 n14 r22 hr22.symm c23 x26 hx26.symm r27 hr27.symm c28
                rw [e29] at hexit14
                exact ih14 (i14 + 1) x15 M16 (by omega) hv0_14 _ _ hB hS ls (lv_sub hl [0, 2, 3, 4, 5, 6] rfl) hexit14
              · refine lv_aload_n hx hb dX5_spreadFrom_74 rfl (lv_at hl 5 rfl) ?_
                refine b_get (D := D) (E := E) (L := LRM) (o := o) (M := M16) (v := .ref (o + 25)) (C := RX5) (T := TX5) (N := 6) hx hb hts hinX5 hown hK.1 hB 23 lay_23 rfl 1 (by decide) (hts (.fieldLink RX5 15 "RiverMeeting$Ways" "open" "[Z") (List.mem_of_getElem? (i := 3) rfl)) (fun _ h9 => h9) rfl dX5_spreadFrom_75 ?_
                refine lv_iload hx hb dX5_spreadFrom_78 (lv_at hl 0 rfl) ?_
                refine b_zald hx hb hK.1 hB 25 lay_25 (fits_in (hr27 ▸ c28)) dX5_spreadFrom_80 ?_
                refine lv_if_eq (tgt := 128) hx hb dX5_spreadFrom_81 (by decide) (fun c30 => ?_) (fun c30 => ?_)
                · refine lv_iinc (v := nI (i14 + 1)) (lv' := [(5, .int (nI (i14 + 1))), (6, .int x26), (4, .int x13), (3, .int (nI i3)), (2, .int x15), (0, .ref (o + 23)), (1, .int x1)]) hx hb dX5_spreadFrom_128 hl (k := 1) rfl (nI_1 i14) (by decide) rfl (fun ls hl => ?_)
                  refine lv_goto (tgt := 38) hx hb dX5_spreadFrom_131 (by decide) ?_
                  have e31 := p_X5_spreadFrom_e31 M x1 M1 M2 x4 M5 i3 x13 x15 M16 i14 n14 r22 hr22.symm c23 x26 hx26.symm r27 hr27.symm c28 c30
                  rw [e31] at hexit14
                  exact ih14 (i14 + 1) x15 M16 (by omega) hv0_14 _ _ hB hS ls (lv_sub hl [0, 2, 3, 4, 5, 6] rfl) hexit14
                · refine lv_aload_n hx hb dX5_spreadFrom_84 rfl (lv_at hl 5 rfl) ?_
                  refine b_get (D := D) (E := E) (L := LRM) (o := o) (M := M16) (v := .ref (o + 26)) (C := RX5) (T := TX5) (N := 6) hx hb hts hinX5 hown hK.1 hB 23 lay_23 rfl 2 (by decide) (hts (.fieldLink RX5 19 "RiverMeeting$Ways" "far" "[I") (List.mem_of_getElem? (i := 4) rfl)) (fun _ h9 => h9) rfl dX5_spreadFrom_85 ?_
                  refine lv_iload hx hb dX5_spreadFrom_88 (lv_at hl 0 rfl) ?_
                  refine b_iald hx hb hK.1 hB 26 lay_26 (fits_in (hr27 ▸ c28)) dX5_spreadFrom_90 ?_
                  refine lv_iconst (v := (-1)) hx hb dX5_spreadFrom_91 (by decide) ?_
                  refine lv_icmp_ne (tgt := 128) hx hb dX5_spreadFrom_92 (by decide) (fun c32 => ?_) (fun c32 => ?_)
                  · refine lv_iinc (v := nI (i14 + 1)) (lv' := [(5, .int (nI (i14 + 1))), (6, .int x26), (4, .int x13), (3, .int (nI i3)), (2, .int x15), (0, .ref (o + 23)), (1, .int x1)]) hx hb dX5_spreadFrom_128 hl (k := 1) rfl (nI_1 i14) (by decide) rfl (fun ls hl => ?_)
                    refine lv_goto (tgt := 38) hx hb dX5_spreadFrom_131 (by decide) ?_
                    have e33 := p_X5_spreadFrom_e33 M x1 M1 M2 x4 M5 i3 x13 x15 M16 i14 n14 r22 hr22.symm c23 x26 hx26.symm r27 hr27.symm c28 c30 c32
                    rw [e33] at hexit14
                    exact ih14 (i14 + 1) x15 M16 (by omega) hv0_14 _ _ hB hS ls (lv_sub hl [0, 2, 3, 4, 5, 6] rfl) hexit14
                  · refine lv_iload_n hx hb dX5_spreadFrom_95 rfl (lv_at hl 4 rfl) ?_
                    refine lv_bipush (v := 64) hx hb dX5_spreadFrom_96 (by decide) ?_
                    refine lv_icmp_ge (tgt := 128) hx hb dX5_spreadFrom_98 (by decide) (fun c34 => ?_) (fun c34 => ?_)
                    · refine lv_iinc (v := nI (i14 + 1)) (lv' := [(5, .int (nI (i14 + 1))), (6, .int x26), (4, .int x13), (3, .int (nI i3)), (2, .int x15), (0, .ref (o + 23)), (1, .int x1)]) hx hb dX5_spreadFrom_128 hl (k := 1) rfl (nI_1 i14) (by decide) rfl (fun ls hl => ?_)
                      refine lv_goto (tgt := 38) hx hb dX5_spreadFrom_131 (by decide) ?_
                      have e35 := p_X5_spreadFrom_e35 M x1 M1 M2 x4 M5 i3 x13 x15 M16 i14 n14 r22 hr22.symm c23 x26 hx26.symm r27 hr27.symm c28 c30 c32 c34
                      rw [e35] at hexit14
                      exact ih14 (i14 + 1) x15 M16 (by omega) hv0_14 _ _ hB hS ls (lv_sub hl [0, 2, 3, 4, 5, 6] rfl) hexit14
                    · refine lv_aload_n hx hb dX5_spreadFrom_101 rfl (lv_at hl 5 rfl) ?_
                      refine b_get (D := D) (E := E) (L := LRM) (o := o) (M := M16) (v := .ref (o + 26)) (C := RX5) (T := TX5) (N := 6) hx hb hts hinX5 hown hK.1 hB 23 lay_23 rfl 2 (by decide) (hts (.fieldLink RX5 19 "RiverMeeting$Ways" "far" "[I") (List.mem_of_getElem? (i := 4) rfl)) (fun _ h9 => h9) rfl dX5_spreadFrom_102 ?_
                      refine lv_iload hx hb dX5_spreadFrom_105 (lv_at hl 0 rfl) ?_
                      refine lv_aload_n hx hb dX5_spreadFrom_107 rfl (lv_at hl 5 rfl) ?_
                      refine b_get (D := D) (E := E) (L := LRM) (o := o) (M := M16) (v := .ref (o + 26)) (C := RX5) (T := TX5) (N := 6) hx hb hts hinX5 hown hK.1 hB 23 lay_23 rfl 2 (by decide) (hts (.fieldLink RX5 19 "RiverMeeting$Ways" "far" "[I") (List.mem_of_getElem? (i := 4) rfl)) (fun _ h9 => h9) rfl dX5_spreadFrom_108 ?_
                      refine lv_iload hx hb dX5_spreadFrom_111 (lv_at hl 2 rfl) ?_
                      refine b_iald hx hb hK.1 hB 26 lay_26 (fits_in (hr22 ▸ c23)) dX5_spreadFrom_113 ?_
                      refine lv_iconst (v := 1) hx hb dX5_spreadFrom_114 (by decide) ?_
                      refine lv_iadd hx hb dX5_spreadFrom_115 ?_
                      refine b_iast hx hb hK.1 hB hS 26 (rA_of lay_26) lay_26 (fits_in (hr27 ▸ c28)) dX5_spreadFrom_116 (fun M36 hM36 H locs hB _ hS => ?_)
                      refine lv_aload_n hx hb dX5_spreadFrom_117 rfl (lv_at hl 5 rfl) ?_
                      refine b_get (D := D) (E := E) (L := LRM) (o := o) (M := M36) (v := .ref (o + 28)) (C := RX5) (T := TX5) (N := 6) hx hb hts hinX5 hown hK.1 hB 23 lay_23 rfl 4 (by decide) (hts (.fieldLink RX5 25 "RiverMeeting$Ways" "waiting" "[I") (List.mem_of_getElem? (i := 1) rfl)) (fun _ h9 => h9) rfl dX5_spreadFrom_118 ?_
                      refine lv_iload_n hx hb dX5_spreadFrom_121 rfl (lv_at hl 4 rfl) ?_
                      refine lv_iload hx hb dX5_spreadFrom_122 (lv_at hl 0 rfl) ?_
                      refine b_iast hx hb hK.1 hB hS 28 (rA_of lay_28) lay_28 (in_of (N := 64) rfl (by decide) hv0_14 c34) dX5_spreadFrom_124 (fun M37 hM37 H locs hB _ hS => ?_)
                      obtain ⟨x38, hx38⟩ : ∃ y : Int32, y = x15 + 1 := ⟨_, rfl⟩
                      refine lv_iinc (v := x38) (lv' := [(2, .int x38), (6, .int x26), (5, .int (nI i14)), (4, .int x13), (3, .int (nI i3)), (0, .ref (o + 23)), (1, .int x1)]) hx hb dX5_spreadFrom_125 hl (k := 4) rfl (by rw [hx38]; rfl) (by decide) rfl (fun ls hl => ?_)
                      refine lv_iinc (v := nI (i14 + 1)) (lv' := [(5, .int (nI (i14 + 1))), (2, .int x38), (6, .int x26), (4, .int x13), (3, .int (nI i3)), (0, .ref (o + 23)), (1, .int x1)]) hx hb dX5_spreadFrom_128 hl (k := 2) rfl (nI_1 i14) (by decide) rfl (fun ls hl => ?_)
                      refine lv_goto (tgt := 38) hx hb dX5_spreadFrom_131 (by decide) ?_
                      have e39 := p_X5_spreadFrom_e39 M x1 M1 M2 x4 M5 i3 x13 x15 M16 i14 n14 r22 hr22.symm c23 x26 hx26.symm r27 hr27.symm c28 c30 c32 c34 M36 hM36.symm M37 hM37.symm x38 hx38.symm
                      rw [e39] at hexit14
                      exact ih14 (i14 + 1) x38 M37 (by omega) (by rw [hx38]; exact nn_succ (in_of (N := 64) rfl (by decide) hv0_14 c34) (by decide)) _ _ hB hS ls (lv_sub hl [0, 3, 4, 1, 5, 6] rfl) hexit14
        refine lp14 3 0 x4 M5 (by omega) hv0_3 _ _ hB hS ls (lv_sub hl [0, 1, 2, 3, 4, 5] rfl) ?_
        intro H locs hw0_14 hB hS ls hl
        obtain ⟨x40, hx40⟩ : ∃ y : Int32, y = (lp_X5_spreadFrom_38 x13 3 0 x4 M5).1 := ⟨_, rfl⟩
        rw [← hx40] at hl hw0_14
        obtain ⟨M41, hM41⟩ : ∃ y : bM, y = (lp_X5_spreadFrom_38 x13 3 0 x4 M5).2 := ⟨_, rfl⟩
        rw [← hM41] at hB
        have hl : lv_has ls 7 [(4, .int x13), (3, .int (nI i3)), (2, .int x40), (0, .ref (o + 23)), (1, .int x1)] := hl
        refine lv_iinc (v := nI (i3 + 1)) (lv' := [(3, .int (nI (i3 + 1))), (4, .int x13), (2, .int x40), (0, .ref (o + 23)), (1, .int x1)]) hx hb dX5_spreadFrom_134 hl (k := 1) rfl (nI_1 i3) (by decide) rfl (fun ls hl => ?_)
        refine lv_goto (tgt := 16) hx hb dX5_spreadFrom_137 (by decide) ?_
        have e42 := p_X5_spreadFrom_e42 M x1 M1 M2 x4 M5 i3 n3 c10 x13 hx13.symm x40 hx40.symm M41 hM41.symm
        rw [e42] at hexit3
        exact ih3 (i3 + 1) x40 M41 (by omega) hw0_14 _ _ hB hS ls (lv_sub hl [0, 2, 3, 4] rfl) hexit3
  refine lp3 64 0 1 M2 (by omega) (by decide) _ _ hB hS ls (lv_sub hl [0, 1, 2, 3] rfl) ?_
  intro H locs hw0_3 hB hS ls hl
  obtain ⟨x43, hx43⟩ : ∃ y : Int32, y = (lp_X5_spreadFrom_16 64 0 1 M2).1 := ⟨_, rfl⟩
  rw [← hx43] at hl hw0_3
  obtain ⟨M44, hM44⟩ : ∃ y : bM, y = (lp_X5_spreadFrom_16 64 0 1 M2).2 := ⟨_, rfl⟩
  rw [← hM44] at hB
  have hl : lv_has ls 7 [(2, .int x43), (0, .ref (o + 23)), (1, .int x1)] := hl
  have e45 := p_X5_spreadFrom_e45 M x1 M1 hM1.symm M2 hM2.symm x43 hx43.symm M44 hM44.symm
  exact b_vret hx hb hr hlocks hS ⟨rfl, _, e45.symm, hB⟩ dX5_spreadFrom_140
def lp_X5_isShutIn_49 (k4 : Nat) (M9 : bM) : Nat → Nat → (Bool × Int32 × Unit)
  | 0, i10 => (false, 0, ())
  | n10 + 1, i10 => (if (M9 26 i10) = (-1) then lp_X5_isShutIn_49 k4 M9 n10 (i10 + 1) else (if (nI i10 / 8) = 7 then (true, 0, ()) else (let r18 : Int32 := f_X2_holds M9 k4 (nI i10); (if r18 = 0 then lp_X5_isShutIn_49 k4 M9 n10 (i10 + 1) else (true, 0, ())))))
theorem u0_lp_X5_isShutIn_49 (k4 : Nat) (M9 : bM) (i10 : Nat) : lp_X5_isShutIn_49 k4 M9 0 i10 = (false, 0, ()) := rfl
theorem u1_lp_X5_isShutIn_49 (k4 : Nat) (M9 : bM) (n10 i10 : Nat) : lp_X5_isShutIn_49 k4 M9 (n10 + 1) i10 = (if (M9 26 i10) = (-1) then lp_X5_isShutIn_49 k4 M9 n10 (i10 + 1) else (if (nI i10 / 8) = 7 then (true, 0, ()) else (let r18 : Int32 := f_X2_holds M9 k4 (nI i10); (if r18 = 0 then lp_X5_isShutIn_49 k4 M9 n10 (i10 + 1) else (true, 0, ()))))) := rfl
def f_X5_isShutIn (M : bM) (g1 : Nat) (x2 : Int32) (x3 : Int32) : Int32 × bM := (let k2 : Nat := f_X0_sideOf M g1 x2; (let k4 : Nat := f_X0_sideOf M g1 ((1 : Int32) - x2); (let M5 : bM := f_X5_openBesides M g1 k2; (let r6 : Int32 := f_X6_fits x3; (if r6 = 0 then (let r8 : Int32 := f_X2_head M5 k2; (let M9 : bM := f_X5_spreadFrom M5 r8; (if (lp_X5_isShutIn_49 k4 M9 64 0).1 = true then ((lp_X5_isShutIn_49 k4 M9 64 0).2.1, M9) else (1, M9)))) else (let M24 : bM := up2 M5 25 x3.toNatClampNeg 0; (let r25 : Int32 := f_X2_head M24 k2; (let M26 : bM := f_X5_spreadFrom M24 r25; (if (lp_X5_isShutIn_49 k4 M26 64 0).1 = true then ((lp_X5_isShutIn_49 k4 M26 64 0).2.1, M26) else (1, M26))))))))))
theorem u_f_X5_isShutIn (M : bM) (g1 : Nat) (x2 : Int32) (x3 : Int32) : f_X5_isShutIn M g1 x2 x3 = (let k2 : Nat := f_X0_sideOf M g1 x2; (let k4 : Nat := f_X0_sideOf M g1 ((1 : Int32) - x2); (let M5 : bM := f_X5_openBesides M g1 k2; (let r6 : Int32 := f_X6_fits x3; (if r6 = 0 then (let r8 : Int32 := f_X2_head M5 k2; (let M9 : bM := f_X5_spreadFrom M5 r8; (if (lp_X5_isShutIn_49 k4 M9 64 0).1 = true then ((lp_X5_isShutIn_49 k4 M9 64 0).2.1, M9) else (1, M9)))) else (let M24 : bM := up2 M5 25 x3.toNatClampNeg 0; (let r25 : Int32 := f_X2_head M24 k2; (let M26 : bM := f_X5_spreadFrom M24 r25; (if (lp_X5_isShutIn_49 k4 M26 64 0).1 = true then ((lp_X5_isShutIn_49 k4 M26 64 0).2.1, M26) else (1, M26)))))))))) := rfl
theorem p_X5_isShutIn_e12 (M : bM) (g1 : Nat) (x2 : Int32) (x3 : Int32) (k2 : Nat) (k4 : Nat) (M5 : bM) (r6 : Int32) (r8 : Int32) (M9 : bM) (i10 : Nat)  : lp_X5_isShutIn_49 k4 M9 0 i10 = (false, 0, ()) := by exact u0_lp_X5_isShutIn_49 k4 M9 i10
theorem p_X5_isShutIn_e15 (M : bM) (g1 : Nat) (x2 : Int32) (x3 : Int32) (k2 : Nat) (k4 : Nat) (M5 : bM) (r6 : Int32) (r8 : Int32) (M9 : bM) (i10 : Nat) (n10 : Nat) (c14 : (M9 26 i10) = (-1)) : lp_X5_isShutIn_49 k4 M9 (n10 + 1) i10 = lp_X5_isShutIn_49 k4 M9 n10 (i10 + 1) := by exact Eq.trans (u1_lp_X5_isShutIn_49 k4 M9 n10 i10) (if_pos c14)
theorem p_X5_isShutIn_e17 (M : bM) (g1 : Nat) (x2 : Int32) (x3 : Int32) (k2 : Nat) (k4 : Nat) (M5 : bM) (r6 : Int32) (r8 : Int32) (M9 : bM) (i10 : Nat) (n10 : Nat) (c14 : ¬ (M9 26 i10) = (-1)) (c16 : (nI i10 / 8) = 7) : lp_X5_isShutIn_49 k4 M9 (n10 + 1) i10 = (true, 0, ()) := by exact Eq.trans (u1_lp_X5_isShutIn_49 k4 M9 n10 i10) (Eq.trans (if_neg c14) (if_pos c16))
theorem p_X5_isShutIn_e20 (M : bM) (g1 : Nat) (x2 : Int32) (x3 : Int32) (k2 : Nat) (k4 : Nat) (M5 : bM) (r6 : Int32) (r8 : Int32) (M9 : bM) (i10 : Nat) (n10 : Nat) (c14 : ¬ (M9 26 i10) = (-1)) (c16 : ¬ (nI i10 / 8) = 7) (r18 : Int32) (hr18 : f_X2_holds M9 k4 (nI i10) = r18) (c19 : r18 = 0) : lp_X5_isShutIn_49 k4 M9 (n10 + 1) i10 = lp_X5_isShutIn_49 k4 M9 n10 (i10 + 1) := by subst hr18; exact Eq.trans (u1_lp_X5_isShutIn_49 k4 M9 n10 i10) (Eq.trans (if_neg c14) (Eq.trans (if_neg c16) (if_pos c19)))
theorem p_X5_isShutIn_e21 (M : bM) (g1 : Nat) (x2 : Int32) (x3 : Int32) (k2 : Nat) (k4 : Nat) (M5 : bM) (r6 : Int32) (r8 : Int32) (M9 : bM) (i10 : Nat) (n10 : Nat) (c14 : ¬ (M9 26 i10) = (-1)) (c16 : ¬ (nI i10 / 8) = 7) (r18 : Int32) (hr18 : f_X2_holds M9 k4 (nI i10) = r18) (c19 : ¬ r18 = 0) : lp_X5_isShutIn_49 k4 M9 (n10 + 1) i10 = (true, 0, ()) := by subst hr18; exact Eq.trans (u1_lp_X5_isShutIn_49 k4 M9 n10 i10) (Eq.trans (if_neg c14) (Eq.trans (if_neg c16) (if_neg c19)))
theorem p_X5_isShutIn_e22 (M : bM) (g1 : Nat) (x2 : Int32) (x3 : Int32) (k2 : Nat) (hk2 : f_X0_sideOf M g1 x2 = k2) (k4 : Nat) (hk4 : f_X0_sideOf M g1 ((1 : Int32) - x2) = k4) (M5 : bM) (hM5 : f_X5_openBesides M g1 k2 = M5) (r6 : Int32) (hr6 : f_X6_fits x3 = r6) (c7 : r6 = 0) (r8 : Int32) (hr8 : f_X2_head M5 k2 = r8) (M9 : bM) (hM9 : f_X5_spreadFrom M5 r8 = M9) (hfl10 : (lp_X5_isShutIn_49 k4 M9 64 0).1 = true) : f_X5_isShutIn M g1 x2 x3 = ((lp_X5_isShutIn_49 k4 M9 64 0).2.1, M9) := by subst hM9 hr8 hr6 hM5 hk4 hk2; exact Eq.trans (u_f_X5_isShutIn M g1 x2 x3) (Eq.trans (if_pos c7) (if_pos hfl10))
theorem p_X5_isShutIn_e23 (M : bM) (g1 : Nat) (x2 : Int32) (x3 : Int32) (k2 : Nat) (hk2 : f_X0_sideOf M g1 x2 = k2) (k4 : Nat) (hk4 : f_X0_sideOf M g1 ((1 : Int32) - x2) = k4) (M5 : bM) (hM5 : f_X5_openBesides M g1 k2 = M5) (r6 : Int32) (hr6 : f_X6_fits x3 = r6) (c7 : r6 = 0) (r8 : Int32) (hr8 : f_X2_head M5 k2 = r8) (M9 : bM) (hM9 : f_X5_spreadFrom M5 r8 = M9) (hfl10 : (lp_X5_isShutIn_49 k4 M9 64 0).1 = false) : f_X5_isShutIn M g1 x2 x3 = (1, M9) := by subst hM9 hr8 hr6 hM5 hk4 hk2; exact Eq.trans (u_f_X5_isShutIn M g1 x2 x3) (Eq.trans (if_pos c7) (if_neg (fun h9 => Bool.noConfusion (h9.symm.trans hfl10))))
theorem p_X5_isShutIn_e29 (M : bM) (g1 : Nat) (x2 : Int32) (x3 : Int32) (k2 : Nat) (k4 : Nat) (M5 : bM) (r6 : Int32) (M24 : bM) (r25 : Int32) (M26 : bM) (i27 : Nat)  : lp_X5_isShutIn_49 k4 M26 0 i27 = (false, 0, ()) := by exact u0_lp_X5_isShutIn_49 k4 M26 i27
theorem p_X5_isShutIn_e32 (M : bM) (g1 : Nat) (x2 : Int32) (x3 : Int32) (k2 : Nat) (k4 : Nat) (M5 : bM) (r6 : Int32) (M24 : bM) (r25 : Int32) (M26 : bM) (i27 : Nat) (n27 : Nat) (c31 : (M26 26 i27) = (-1)) : lp_X5_isShutIn_49 k4 M26 (n27 + 1) i27 = lp_X5_isShutIn_49 k4 M26 n27 (i27 + 1) := by exact Eq.trans (u1_lp_X5_isShutIn_49 k4 M26 n27 i27) (if_pos c31)
theorem p_X5_isShutIn_e34 (M : bM) (g1 : Nat) (x2 : Int32) (x3 : Int32) (k2 : Nat) (k4 : Nat) (M5 : bM) (r6 : Int32) (M24 : bM) (r25 : Int32) (M26 : bM) (i27 : Nat) (n27 : Nat) (c31 : ¬ (M26 26 i27) = (-1)) (c33 : (nI i27 / 8) = 7) : lp_X5_isShutIn_49 k4 M26 (n27 + 1) i27 = (true, 0, ()) := by exact Eq.trans (u1_lp_X5_isShutIn_49 k4 M26 n27 i27) (Eq.trans (if_neg c31) (if_pos c33))
theorem p_X5_isShutIn_e37 (M : bM) (g1 : Nat) (x2 : Int32) (x3 : Int32) (k2 : Nat) (k4 : Nat) (M5 : bM) (r6 : Int32) (M24 : bM) (r25 : Int32) (M26 : bM) (i27 : Nat) (n27 : Nat) (c31 : ¬ (M26 26 i27) = (-1)) (c33 : ¬ (nI i27 / 8) = 7) (r35 : Int32) (hr35 : f_X2_holds M26 k4 (nI i27) = r35) (c36 : r35 = 0) : lp_X5_isShutIn_49 k4 M26 (n27 + 1) i27 = lp_X5_isShutIn_49 k4 M26 n27 (i27 + 1) := by subst hr35; exact Eq.trans (u1_lp_X5_isShutIn_49 k4 M26 n27 i27) (Eq.trans (if_neg c31) (Eq.trans (if_neg c33) (if_pos c36)))
theorem p_X5_isShutIn_e38 (M : bM) (g1 : Nat) (x2 : Int32) (x3 : Int32) (k2 : Nat) (k4 : Nat) (M5 : bM) (r6 : Int32) (M24 : bM) (r25 : Int32) (M26 : bM) (i27 : Nat) (n27 : Nat) (c31 : ¬ (M26 26 i27) = (-1)) (c33 : ¬ (nI i27 / 8) = 7) (r35 : Int32) (hr35 : f_X2_holds M26 k4 (nI i27) = r35) (c36 : ¬ r35 = 0) : lp_X5_isShutIn_49 k4 M26 (n27 + 1) i27 = (true, 0, ()) := by subst hr35; exact Eq.trans (u1_lp_X5_isShutIn_49 k4 M26 n27 i27) (Eq.trans (if_neg c31) (Eq.trans (if_neg c33) (if_neg c36)))
theorem p_X5_isShutIn_e39 (M : bM) (g1 : Nat) (x2 : Int32) (x3 : Int32) (k2 : Nat) (hk2 : f_X0_sideOf M g1 x2 = k2) (k4 : Nat) (hk4 : f_X0_sideOf M g1 ((1 : Int32) - x2) = k4) (M5 : bM) (hM5 : f_X5_openBesides M g1 k2 = M5) (r6 : Int32) (hr6 : f_X6_fits x3 = r6) (c7 : ¬ r6 = 0) (M24 : bM) (hM24 : up2 M5 25 x3.toNatClampNeg 0 = M24) (r25 : Int32) (hr25 : f_X2_head M24 k2 = r25) (M26 : bM) (hM26 : f_X5_spreadFrom M24 r25 = M26) (hfl27 : (lp_X5_isShutIn_49 k4 M26 64 0).1 = true) : f_X5_isShutIn M g1 x2 x3 = ((lp_X5_isShutIn_49 k4 M26 64 0).2.1, M26) := by subst hM26 hr25 hM24 hr6 hM5 hk4 hk2; exact Eq.trans (u_f_X5_isShutIn M g1 x2 x3) (Eq.trans (if_neg c7) (if_pos hfl27))
theorem p_X5_isShutIn_e40 (M : bM) (g1 : Nat) (x2 : Int32) (x3 : Int32) (k2 : Nat) (hk2 : f_X0_sideOf M g1 x2 = k2) (k4 : Nat) (hk4 : f_X0_sideOf M g1 ((1 : Int32) - x2) = k4) (M5 : bM) (hM5 : f_X5_openBesides M g1 k2 = M5) (r6 : Int32) (hr6 : f_X6_fits x3 = r6) (c7 : ¬ r6 = 0) (M24 : bM) (hM24 : up2 M5 25 x3.toNatClampNeg 0 = M24) (r25 : Int32) (hr25 : f_X2_head M24 k2 = r25) (M26 : bM) (hM26 : f_X5_spreadFrom M24 r25 = M26) (hfl27 : (lp_X5_isShutIn_49 k4 M26 64 0).1 = false) : f_X5_isShutIn M g1 x2 x3 = (1, M26) := by subst hM26 hr25 hM24 hr6 hM5 hk4 hk2; exact Eq.trans (u_f_X5_isShutIn M g1 x2 x3) (Eq.trans (if_neg c7) (if_neg (fun h9 => Bool.noConfusion (h9.symm.trans hfl27))))
set_option maxHeartbeats 4000000 in
set_option maxRecDepth 100000 in
theorem c_X5_isShutIn (l : Launch) (D : va_G) (E : Nat → ClassId) (o : Nat) (M : bM) (g1 : Nat) (x2 : Int32) (x3 : Int32) (hg1 : isG g1) : Met l yX5_isShutIn wsX5_isShutIn (rmF 2) (bPc D E [.ref (o + 23), .ref (o + g1), .int x2, .int x3] (fun H => bk D E LRM o M H)) (bQ (aI fun r H => ∃ M1 : bM, (r = (f_X5_isShutIn M g1 x2 x3).1 ∧ M1 = (f_X5_isShutIn M g1 x2 x3).2) ∧ bk D E LRM o M1 H) (rA o)) 0 0 (rA o) := by
  refine Met.ofW (cc := cX5_isShutIn) (maxL := 7) (ret := (some .boolean)) (by decide) rfl ?_
  intro p e s m args below meth c s₁ B hml hv
  obtain ⟨rfl, hB, hK⟩ := hv
  have hx := B.exec
  have hb := B.bytes
  have hr := B.returns
  have hts := atoms_spec (ws := wsX5_isShutIn) B.pre
  have hown : s.vm.findClass RX5 = some m.cls := findClass_of_methodNamed B.named
  have hlocks := B.notSynchronized
  have hS : bS (rA o) s.heap s.heap [] := bS.rf
  have hl := lv_entry ([.ref (o + 23), .ref (o + g1), .int x2, .int x3]) (n := 7) (Nat.le_of_ble_eq_true rfl)
  rw [lg_entry_eq]
  generalize (lg_sl ([.ref (o + 23), .ref (o + g1), .int x2, .int x3]) ++ List.replicate (7 - (lg_sl ([.ref (o + 23), .ref (o + g1), .int x2, .int x3])).length) Slot.unset).toArray = ls at hl ⊢
  have hl : lv_has ls 7 [(0, .ref (o + 23)), (1, .ref (o + g1)), (2, .int x2), (3, .int x3)] := hl
  have hB : bk D E LRM o M s.heap := hB
  have hinX5 : ∀ w ∈ wsX50, w ∈ wsX5_isShutIn := by decide +kernel
  refine lv_aload_n hx hb dX5_isShutIn_0 rfl (lv_at hl 1 rfl) ?_
  refine lv_iload_n hx hb dX5_isShutIn_1 rfl (lv_at hl 2 rfl) ?_
  refine b_pR (b_runV (As := [.int x2]) (rest := []) ⟨hx, hb, hml, hown, hts⟩ (c_X0_sideOf l D E o M g1 x2 hg1) (cwV 1 hts gX5_isShutIn_X0_sideOf rfl rfl rfl (by decide +kernel) ⟨Nat.le_of_ble_eq_true rfl, Nat.le_of_ble_eq_true rfl⟩) hK (bk_recv hK.1 hB hg1.1 rfl) hB rfl hl rfl (Nat.le_of_ble_eq_true rfl) dX5_isShutIn_2 ⟨Nat.zero_le _, Nat.zero_le _⟩) hS (fun r1 hr1 locs hS => ?_)
  obtain ⟨k2, hk2⟩ : ∃ y : Nat, y = f_X0_sideOf M g1 x2 := ⟨_, rfl⟩
  rw [← hk2] at hr1; subst hr1
  have hfk2 : isS k2 := by rw [hk2]; exact (isS_sideOf hg1)
  refine lv_astore (lv' := [(4, .ref (o + k2)), (0, .ref (o + 23)), (1, .ref (o + g1)), (2, .int x2), (3, .int x3)]) hx hb dX5_isShutIn_5 hl (by decide) rfl (fun ls hl => ?_)
  refine lv_aload_n hx hb dX5_isShutIn_7 rfl (lv_at hl 2 rfl) ?_
  refine lv_iconst (v := 1) hx hb dX5_isShutIn_8 (by decide) ?_
  refine lv_iload_n hx hb dX5_isShutIn_9 rfl (lv_at hl 3 rfl) ?_
  refine lv_isub hx hb dX5_isShutIn_10 ?_
  refine b_pR (b_runV (As := [.int ((1 : Int32) - x2)]) (rest := []) ⟨hx, hb, hml, hown, hts⟩ (c_X0_sideOf l D E o M g1 ((1 : Int32) - x2) hg1) (cwV 1 hts gX5_isShutIn_X0_sideOf rfl rfl rfl (by decide +kernel) ⟨Nat.le_of_ble_eq_true rfl, Nat.le_of_ble_eq_true rfl⟩) hK (bk_recv hK.1 hB hg1.1 rfl) hB rfl hl rfl (Nat.le_of_ble_eq_true rfl) dX5_isShutIn_11 ⟨Nat.zero_le _, Nat.zero_le _⟩) hS (fun r3 hr3 locs hS => ?_)
  obtain ⟨k4, hk4⟩ : ∃ y : Nat, y = f_X0_sideOf M g1 ((1 : Int32) - x2) := ⟨_, rfl⟩
  rw [← hk4] at hr3; subst hr3
  have hfk4 : isS k4 := by rw [hk4]; exact (isS_sideOf hg1)
  refine lv_astore (lv' := [(5, .ref (o + k4)), (4, .ref (o + k2)), (0, .ref (o + 23)), (1, .ref (o + g1)), (2, .int x2), (3, .int x3)]) hx hb dX5_isShutIn_14 hl (by decide) rfl (fun ls hl => ?_)
  refine lv_aload_n hx hb dX5_isShutIn_16 rfl (lv_at hl 2 rfl) ?_
  refine lv_aload_n hx hb dX5_isShutIn_17 rfl (lv_at hl 3 rfl) ?_
  refine lv_aload hx hb dX5_isShutIn_18 (lv_at hl 1 rfl) ?_
  refine b_mV (b_runV (As := [.ref (o + g1), .ref (o + k2)]) (rest := []) ⟨hx, hb, hml, hown, hts⟩ (c_X5_openBesides l D E o M g1 k2 hg1 hfk2) (cwV 2 hts gX5_isShutIn_X5_openBesides rfl rfl rfl (by decide +kernel) ⟨Nat.le_of_ble_eq_true rfl, Nat.le_of_ble_eq_true rfl⟩) hK (bk_recv hK.1 hB lay_23 rfl) hB rfl hl rfl (Nat.le_of_ble_eq_true rfl) dX5_isShutIn_20 ⟨Nat.zero_le _, Nat.zero_le _⟩) hS (fun q h => h) (fun M5 hM5 H locs hB _ hS => ?_)
  refine lv_iload_n hx hb dX5_isShutIn_23 rfl (lv_at hl 5 rfl) ?_
  refine b_pI (b_runSN (As := [.int x3]) (rest := []) ⟨hx, hb, hml, hown, hts⟩ (c_X6_fits l D E x3) ⟨va_cnB (host := "RiverMeeting") 1 hts gX5_isShutIn_X6_fits_n56 rfl rfl rfl (hK.2 1 _ rfl) (hts (.initialized RX6) (List.mem_of_getElem? (i := 18) rfl)) (by decide +kernel) ⟨Nat.le_of_ble_eq_true rfl, Nat.le_of_ble_eq_true rfl⟩, (hts (.static yX6_fits) (List.mem_of_getElem? (i := 17) rfl)), trivial⟩ hK trivial rfl hl rfl (Nat.le_of_ble_eq_true rfl) dX5_isShutIn_24 ⟨Nat.zero_le _, Nat.zero_le _⟩) hS (fun r6 hr6 locs hS => ?_)
  refine lv_if_eq (tgt := 37) hx hb dX5_isShutIn_27 (by decide) (fun c7 => ?_) (fun c7 => ?_)
  · refine lv_aload_n hx hb dX5_isShutIn_37 rfl (lv_at hl 2 rfl) ?_
    refine lv_aload hx hb dX5_isShutIn_38 (lv_at hl 1 rfl) ?_
    refine b_pI (b_runV (As := []) (rest := [.ref (o + 23)]) ⟨hx, hb, hml, hown, hts⟩ (c_X2_head l D E o M5 k2 hfk2) (cwV 0 hts gX5_isShutIn_X2_head rfl rfl rfl (by decide +kernel) ⟨Nat.le_of_ble_eq_true rfl, Nat.le_of_ble_eq_true rfl⟩) hK (bk_recv hK.1 hB hfk2.1 rfl) hB rfl hl rfl (Nat.le_of_ble_eq_true rfl) dX5_isShutIn_40 ⟨Nat.zero_le _, Nat.zero_le _⟩) hS (fun r8 hr8 locs hS => ?_)
    refine b_mV (b_runV (As := [.int r8]) (rest := []) ⟨hx, hb, hml, hown, hts⟩ (c_X5_spreadFrom l D E o M5 r8) (cwV 1 hts gX5_isShutIn_X5_spreadFrom rfl rfl rfl (by decide +kernel) ⟨Nat.le_of_ble_eq_true rfl, Nat.le_of_ble_eq_true rfl⟩) hK (bk_recv hK.1 hB lay_23 rfl) hB rfl hl rfl (Nat.le_of_ble_eq_true rfl) dX5_isShutIn_43 ⟨Nat.zero_le _, Nat.zero_le _⟩) hS (fun q h => h) (fun M9 hM9 H locs hB _ hS => ?_)
    refine lv_iconst (v := 0) hx hb dX5_isShutIn_46 (by decide) ?_
    refine lv_istore (lv' := [(6, .int 0), (5, .ref (o + k4)), (4, .ref (o + k2)), (0, .ref (o + 23)), (1, .ref (o + g1)), (2, .int x2), (3, .int x3)]) hx hb dX5_isShutIn_47 hl (by decide) rfl (fun ls hl => ?_)
    have lp10 : ∀ (n10 i10 : Nat), i10 + n10 = 64 → ∀ (H : Heap) (locs : List Loc), bk D E LRM o M9 H → bS (rA o) s.heap H locs → ∀ ls : Array Slot, lv_has ls 7 [(6, .int (nI i10)), (5, .ref (o + k4)), (4, .ref (o + k2)), (0, .ref (o + 23)), (1, .ref (o + g1)), (2, .int x2), (3, .int x3)] → (∀ H : Heap, (lp_X5_isShutIn_49 k4 M9 n10 i10).1 = true → bk D E LRM o M9 H → (aI fun r H => ∃ M1 : bM, (r = (f_X5_isShutIn M g1 x2 x3).1 ∧ M1 = (f_X5_isShutIn M g1 x2 x3).2) ∧ bk D E LRM o M1 H) (some (.int (lp_X5_isShutIn_49 k4 M9 n10 i10).2.1)) H) → (∀ (H : Heap) (locs : List Loc), (lp_X5_isShutIn_49 k4 M9 n10 i10).1 = false → bk D E LRM o M9 H → bS (rA o) s.heap H locs → ∀ ls : Array Slot, lv_has ls 7 [(5, .ref (o + k4)), (4, .ref (o + k2)), (0, .ref (o + 23)), (1, .ref (o + g1)), (2, .int x2), (3, .int x3)] → W p l e (headSpec wsX5_isShutIn (rmF 2)).room s m ([.ref (o + 23), .ref (o + g1), .int x2, .int x3] : List Value).toArray below meth c H locs 0 0 (MQ below (bQ (aI fun r H => ∃ M1 : bM, (r = (f_X5_isShutIn M g1 x2 x3).1 ∧ M1 = (f_X5_isShutIn M g1 x2 x3).2) ∧ bk D E LRM o M1 H) (rA o)) ([.ref (o + 23), .ref (o + g1), .int x2, .int x3] : List Value).toArray s 0 0 (rA o)) (F0 m 95 ls [])) → W p l e (headSpec wsX5_isShutIn (rmF 2)).room s m ([.ref (o + 23), .ref (o + g1), .int x2, .int x3] : List Value).toArray below meth c H locs 0 0 (MQ below (bQ (aI fun r H => ∃ M1 : bM, (r = (f_X5_isShutIn M g1 x2 x3).1 ∧ M1 = (f_X5_isShutIn M g1 x2 x3).2) ∧ bk D E LRM o M1 H) (rA o)) ([.ref (o + 23), .ref (o + g1), .int x2, .int x3] : List Value).toArray s 0 0 (rA o)) (F0 m 49 ls []) := by
      intro n10
      induction n10 with
      | zero =>
        intro i10 hi10 H locs hB hS ls hl hret10 hexit10
        have hz10 : i10 = 64 := by omega
        refine lv_iload hx hb dX5_isShutIn_49 (lv_at hl 0 rfl) ?_
        refine lv_bipush (v := 64) hx hb dX5_isShutIn_51 (by decide) ?_
        refine lv_icmp_ge (tgt := 95) hx hb dX5_isShutIn_53 (by decide) (fun c11 => ?_) (fun c11 => absurd (by rw [hz10]; exact Int32.le_refl _) c11)
        have e12 := p_X5_isShutIn_e12 M g1 x2 x3 k2 k4 M5 r6 r8 M9 i10 
        rw [e12] at hexit10
        exact hexit10 _ _ rfl hB hS ls (lv_sub hl [1, 2, 3, 4, 5, 6] rfl)
      | succ n10 ih10 =>
        intro i10 hi10 H locs hB hS ls hl hret10 hexit10
        refine lv_iload hx hb dX5_isShutIn_49 (lv_at hl 0 rfl) ?_
        refine lv_bipush (v := 64) hx hb dX5_isShutIn_51 (by decide) ?_
        refine lv_icmp_ge (tgt := 95) hx hb dX5_isShutIn_53 (by decide) (fun c13 => absurd c13 (nI_ge (a := i10) (b := 64) (by omega) (by decide))) (fun c13 => ?_)
        refine lv_aload_n hx hb dX5_isShutIn_56 rfl (lv_at hl 3 rfl) ?_
        refine b_get (D := D) (E := E) (L := LRM) (o := o) (M := M9) (v := .ref (o + 26)) (C := RX5) (T := TX5) (N := 6) hx hb hts hinX5 hown hK.1 hB 23 lay_23 rfl 2 (by decide) (hts (.fieldLink RX5 19 "RiverMeeting$Ways" "far" "[I") (List.mem_of_getElem? (i := 2) rfl)) (fun _ h9 => h9) rfl dX5_isShutIn_57 ?_
        refine lv_iload hx hb dX5_isShutIn_60 (lv_at hl 0 rfl) ?_
        refine b_iald hx hb hK.1 hB 26 lay_26 (vp_in_nI (by omega) (by decide)) dX5_isShutIn_62 ?_
        rw [nI_clamp (n := i10) (by omega)]
        refine lv_iconst (v := (-1)) hx hb dX5_isShutIn_63 (by decide) ?_
        refine lv_icmp_eq (tgt := 89) hx hb dX5_isShutIn_64 (by decide) (fun c14 => ?_) (fun c14 => ?_)
        · refine lv_iinc (v := nI (i10 + 1)) (lv' := [(6, .int (nI (i10 + 1))), (5, .ref (o + k4)), (4, .ref (o + k2)), (0, .ref (o + 23)), (1, .ref (o + g1)), (2, .int x2), (3, .int x3)]) hx hb dX5_isShutIn_89 hl (k := 0) rfl (nI_1 i10) (by decide) rfl (fun ls hl => ?_)
          refine lv_goto (tgt := 49) hx hb dX5_isShutIn_92 (by decide) ?_
          have e15 := p_X5_isShutIn_e15 M g1 x2 x3 k2 k4 M5 r6 r8 M9 i10 n10 c14
          rw [e15] at hexit10 hret10
          exact ih10 (i10 + 1) (by omega) _ _ hB hS ls (lv_sub hl [0, 1, 2, 3, 4, 5, 6] rfl) hret10 hexit10
        · refine lv_iload hx hb dX5_isShutIn_67 (lv_at hl 0 rfl) ?_
          refine lv_bipush (v := 8) hx hb dX5_isShutIn_69 (by decide) ?_
          refine lv_idiv hx hb dX5_isShutIn_71 (by decide) ?_
          refine lv_bipush (v := 7) hx hb dX5_isShutIn_72 (by decide) ?_
          refine lv_icmp_eq (tgt := 87) hx hb dX5_isShutIn_74 (by decide) (fun c16 => ?_) (fun c16 => ?_)
          · refine lv_iconst (v := 0) hx hb dX5_isShutIn_87 (by decide) ?_
            have e17 := p_X5_isShutIn_e17 M g1 x2 x3 k2 k4 M5 r6 r8 M9 i10 n10 c14 c16
            rw [e17] at hret10
            exact b_zret (v := 0) hx hb hr rfl hlocks hS (hret10 _ rfl hB) dX5_isShutIn_88
          · refine lv_aload hx hb dX5_isShutIn_77 (lv_at hl 1 rfl) ?_
            refine lv_iload hx hb dX5_isShutIn_79 (lv_at hl 0 rfl) ?_
            refine b_pI (b_runV (As := [.int (nI i10)]) (rest := []) ⟨hx, hb, hml, hown, hts⟩ (c_X2_holds l D E o M9 k4 (nI i10) hfk4) (cwV 1 hts gX5_isShutIn_X2_holds rfl rfl rfl (by decide +kernel) ⟨Nat.le_of_ble_eq_true rfl, Nat.le_of_ble_eq_true rfl⟩) hK (bk_recv hK.1 hB hfk4.1 rfl) hB rfl hl rfl (Nat.le_of_ble_eq_true rfl) dX5_isShutIn_81 ⟨Nat.zero_le _, Nat.zero_le _⟩) hS (fun r18 hr18 locs hS => ?_)
            refine lv_if_eq (tgt := 89) hx hb dX5_isShutIn_84 (by decide) (fun c19 => ?_) (fun c19 => ?_)
            · refine lv_iinc (v := nI (i10 + 1)) (lv' := [(6, .int (nI (i10 + 1))), (5, .ref (o + k4)), (4, .ref (o + k2)), (0, .ref (o + 23)), (1, .ref (o + g1)), (2, .int x2), (3, .int x3)]) hx hb dX5_isShutIn_89 hl (k := 0) rfl (nI_1 i10) (by decide) rfl (fun ls hl => ?_)
              refine lv_goto (tgt := 49) hx hb dX5_isShutIn_92 (by decide) ?_
              have e20 := p_X5_isShutIn_e20 M g1 x2 x3 k2 k4 M5 r6 r8 M9 i10 n10 c14 c16 r18 hr18.symm c19
              rw [e20] at hexit10 hret10
              exact ih10 (i10 + 1) (by omega) _ _ hB hS ls (lv_sub hl [0, 1, 2, 3, 4, 5, 6] rfl) hret10 hexit10
            · refine lv_iconst (v := 0) hx hb dX5_isShutIn_87 (by decide) ?_
              have e21 := p_X5_isShutIn_e21 M g1 x2 x3 k2 k4 M5 r6 r8 M9 i10 n10 c14 c16 r18 hr18.symm c19
              rw [e21] at hret10
              exact b_zret (v := 0) hx hb hr rfl hlocks hS (hret10 _ rfl hB) dX5_isShutIn_88
    refine lp10 64 0 (by omega) _ _ hB hS ls (lv_sub hl [0, 1, 2, 3, 4, 5, 6] rfl) (fun H hfl10 hB => ?_) ?_
    · have e22 := p_X5_isShutIn_e22 M g1 x2 x3 k2 hk2.symm k4 hk4.symm M5 hM5.symm r6 hr6.symm c7 r8 hr8.symm M9 hM9.symm hfl10
      exact ⟨_, rfl, _, ⟨(congrArg Prod.fst e22).symm, (congrArg Prod.snd e22).symm⟩, hB⟩
    intro H locs hfl10 hB hS ls hl
    have hl : lv_has ls 7 [(5, .ref (o + k4)), (4, .ref (o + k2)), (0, .ref (o + 23)), (1, .ref (o + g1)), (2, .int x2), (3, .int x3)] := hl
    refine lv_iconst (v := 1) hx hb dX5_isShutIn_95 (by decide) ?_
    have e23 := p_X5_isShutIn_e23 M g1 x2 x3 k2 hk2.symm k4 hk4.symm M5 hM5.symm r6 hr6.symm c7 r8 hr8.symm M9 hM9.symm hfl10
    exact b_zret hx hb hr rfl hlocks hS ⟨_, rfl, _, ⟨(congrArg Prod.fst e23).symm, (congrArg Prod.snd e23).symm⟩, hB⟩ dX5_isShutIn_96
  · refine lv_aload_n hx hb dX5_isShutIn_30 rfl (lv_at hl 2 rfl) ?_
    refine b_get (D := D) (E := E) (L := LRM) (o := o) (M := M5) (v := .ref (o + 25)) (C := RX5) (T := TX5) (N := 6) hx hb hts hinX5 hown hK.1 hB 23 lay_23 rfl 1 (by decide) (hts (.fieldLink RX5 15 "RiverMeeting$Ways" "open" "[Z") (List.mem_of_getElem? (i := 1) rfl)) (fun _ h9 => h9) rfl dX5_isShutIn_31 ?_
    refine lv_iload_n hx hb dX5_isShutIn_34 rfl (lv_at hl 5 rfl) ?_
    refine lv_iconst (v := 0) hx hb dX5_isShutIn_35 (by decide) ?_
    refine b_zast hx hb hK.1 hB hS 25 (rA_of lay_25) lay_25 (fits_in (hr6 ▸ c7)) dX5_isShutIn_36 (fun M24 hM24 H locs hB _ hS => ?_)
    rw [show vp_nar .boolean 0 = 0 from rfl] at hM24
    refine lv_aload_n hx hb dX5_isShutIn_37 rfl (lv_at hl 2 rfl) ?_
    refine lv_aload hx hb dX5_isShutIn_38 (lv_at hl 1 rfl) ?_
    refine b_pI (b_runV (As := []) (rest := [.ref (o + 23)]) ⟨hx, hb, hml, hown, hts⟩ (c_X2_head l D E o M24 k2 hfk2) (cwV 0 hts gX5_isShutIn_X2_head rfl rfl rfl (by decide +kernel) ⟨Nat.le_of_ble_eq_true rfl, Nat.le_of_ble_eq_true rfl⟩) hK (bk_recv hK.1 hB hfk2.1 rfl) hB rfl hl rfl (Nat.le_of_ble_eq_true rfl) dX5_isShutIn_40 ⟨Nat.zero_le _, Nat.zero_le _⟩) hS (fun r25 hr25 locs hS => ?_)
    refine b_mV (b_runV (As := [.int r25]) (rest := []) ⟨hx, hb, hml, hown, hts⟩ (c_X5_spreadFrom l D E o M24 r25) (cwV 1 hts gX5_isShutIn_X5_spreadFrom rfl rfl rfl (by decide +kernel) ⟨Nat.le_of_ble_eq_true rfl, Nat.le_of_ble_eq_true rfl⟩) hK (bk_recv hK.1 hB lay_23 rfl) hB rfl hl rfl (Nat.le_of_ble_eq_true rfl) dX5_isShutIn_43 ⟨Nat.zero_le _, Nat.zero_le _⟩) hS (fun q h => h) (fun M26 hM26 H locs hB _ hS => ?_)
    refine lv_iconst (v := 0) hx hb dX5_isShutIn_46 (by decide) ?_
    refine lv_istore (lv' := [(6, .int 0), (5, .ref (o + k4)), (4, .ref (o + k2)), (0, .ref (o + 23)), (1, .ref (o + g1)), (2, .int x2), (3, .int x3)]) hx hb dX5_isShutIn_47 hl (by decide) rfl (fun ls hl => ?_)
    have lp27 : ∀ (n27 i27 : Nat), i27 + n27 = 64 → ∀ (H : Heap) (locs : List Loc), bk D E LRM o M26 H → bS (rA o) s.heap H locs → ∀ ls : Array Slot, lv_has ls 7 [(6, .int (nI i27)), (5, .ref (o + k4)), (4, .ref (o + k2)), (0, .ref (o + 23)), (1, .ref (o + g1)), (2, .int x2), (3, .int x3)] → (∀ H : Heap, (lp_X5_isShutIn_49 k4 M26 n27 i27).1 = true → bk D E LRM o M26 H → (aI fun r H => ∃ M1 : bM, (r = (f_X5_isShutIn M g1 x2 x3).1 ∧ M1 = (f_X5_isShutIn M g1 x2 x3).2) ∧ bk D E LRM o M1 H) (some (.int (lp_X5_isShutIn_49 k4 M26 n27 i27).2.1)) H) → (∀ (H : Heap) (locs : List Loc), (lp_X5_isShutIn_49 k4 M26 n27 i27).1 = false → bk D E LRM o M26 H → bS (rA o) s.heap H locs → ∀ ls : Array Slot, lv_has ls 7 [(5, .ref (o + k4)), (4, .ref (o + k2)), (0, .ref (o + 23)), (1, .ref (o + g1)), (2, .int x2), (3, .int x3)] → W p l e (headSpec wsX5_isShutIn (rmF 2)).room s m ([.ref (o + 23), .ref (o + g1), .int x2, .int x3] : List Value).toArray below meth c H locs 0 0 (MQ below (bQ (aI fun r H => ∃ M1 : bM, (r = (f_X5_isShutIn M g1 x2 x3).1 ∧ M1 = (f_X5_isShutIn M g1 x2 x3).2) ∧ bk D E LRM o M1 H) (rA o)) ([.ref (o + 23), .ref (o + g1), .int x2, .int x3] : List Value).toArray s 0 0 (rA o)) (F0 m 95 ls [])) → W p l e (headSpec wsX5_isShutIn (rmF 2)).room s m ([.ref (o + 23), .ref (o + g1), .int x2, .int x3] : List Value).toArray below meth c H locs 0 0 (MQ below (bQ (aI fun r H => ∃ M1 : bM, (r = (f_X5_isShutIn M g1 x2 x3).1 ∧ M1 = (f_X5_isShutIn M g1 x2 x3).2) ∧ bk D E LRM o M1 H) (rA o)) ([.ref (o + 23), .ref (o + g1), .int x2, .int x3] : List Value).toArray s 0 0 (rA o)) (F0 m 49 ls []) := by
      intro n27
      induction n27 with
      | zero =>
        intro i27 hi27 H locs hB hS ls hl hret27 hexit27
        have hz27 : i27 = 64 := by omega
        refine lv_iload hx hb dX5_isShutIn_49 (lv_at hl 0 rfl) ?_
        refine lv_bipush (v := 64) hx hb dX5_isShutIn_51 (by decide) ?_
        refine lv_icmp_ge (tgt := 95) hx hb dX5_isShutIn_53 (by decide) (fun c28 => ?_) (fun c28 => absurd (by rw [hz27]; exact Int32.le_refl _) c28)
        have e29 := p_X5_isShutIn_e29 M g1 x2 x3 k2 k4 M5 r6 M24 r25 M26 i27 
        rw [e29] at hexit27
        exact hexit27 _ _ rfl hB hS ls (lv_sub hl [1, 2, 3, 4, 5, 6] rfl)
      | succ n27 ih27 =>
        intro i27 hi27 H locs hB hS ls hl hret27 hexit27
        refine lv_iload hx hb dX5_isShutIn_49 (lv_at hl 0 rfl) ?_
        refine lv_bipush (v := 64) hx hb dX5_isShutIn_51 (by decide) ?_
        refine lv_icmp_ge (tgt := 95) hx hb dX5_isShutIn_53 (by decide) (fun c30 => absurd c30 (nI_ge (a := i27) (b := 64) (by omega) (by decide))) (fun c30 => ?_)
        refine lv_aload_n hx hb dX5_isShutIn_56 rfl (lv_at hl 3 rfl) ?_
        refine b_get (D := D) (E := E) (L := LRM) (o := o) (M := M26) (v := .ref (o + 26)) (C := RX5) (T := TX5) (N := 6) hx hb hts hinX5 hown hK.1 hB 23 lay_23 rfl 2 (by decide) (hts (.fieldLink RX5 19 "RiverMeeting$Ways" "far" "[I") (List.mem_of_getElem? (i := 2) rfl)) (fun _ h9 => h9) rfl dX5_isShutIn_57 ?_
        refine lv_iload hx hb dX5_isShutIn_60 (lv_at hl 0 rfl) ?_
        refine b_iald hx hb hK.1 hB 26 lay_26 (vp_in_nI (by omega) (by decide)) dX5_isShutIn_62 ?_
        rw [nI_clamp (n := i27) (by omega)]
        refine lv_iconst (v := (-1)) hx hb dX5_isShutIn_63 (by decide) ?_
        refine lv_icmp_eq (tgt := 89) hx hb dX5_isShutIn_64 (by decide) (fun c31 => ?_) (fun c31 => ?_)
        · refine lv_iinc (v := nI (i27 + 1)) (lv' := [(6, .int (nI (i27 + 1))), (5, .ref (o + k4)), (4, .ref (o + k2)), (0, .ref (o + 23)), (1, .ref (o + g1)), (2, .int x2), (3, .int x3)]) hx hb dX5_isShutIn_89 hl (k := 0) rfl (nI_1 i27) (by decide) rfl (fun ls hl => ?_)
          refine lv_goto (tgt := 49) hx hb dX5_isShutIn_92 (by decide) ?_
          have e32 := p_X5_isShutIn_e32 M g1 x2 x3 k2 k4 M5 r6 M24 r25 M26 i27 n27 c31
          rw [e32] at hexit27 hret27
          exact ih27 (i27 + 1) (by omega) _ _ hB hS ls (lv_sub hl [0, 1, 2, 3, 4, 5, 6] rfl) hret27 hexit27
        · refine lv_iload hx hb dX5_isShutIn_67 (lv_at hl 0 rfl) ?_
          refine lv_bipush (v := 8) hx hb dX5_isShutIn_69 (by decide) ?_
          refine lv_idiv hx hb dX5_isShutIn_71 (by decide) ?_
          refine lv_bipush (v := 7) hx hb dX5_isShutIn_72 (by decide) ?_
          refine lv_icmp_eq (tgt := 87) hx hb dX5_isShutIn_74 (by decide) (fun c33 => ?_) (fun c33 => ?_)
          · refine lv_iconst (v := 0) hx hb dX5_isShutIn_87 (by decide) ?_
            have e34 := p_X5_isShutIn_e34 M g1 x2 x3 k2 k4 M5 r6 M24 r25 M26 i27 n27 c31 c33
            rw [e34] at hret27
            exact b_zret (v := 0) hx hb hr rfl hlocks hS (hret27 _ rfl hB) dX5_isShutIn_88
          · refine lv_aload hx hb dX5_isShutIn_77 (lv_at hl 1 rfl) ?_
            refine lv_iload hx hb dX5_isShutIn_79 (lv_at hl 0 rfl) ?_
            refine b_pI (b_runV (As := [.int (nI i27)]) (rest := []) ⟨hx, hb, hml, hown, hts⟩ (c_X2_holds l D E o M26 k4 (nI i27) hfk4) (cwV 1 hts gX5_isShutIn_X2_holds rfl rfl rfl (by decide +kernel) ⟨Nat.le_of_ble_eq_true rfl, Nat.le_of_ble_eq_true rfl⟩) hK (bk_recv hK.1 hB hfk4.1 rfl) hB rfl hl rfl (Nat.le_of_ble_eq_true rfl) dX5_isShutIn_81 ⟨Nat.zero_le _, Nat.zero_le _⟩) hS (fun r35 hr35 locs hS => ?_)
            refine lv_if_eq (tgt := 89) hx hb dX5_isShutIn_84 (by decide) (fun c36 => ?_) (fun c36 => ?_)
            · refine lv_iinc (v := nI (i27 + 1)) (lv' := [(6, .int (nI (i27 + 1))), (5, .ref (o + k4)), (4, .ref (o + k2)), (0, .ref (o + 23)), (1, .ref (o + g1)), (2, .int x2), (3, .int x3)]) hx hb dX5_isShutIn_89 hl (k := 0) rfl (nI_1 i27) (by decide) rfl (fun ls hl => ?_)
              refine lv_goto (tgt := 49) hx hb dX5_isShutIn_92 (by decide) ?_
              have e37 := p_X5_isShutIn_e37 M g1 x2 x3 k2 k4 M5 r6 M24 r25 M26 i27 n27 c31 c33 r35 hr35.symm c36
              rw [e37] at hexit27 hret27
              exact ih27 (i27 + 1) (by omega) _ _ hB hS ls (lv_sub hl [0, 1, 2, 3, 4, 5, 6] rfl) hret27 hexit27
            · refine lv_iconst (v := 0) hx hb dX5_isShutIn_87 (by decide) ?_
              have e38 := p_X5_isShutIn_e38 M g1 x2 x3 k2 k4 M5 r6 M24 r25 M26 i27 n27 c31 c33 r35 hr35.symm c36
              rw [e38] at hret27
              exact b_zret (v := 0) hx hb hr rfl hlocks hS (hret27 _ rfl hB) dX5_isShutIn_88
    refine lp27 64 0 (by omega) _ _ hB hS ls (lv_sub hl [0, 1, 2, 3, 4, 5, 6] rfl) (fun H hfl27 hB => ?_) ?_
    · have e39 := p_X5_isShutIn_e39 M g1 x2 x3 k2 hk2.symm k4 hk4.symm M5 hM5.symm r6 hr6.symm c7 M24 hM24.symm r25 hr25.symm M26 hM26.symm hfl27
      exact ⟨_, rfl, _, ⟨(congrArg Prod.fst e39).symm, (congrArg Prod.snd e39).symm⟩, hB⟩
    intro H locs hfl27 hB hS ls hl
    have hl : lv_has ls 7 [(5, .ref (o + k4)), (4, .ref (o + k2)), (0, .ref (o + 23)), (1, .ref (o + g1)), (2, .int x2), (3, .int x3)] := hl
    refine lv_iconst (v := 1) hx hb dX5_isShutIn_95 (by decide) ?_
    have e40 := p_X5_isShutIn_e40 M g1 x2 x3 k2 hk2.symm k4 hk4.symm M5 hM5.symm r6 hr6.symm c7 M24 hM24.symm r25 hr25.symm M26 hM26.symm hfl27
    exact b_zret hx hb hr rfl hlocks hS ⟨_, rfl, _, ⟨(congrArg Prod.fst e40).symm, (congrArg Prod.snd e40).symm⟩, hB⟩ dX5_isShutIn_96
def lp_X5_stepsToMeet_35 (k4 : Nat) (M7 : bM) : Nat → Nat → Int32 → (Int32)
  | 0, i8, x9 => x9
  | n8 + 1, i8, x9 => (let r13 : Int32 := f_X2_holds M7 k4 (nI i8); (if r13 = 0 then lp_X5_stepsToMeet_35 k4 M7 n8 (i8 + 1) x9 else (if (M7 26 i8) = (-1) then lp_X5_stepsToMeet_35 k4 M7 n8 (i8 + 1) x9 else (if x9 = (-1) then (let x19 : Int32 := (M7 26 i8); lp_X5_stepsToMeet_35 k4 M7 n8 (i8 + 1) x19) else (if x9 ≤ (M7 26 i8) then lp_X5_stepsToMeet_35 k4 M7 n8 (i8 + 1) x9 else (let x23 : Int32 := (M7 26 i8); lp_X5_stepsToMeet_35 k4 M7 n8 (i8 + 1) x23))))))
theorem u0_lp_X5_stepsToMeet_35 (k4 : Nat) (M7 : bM) (i8 : Nat) (x9 : Int32) : lp_X5_stepsToMeet_35 k4 M7 0 i8 x9 = x9 := rfl
theorem u1_lp_X5_stepsToMeet_35 (k4 : Nat) (M7 : bM) (n8 i8 : Nat) (x9 : Int32) : lp_X5_stepsToMeet_35 k4 M7 (n8 + 1) i8 x9 = (let r13 : Int32 := f_X2_holds M7 k4 (nI i8); (if r13 = 0 then lp_X5_stepsToMeet_35 k4 M7 n8 (i8 + 1) x9 else (if (M7 26 i8) = (-1) then lp_X5_stepsToMeet_35 k4 M7 n8 (i8 + 1) x9 else (if x9 = (-1) then (let x19 : Int32 := (M7 26 i8); lp_X5_stepsToMeet_35 k4 M7 n8 (i8 + 1) x19) else (if x9 ≤ (M7 26 i8) then lp_X5_stepsToMeet_35 k4 M7 n8 (i8 + 1) x9 else (let x23 : Int32 := (M7 26 i8); lp_X5_stepsToMeet_35 k4 M7 n8 (i8 + 1) x23)))))) := rfl
def f_X5_stepsToMeet (M : bM) (g1 : Nat) (x2 : Int32) : Int32 × bM := (let k2 : Nat := f_X0_sideOf M g1 x2; (let k4 : Nat := f_X0_sideOf M g1 ((1 : Int32) - x2); (let M5 : bM := f_X5_openBesides M g1 k2; (let r6 : Int32 := f_X2_head M5 k2; (let M7 : bM := f_X5_spreadFrom M5 r6; (let x25 : Int32 := (lp_X5_stepsToMeet_35 k4 M7 64 0 (-1)); (x25, M7)))))))
theorem u_f_X5_stepsToMeet (M : bM) (g1 : Nat) (x2 : Int32) : f_X5_stepsToMeet M g1 x2 = (let k2 : Nat := f_X0_sideOf M g1 x2; (let k4 : Nat := f_X0_sideOf M g1 ((1 : Int32) - x2); (let M5 : bM := f_X5_openBesides M g1 k2; (let r6 : Int32 := f_X2_head M5 k2; (let M7 : bM := f_X5_spreadFrom M5 r6; (let x25 : Int32 := (lp_X5_stepsToMeet_35 k4 M7 64 0 (-1)); (x25, M7))))))) := rfl
theorem p_X5_stepsToMeet_e11 (M : bM) (g1 : Nat) (x2 : Int32) (k2 : Nat) (k4 : Nat) (M5 : bM) (r6 : Int32) (M7 : bM) (x9 : Int32) (i8 : Nat)  : lp_X5_stepsToMeet_35 k4 M7 0 i8 x9 = x9 := by exact u0_lp_X5_stepsToMeet_35 k4 M7 i8 x9
theorem p_X5_stepsToMeet_e15 (M : bM) (g1 : Nat) (x2 : Int32) (k2 : Nat) (k4 : Nat) (M5 : bM) (r6 : Int32) (M7 : bM) (x9 : Int32) (i8 : Nat) (n8 : Nat) (r13 : Int32) (hr13 : f_X2_holds M7 k4 (nI i8) = r13) (c14 : r13 = 0) : lp_X5_stepsToMeet_35 k4 M7 (n8 + 1) i8 x9 = lp_X5_stepsToMeet_35 k4 M7 n8 (i8 + 1) x9 := by subst hr13; exact Eq.trans (u1_lp_X5_stepsToMeet_35 k4 M7 n8 i8 x9) (if_pos c14)
theorem p_X5_stepsToMeet_e17 (M : bM) (g1 : Nat) (x2 : Int32) (k2 : Nat) (k4 : Nat) (M5 : bM) (r6 : Int32) (M7 : bM) (x9 : Int32) (i8 : Nat) (n8 : Nat) (r13 : Int32) (hr13 : f_X2_holds M7 k4 (nI i8) = r13) (c14 : ¬ r13 = 0) (c16 : (M7 26 i8) = (-1)) : lp_X5_stepsToMeet_35 k4 M7 (n8 + 1) i8 x9 = lp_X5_stepsToMeet_35 k4 M7 n8 (i8 + 1) x9 := by subst hr13; exact Eq.trans (u1_lp_X5_stepsToMeet_35 k4 M7 n8 i8 x9) (Eq.trans (if_neg c14) (if_pos c16))
theorem p_X5_stepsToMeet_e20 (M : bM) (g1 : Nat) (x2 : Int32) (k2 : Nat) (k4 : Nat) (M5 : bM) (r6 : Int32) (M7 : bM) (x9 : Int32) (i8 : Nat) (n8 : Nat) (r13 : Int32) (hr13 : f_X2_holds M7 k4 (nI i8) = r13) (c14 : ¬ r13 = 0) (c16 : ¬ (M7 26 i8) = (-1)) (c18 : x9 = (-1)) (x19 : Int32) (hx19 : (M7 26 i8) = x19) : lp_X5_stepsToMeet_35 k4 M7 (n8 + 1) i8 x9 = lp_X5_stepsToMeet_35 k4 M7 n8 (i8 + 1) x19 := by subst hx19 hr13; exact Eq.trans (u1_lp_X5_stepsToMeet_35 k4 M7 n8 i8 x9) (Eq.trans (if_neg c14) (Eq.trans (if_neg c16) (if_pos c18)))
theorem p_X5_stepsToMeet_e22 (M : bM) (g1 : Nat) (x2 : Int32) (k2 : Nat) (k4 : Nat) (M5 : bM) (r6 : Int32) (M7 : bM) (x9 : Int32) (i8 : Nat) (n8 : Nat) (r13 : Int32) (hr13 : f_X2_holds M7 k4 (nI i8) = r13) (c14 : ¬ r13 = 0) (c16 : ¬ (M7 26 i8) = (-1)) (c18 : ¬ x9 = (-1)) (c21 : x9 ≤ (M7 26 i8)) : lp_X5_stepsToMeet_35 k4 M7 (n8 + 1) i8 x9 = lp_X5_stepsToMeet_35 k4 M7 n8 (i8 + 1) x9 := by subst hr13; exact Eq.trans (u1_lp_X5_stepsToMeet_35 k4 M7 n8 i8 x9) (Eq.trans (if_neg c14) (Eq.trans (if_neg c16) (Eq.trans (if_neg c18) (if_pos c21))))
theorem p_X5_stepsToMeet_e24 (M : bM) (g1 : Nat) (x2 : Int32) (k2 : Nat) (k4 : Nat) (M5 : bM) (r6 : Int32) (M7 : bM) (x9 : Int32) (i8 : Nat) (n8 : Nat) (r13 : Int32) (hr13 : f_X2_holds M7 k4 (nI i8) = r13) (c14 : ¬ r13 = 0) (c16 : ¬ (M7 26 i8) = (-1)) (c18 : ¬ x9 = (-1)) (c21 : ¬ x9 ≤ (M7 26 i8)) (x23 : Int32) (hx23 : (M7 26 i8) = x23) : lp_X5_stepsToMeet_35 k4 M7 (n8 + 1) i8 x9 = lp_X5_stepsToMeet_35 k4 M7 n8 (i8 + 1) x23 := by subst hx23 hr13; exact Eq.trans (u1_lp_X5_stepsToMeet_35 k4 M7 n8 i8 x9) (Eq.trans (if_neg c14) (Eq.trans (if_neg c16) (Eq.trans (if_neg c18) (if_neg c21))))
theorem p_X5_stepsToMeet_e26 (M : bM) (g1 : Nat) (x2 : Int32) (k2 : Nat) (hk2 : f_X0_sideOf M g1 x2 = k2) (k4 : Nat) (hk4 : f_X0_sideOf M g1 ((1 : Int32) - x2) = k4) (M5 : bM) (hM5 : f_X5_openBesides M g1 k2 = M5) (r6 : Int32) (hr6 : f_X2_head M5 k2 = r6) (M7 : bM) (hM7 : f_X5_spreadFrom M5 r6 = M7) (x25 : Int32) (hx25 : (lp_X5_stepsToMeet_35 k4 M7 64 0 (-1)) = x25) : f_X5_stepsToMeet M g1 x2 = (x25, M7) := by subst hx25 hM7 hr6 hM5 hk4 hk2; exact u_f_X5_stepsToMeet M g1 x2
set_option maxHeartbeats 4000000 in
set_option maxRecDepth 100000 in
theorem c_X5_stepsToMeet (l : Launch) (D : va_G) (E : Nat → ClassId) (o : Nat) (M : bM) (g1 : Nat) (x2 : Int32) (hg1 : isG g1) : Met l yX5_stepsToMeet wsX5_stepsToMeet (rmF 2) (bPc D E [.ref (o + 23), .ref (o + g1), .int x2] (fun H => bk D E LRM o M H)) (bQ (aI fun r H => ∃ M1 : bM, (r = (f_X5_stepsToMeet M g1 x2).1 ∧ M1 = (f_X5_stepsToMeet M g1 x2).2) ∧ bk D E LRM o M1 H) (rA o)) 0 0 (rA o) := by
  refine Met.ofW (cc := cX5_stepsToMeet) (maxL := 7) (ret := (some .int)) (by decide) rfl ?_
  intro p e s m args below meth c s₁ B hml hv
  obtain ⟨rfl, hB, hK⟩ := hv
  have hx := B.exec
  have hb := B.bytes
  have hr := B.returns
  have hts := atoms_spec (ws := wsX5_stepsToMeet) B.pre
  have hown : s.vm.findClass RX5 = some m.cls := findClass_of_methodNamed B.named
  have hlocks := B.notSynchronized
  have hS : bS (rA o) s.heap s.heap [] := bS.rf
  have hl := lv_entry ([.ref (o + 23), .ref (o + g1), .int x2]) (n := 7) (Nat.le_of_ble_eq_true rfl)
  rw [lg_entry_eq]
  generalize (lg_sl ([.ref (o + 23), .ref (o + g1), .int x2]) ++ List.replicate (7 - (lg_sl ([.ref (o + 23), .ref (o + g1), .int x2])).length) Slot.unset).toArray = ls at hl ⊢
  have hl : lv_has ls 7 [(0, .ref (o + 23)), (1, .ref (o + g1)), (2, .int x2)] := hl
  have hB : bk D E LRM o M s.heap := hB
  have hinX5 : ∀ w ∈ wsX50, w ∈ wsX5_stepsToMeet := by decide +kernel
  refine lv_aload_n hx hb dX5_stepsToMeet_0 rfl (lv_at hl 1 rfl) ?_
  refine lv_iload_n hx hb dX5_stepsToMeet_1 rfl (lv_at hl 2 rfl) ?_
  refine b_pR (b_runV (As := [.int x2]) (rest := []) ⟨hx, hb, hml, hown, hts⟩ (c_X0_sideOf l D E o M g1 x2 hg1) (cwV 1 hts gX5_stepsToMeet_X0_sideOf rfl rfl rfl (by decide +kernel) ⟨Nat.le_of_ble_eq_true rfl, Nat.le_of_ble_eq_true rfl⟩) hK (bk_recv hK.1 hB hg1.1 rfl) hB rfl hl rfl (Nat.le_of_ble_eq_true rfl) dX5_stepsToMeet_2 ⟨Nat.zero_le _, Nat.zero_le _⟩) hS (fun r1 hr1 locs hS => ?_)
  obtain ⟨k2, hk2⟩ : ∃ y : Nat, y = f_X0_sideOf M g1 x2 := ⟨_, rfl⟩
  rw [← hk2] at hr1; subst hr1
  have hfk2 : isS k2 := by rw [hk2]; exact (isS_sideOf hg1)
  refine lv_astore_n (lv' := [(3, .ref (o + k2)), (0, .ref (o + 23)), (1, .ref (o + g1)), (2, .int x2)]) hx hb dX5_stepsToMeet_5 rfl hl (by decide) rfl (fun ls hl => ?_)
  refine lv_aload_n hx hb dX5_stepsToMeet_6 rfl (lv_at hl 2 rfl) ?_
  refine lv_iconst (v := 1) hx hb dX5_stepsToMeet_7 (by decide) ?_
  refine lv_iload_n hx hb dX5_stepsToMeet_8 rfl (lv_at hl 3 rfl) ?_
  refine lv_isub hx hb dX5_stepsToMeet_9 ?_
  refine b_pR (b_runV (As := [.int ((1 : Int32) - x2)]) (rest := []) ⟨hx, hb, hml, hown, hts⟩ (c_X0_sideOf l D E o M g1 ((1 : Int32) - x2) hg1) (cwV 1 hts gX5_stepsToMeet_X0_sideOf rfl rfl rfl (by decide +kernel) ⟨Nat.le_of_ble_eq_true rfl, Nat.le_of_ble_eq_true rfl⟩) hK (bk_recv hK.1 hB hg1.1 rfl) hB rfl hl rfl (Nat.le_of_ble_eq_true rfl) dX5_stepsToMeet_10 ⟨Nat.zero_le _, Nat.zero_le _⟩) hS (fun r3 hr3 locs hS => ?_)
  obtain ⟨k4, hk4⟩ : ∃ y : Nat, y = f_X0_sideOf M g1 ((1 : Int32) - x2) := ⟨_, rfl⟩
  rw [← hk4] at hr3; subst hr3
  have hfk4 : isS k4 := by rw [hk4]; exact (isS_sideOf hg1)
  refine lv_astore (lv' := [(4, .ref (o + k4)), (3, .ref (o + k2)), (0, .ref (o + 23)), (1, .ref (o + g1)), (2, .int x2)]) hx hb dX5_stepsToMeet_13 hl (by decide) rfl (fun ls hl => ?_)
  refine lv_aload_n hx hb dX5_stepsToMeet_15 rfl (lv_at hl 2 rfl) ?_
  refine lv_aload_n hx hb dX5_stepsToMeet_16 rfl (lv_at hl 3 rfl) ?_
  refine lv_aload_n hx hb dX5_stepsToMeet_17 rfl (lv_at hl 1 rfl) ?_
  refine b_mV (b_runV (As := [.ref (o + g1), .ref (o + k2)]) (rest := []) ⟨hx, hb, hml, hown, hts⟩ (c_X5_openBesides l D E o M g1 k2 hg1 hfk2) (cwV 2 hts gX5_stepsToMeet_X5_openBesides rfl rfl rfl (by decide +kernel) ⟨Nat.le_of_ble_eq_true rfl, Nat.le_of_ble_eq_true rfl⟩) hK (bk_recv hK.1 hB lay_23 rfl) hB rfl hl rfl (Nat.le_of_ble_eq_true rfl) dX5_stepsToMeet_18 ⟨Nat.zero_le _, Nat.zero_le _⟩) hS (fun q h => h) (fun M5 hM5 H locs hB _ hS => ?_)
  refine lv_aload_n hx hb dX5_stepsToMeet_21 rfl (lv_at hl 2 rfl) ?_
  refine lv_aload_n hx hb dX5_stepsToMeet_22 rfl (lv_at hl 1 rfl) ?_
  refine b_pI (b_runV (As := []) (rest := [.ref (o + 23)]) ⟨hx, hb, hml, hown, hts⟩ (c_X2_head l D E o M5 k2 hfk2) (cwV 0 hts gX5_stepsToMeet_X2_head rfl rfl rfl (by decide +kernel) ⟨Nat.le_of_ble_eq_true rfl, Nat.le_of_ble_eq_true rfl⟩) hK (bk_recv hK.1 hB hfk2.1 rfl) hB rfl hl rfl (Nat.le_of_ble_eq_true rfl) dX5_stepsToMeet_23 ⟨Nat.zero_le _, Nat.zero_le _⟩) hS (fun r6 hr6 locs hS => ?_)
  refine b_mV (b_runV (As := [.int r6]) (rest := []) ⟨hx, hb, hml, hown, hts⟩ (c_X5_spreadFrom l D E o M5 r6) (cwV 1 hts gX5_stepsToMeet_X5_spreadFrom rfl rfl rfl (by decide +kernel) ⟨Nat.le_of_ble_eq_true rfl, Nat.le_of_ble_eq_true rfl⟩) hK (bk_recv hK.1 hB lay_23 rfl) hB rfl hl rfl (Nat.le_of_ble_eq_true rfl) dX5_stepsToMeet_26 ⟨Nat.zero_le _, Nat.zero_le _⟩) hS (fun q h => h) (fun M7 hM7 H locs hB _ hS => ?_)
  refine lv_iconst (v := (-1)) hx hb dX5_stepsToMeet_29 (by decide) ?_
  refine lv_istore (lv' := [(5, .int (-1)), (4, .ref (o + k4)), (3, .ref (o + k2)), (0, .ref (o + 23)), (1, .ref (o + g1)), (2, .int x2)]) hx hb dX5_stepsToMeet_30 hl (by decide) rfl (fun ls hl => ?_)
  refine lv_iconst (v := 0) hx hb dX5_stepsToMeet_32 (by decide) ?_
  refine lv_istore (lv' := [(6, .int 0), (5, .int (-1)), (4, .ref (o + k4)), (3, .ref (o + k2)), (0, .ref (o + 23)), (1, .ref (o + g1)), (2, .int x2)]) hx hb dX5_stepsToMeet_33 hl (by decide) rfl (fun ls hl => ?_)
  have lp8 : ∀ (n8 i8 : Nat) (x9 : Int32), i8 + n8 = 64 → ∀ (H : Heap) (locs : List Loc), bk D E LRM o M7 H → bS (rA o) s.heap H locs → ∀ ls : Array Slot, lv_has ls 7 [(6, .int (nI i8)), (5, .int x9), (4, .ref (o + k4)), (3, .ref (o + k2)), (0, .ref (o + 23)), (1, .ref (o + g1)), (2, .int x2)] → (∀ (H : Heap) (locs : List Loc), bk D E LRM o M7 H → bS (rA o) s.heap H locs → ∀ ls : Array Slot, lv_has ls 7 [(5, .int (lp_X5_stepsToMeet_35 k4 M7 n8 i8 x9)), (4, .ref (o + k4)), (3, .ref (o + k2)), (0, .ref (o + 23)), (1, .ref (o + g1)), (2, .int x2)] → W p l e (headSpec wsX5_stepsToMeet (rmF 2)).room s m ([.ref (o + 23), .ref (o + g1), .int x2] : List Value).toArray below meth c H locs 0 0 (MQ below (bQ (aI fun r H => ∃ M1 : bM, (r = (f_X5_stepsToMeet M g1 x2).1 ∧ M1 = (f_X5_stepsToMeet M g1 x2).2) ∧ bk D E LRM o M1 H) (rA o)) ([.ref (o + 23), .ref (o + g1), .int x2] : List Value).toArray s 0 0 (rA o)) (F0 m 96 ls [])) → W p l e (headSpec wsX5_stepsToMeet (rmF 2)).room s m ([.ref (o + 23), .ref (o + g1), .int x2] : List Value).toArray below meth c H locs 0 0 (MQ below (bQ (aI fun r H => ∃ M1 : bM, (r = (f_X5_stepsToMeet M g1 x2).1 ∧ M1 = (f_X5_stepsToMeet M g1 x2).2) ∧ bk D E LRM o M1 H) (rA o)) ([.ref (o + 23), .ref (o + g1), .int x2] : List Value).toArray s 0 0 (rA o)) (F0 m 35 ls []) := by
    intro n8
    induction n8 with
    | zero =>
      intro i8 x9 hi8 H locs hB hS ls hl hexit8
      have hz8 : i8 = 64 := by omega
      refine lv_iload hx hb dX5_stepsToMeet_35 (lv_at hl 0 rfl) ?_
      refine lv_bipush (v := 64) hx hb dX5_stepsToMeet_37 (by decide) ?_
      refine lv_icmp_ge (tgt := 96) hx hb dX5_stepsToMeet_39 (by decide) (fun c10 => ?_) (fun c10 => absurd (by rw [hz8]; exact Int32.le_refl _) c10)
      have e11 := p_X5_stepsToMeet_e11 M g1 x2 k2 k4 M5 r6 M7 x9 i8 
      rw [e11] at hexit8
      exact hexit8 _ _  hB hS ls (lv_sub hl [1, 2, 3, 4, 5, 6] rfl)
    | succ n8 ih8 =>
      intro i8 x9 hi8 H locs hB hS ls hl hexit8
      refine lv_iload hx hb dX5_stepsToMeet_35 (lv_at hl 0 rfl) ?_
      refine lv_bipush (v := 64) hx hb dX5_stepsToMeet_37 (by decide) ?_
      refine lv_icmp_ge (tgt := 96) hx hb dX5_stepsToMeet_39 (by decide) (fun c12 => absurd c12 (nI_ge (a := i8) (b := 64) (by omega) (by decide))) (fun c12 => ?_)
      refine lv_aload hx hb dX5_stepsToMeet_42 (lv_at hl 2 rfl) ?_
      refine lv_iload hx hb dX5_stepsToMeet_44 (lv_at hl 0 rfl) ?_
      refine b_pI (b_runV (As := [.int (nI i8)]) (rest := []) ⟨hx, hb, hml, hown, hts⟩ (c_X2_holds l D E o M7 k4 (nI i8) hfk4) (cwV 1 hts gX5_stepsToMeet_X2_holds rfl rfl rfl (by decide +kernel) ⟨Nat.le_of_ble_eq_true rfl, Nat.le_of_ble_eq_true rfl⟩) hK (bk_recv hK.1 hB hfk4.1 rfl) hB rfl hl rfl (Nat.le_of_ble_eq_true rfl) dX5_stepsToMeet_46 ⟨Nat.zero_le _, Nat.zero_le _⟩) hS (fun r13 hr13 locs hS => ?_)
      refine lv_if_eq (tgt := 90) hx hb dX5_stepsToMeet_49 (by decide) (fun c14 => ?_) (fun c14 => ?_)
      · refine lv_iinc (v := nI (i8 + 1)) (lv' := [(6, .int (nI (i8 + 1))), (5, .int x9), (4, .ref (o + k4)), (3, .ref (o + k2)), (0, .ref (o + 23)), (1, .ref (o + g1)), (2, .int x2)]) hx hb dX5_stepsToMeet_90 hl (k := 0) rfl (nI_1 i8) (by decide) rfl (fun ls hl => ?_)
        refine lv_goto (tgt := 35) hx hb dX5_stepsToMeet_93 (by decide) ?_
        have e15 := p_X5_stepsToMeet_e15 M g1 x2 k2 k4 M5 r6 M7 x9 i8 n8 r13 hr13.symm c14
        rw [e15] at hexit8
        exact ih8 (i8 + 1) x9 (by omega) _ _ hB hS ls (lv_sub hl [0, 1, 2, 3, 4, 5, 6] rfl) hexit8
      · refine lv_aload_n hx hb dX5_stepsToMeet_52 rfl (lv_at hl 4 rfl) ?_
        refine b_get (D := D) (E := E) (L := LRM) (o := o) (M := M7) (v := .ref (o + 26)) (C := RX5) (T := TX5) (N := 6) hx hb hts hinX5 hown hK.1 hB 23 lay_23 rfl 2 (by decide) (hts (.fieldLink RX5 19 "RiverMeeting$Ways" "far" "[I") (List.mem_of_getElem? (i := 1) rfl)) (fun _ h9 => h9) rfl dX5_stepsToMeet_53 ?_
        refine lv_iload hx hb dX5_stepsToMeet_56 (lv_at hl 0 rfl) ?_
        refine b_iald hx hb hK.1 hB 26 lay_26 (vp_in_nI (by omega) (by decide)) dX5_stepsToMeet_58 ?_
        rw [nI_clamp (n := i8) (by omega)]
        refine lv_iconst (v := (-1)) hx hb dX5_stepsToMeet_59 (by decide) ?_
        refine lv_icmp_eq (tgt := 90) hx hb dX5_stepsToMeet_60 (by decide) (fun c16 => ?_) (fun c16 => ?_)
        · refine lv_iinc (v := nI (i8 + 1)) (lv' := [(6, .int (nI (i8 + 1))), (5, .int x9), (4, .ref (o + k4)), (3, .ref (o + k2)), (0, .ref (o + 23)), (1, .ref (o + g1)), (2, .int x2)]) hx hb dX5_stepsToMeet_90 hl (k := 0) rfl (nI_1 i8) (by decide) rfl (fun ls hl => ?_)
          refine lv_goto (tgt := 35) hx hb dX5_stepsToMeet_93 (by decide) ?_
          have e17 := p_X5_stepsToMeet_e17 M g1 x2 k2 k4 M5 r6 M7 x9 i8 n8 r13 hr13.symm c14 c16
          rw [e17] at hexit8
          exact ih8 (i8 + 1) x9 (by omega) _ _ hB hS ls (lv_sub hl [0, 1, 2, 3, 4, 5, 6] rfl) hexit8
        · refine lv_iload hx hb dX5_stepsToMeet_63 (lv_at hl 1 rfl) ?_
          refine lv_iconst (v := (-1)) hx hb dX5_stepsToMeet_65 (by decide) ?_
          refine lv_icmp_eq (tgt := 81) hx hb dX5_stepsToMeet_66 (by decide) (fun c18 => ?_) (fun c18 => ?_)
          · refine lv_aload_n hx hb dX5_stepsToMeet_81 rfl (lv_at hl 4 rfl) ?_
            refine b_get (D := D) (E := E) (L := LRM) (o := o) (M := M7) (v := .ref (o + 26)) (C := RX5) (T := TX5) (N := 6) hx hb hts hinX5 hown hK.1 hB 23 lay_23 rfl 2 (by decide) (hts (.fieldLink RX5 19 "RiverMeeting$Ways" "far" "[I") (List.mem_of_getElem? (i := 1) rfl)) (fun _ h9 => h9) rfl dX5_stepsToMeet_82 ?_
            refine lv_iload hx hb dX5_stepsToMeet_85 (lv_at hl 0 rfl) ?_
            refine b_iald hx hb hK.1 hB 26 lay_26 (vp_in_nI (by omega) (by decide)) dX5_stepsToMeet_87 ?_
            rw [nI_clamp (n := i8) (by omega)]
            refine lv_topi (fun x19 hx19 => ?_)
            refine lv_istore (lv' := [(5, .int x19), (6, .int (nI i8)), (4, .ref (o + k4)), (3, .ref (o + k2)), (0, .ref (o + 23)), (1, .ref (o + g1)), (2, .int x2)]) hx hb dX5_stepsToMeet_88 hl (by decide) rfl (fun ls hl => ?_)
            refine lv_iinc (v := nI (i8 + 1)) (lv' := [(6, .int (nI (i8 + 1))), (5, .int x19), (4, .ref (o + k4)), (3, .ref (o + k2)), (0, .ref (o + 23)), (1, .ref (o + g1)), (2, .int x2)]) hx hb dX5_stepsToMeet_90 hl (k := 1) rfl (nI_1 i8) (by decide) rfl (fun ls hl => ?_)
            refine lv_goto (tgt := 35) hx hb dX5_stepsToMeet_93 (by decide) ?_
            have e20 := p_X5_stepsToMeet_e20 M g1 x2 k2 k4 M5 r6 M7 x9 i8 n8 r13 hr13.symm c14 c16 c18 x19 hx19.symm
            rw [e20] at hexit8
            exact ih8 (i8 + 1) x19 (by omega) _ _ hB hS ls (lv_sub hl [0, 1, 2, 3, 4, 5, 6] rfl) hexit8
          · refine lv_aload_n hx hb dX5_stepsToMeet_69 rfl (lv_at hl 4 rfl) ?_
            refine b_get (D := D) (E := E) (L := LRM) (o := o) (M := M7) (v := .ref (o + 26)) (C := RX5) (T := TX5) (N := 6) hx hb hts hinX5 hown hK.1 hB 23 lay_23 rfl 2 (by decide) (hts (.fieldLink RX5 19 "RiverMeeting$Ways" "far" "[I") (List.mem_of_getElem? (i := 1) rfl)) (fun _ h9 => h9) rfl dX5_stepsToMeet_70 ?_
            refine lv_iload hx hb dX5_stepsToMeet_73 (lv_at hl 0 rfl) ?_
            refine b_iald hx hb hK.1 hB 26 lay_26 (vp_in_nI (by omega) (by decide)) dX5_stepsToMeet_75 ?_
            rw [nI_clamp (n := i8) (by omega)]
            refine lv_iload hx hb dX5_stepsToMeet_76 (lv_at hl 1 rfl) ?_
            refine lv_icmp_ge (tgt := 90) hx hb dX5_stepsToMeet_78 (by decide) (fun c21 => ?_) (fun c21 => ?_)
            · refine lv_iinc (v := nI (i8 + 1)) (lv' := [(6, .int (nI (i8 + 1))), (5, .int x9), (4, .ref (o + k4)), (3, .ref (o + k2)), (0, .ref (o + 23)), (1, .ref (o + g1)), (2, .int x2)]) hx hb dX5_stepsToMeet_90 hl (k := 0) rfl (nI_1 i8) (by decide) rfl (fun ls hl => ?_)
              refine lv_goto (tgt := 35) hx hb dX5_stepsToMeet_93 (by decide) ?_
              have e22 := p_X5_stepsToMeet_e22 M g1 x2 k2 k4 M5 r6 M7 x9 i8 n8 r13 hr13.symm c14 c16 c18 c21
              rw [e22] at hexit8
              exact ih8 (i8 + 1) x9 (by omega) _ _ hB hS ls (lv_sub hl [0, 1, 2, 3, 4, 5, 6] rfl) hexit8
            · refine lv_aload_n hx hb dX5_stepsToMeet_81 rfl (lv_at hl 4 rfl) ?_
              refine b_get (D := D) (E := E) (L := LRM) (o := o) (M := M7) (v := .ref (o + 26)) (C := RX5) (T := TX5) (N := 6) hx hb hts hinX5 hown hK.1 hB 23 lay_23 rfl 2 (by decide) (hts (.fieldLink RX5 19 "RiverMeeting$Ways" "far" "[I") (List.mem_of_getElem? (i := 1) rfl)) (fun _ h9 => h9) rfl dX5_stepsToMeet_82 ?_
              refine lv_iload hx hb dX5_stepsToMeet_85 (lv_at hl 0 rfl) ?_
              refine b_iald hx hb hK.1 hB 26 lay_26 (vp_in_nI (by omega) (by decide)) dX5_stepsToMeet_87 ?_
              rw [nI_clamp (n := i8) (by omega)]
              refine lv_topi (fun x23 hx23 => ?_)
              refine lv_istore (lv' := [(5, .int x23), (6, .int (nI i8)), (4, .ref (o + k4)), (3, .ref (o + k2)), (0, .ref (o + 23)), (1, .ref (o + g1)), (2, .int x2)]) hx hb dX5_stepsToMeet_88 hl (by decide) rfl (fun ls hl => ?_)
              refine lv_iinc (v := nI (i8 + 1)) (lv' := [(6, .int (nI (i8 + 1))), (5, .int x23), (4, .ref (o + k4)), (3, .ref (o + k2)), (0, .ref (o + 23)), (1, .ref (o + g1)), (2, .int x2)]) hx hb dX5_stepsToMeet_90 hl (k := 1) rfl (nI_1 i8) (by decide) rfl (fun ls hl => ?_)
              refine lv_goto (tgt := 35) hx hb dX5_stepsToMeet_93 (by decide) ?_
              have e24 := p_X5_stepsToMeet_e24 M g1 x2 k2 k4 M5 r6 M7 x9 i8 n8 r13 hr13.symm c14 c16 c18 c21 x23 hx23.symm
              rw [e24] at hexit8
              exact ih8 (i8 + 1) x23 (by omega) _ _ hB hS ls (lv_sub hl [0, 1, 2, 3, 4, 5, 6] rfl) hexit8
  refine lp8 64 0 (-1) (by omega) _ _ hB hS ls (lv_sub hl [0, 1, 2, 3, 4, 5, 6] rfl) ?_
  intro H locs hB hS ls hl
  obtain ⟨x25, hx25⟩ : ∃ y : Int32, y = (lp_X5_stepsToMeet_35 k4 M7 64 0 (-1)) := ⟨_, rfl⟩
  rw [← hx25] at hl
  have hl : lv_has ls 7 [(5, .int x25), (4, .ref (o + k4)), (3, .ref (o + k2)), (0, .ref (o + 23)), (1, .ref (o + g1)), (2, .int x2)] := hl
  refine lv_iload hx hb dX5_stepsToMeet_96 (lv_at hl 0 rfl) ?_
  have e26 := p_X5_stepsToMeet_e26 M g1 x2 k2 hk2.symm k4 hk4.symm M5 hM5.symm r6 hr6.symm M7 hM7.symm x25 hx25.symm
  exact b_iret hx hb hr hlocks hS ⟨_, rfl, _, ⟨(congrArg Prod.fst e26).symm, (congrArg Prod.snd e26).symm⟩, hB⟩ dX5_stepsToMeet_98
def lp_X5_dearestForBoth_45 (g1 : Nat) (M6 : bM) : Nat → Nat → Int32 → Int32 → (Int32 × Int32)
  | 0, i7, x8, x9 => (x8, x9)
  | n7 + 1, i7, x8, x9 => (let r13 : Int32 := f_X2_costOf M6 (g1 + 1) (nI i7); (let r14 : Int32 := f_X2_costOf M6 (g1 + 5) (nI i7); (let x15 : Int32 := (r13 + r14); (if (M6 25 i7) = 0 then lp_X5_dearestForBoth_45 g1 M6 n7 (i7 + 1) x8 x9 else (if (M6 27 i7) = (-1) then lp_X5_dearestForBoth_45 g1 M6 n7 (i7 + 1) x8 x9 else (if (M6 26 i7) = (-1) then lp_X5_dearestForBoth_45 g1 M6 n7 (i7 + 1) x8 x9 else (if x15 ≤ x8 then lp_X5_dearestForBoth_45 g1 M6 n7 (i7 + 1) x8 x9 else lp_X5_dearestForBoth_45 g1 M6 n7 (i7 + 1) x15 (nI i7))))))))
theorem u0_lp_X5_dearestForBoth_45 (g1 : Nat) (M6 : bM) (i7 : Nat) (x8 : Int32) (x9 : Int32) : lp_X5_dearestForBoth_45 g1 M6 0 i7 x8 x9 = (x8, x9) := rfl
theorem u1_lp_X5_dearestForBoth_45 (g1 : Nat) (M6 : bM) (n7 i7 : Nat) (x8 : Int32) (x9 : Int32) : lp_X5_dearestForBoth_45 g1 M6 (n7 + 1) i7 x8 x9 = (let r13 : Int32 := f_X2_costOf M6 (g1 + 1) (nI i7); (let r14 : Int32 := f_X2_costOf M6 (g1 + 5) (nI i7); (let x15 : Int32 := (r13 + r14); (if (M6 25 i7) = 0 then lp_X5_dearestForBoth_45 g1 M6 n7 (i7 + 1) x8 x9 else (if (M6 27 i7) = (-1) then lp_X5_dearestForBoth_45 g1 M6 n7 (i7 + 1) x8 x9 else (if (M6 26 i7) = (-1) then lp_X5_dearestForBoth_45 g1 M6 n7 (i7 + 1) x8 x9 else (if x15 ≤ x8 then lp_X5_dearestForBoth_45 g1 M6 n7 (i7 + 1) x8 x9 else lp_X5_dearestForBoth_45 g1 M6 n7 (i7 + 1) x15 (nI i7)))))))) := rfl
def f_X5_dearestForBoth (M : bM) (g1 : Nat) : Int32 × bM := (let M1 : bM := f_X5_openFree M g1; (let r2 : Int32 := f_X2_head M1 (g1 + 1); (let M3 : bM := f_X5_spreadFrom M1 r2; (let M4 : bM := f_X6_copyRow M3 26 27; (let r5 : Int32 := f_X2_head M4 (g1 + 5); (let M6 : bM := f_X5_spreadFrom M4 r5; (let x25 : Int32 := (lp_X5_dearestForBoth_45 g1 M6 64 0 (-1) (-1)).1; (let x26 : Int32 := (lp_X5_dearestForBoth_45 g1 M6 64 0 (-1) (-1)).2; (x26, M6)))))))))
theorem u_f_X5_dearestForBoth (M : bM) (g1 : Nat) : f_X5_dearestForBoth M g1 = (let M1 : bM := f_X5_openFree M g1; (let r2 : Int32 := f_X2_head M1 (g1 + 1); (let M3 : bM := f_X5_spreadFrom M1 r2; (let M4 : bM := f_X6_copyRow M3 26 27; (let r5 : Int32 := f_X2_head M4 (g1 + 5); (let M6 : bM := f_X5_spreadFrom M4 r5; (let x25 : Int32 := (lp_X5_dearestForBoth_45 g1 M6 64 0 (-1) (-1)).1; (let x26 : Int32 := (lp_X5_dearestForBoth_45 g1 M6 64 0 (-1) (-1)).2; (x26, M6))))))))) := rfl
theorem p_X5_dearestForBoth_e11 (M : bM) (g1 : Nat) (M1 : bM) (r2 : Int32) (M3 : bM) (M4 : bM) (r5 : Int32) (M6 : bM) (x8 : Int32) (x9 : Int32) (i7 : Nat)  : lp_X5_dearestForBoth_45 g1 M6 0 i7 x8 x9 = (x8, x9) := by exact u0_lp_X5_dearestForBoth_45 g1 M6 i7 x8 x9
theorem p_X5_dearestForBoth_e17 (M : bM) (g1 : Nat) (M1 : bM) (r2 : Int32) (M3 : bM) (M4 : bM) (r5 : Int32) (M6 : bM) (x8 : Int32) (x9 : Int32) (i7 : Nat) (n7 : Nat) (r13 : Int32) (hr13 : f_X2_costOf M6 (g1 + 1) (nI i7) = r13) (r14 : Int32) (hr14 : f_X2_costOf M6 (g1 + 5) (nI i7) = r14) (x15 : Int32) (hx15 : (r13 + r14) = x15) (c16 : (M6 25 i7) = 0) : lp_X5_dearestForBoth_45 g1 M6 (n7 + 1) i7 x8 x9 = lp_X5_dearestForBoth_45 g1 M6 n7 (i7 + 1) x8 x9 := by subst hx15 hr14 hr13; exact Eq.trans (u1_lp_X5_dearestForBoth_45 g1 M6 n7 i7 x8 x9) (if_pos c16)
theorem p_X5_dearestForBoth_e19 (M : bM) (g1 : Nat) (M1 : bM) (r2 : Int32) (M3 : bM) (M4 : bM) (r5 : Int32) (M6 : bM) (x8 : Int32) (x9 : Int32) (i7 : Nat) (n7 : Nat) (r13 : Int32) (hr13 : f_X2_costOf M6 (g1 + 1) (nI i7) = r13) (r14 : Int32) (hr14 : f_X2_costOf M6 (g1 + 5) (nI i7) = r14) (x15 : Int32) (hx15 : (r13 + r14) = x15) (c16 : ¬ (M6 25 i7) = 0) (c18 : (M6 27 i7) = (-1)) : lp_X5_dearestForBoth_45 g1 M6 (n7 + 1) i7 x8 x9 = lp_X5_dearestForBoth_45 g1 M6 n7 (i7 + 1) x8 x9 := by subst hx15 hr14 hr13; exact Eq.trans (u1_lp_X5_dearestForBoth_45 g1 M6 n7 i7 x8 x9) (Eq.trans (if_neg c16) (if_pos c18))
theorem p_X5_dearestForBoth_e21 (M : bM) (g1 : Nat) (M1 : bM) (r2 : Int32) (M3 : bM) (M4 : bM) (r5 : Int32) (M6 : bM) (x8 : Int32) (x9 : Int32) (i7 : Nat) (n7 : Nat) (r13 : Int32) (hr13 : f_X2_costOf M6 (g1 + 1) (nI i7) = r13) (r14 : Int32) (hr14 : f_X2_costOf M6 (g1 + 5) (nI i7) = r14) (x15 : Int32) (hx15 : (r13 + r14) = x15) (c16 : ¬ (M6 25 i7) = 0) (c18 : ¬ (M6 27 i7) = (-1)) (c20 : (M6 26 i7) = (-1)) : lp_X5_dearestForBoth_45 g1 M6 (n7 + 1) i7 x8 x9 = lp_X5_dearestForBoth_45 g1 M6 n7 (i7 + 1) x8 x9 := by subst hx15 hr14 hr13; exact Eq.trans (u1_lp_X5_dearestForBoth_45 g1 M6 n7 i7 x8 x9) (Eq.trans (if_neg c16) (Eq.trans (if_neg c18) (if_pos c20)))
theorem p_X5_dearestForBoth_e23 (M : bM) (g1 : Nat) (M1 : bM) (r2 : Int32) (M3 : bM) (M4 : bM) (r5 : Int32) (M6 : bM) (x8 : Int32) (x9 : Int32) (i7 : Nat) (n7 : Nat) (r13 : Int32) (hr13 : f_X2_costOf M6 (g1 + 1) (nI i7) = r13) (r14 : Int32) (hr14 : f_X2_costOf M6 (g1 + 5) (nI i7) = r14) (x15 : Int32) (hx15 : (r13 + r14) = x15) (c16 : ¬ (M6 25 i7) = 0) (c18 : ¬ (M6 27 i7) = (-1)) (c20 : ¬ (M6 26 i7) = (-1)) (c22 : x15 ≤ x8) : lp_X5_dearestForBoth_45 g1 M6 (n7 + 1) i7 x8 x9 = lp_X5_dearestForBoth_45 g1 M6 n7 (i7 + 1) x8 x9 := by subst hx15 hr14 hr13; exact Eq.trans (u1_lp_X5_dearestForBoth_45 g1 M6 n7 i7 x8 x9) (Eq.trans (if_neg c16) (Eq.trans (if_neg c18) (Eq.trans (if_neg c20) (if_pos c22))))
theorem p_X5_dearestForBoth_e24 (M : bM) (g1 : Nat) (M1 : bM) (r2 : Int32) (M3 : bM) (M4 : bM) (r5 : Int32) (M6 : bM) (x8 : Int32) (x9 : Int32) (i7 : Nat) (n7 : Nat) (r13 : Int32) (hr13 : f_X2_costOf M6 (g1 + 1) (nI i7) = r13) (r14 : Int32) (hr14 : f_X2_costOf M6 (g1 + 5) (nI i7) = r14) (x15 : Int32) (hx15 : (r13 + r14) = x15) (c16 : ¬ (M6 25 i7) = 0) (c18 : ¬ (M6 27 i7) = (-1)) (c20 : ¬ (M6 26 i7) = (-1)) (c22 : ¬ x15 ≤ x8) : lp_X5_dearestForBoth_45 g1 M6 (n7 + 1) i7 x8 x9 = lp_X5_dearestForBoth_45 g1 M6 n7 (i7 + 1) x15 (nI i7) := by subst hx15 hr14 hr13; exact Eq.trans (u1_lp_X5_dearestForBoth_45 g1 M6 n7 i7 x8 x9) (Eq.trans (if_neg c16) (Eq.trans (if_neg c18) (Eq.trans (if_neg c20) (if_neg c22))))
theorem p_X5_dearestForBoth_e27 (M : bM) (g1 : Nat) (M1 : bM) (hM1 : f_X5_openFree M g1 = M1) (r2 : Int32) (hr2 : f_X2_head M1 (g1 + 1) = r2) (M3 : bM) (hM3 : f_X5_spreadFrom M1 r2 = M3) (M4 : bM) (hM4 : f_X6_copyRow M3 26 27 = M4) (r5 : Int32) (hr5 : f_X2_head M4 (g1 + 5) = r5) (M6 : bM) (hM6 : f_X5_spreadFrom M4 r5 = M6) (x25 : Int32) (hx25 : (lp_X5_dearestForBoth_45 g1 M6 64 0 (-1) (-1)).1 = x25) (x26 : Int32) (hx26 : (lp_X5_dearestForBoth_45 g1 M6 64 0 (-1) (-1)).2 = x26) : f_X5_dearestForBoth M g1 = (x26, M6) := by subst hx26 hx25 hM6 hr5 hM4 hM3 hr2 hM1; exact u_f_X5_dearestForBoth M g1
set_option maxHeartbeats 4000000 in
set_option maxRecDepth 100000 in
theorem c_X5_dearestForBoth (l : Launch) (D : va_G) (E : Nat → ClassId) (o : Nat) (M : bM) (g1 : Nat) (hg1 : isG g1) : Met l yX5_dearestForBoth wsX5_dearestForBoth (rmF 2) (bPc D E [.ref (o + 23), .ref (o + g1)] (fun H => bk D E LRM o M H)) (bQ (aI fun r H => ∃ M1 : bM, (r = (f_X5_dearestForBoth M g1).1 ∧ M1 = (f_X5_dearestForBoth M g1).2) ∧ bk D E LRM o M1 H) (rA o)) 0 0 (rA o) := by
  refine Met.ofW (cc := cX5_dearestForBoth) (maxL := 6) (ret := (some .int)) (by decide) rfl ?_
  intro p e s m args below meth c s₁ B hml hv
  obtain ⟨rfl, hB, hK⟩ := hv
  have hx := B.exec
  have hb := B.bytes
  have hr := B.returns
  have hts := atoms_spec (ws := wsX5_dearestForBoth) B.pre
  have hown : s.vm.findClass RX5 = some m.cls := findClass_of_methodNamed B.named
  have hlocks := B.notSynchronized
  have hS : bS (rA o) s.heap s.heap [] := bS.rf
  have hl := lv_entry ([.ref (o + 23), .ref (o + g1)]) (n := 6) (Nat.le_of_ble_eq_true rfl)
  rw [lg_entry_eq]
  generalize (lg_sl ([.ref (o + 23), .ref (o + g1)]) ++ List.replicate (6 - (lg_sl ([.ref (o + 23), .ref (o + g1)])).length) Slot.unset).toArray = ls at hl ⊢
  have hl : lv_has ls 6 [(0, .ref (o + 23)), (1, .ref (o + g1))] := hl
  have hB : bk D E LRM o M s.heap := hB
  have hinX0 : ∀ w ∈ wsX00, w ∈ wsX5_dearestForBoth := by decide +kernel
  have hinX5 : ∀ w ∈ wsX50, w ∈ wsX5_dearestForBoth := by decide +kernel
  refine lv_aload_n hx hb dX5_dearestForBoth_0 rfl (lv_at hl 0 rfl) ?_
  refine lv_aload_n hx hb dX5_dearestForBoth_1 rfl (lv_at hl 1 rfl) ?_
  refine b_mV (b_runV (As := [.ref (o + g1)]) (rest := []) ⟨hx, hb, hml, hown, hts⟩ (c_X5_openFree l D E o M g1 hg1) (cwV 1 hts gX5_dearestForBoth_X5_openFree rfl rfl rfl (by decide +kernel) ⟨Nat.le_of_ble_eq_true rfl, Nat.le_of_ble_eq_true rfl⟩) hK (bk_recv hK.1 hB lay_23 rfl) hB rfl hl rfl (Nat.le_of_ble_eq_true rfl) dX5_dearestForBoth_2 ⟨Nat.zero_le _, Nat.zero_le _⟩) hS (fun q h => h) (fun M1 hM1 H locs hB _ hS => ?_)
  refine lv_aload_n hx hb dX5_dearestForBoth_5 rfl (lv_at hl 0 rfl) ?_
  refine lv_aload_n hx hb dX5_dearestForBoth_6 rfl (lv_at hl 1 rfl) ?_
  refine b_get (D := D) (E := E) (L := LRM) (o := o) (M := M1) (v := .ref (o + (g1 + 1))) (C := RX0) (T := TX0) (N := 12) hx hb hts hinX0 hown hK.1 hB g1 hg1.1 rfl 0 (by decide) (hts (.fieldLink RX5 40 "RiverMeeting$Game" "first" "LRiverMeeting$Side;") (List.mem_of_getElem? (i := 1) rfl)) (fun _ h9 => h9) rfl dX5_dearestForBoth_7 ?_
  refine b_pI (b_runV (As := []) (rest := [.ref (o + 23)]) ⟨hx, hb, hml, hown, hts⟩ (c_X2_head l D E o M1 (g1 + 1) hg1.2.1) (cwV 0 hts gX5_dearestForBoth_X2_head rfl rfl rfl (by decide +kernel) ⟨Nat.le_of_ble_eq_true rfl, Nat.le_of_ble_eq_true rfl⟩) hK (bk_recv hK.1 hB hg1.2.1.1 rfl) hB rfl hl rfl (Nat.le_of_ble_eq_true rfl) dX5_dearestForBoth_10 ⟨Nat.zero_le _, Nat.zero_le _⟩) hS (fun r2 hr2 locs hS => ?_)
  refine b_mV (b_runV (As := [.int r2]) (rest := []) ⟨hx, hb, hml, hown, hts⟩ (c_X5_spreadFrom l D E o M1 r2) (cwV 1 hts gX5_dearestForBoth_X5_spreadFrom rfl rfl rfl (by decide +kernel) ⟨Nat.le_of_ble_eq_true rfl, Nat.le_of_ble_eq_true rfl⟩) hK (bk_recv hK.1 hB lay_23 rfl) hB rfl hl rfl (Nat.le_of_ble_eq_true rfl) dX5_dearestForBoth_13 ⟨Nat.zero_le _, Nat.zero_le _⟩) hS (fun q h => h) (fun M3 hM3 H locs hB _ hS => ?_)
  refine lv_aload_n hx hb dX5_dearestForBoth_16 rfl (lv_at hl 0 rfl) ?_
  refine b_get (D := D) (E := E) (L := LRM) (o := o) (M := M3) (v := .ref (o + 26)) (C := RX5) (T := TX5) (N := 6) hx hb hts hinX5 hown hK.1 hB 23 lay_23 rfl 2 (by decide) (hts (.fieldLink RX5 19 "RiverMeeting$Ways" "far" "[I") (List.mem_of_getElem? (i := 2) rfl)) (fun _ h9 => h9) rfl dX5_dearestForBoth_17 ?_
  refine lv_aload_n hx hb dX5_dearestForBoth_20 rfl (lv_at hl 0 rfl) ?_
  refine b_get (D := D) (E := E) (L := LRM) (o := o) (M := M3) (v := .ref (o + 27)) (C := RX5) (T := TX5) (N := 6) hx hb hts hinX5 hown hK.1 hB 23 lay_23 rfl 3 (by decide) (hts (.fieldLink RX5 22 "RiverMeeting$Ways" "farOfFirst" "[I") (List.mem_of_getElem? (i := 3) rfl)) (fun _ h9 => h9) rfl dX5_dearestForBoth_21 ?_
  refine b_mV (b_runSN (As := [.ref (o + 26), .ref (o + 27)]) (rest := []) ⟨hx, hb, hml, hown, hts⟩ (c_X6_copyRow l D E o M3 26 27 lay_26 lay_27) ⟨va_cnB (host := "RiverMeeting") 2 hts gX5_dearestForBoth_X6_copyRow_n82 rfl rfl rfl (hK.2 0 _ rfl) (hts (.initialized RX6) (List.mem_of_getElem? (i := 32) rfl)) (by decide +kernel) ⟨Nat.le_of_ble_eq_true rfl, Nat.le_of_ble_eq_true rfl⟩, (hts (.static yX6_copyRow) (List.mem_of_getElem? (i := 34) rfl)), trivial⟩ hK hB rfl hl rfl (Nat.le_of_ble_eq_true rfl) dX5_dearestForBoth_24 ⟨Nat.zero_le _, Nat.zero_le _⟩) hS (fun q h => h) (fun M4 hM4 H locs hB _ hS => ?_)
  refine lv_aload_n hx hb dX5_dearestForBoth_27 rfl (lv_at hl 0 rfl) ?_
  refine lv_aload_n hx hb dX5_dearestForBoth_28 rfl (lv_at hl 1 rfl) ?_
  refine b_get (D := D) (E := E) (L := LRM) (o := o) (M := M4) (v := .ref (o + (g1 + 5))) (C := RX0) (T := TX0) (N := 12) hx hb hts hinX0 hown hK.1 hB g1 hg1.1 rfl 1 (by decide) (hts (.fieldLink RX5 49 "RiverMeeting$Game" "second" "LRiverMeeting$Side;") (List.mem_of_getElem? (i := 4) rfl)) (fun _ h9 => h9) rfl dX5_dearestForBoth_29 ?_
  refine b_pI (b_runV (As := []) (rest := [.ref (o + 23)]) ⟨hx, hb, hml, hown, hts⟩ (c_X2_head l D E o M4 (g1 + 5) hg1.2.2.1) (cwV 0 hts gX5_dearestForBoth_X2_head rfl rfl rfl (by decide +kernel) ⟨Nat.le_of_ble_eq_true rfl, Nat.le_of_ble_eq_true rfl⟩) hK (bk_recv hK.1 hB hg1.2.2.1.1 rfl) hB rfl hl rfl (Nat.le_of_ble_eq_true rfl) dX5_dearestForBoth_32 ⟨Nat.zero_le _, Nat.zero_le _⟩) hS (fun r5 hr5 locs hS => ?_)
  refine b_mV (b_runV (As := [.int r5]) (rest := []) ⟨hx, hb, hml, hown, hts⟩ (c_X5_spreadFrom l D E o M4 r5) (cwV 1 hts gX5_dearestForBoth_X5_spreadFrom rfl rfl rfl (by decide +kernel) ⟨Nat.le_of_ble_eq_true rfl, Nat.le_of_ble_eq_true rfl⟩) hK (bk_recv hK.1 hB lay_23 rfl) hB rfl hl rfl (Nat.le_of_ble_eq_true rfl) dX5_dearestForBoth_35 ⟨Nat.zero_le _, Nat.zero_le _⟩) hS (fun q h => h) (fun M6 hM6 H locs hB _ hS => ?_)
  refine lv_iconst (v := (-1)) hx hb dX5_dearestForBoth_38 (by decide) ?_
  refine lv_istore_n (lv' := [(2, .int (-1)), (0, .ref (o + 23)), (1, .ref (o + g1))]) hx hb dX5_dearestForBoth_39 rfl hl (by decide) rfl (fun ls hl => ?_)
  refine lv_iconst (v := (-1)) hx hb dX5_dearestForBoth_40 (by decide) ?_
  refine lv_istore_n (lv' := [(3, .int (-1)), (2, .int (-1)), (0, .ref (o + 23)), (1, .ref (o + g1))]) hx hb dX5_dearestForBoth_41 rfl hl (by decide) rfl (fun ls hl => ?_)
  refine lv_iconst (v := 0) hx hb dX5_dearestForBoth_42 (by decide) ?_
  refine lv_istore (lv' := [(4, .int 0), (3, .int (-1)), (2, .int (-1)), (0, .ref (o + 23)), (1, .ref (o + g1))]) hx hb dX5_dearestForBoth_43 hl (by decide) rfl (fun ls hl => ?_)
  have lp7 : ∀ (n7 i7 : Nat) (x8 : Int32) (x9 : Int32), i7 + n7 = 64 → ∀ (H : Heap) (locs : List Loc), bk D E LRM o M6 H → bS (rA o) s.heap H locs → ∀ ls : Array Slot, lv_has ls 6 [(4, .int (nI i7)), (3, .int x8), (2, .int x9), (0, .ref (o + 23)), (1, .ref (o + g1))] → (∀ (H : Heap) (locs : List Loc), bk D E LRM o M6 H → bS (rA o) s.heap H locs → ∀ ls : Array Slot, lv_has ls 6 [(3, .int ((lp_X5_dearestForBoth_45 g1 M6 n7 i7 x8 x9).1)), (2, .int ((lp_X5_dearestForBoth_45 g1 M6 n7 i7 x8 x9).2)), (0, .ref (o + 23)), (1, .ref (o + g1))] → W p l e (headSpec wsX5_dearestForBoth (rmF 2)).room s m ([.ref (o + 23), .ref (o + g1)] : List Value).toArray below meth c H locs 0 0 (MQ below (bQ (aI fun r H => ∃ M1 : bM, (r = (f_X5_dearestForBoth M g1).1 ∧ M1 = (f_X5_dearestForBoth M g1).2) ∧ bk D E LRM o M1 H) (rA o)) ([.ref (o + 23), .ref (o + g1)] : List Value).toArray s 0 0 (rA o)) (F0 m 123 ls [])) → W p l e (headSpec wsX5_dearestForBoth (rmF 2)).room s m ([.ref (o + 23), .ref (o + g1)] : List Value).toArray below meth c H locs 0 0 (MQ below (bQ (aI fun r H => ∃ M1 : bM, (r = (f_X5_dearestForBoth M g1).1 ∧ M1 = (f_X5_dearestForBoth M g1).2) ∧ bk D E LRM o M1 H) (rA o)) ([.ref (o + 23), .ref (o + g1)] : List Value).toArray s 0 0 (rA o)) (F0 m 45 ls []) := by
    intro n7
    induction n7 with
    | zero =>
      intro i7 x8 x9 hi7 H locs hB hS ls hl hexit7
      have hz7 : i7 = 64 := by omega
      refine lv_iload hx hb dX5_dearestForBoth_45 (lv_at hl 0 rfl) ?_
      refine lv_bipush (v := 64) hx hb dX5_dearestForBoth_47 (by decide) ?_
      refine lv_icmp_ge (tgt := 123) hx hb dX5_dearestForBoth_49 (by decide) (fun c10 => ?_) (fun c10 => absurd (by rw [hz7]; exact Int32.le_refl _) c10)
      have e11 := p_X5_dearestForBoth_e11 M g1 M1 r2 M3 M4 r5 M6 x8 x9 i7 
      rw [e11] at hexit7
      exact hexit7 _ _  hB hS ls (lv_sub hl [1, 2, 3, 4] rfl)
    | succ n7 ih7 =>
      intro i7 x8 x9 hi7 H locs hB hS ls hl hexit7
      refine lv_iload hx hb dX5_dearestForBoth_45 (lv_at hl 0 rfl) ?_
      refine lv_bipush (v := 64) hx hb dX5_dearestForBoth_47 (by decide) ?_
      refine lv_icmp_ge (tgt := 123) hx hb dX5_dearestForBoth_49 (by decide) (fun c12 => absurd c12 (nI_ge (a := i7) (b := 64) (by omega) (by decide))) (fun c12 => ?_)
      refine lv_aload_n hx hb dX5_dearestForBoth_52 rfl (lv_at hl 4 rfl) ?_
      refine b_get (D := D) (E := E) (L := LRM) (o := o) (M := M6) (v := .ref (o + (g1 + 1))) (C := RX0) (T := TX0) (N := 12) hx hb hts hinX0 hown hK.1 hB g1 hg1.1 rfl 0 (by decide) (hts (.fieldLink RX5 40 "RiverMeeting$Game" "first" "LRiverMeeting$Side;") (List.mem_of_getElem? (i := 1) rfl)) (fun _ h9 => h9) rfl dX5_dearestForBoth_53 ?_
      refine lv_iload hx hb dX5_dearestForBoth_56 (lv_at hl 0 rfl) ?_
      refine b_pI (b_runV (As := [.int (nI i7)]) (rest := []) ⟨hx, hb, hml, hown, hts⟩ (c_X2_costOf l D E o M6 (g1 + 1) (nI i7) hg1.2.1) (cwV 1 hts gX5_dearestForBoth_X2_costOf rfl rfl rfl (by decide +kernel) ⟨Nat.le_of_ble_eq_true rfl, Nat.le_of_ble_eq_true rfl⟩) hK (bk_recv hK.1 hB hg1.2.1.1 rfl) hB rfl hl rfl (Nat.le_of_ble_eq_true rfl) dX5_dearestForBoth_58 ⟨Nat.zero_le _, Nat.zero_le _⟩) hS (fun r13 hr13 locs hS => ?_)
      refine lv_aload_n hx hb dX5_dearestForBoth_61 rfl (lv_at hl 4 rfl) ?_
      refine b_get (D := D) (E := E) (L := LRM) (o := o) (M := M6) (v := .ref (o + (g1 + 5))) (C := RX0) (T := TX0) (N := 12) hx hb hts hinX0 hown hK.1 hB g1 hg1.1 rfl 1 (by decide) (hts (.fieldLink RX5 49 "RiverMeeting$Game" "second" "LRiverMeeting$Side;") (List.mem_of_getElem? (i := 4) rfl)) (fun _ h9 => h9) rfl dX5_dearestForBoth_62 ?_
      refine lv_iload hx hb dX5_dearestForBoth_65 (lv_at hl 0 rfl) ?_
      refine b_pI (b_runV (As := [.int (nI i7)]) (rest := [.int r13]) ⟨hx, hb, hml, hown, hts⟩ (c_X2_costOf l D E o M6 (g1 + 5) (nI i7) hg1.2.2.1) (cwV 1 hts gX5_dearestForBoth_X2_costOf rfl rfl rfl (by decide +kernel) ⟨Nat.le_of_ble_eq_true rfl, Nat.le_of_ble_eq_true rfl⟩) hK (bk_recv hK.1 hB hg1.2.2.1.1 rfl) hB rfl hl rfl (Nat.le_of_ble_eq_true rfl) dX5_dearestForBoth_67 ⟨Nat.zero_le _, Nat.zero_le _⟩) hS (fun r14 hr14 locs hS => ?_)
      refine lv_iadd hx hb dX5_dearestForBoth_70 ?_
      refine lv_topi (fun x15 hx15 => ?_)
      refine lv_istore (lv' := [(5, .int x15), (4, .int (nI i7)), (3, .int x8), (2, .int x9), (0, .ref (o + 23)), (1, .ref (o + g1))]) hx hb dX5_dearestForBoth_71 hl (by decide) rfl (fun ls hl => ?_)
      refine lv_aload_n hx hb dX5_dearestForBoth_73 rfl (lv_at hl 4 rfl) ?_
      refine b_get (D := D) (E := E) (L := LRM) (o := o) (M := M6) (v := .ref (o + 25)) (C := RX5) (T := TX5) (N := 6) hx hb hts hinX5 hown hK.1 hB 23 lay_23 rfl 1 (by decide) (hts (.fieldLink RX5 15 "RiverMeeting$Ways" "open" "[Z") (List.mem_of_getElem? (i := 5) rfl)) (fun _ h9 => h9) rfl dX5_dearestForBoth_74 ?_
      refine lv_iload hx hb dX5_dearestForBoth_77 (lv_at hl 1 rfl) ?_
      refine b_zald hx hb hK.1 hB 25 lay_25 (vp_in_nI (by omega) (by decide)) dX5_dearestForBoth_79 ?_
      rw [nI_clamp (n := i7) (by omega)]
      refine lv_if_eq (tgt := 117) hx hb dX5_dearestForBoth_80 (by decide) (fun c16 => ?_) (fun c16 => ?_)
      · refine lv_iinc (v := nI (i7 + 1)) (lv' := [(4, .int (nI (i7 + 1))), (5, .int x15), (3, .int x8), (2, .int x9), (0, .ref (o + 23)), (1, .ref (o + g1))]) hx hb dX5_dearestForBoth_117 hl (k := 1) rfl (nI_1 i7) (by decide) rfl (fun ls hl => ?_)
        refine lv_goto (tgt := 45) hx hb dX5_dearestForBoth_120 (by decide) ?_
        have e17 := p_X5_dearestForBoth_e17 M g1 M1 r2 M3 M4 r5 M6 x8 x9 i7 n7 r13 hr13.symm r14 hr14.symm x15 hx15.symm c16
        rw [e17] at hexit7
        exact ih7 (i7 + 1) x8 x9 (by omega) _ _ hB hS ls (lv_sub hl [0, 2, 3, 4, 5] rfl) hexit7
      · refine lv_aload_n hx hb dX5_dearestForBoth_83 rfl (lv_at hl 4 rfl) ?_
        refine b_get (D := D) (E := E) (L := LRM) (o := o) (M := M6) (v := .ref (o + 27)) (C := RX5) (T := TX5) (N := 6) hx hb hts hinX5 hown hK.1 hB 23 lay_23 rfl 3 (by decide) (hts (.fieldLink RX5 22 "RiverMeeting$Ways" "farOfFirst" "[I") (List.mem_of_getElem? (i := 3) rfl)) (fun _ h9 => h9) rfl dX5_dearestForBoth_84 ?_
        refine lv_iload hx hb dX5_dearestForBoth_87 (lv_at hl 1 rfl) ?_
        refine b_iald hx hb hK.1 hB 27 lay_27 (vp_in_nI (by omega) (by decide)) dX5_dearestForBoth_89 ?_
        rw [nI_clamp (n := i7) (by omega)]
        refine lv_iconst (v := (-1)) hx hb dX5_dearestForBoth_90 (by decide) ?_
        refine lv_icmp_eq (tgt := 117) hx hb dX5_dearestForBoth_91 (by decide) (fun c18 => ?_) (fun c18 => ?_)
        · refine lv_iinc (v := nI (i7 + 1)) (lv' := [(4, .int (nI (i7 + 1))), (5, .int x15), (3, .int x8), (2, .int x9), (0, .ref (o + 23)), (1, .ref (o + g1))]) hx hb dX5_dearestForBoth_117 hl (k := 1) rfl (nI_1 i7) (by decide) rfl (fun ls hl => ?_)
          refine lv_goto (tgt := 45) hx hb dX5_dearestForBoth_120 (by decide) ?_
          have e19 := p_X5_dearestForBoth_e19 M g1 M1 r2 M3 M4 r5 M6 x8 x9 i7 n7 r13 hr13.symm r14 hr14.symm x15 hx15.symm c16 c18
          rw [e19] at hexit7
          exact ih7 (i7 + 1) x8 x9 (by omega) _ _ hB hS ls (lv_sub hl [0, 2, 3, 4, 5] rfl) hexit7
        · refine lv_aload_n hx hb dX5_dearestForBoth_94 rfl (lv_at hl 4 rfl) ?_
          refine b_get (D := D) (E := E) (L := LRM) (o := o) (M := M6) (v := .ref (o + 26)) (C := RX5) (T := TX5) (N := 6) hx hb hts hinX5 hown hK.1 hB 23 lay_23 rfl 2 (by decide) (hts (.fieldLink RX5 19 "RiverMeeting$Ways" "far" "[I") (List.mem_of_getElem? (i := 2) rfl)) (fun _ h9 => h9) rfl dX5_dearestForBoth_95 ?_
          refine lv_iload hx hb dX5_dearestForBoth_98 (lv_at hl 1 rfl) ?_
          refine b_iald hx hb hK.1 hB 26 lay_26 (vp_in_nI (by omega) (by decide)) dX5_dearestForBoth_100 ?_
          rw [nI_clamp (n := i7) (by omega)]
          refine lv_iconst (v := (-1)) hx hb dX5_dearestForBoth_101 (by decide) ?_
          refine lv_icmp_eq (tgt := 117) hx hb dX5_dearestForBoth_102 (by decide) (fun c20 => ?_) (fun c20 => ?_)
          · refine lv_iinc (v := nI (i7 + 1)) (lv' := [(4, .int (nI (i7 + 1))), (5, .int x15), (3, .int x8), (2, .int x9), (0, .ref (o + 23)), (1, .ref (o + g1))]) hx hb dX5_dearestForBoth_117 hl (k := 1) rfl (nI_1 i7) (by decide) rfl (fun ls hl => ?_)
            refine lv_goto (tgt := 45) hx hb dX5_dearestForBoth_120 (by decide) ?_
            have e21 := p_X5_dearestForBoth_e21 M g1 M1 r2 M3 M4 r5 M6 x8 x9 i7 n7 r13 hr13.symm r14 hr14.symm x15 hx15.symm c16 c18 c20
            rw [e21] at hexit7
            exact ih7 (i7 + 1) x8 x9 (by omega) _ _ hB hS ls (lv_sub hl [0, 2, 3, 4, 5] rfl) hexit7
          · refine lv_iload hx hb dX5_dearestForBoth_105 (lv_at hl 0 rfl) ?_
            refine lv_iload_n hx hb dX5_dearestForBoth_107 rfl (lv_at hl 2 rfl) ?_
            refine lv_icmp_le (tgt := 117) hx hb dX5_dearestForBoth_108 (by decide) (fun c22 => ?_) (fun c22 => ?_)
            · refine lv_iinc (v := nI (i7 + 1)) (lv' := [(4, .int (nI (i7 + 1))), (5, .int x15), (3, .int x8), (2, .int x9), (0, .ref (o + 23)), (1, .ref (o + g1))]) hx hb dX5_dearestForBoth_117 hl (k := 1) rfl (nI_1 i7) (by decide) rfl (fun ls hl => ?_)
              refine lv_goto (tgt := 45) hx hb dX5_dearestForBoth_120 (by decide) ?_
              have e23 := p_X5_dearestForBoth_e23 M g1 M1 r2 M3 M4 r5 M6 x8 x9 i7 n7 r13 hr13.symm r14 hr14.symm x15 hx15.symm c16 c18 c20 c22
              rw [e23] at hexit7
              exact ih7 (i7 + 1) x8 x9 (by omega) _ _ hB hS ls (lv_sub hl [0, 2, 3, 4, 5] rfl) hexit7
            · refine lv_iload hx hb dX5_dearestForBoth_111 (lv_at hl 1 rfl) ?_
              refine lv_istore_n (lv' := [(2, .int (nI i7)), (5, .int x15), (4, .int (nI i7)), (3, .int x8), (0, .ref (o + 23)), (1, .ref (o + g1))]) hx hb dX5_dearestForBoth_113 rfl hl (by decide) rfl (fun ls hl => ?_)
              refine lv_iload hx hb dX5_dearestForBoth_114 (lv_at hl 1 rfl) ?_
              refine lv_istore_n (lv' := [(3, .int x15), (2, .int (nI i7)), (5, .int x15), (4, .int (nI i7)), (0, .ref (o + 23)), (1, .ref (o + g1))]) hx hb dX5_dearestForBoth_116 rfl hl (by decide) rfl (fun ls hl => ?_)
              refine lv_iinc (v := nI (i7 + 1)) (lv' := [(4, .int (nI (i7 + 1))), (3, .int x15), (2, .int (nI i7)), (5, .int x15), (0, .ref (o + 23)), (1, .ref (o + g1))]) hx hb dX5_dearestForBoth_117 hl (k := 3) rfl (nI_1 i7) (by decide) rfl (fun ls hl => ?_)
              refine lv_goto (tgt := 45) hx hb dX5_dearestForBoth_120 (by decide) ?_
              have e24 := p_X5_dearestForBoth_e24 M g1 M1 r2 M3 M4 r5 M6 x8 x9 i7 n7 r13 hr13.symm r14 hr14.symm x15 hx15.symm c16 c18 c20 c22
              rw [e24] at hexit7
              exact ih7 (i7 + 1) x15 (nI i7) (by omega) _ _ hB hS ls (lv_sub hl [0, 1, 2, 4, 5] rfl) hexit7
  refine lp7 64 0 (-1) (-1) (by omega) _ _ hB hS ls (lv_sub hl [0, 1, 2, 3, 4] rfl) ?_
  intro H locs hB hS ls hl
  obtain ⟨x25, hx25⟩ : ∃ y : Int32, y = (lp_X5_dearestForBoth_45 g1 M6 64 0 (-1) (-1)).1 := ⟨_, rfl⟩
  rw [← hx25] at hl
  obtain ⟨x26, hx26⟩ : ∃ y : Int32, y = (lp_X5_dearestForBoth_45 g1 M6 64 0 (-1) (-1)).2 := ⟨_, rfl⟩
  rw [← hx26] at hl
  have hl : lv_has ls 6 [(3, .int x25), (2, .int x26), (0, .ref (o + 23)), (1, .ref (o + g1))] := hl
  refine lv_iload_n hx hb dX5_dearestForBoth_123 rfl (lv_at hl 1 rfl) ?_
  have e27 := p_X5_dearestForBoth_e27 M g1 M1 hM1.symm r2 hr2.symm M3 hM3.symm M4 hM4.symm r5 hr5.symm M6 hM6.symm x25 hx25.symm x26 hx26.symm
  exact b_iret hx hb hr hlocks hS ⟨_, rfl, _, ⟨(congrArg Prod.fst e27).symm, (congrArg Prod.snd e27).symm⟩, hB⟩ dX5_dearestForBoth_124
