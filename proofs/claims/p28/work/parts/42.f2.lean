def lp_X6_runScript_73 (x1 : Int32) (x2 : Int64) : Nat → Nat → bM → (Bool × Int32 × bM)
  | 0, i18, M19 => (false, 0, M19)
  | n18 + 1, i18, M19 => (let r23 : Int64 := f_X6_withoutLastGroups x2 ((x1 - 1) - nI i18); (let r25 : Int32 := (f_X6_doGroup M19 ((r23 - r23 / 10000 * 10000).toInt32)).1; (let M24 : bM := (f_X6_doGroup M19 ((r23 - r23 / 10000 * 10000).toInt32)).2; (if r25 = 0 then (true, nI i18, M24) else lp_X6_runScript_73 x1 x2 n18 (i18 + 1) M24))))
theorem u0_lp_X6_runScript_73 (x1 : Int32) (x2 : Int64) (i18 : Nat) (M19 : bM) : lp_X6_runScript_73 x1 x2 0 i18 M19 = (false, 0, M19) := rfl
theorem u1_lp_X6_runScript_73 (x1 : Int32) (x2 : Int64) (n18 i18 : Nat) (M19 : bM) : lp_X6_runScript_73 x1 x2 (n18 + 1) i18 M19 = (let r23 : Int64 := f_X6_withoutLastGroups x2 ((x1 - 1) - nI i18); (let r25 : Int32 := (f_X6_doGroup M19 ((r23 - r23 / 10000 * 10000).toInt32)).1; (let M24 : bM := (f_X6_doGroup M19 ((r23 - r23 / 10000 * 10000).toInt32)).2; (if r25 = 0 then (true, nI i18, M24) else lp_X6_runScript_73 x1 x2 n18 (i18 + 1) M24)))) := rfl
def f_X6_runScript (M : bM) (x1 : Int32) (x2 : Int64) : Nat × Int32 × bM := (if x1 < 1 then (1, 0, M) else (if x1 ≤ 4 then (if 0 ≤ (lg_cmp x2 0) then (let r15 : Int64 := f_X6_withoutLastGroups x2 x1; (if (lg_cmp r15 0) = 0 then (let M17 : bM := f_X0_copyFrom M 13 3; (if (lp_X6_runScript_73 x1 x2 x1.toNatClampNeg 0 M17).1 = true then (0, (lp_X6_runScript_73 x1 x2 x1.toNatClampNeg 0 M17).2.1, (lp_X6_runScript_73 x1 x2 x1.toNatClampNeg 0 M17).2.2) else (let M30 : bM := (lp_X6_runScript_73 x1 x2 x1.toNatClampNeg 0 M17).2.2; (0, (-1), M30)))) else (1, 0, M))) else (1, 0, M)) else (1, 0, M)))
theorem u_f_X6_runScript (M : bM) (x1 : Int32) (x2 : Int64) : f_X6_runScript M x1 x2 = (if x1 < 1 then (1, 0, M) else (if x1 ≤ 4 then (if 0 ≤ (lg_cmp x2 0) then (let r15 : Int64 := f_X6_withoutLastGroups x2 x1; (if (lg_cmp r15 0) = 0 then (let M17 : bM := f_X0_copyFrom M 13 3; (if (lp_X6_runScript_73 x1 x2 x1.toNatClampNeg 0 M17).1 = true then (0, (lp_X6_runScript_73 x1 x2 x1.toNatClampNeg 0 M17).2.1, (lp_X6_runScript_73 x1 x2 x1.toNatClampNeg 0 M17).2.2) else (let M30 : bM := (lp_X6_runScript_73 x1 x2 x1.toNatClampNeg 0 M17).2.2; (0, (-1), M30)))) else (1, 0, M))) else (1, 0, M)) else (1, 0, M))) := rfl
theorem p_X6_runScript_e12 (M : bM) (x1 : Int32) (x2 : Int64) (c11 : x1 < 1) : f_X6_runScript M x1 x2 = (1, 0, M) := by exact Eq.trans (u_f_X6_runScript M x1 x2) (if_pos c11)
theorem p_X6_runScript_e21 (M : bM) (x1 : Int32) (x2 : Int64) (r15 : Int64) (M17 : bM) (M19 : bM) (i18 : Nat)  : lp_X6_runScript_73 x1 x2 0 i18 M19 = (false, 0, M19) := by exact u0_lp_X6_runScript_73 x1 x2 i18 M19
theorem p_X6_runScript_e27 (M : bM) (x1 : Int32) (x2 : Int64) (r15 : Int64) (M17 : bM) (M19 : bM) (i18 : Nat) (n18 : Nat) (r23 : Int64) (hr23 : f_X6_withoutLastGroups x2 ((x1 - 1) - nI i18) = r23) (r25 : Int32) (hr25 : (f_X6_doGroup M19 ((r23 - r23 / 10000 * 10000).toInt32)).1 = r25) (M24 : bM) (hM24 : (f_X6_doGroup M19 ((r23 - r23 / 10000 * 10000).toInt32)).2 = M24) (c26 : ¬ r25 = 0) : lp_X6_runScript_73 x1 x2 (n18 + 1) i18 M19 = lp_X6_runScript_73 x1 x2 n18 (i18 + 1) M24 := by subst hM24 hr25 hr23; exact Eq.trans (u1_lp_X6_runScript_73 x1 x2 n18 i18 M19) (if_neg c26)
theorem p_X6_runScript_e28 (M : bM) (x1 : Int32) (x2 : Int64) (r15 : Int64) (M17 : bM) (M19 : bM) (i18 : Nat) (n18 : Nat) (r23 : Int64) (hr23 : f_X6_withoutLastGroups x2 ((x1 - 1) - nI i18) = r23) (r25 : Int32) (hr25 : (f_X6_doGroup M19 ((r23 - r23 / 10000 * 10000).toInt32)).1 = r25) (M24 : bM) (hM24 : (f_X6_doGroup M19 ((r23 - r23 / 10000 * 10000).toInt32)).2 = M24) (c26 : r25 = 0) : lp_X6_runScript_73 x1 x2 (n18 + 1) i18 M19 = (true, nI i18, M24) := by subst hM24 hr25 hr23; exact Eq.trans (u1_lp_X6_runScript_73 x1 x2 n18 i18 M19) (if_pos c26)
theorem p_X6_runScript_e29 (M : bM) (x1 : Int32) (x2 : Int64) (c11 : ¬ x1 < 1) (c13 : x1 ≤ 4) (c14 : 0 ≤ (lg_cmp x2 0)) (r15 : Int64) (hr15 : f_X6_withoutLastGroups x2 x1 = r15) (c16 : (lg_cmp r15 0) = 0) (M17 : bM) (hM17 : f_X0_copyFrom M 13 3 = M17) (hfl18 : (lp_X6_runScript_73 x1 x2 x1.toNatClampNeg 0 M17).1 = true) : f_X6_runScript M x1 x2 = (0, (lp_X6_runScript_73 x1 x2 x1.toNatClampNeg 0 M17).2.1, (lp_X6_runScript_73 x1 x2 x1.toNatClampNeg 0 M17).2.2) := by subst hM17 hr15; exact Eq.trans (u_f_X6_runScript M x1 x2) (Eq.trans (if_neg c11) (Eq.trans (if_pos c13) (Eq.trans (if_pos c14) (Eq.trans (if_pos c16) (if_pos hfl18)))))
theorem p_X6_runScript_e31 (M : bM) (x1 : Int32) (x2 : Int64) (c11 : ¬ x1 < 1) (c13 : x1 ≤ 4) (c14 : 0 ≤ (lg_cmp x2 0)) (r15 : Int64) (hr15 : f_X6_withoutLastGroups x2 x1 = r15) (c16 : (lg_cmp r15 0) = 0) (M17 : bM) (hM17 : f_X0_copyFrom M 13 3 = M17) (hfl18 : (lp_X6_runScript_73 x1 x2 x1.toNatClampNeg 0 M17).1 = false) (M30 : bM) (hM30 : (lp_X6_runScript_73 x1 x2 x1.toNatClampNeg 0 M17).2.2 = M30) : f_X6_runScript M x1 x2 = (0, (-1), M30) := by subst hM30 hM17 hr15; exact Eq.trans (u_f_X6_runScript M x1 x2) (Eq.trans (if_neg c11) (Eq.trans (if_pos c13) (Eq.trans (if_pos c14) (Eq.trans (if_pos c16) (if_neg (fun h9 => Bool.noConfusion (h9.symm.trans hfl18)))))))
theorem p_X6_runScript_e32 (M : bM) (x1 : Int32) (x2 : Int64) (c11 : ¬ x1 < 1) (c13 : x1 ≤ 4) (c14 : 0 ≤ (lg_cmp x2 0)) (r15 : Int64) (hr15 : f_X6_withoutLastGroups x2 x1 = r15) (c16 : ¬ (lg_cmp r15 0) = 0) : f_X6_runScript M x1 x2 = (1, 0, M) := by subst hr15; exact Eq.trans (u_f_X6_runScript M x1 x2) (Eq.trans (if_neg c11) (Eq.trans (if_pos c13) (Eq.trans (if_pos c14) (if_neg c16))))
theorem p_X6_runScript_e33 (M : bM) (x1 : Int32) (x2 : Int64) (c11 : ¬ x1 < 1) (c13 : x1 ≤ 4) (c14 : ¬ 0 ≤ (lg_cmp x2 0)) : f_X6_runScript M x1 x2 = (1, 0, M) := by exact Eq.trans (u_f_X6_runScript M x1 x2) (Eq.trans (if_neg c11) (Eq.trans (if_pos c13) (if_neg c14)))
theorem p_X6_runScript_e34 (M : bM) (x1 : Int32) (x2 : Int64) (c11 : ¬ x1 < 1) (c13 : ¬ x1 ≤ 4) : f_X6_runScript M x1 x2 = (1, 0, M) := by exact Eq.trans (u_f_X6_runScript M x1 x2) (Eq.trans (if_neg c11) (if_neg c13))
set_option maxHeartbeats 4000000 in
set_option maxRecDepth 100000 in
theorem c_X6_runScript (l : Launch) (hst : l.stackTraces = false) (D : va_G) (E : Nat → ClassId) (o : Nat) (M : bM) (x1 : Int32) (x2 : Int64) : vx_Met l yX6_runScript wsX6_runScript (rmX 6) (bPx D E [.ref (o + 0), .int x1, .long x2] (fun H => bk D E LRM o M H) (rA o)) (bQ (aI fun r H => ∃ M1 : bM, f_X6_runScript M x1 x2 = (0, r, M1) ∧ bk D E LRM o M1 H) (rA o)) (bX D E LRM o (fun e M1 => e ≠ 0 ∧ f_X6_runScript M x1 x2 = (e, 0, M1)) (rA o)) 1 6 (rA o) := by
  refine vx_ofW (cc := cX6_runScript) (maxL := 5) (ret := (some .int)) (by decide) rfl ?_
  intro p e s m args below meth c s₁ B hml ht hv
  obtain ⟨rfl, hB, hKX, hZ⟩ := hv
  have hK := hKX.1
  have hx := B.exec
  have hb := B.bytes
  have hr := B.returns
  have hts := atoms_spec (ws := wsX6_runScript) B.pre
  have hown : s.vm.findClass RX6 = some m.cls := findClass_of_methodNamed B.named
  have hlocks := B.notSynchronized
  have hS : bS (rA o) s.heap s.heap [] := bS.rf
  have hl := lv_entry ([.ref (o + 0), .int x1, .long x2]) (n := 5) (Nat.le_of_ble_eq_true rfl)
  rw [lg_entry_eq]
  generalize (lg_sl ([.ref (o + 0), .int x1, .long x2]) ++ List.replicate (5 - (lg_sl ([.ref (o + 0), .int x1, .long x2])).length) Slot.unset).toArray = ls at hl ⊢
  have hl : lv_has ls 5 [(0, .ref (o + 0)), (1, .int x1), (2, .long x2)] := hl
  have hB : bk D E LRM o M s.heap := hB
  have hinX6 : ∀ w ∈ wsX60, w ∈ wsX6_runScript := by decide +kernel
  refine lv_iload_n hx hb dX6_runScript_0 rfl (lv_at hl 1 rfl) ?_
  refine lv_iconst (v := 1) hx hb dX6_runScript_1 (by decide) ?_
  refine lv_icmp_lt (tgt := 10) hx hb dX6_runScript_2 (by decide) (fun c11 => ?_) (fun c11 => ?_)
  · have e12 := p_X6_runScript_e12 M x1 x2 c11
    obtain ⟨sa, hsa⟩ := hKX.2.2 16 _ rfl
    exact vx_throwSW (cls := xIAE) (names := xNames) (ik := 53) (is := 283) (ic := 57) (A := rA o) hx hb hst hown fit1 fitN (hts (.classLink RX6 53 "java/lang/IllegalArgumentException") (List.mem_of_getElem? (i := 1) rfl)) (hts (.initialized "java/lang/IllegalArgumentException") (List.mem_of_getElem? (i := 2) rfl)) hsa (vx_hat (B := thrB) (fun w hw => hts w (List.mem_cons_of_mem _ (List.mem_append_right _ hw))) ng1 (bT.words hKX.2.1)) ot1 hZ.1 hZ.2 (bS_va hS) (hl.1.trans hml.symm) dX6_runScript_10 dX6_runScript_13 dX6_runScript_14 dX6_runScript_17 dX6_runScript_20 (fun x hx9 => (ht x hx9).elim) (by decide) (Nat.le_of_ble_eq_true rfl) (Nat.le_refl _) (Nat.le_refl _) hlocks (x_throw (en := 1) hB hS (bk_lt hB) ⟨by decide, e12⟩ rfl) hS.2.2 (Nat.le_refl _) (Nat.le_refl _)
  · refine lv_iload_n hx hb dX6_runScript_5 rfl (lv_at hl 1 rfl) ?_
    refine lv_iconst (v := 4) hx hb dX6_runScript_6 (by decide) ?_
    refine lv_icmp_le (tgt := 21) hx hb dX6_runScript_7 (by decide) (fun c13 => ?_) (fun c13 => ?_)
    · refine lv_lload_n hx hb dX6_runScript_21 rfl (lv_at hl 2 rfl) ?_
      refine lv_lconst (v := 0) hx hb dX6_runScript_22 (by decide) ?_
      refine W.lcmp hx hb dX6_runScript_23 ?_
      refine lv_if_ge (tgt := 38) hx hb dX6_runScript_24 (by decide) (fun c14 => ?_) (fun c14 => ?_)
      · refine lv_lload_n hx hb dX6_runScript_38 rfl (lv_at hl 2 rfl) ?_
        refine lv_iload_n hx hb dX6_runScript_39 rfl (lv_at hl 1 rfl) ?_
        refine b_pL (b_runS (As := [.long x2, .int x1]) (rest := []) ⟨hx, hb, hml, hown, hts⟩ (c_X6_withoutLastGroups l D E x2 x1) (va_cwS 2 hts gX6_runScript_X6_withoutLastGroups rfl rfl rfl (by decide +kernel) ⟨Nat.le_of_ble_eq_true rfl, Nat.le_of_ble_eq_true rfl⟩) hK trivial rfl hl rfl (Nat.le_of_ble_eq_true rfl) dX6_runScript_40 ⟨Nat.zero_le _, Nat.zero_le _⟩) hS (fun r15 hr15 locs hS => ?_)
        refine lv_lconst (v := 0) hx hb dX6_runScript_43 (by decide) ?_
        refine W.lcmp hx hb dX6_runScript_44 ?_
        refine lv_if_eq (tgt := 59) hx hb dX6_runScript_45 (by decide) (fun c16 => ?_) (fun c16 => ?_)
        · refine lv_aload_n hx hb dX6_runScript_59 rfl (lv_at hl 0 rfl) ?_
          refine b_get (D := D) (E := E) (L := LRM) (o := o) (M := M) (v := .ref (o + 13)) (C := RX6) (T := TX6) (N := 7) hx hb hts hinX6 hown hK.1 hB 0 lay_0 rfl 2 (by decide) (hts (.fieldLink RX6 23 "RiverMeeting" "trial" "LRiverMeeting$Game;") (List.mem_of_getElem? (i := 3) rfl)) (fun _ h9 => h9) rfl dX6_runScript_60 ?_
          refine lv_aload_n hx hb dX6_runScript_63 rfl (lv_at hl 0 rfl) ?_
          refine b_get (D := D) (E := E) (L := LRM) (o := o) (M := M) (v := .ref (o + 3)) (C := RX6) (T := TX6) (N := 7) hx hb hts hinX6 hown hK.1 hB 0 lay_0 rfl 1 (by decide) (hts (.fieldLink RX6 19 "RiverMeeting" "present" "LRiverMeeting$Game;") (List.mem_of_getElem? (i := 4) rfl)) (fun _ h9 => h9) rfl dX6_runScript_64 ?_
          refine b_mV (b_runV (As := [.ref (o + 3)]) (rest := []) ⟨hx, hb, hml, hown, hts⟩ (c_X0_copyFrom l D E o M 13 3 isG_13 isG_3) (cwV 1 hts gX6_runScript_X0_copyFrom rfl rfl rfl (by decide +kernel) ⟨Nat.le_of_ble_eq_true rfl, Nat.le_of_ble_eq_true rfl⟩) hK (bk_recv hK.1 hB isG_13.1 rfl) hB rfl hl rfl (Nat.le_of_ble_eq_true rfl) dX6_runScript_67 ⟨Nat.zero_le _, Nat.zero_le _⟩) hS (fun q h => h) (fun M17 hM17 H locs hB _ hS => ?_)
          refine lv_iconst (v := 0) hx hb dX6_runScript_70 (by decide) ?_
          refine lv_istore (lv' := [(4, .int 0), (0, .ref (o + 0)), (1, .int x1), (2, .long x2)]) hx hb dX6_runScript_71 hl (by decide) rfl (fun ls hl => ?_)
          have lp18 : ∀ (n18 i18 : Nat) (M19 : bM), i18 + n18 = x1.toNatClampNeg → ∀ (H : Heap) (locs : List Loc), bk D E LRM o M19 H → bS (rA o) s.heap H locs → ∀ ls : Array Slot, lv_has ls 5 [(4, .int (nI i18)), (0, .ref (o + 0)), (1, .int x1), (2, .long x2)] → (∀ H : Heap, (lp_X6_runScript_73 x1 x2 n18 i18 M19).1 = true → bk D E LRM o ((lp_X6_runScript_73 x1 x2 n18 i18 M19).2.2) H → (aI fun r H => ∃ M1 : bM, f_X6_runScript M x1 x2 = (0, r, M1) ∧ bk D E LRM o M1 H) (some (.int (lp_X6_runScript_73 x1 x2 n18 i18 M19).2.1)) H) → (∀ (H : Heap) (locs : List Loc), (lp_X6_runScript_73 x1 x2 n18 i18 M19).1 = false → bk D E LRM o ((lp_X6_runScript_73 x1 x2 n18 i18 M19).2.2) H → bS (rA o) s.heap H locs → ∀ ls : Array Slot, lv_has ls 5 [(0, .ref (o + 0)), (1, .int x1), (2, .long x2)] → W p l e (headSpec wsX6_runScript (rmX 6)).room s m ([.ref (o + 0), .int x1, .long x2] : List Value).toArray below meth c H locs 0 0 (vx_MQ below (bQ (aI fun r H => ∃ M1 : bM, f_X6_runScript M x1 x2 = (0, r, M1) ∧ bk D E LRM o M1 H) (rA o)) (bX D E LRM o (fun e M1 => e ≠ 0 ∧ f_X6_runScript M x1 x2 = (e, 0, M1)) (rA o)) ([.ref (o + 0), .int x1, .long x2] : List Value).toArray s 1 6 (rA o)) (F0 m 110 ls [])) → W p l e (headSpec wsX6_runScript (rmX 6)).room s m ([.ref (o + 0), .int x1, .long x2] : List Value).toArray below meth c H locs 0 0 (vx_MQ below (bQ (aI fun r H => ∃ M1 : bM, f_X6_runScript M x1 x2 = (0, r, M1) ∧ bk D E LRM o M1 H) (rA o)) (bX D E LRM o (fun e M1 => e ≠ 0 ∧ f_X6_runScript M x1 x2 = (e, 0, M1)) (rA o)) ([.ref (o + 0), .int x1, .long x2] : List Value).toArray s 1 6 (rA o)) (F0 m 73 ls []) := by
            intro n18
            induction n18 with
            | zero =>
              intro i18 M19 hi18 H locs hB hS ls hl hret18 hexit18
              have hz18 : i18 = x1.toNatClampNeg := by omega
              refine lv_iload hx hb dX6_runScript_73 (lv_at hl 0 rfl) ?_
              refine lv_iload_n hx hb dX6_runScript_75 rfl (lv_at hl 2 rfl) ?_
              refine lv_icmp_ge (tgt := 110) hx hb dX6_runScript_76 (by decide) (fun c20 => ?_) (fun c20 => absurd (by rw [hz18]; exact b_le_N _) c20)
              have e21 := p_X6_runScript_e21 M x1 x2 r15 M17 M19 i18 
              rw [e21] at hexit18
              exact hexit18 _ _ rfl hB hS ls (lv_sub hl [1, 2, 3] rfl)
            | succ n18 ih18 =>
              intro i18 M19 hi18 H locs hB hS ls hl hret18 hexit18
              refine lv_iload hx hb dX6_runScript_73 (lv_at hl 0 rfl) ?_
              refine lv_iload_n hx hb dX6_runScript_75 rfl (lv_at hl 2 rfl) ?_
              refine lv_icmp_ge (tgt := 110) hx hb dX6_runScript_76 (by decide) (fun c22 => absurd c22 (b_nle_N (i := i18) (by omega))) (fun c22 => ?_)
              refine lv_aload_n hx hb dX6_runScript_79 rfl (lv_at hl 1 rfl) ?_
              refine lv_lload_n hx hb dX6_runScript_80 rfl (lv_at hl 3 rfl) ?_
              refine lv_iload_n hx hb dX6_runScript_81 rfl (lv_at hl 2 rfl) ?_
              refine lv_iconst (v := 1) hx hb dX6_runScript_82 (by decide) ?_
              refine lv_isub hx hb dX6_runScript_83 ?_
              refine lv_iload hx hb dX6_runScript_84 (lv_at hl 0 rfl) ?_
              refine lv_isub hx hb dX6_runScript_86 ?_
              refine b_pL (b_runS (As := [.long x2, .int ((x1 - 1) - nI i18)]) (rest := [.ref (o + 0)]) ⟨hx, hb, hml, hown, hts⟩ (c_X6_withoutLastGroups l D E x2 ((x1 - 1) - nI i18)) (va_cwS 2 hts gX6_runScript_X6_withoutLastGroups rfl rfl rfl (by decide +kernel) ⟨Nat.le_of_ble_eq_true rfl, Nat.le_of_ble_eq_true rfl⟩) hK trivial rfl hl rfl (Nat.le_of_ble_eq_true rfl) dX6_runScript_87 ⟨Nat.zero_le _, Nat.zero_le _⟩) hS (fun r23 hr23 locs hS => ?_)
              refine lv_ldc2 (v := 10000) hx hb hown (hts (.constantLong RX6 296 (10000)) (List.mem_of_getElem? (i := 5) rfl)) dX6_runScript_90 ?_
              refine lv_lrem hx hb dX6_runScript_93 (by decide) ?_
              refine lv_l2i hx hb dX6_runScript_94 rfl ?_
              refine b_mI (b_runV (As := [.int ((r23 - r23 / 10000 * 10000).toInt32)]) (rest := []) ⟨hx, hb, hml, hown, hts⟩ (c_X6_doGroup l D E o M19 ((r23 - r23 / 10000 * 10000).toInt32)) (cwV 1 hts gX6_runScript_X6_doGroup rfl rfl rfl (by decide +kernel) ⟨Nat.le_of_ble_eq_true rfl, Nat.le_of_ble_eq_true rfl⟩) hK (bk_recv hK.1 hB lay_0 rfl) hB rfl hl rfl (Nat.le_of_ble_eq_true rfl) dX6_runScript_95 ⟨Nat.zero_le _, Nat.zero_le _⟩) hS (fun q h => h) (fun r25 M24 hM24 H locs hB _ hS => ?_)
              obtain ⟨hr25, hM24⟩ := hM24
              refine lv_if_ne (tgt := 104) hx hb dX6_runScript_98 (by decide) (fun c26 => ?_) (fun c26 => ?_)
              · refine lv_iinc (v := nI (i18 + 1)) (lv' := [(4, .int (nI (i18 + 1))), (0, .ref (o + 0)), (1, .int x1), (2, .long x2)]) hx hb dX6_runScript_104 hl (k := 0) rfl (nI_1 i18) (by decide) rfl (fun ls hl => ?_)
                refine lv_goto (tgt := 73) hx hb dX6_runScript_107 (by decide) ?_
                have e27 := p_X6_runScript_e27 M x1 x2 r15 M17 M19 i18 n18 r23 hr23.symm r25 hr25.symm M24 hM24.symm c26
                rw [e27] at hexit18 hret18
                exact ih18 (i18 + 1) M24 (by omega) _ _ hB hS ls (lv_sub hl [0, 1, 2, 3] rfl) hret18 hexit18
              · refine lv_iload hx hb dX6_runScript_101 (lv_at hl 0 rfl) ?_
                have e28 := p_X6_runScript_e28 M x1 x2 r15 M17 M19 i18 n18 r23 hr23.symm r25 hr25.symm M24 hM24.symm c26
                rw [e28] at hret18
                exact x_iret hx hb hr hlocks hS (hret18 _ rfl hB) dX6_runScript_103
          refine lp18 x1.toNatClampNeg 0 M17 (by omega) _ _ hB hS ls (lv_sub hl [0, 1, 2, 3] rfl) (fun H hfl18 hB => ?_) ?_
          · have e29 := p_X6_runScript_e29 M x1 x2 c11 c13 c14 r15 hr15.symm c16 M17 hM17.symm hfl18
            exact ⟨_, rfl, _, e29, hB⟩
          intro H locs hfl18 hB hS ls hl
          obtain ⟨M30, hM30⟩ : ∃ y : bM, y = (lp_X6_runScript_73 x1 x2 x1.toNatClampNeg 0 M17).2.2 := ⟨_, rfl⟩
          rw [← hM30] at hB
          have hl : lv_has ls 5 [(0, .ref (o + 0)), (1, .int x1), (2, .long x2)] := hl
          refine lv_iconst (v := (-1)) hx hb dX6_runScript_110 (by decide) ?_
          have e31 := p_X6_runScript_e31 M x1 x2 c11 c13 c14 r15 hr15.symm c16 M17 hM17.symm hfl18 M30 hM30.symm
          exact x_iret hx hb hr hlocks hS ⟨_, rfl, _, e31, hB⟩ dX6_runScript_111
        · have e32 := p_X6_runScript_e32 M x1 x2 c11 c13 c14 r15 hr15.symm c16
          obtain ⟨sa, hsa⟩ := hKX.2.2 18 _ rfl
          exact vx_throwSW (cls := xIAE) (names := xNames) (ik := 53) (is := 291) (ic := 57) (A := rA o) hx hb hst hown fit1 fitN (hts (.classLink RX6 53 "java/lang/IllegalArgumentException") (List.mem_of_getElem? (i := 1) rfl)) (hts (.initialized "java/lang/IllegalArgumentException") (List.mem_of_getElem? (i := 2) rfl)) hsa (vx_hat (B := thrB) (fun w hw => hts w (List.mem_cons_of_mem _ (List.mem_append_right _ hw))) ng1 (bT.words hKX.2.1)) ot1 hZ.1 hZ.2 (bS_va hS) (hl.1.trans hml.symm) dX6_runScript_48 dX6_runScript_51 dX6_runScript_52 dX6_runScript_55 dX6_runScript_58 (fun x hx9 => (ht x hx9).elim) (by decide) (Nat.le_of_ble_eq_true rfl) (Nat.le_refl _) (Nat.le_refl _) hlocks (x_throw (en := 1) hB hS (bk_lt hB) ⟨by decide, e32⟩ rfl) hS.2.2 (Nat.le_refl _) (Nat.le_refl _)
      · have e33 := p_X6_runScript_e33 M x1 x2 c11 c13 c14
        obtain ⟨sa, hsa⟩ := hKX.2.2 17 _ rfl
        exact vx_throwSW (cls := xIAE) (names := xNames) (ik := 53) (is := 285) (ic := 57) (A := rA o) hx hb hst hown fit1 fitN (hts (.classLink RX6 53 "java/lang/IllegalArgumentException") (List.mem_of_getElem? (i := 1) rfl)) (hts (.initialized "java/lang/IllegalArgumentException") (List.mem_of_getElem? (i := 2) rfl)) hsa (vx_hat (B := thrB) (fun w hw => hts w (List.mem_cons_of_mem _ (List.mem_append_right _ hw))) ng1 (bT.words hKX.2.1)) ot1 hZ.1 hZ.2 (bS_va hS) (hl.1.trans hml.symm) dX6_runScript_27 dX6_runScript_30 dX6_runScript_31 dX6_runScript_34 dX6_runScript_37 (fun x hx9 => (ht x hx9).elim) (by decide) (Nat.le_of_ble_eq_true rfl) (Nat.le_refl _) (Nat.le_refl _) hlocks (x_throw (en := 1) hB hS (bk_lt hB) ⟨by decide, e33⟩ rfl) hS.2.2 (Nat.le_refl _) (Nat.le_refl _)
    · have e34 := p_X6_runScript_e34 M x1 x2 c11 c13
      obtain ⟨sa, hsa⟩ := hKX.2.2 16 _ rfl
      exact vx_throwSW (cls := xIAE) (names := xNames) (ik := 53) (is := 283) (ic := 57) (A := rA o) hx hb hst hown fit1 fitN (hts (.classLink RX6 53 "java/lang/IllegalArgumentException") (List.mem_of_getElem? (i := 1) rfl)) (hts (.initialized "java/lang/IllegalArgumentException") (List.mem_of_getElem? (i := 2) rfl)) hsa (vx_hat (B := thrB) (fun w hw => hts w (List.mem_cons_of_mem _ (List.mem_append_right _ hw))) ng1 (bT.words hKX.2.1)) ot1 hZ.1 hZ.2 (bS_va hS) (hl.1.trans hml.symm) dX6_runScript_10 dX6_runScript_13 dX6_runScript_14 dX6_runScript_17 dX6_runScript_20 (fun x hx9 => (ht x hx9).elim) (by decide) (Nat.le_of_ble_eq_true rfl) (Nat.le_refl _) (Nat.le_refl _) hlocks (x_throw (en := 1) hB hS (bk_lt hB) ⟨by decide, e34⟩ rfl) hS.2.2 (Nat.le_refl _) (Nat.le_refl _)
def lp_X6_simulate_52  : Nat → Nat → Int64 → Int32 → bM → (Int64 × Int32 × bM)
  | 0, i16, x17, x18, M19 => (x17, x18, M19)
  | n16 + 1, i16, x17, x18, M19 => (let r23 : Int64 := f_X6_nextNumber x17; (let r24 : Int32 := f_X6_drawnFrom r23; (let M25 : bM := f_X6_simulateTurn M19 r24; (if (M25 13 8) = (-1) then lp_X6_simulate_52 n16 (i16 + 1) r23 x18 M25 else (let x28 : Int32 := x18 + 1; lp_X6_simulate_52 n16 (i16 + 1) r23 x28 M25)))))
theorem u0_lp_X6_simulate_52  (i16 : Nat) (x17 : Int64) (x18 : Int32) (M19 : bM) : lp_X6_simulate_52 0 i16 x17 x18 M19 = (x17, x18, M19) := rfl
theorem u1_lp_X6_simulate_52  (n16 i16 : Nat) (x17 : Int64) (x18 : Int32) (M19 : bM) : lp_X6_simulate_52 (n16 + 1) i16 x17 x18 M19 = (let r23 : Int64 := f_X6_nextNumber x17; (let r24 : Int32 := f_X6_drawnFrom r23; (let M25 : bM := f_X6_simulateTurn M19 r24; (if (M25 13 8) = (-1) then lp_X6_simulate_52 n16 (i16 + 1) r23 x18 M25 else (let x28 : Int32 := x18 + 1; lp_X6_simulate_52 n16 (i16 + 1) r23 x28 M25))))) := rfl
def f_X6_simulate (M : bM) (x1 : Int64) (x2 : Int32) : Nat × Int32 × bM := (if x2 < 1 then (1, 0, M) else (if x2 ≤ 200 then (let M14 : bM := f_X0_copyFrom M 13 3; (let x15 : Int32 := (M14 13 5); (let x30 : Int64 := (lp_X6_simulate_52 x2.toNatClampNeg 0 x1 0 M14).1; (let x31 : Int32 := (lp_X6_simulate_52 x2.toNatClampNeg 0 x1 0 M14).2.1; (let M32 : bM := (lp_X6_simulate_52 x2.toNatClampNeg 0 x1 0 M14).2.2; (let x33 : Int32 := ((M32 14 3) + (M32 18 3)); (0, ((((10000 : Int32) * ((M32 13 5) - x15)) + ((100 : Int32) * x31)) + x33), M32))))))) else (1, 0, M)))
theorem u_f_X6_simulate (M : bM) (x1 : Int64) (x2 : Int32) : f_X6_simulate M x1 x2 = (if x2 < 1 then (1, 0, M) else (if x2 ≤ 200 then (let M14 : bM := f_X0_copyFrom M 13 3; (let x15 : Int32 := (M14 13 5); (let x30 : Int64 := (lp_X6_simulate_52 x2.toNatClampNeg 0 x1 0 M14).1; (let x31 : Int32 := (lp_X6_simulate_52 x2.toNatClampNeg 0 x1 0 M14).2.1; (let M32 : bM := (lp_X6_simulate_52 x2.toNatClampNeg 0 x1 0 M14).2.2; (let x33 : Int32 := ((M32 14 3) + (M32 18 3)); (0, ((((10000 : Int32) * ((M32 13 5) - x15)) + ((100 : Int32) * x31)) + x33), M32))))))) else (1, 0, M))) := rfl
theorem p_X6_simulate_e12 (M : bM) (x1 : Int64) (x2 : Int32) (c11 : x2 < 1) : f_X6_simulate M x1 x2 = (1, 0, M) := by exact Eq.trans (u_f_X6_simulate M x1 x2) (if_pos c11)
theorem p_X6_simulate_e21 (M : bM) (x1 : Int64) (x2 : Int32) (M14 : bM) (x15 : Int32) (x17 : Int64) (x18 : Int32) (M19 : bM) (i16 : Nat)  : lp_X6_simulate_52 0 i16 x17 x18 M19 = (x17, x18, M19) := by exact u0_lp_X6_simulate_52 i16 x17 x18 M19
theorem p_X6_simulate_e27 (M : bM) (x1 : Int64) (x2 : Int32) (M14 : bM) (x15 : Int32) (x17 : Int64) (x18 : Int32) (M19 : bM) (i16 : Nat) (n16 : Nat) (r23 : Int64) (hr23 : f_X6_nextNumber x17 = r23) (r24 : Int32) (hr24 : f_X6_drawnFrom r23 = r24) (M25 : bM) (hM25 : f_X6_simulateTurn M19 r24 = M25) (c26 : (M25 13 8) = (-1)) : lp_X6_simulate_52 (n16 + 1) i16 x17 x18 M19 = lp_X6_simulate_52 n16 (i16 + 1) r23 x18 M25 := by subst hM25 hr24 hr23; exact Eq.trans (u1_lp_X6_simulate_52 n16 i16 x17 x18 M19) (if_pos c26)
theorem p_X6_simulate_e29 (M : bM) (x1 : Int64) (x2 : Int32) (M14 : bM) (x15 : Int32) (x17 : Int64) (x18 : Int32) (M19 : bM) (i16 : Nat) (n16 : Nat) (r23 : Int64) (hr23 : f_X6_nextNumber x17 = r23) (r24 : Int32) (hr24 : f_X6_drawnFrom r23 = r24) (M25 : bM) (hM25 : f_X6_simulateTurn M19 r24 = M25) (c26 : ¬ (M25 13 8) = (-1)) (x28 : Int32) (hx28 : x18 + 1 = x28) : lp_X6_simulate_52 (n16 + 1) i16 x17 x18 M19 = lp_X6_simulate_52 n16 (i16 + 1) r23 x28 M25 := by subst hx28 hM25 hr24 hr23; exact Eq.trans (u1_lp_X6_simulate_52 n16 i16 x17 x18 M19) (if_neg c26)
theorem p_X6_simulate_e34 (M : bM) (x1 : Int64) (x2 : Int32) (c11 : ¬ x2 < 1) (c13 : x2 ≤ 200) (M14 : bM) (hM14 : f_X0_copyFrom M 13 3 = M14) (x15 : Int32) (hx15 : (M14 13 5) = x15) (x30 : Int64) (hx30 : (lp_X6_simulate_52 x2.toNatClampNeg 0 x1 0 M14).1 = x30) (x31 : Int32) (hx31 : (lp_X6_simulate_52 x2.toNatClampNeg 0 x1 0 M14).2.1 = x31) (M32 : bM) (hM32 : (lp_X6_simulate_52 x2.toNatClampNeg 0 x1 0 M14).2.2 = M32) (x33 : Int32) (hx33 : ((M32 14 3) + (M32 18 3)) = x33) : f_X6_simulate M x1 x2 = (0, ((((10000 : Int32) * ((M32 13 5) - x15)) + ((100 : Int32) * x31)) + x33), M32) := by subst hx33 hM32 hx31 hx30 hx15 hM14; exact Eq.trans (u_f_X6_simulate M x1 x2) (Eq.trans (if_neg c11) (if_pos c13))
theorem p_X6_simulate_e35 (M : bM) (x1 : Int64) (x2 : Int32) (c11 : ¬ x2 < 1) (c13 : ¬ x2 ≤ 200) : f_X6_simulate M x1 x2 = (1, 0, M) := by exact Eq.trans (u_f_X6_simulate M x1 x2) (Eq.trans (if_neg c11) (if_neg c13))
set_option maxHeartbeats 4000000 in
set_option maxRecDepth 100000 in
theorem c_X6_simulate (l : Launch) (hst : l.stackTraces = false) (D : va_G) (E : Nat → ClassId) (o : Nat) (M : bM) (x1 : Int64) (x2 : Int32) : vx_Met l yX6_simulate wsX6_simulate (rmX 6) (bPx D E [.ref (o + 0), .long x1, .int x2] (fun H => bk D E LRM o M H) (rA o)) (bQ (aI fun r H => ∃ M1 : bM, f_X6_simulate M x1 x2 = (0, r, M1) ∧ bk D E LRM o M1 H) (rA o)) (bX D E LRM o (fun e M1 => e ≠ 0 ∧ f_X6_simulate M x1 x2 = (e, 0, M1)) (rA o)) 1 6 (rA o) := by
  refine vx_ofW (cc := cX6_simulate) (maxL := 9) (ret := (some .int)) (by decide) rfl ?_
  intro p e s m args below meth c s₁ B hml ht hv
  obtain ⟨rfl, hB, hKX, hZ⟩ := hv
  have hK := hKX.1
  have hx := B.exec
  have hb := B.bytes
  have hr := B.returns
  have hts := atoms_spec (ws := wsX6_simulate) B.pre
  have hown : s.vm.findClass RX6 = some m.cls := findClass_of_methodNamed B.named
  have hlocks := B.notSynchronized
  have hS : bS (rA o) s.heap s.heap [] := bS.rf
  have hl := lv_entry ([.ref (o + 0), .long x1, .int x2]) (n := 9) (Nat.le_of_ble_eq_true rfl)
  rw [lg_entry_eq]
  generalize (lg_sl ([.ref (o + 0), .long x1, .int x2]) ++ List.replicate (9 - (lg_sl ([.ref (o + 0), .long x1, .int x2])).length) Slot.unset).toArray = ls at hl ⊢
  have hl : lv_has ls 9 [(0, .ref (o + 0)), (1, .long x1), (3, .int x2)] := hl
  have hB : bk D E LRM o M s.heap := hB
  have hinX0 : ∀ w ∈ wsX00, w ∈ wsX6_simulate := by decide +kernel
  have hinX2 : ∀ w ∈ wsX20, w ∈ wsX6_simulate := by decide +kernel
  have hinX6 : ∀ w ∈ wsX60, w ∈ wsX6_simulate := by decide +kernel
  refine lv_iload_n hx hb dX6_simulate_0 rfl (lv_at hl 2 rfl) ?_
  refine lv_iconst (v := 1) hx hb dX6_simulate_1 (by decide) ?_
  refine lv_icmp_lt (tgt := 12) hx hb dX6_simulate_2 (by decide) (fun c11 => ?_) (fun c11 => ?_)
  · have e12 := p_X6_simulate_e12 M x1 x2 c11
    obtain ⟨sa, hsa⟩ := hKX.2.2 19 _ rfl
    exact vx_throwSW (cls := xIAE) (names := xNames) (ik := 53) (is := 301) (ic := 57) (A := rA o) hx hb hst hown fit1 fitN (hts (.classLink RX6 53 "java/lang/IllegalArgumentException") (List.mem_of_getElem? (i := 1) rfl)) (hts (.initialized "java/lang/IllegalArgumentException") (List.mem_of_getElem? (i := 2) rfl)) hsa (vx_hat (B := thrB) (fun w hw => hts w (List.mem_cons_of_mem _ (List.mem_append_right _ hw))) ng1 (bT.words hKX.2.1)) ot1 hZ.1 hZ.2 (bS_va hS) (hl.1.trans hml.symm) dX6_simulate_12 dX6_simulate_15 dX6_simulate_16 dX6_simulate_19 dX6_simulate_22 (fun x hx9 => (ht x hx9).elim) (by decide) (Nat.le_of_ble_eq_true rfl) (Nat.le_refl _) (Nat.le_refl _) hlocks (x_throw (en := 1) hB hS (bk_lt hB) ⟨by decide, e12⟩ rfl) hS.2.2 (Nat.le_refl _) (Nat.le_refl _)
  · refine lv_iload_n hx hb dX6_simulate_5 rfl (lv_at hl 2 rfl) ?_
    refine lv_sipush (v := 200) hx hb dX6_simulate_6 (by decide) ?_
    refine lv_icmp_le (tgt := 23) hx hb dX6_simulate_9 (by decide) (fun c13 => ?_) (fun c13 => ?_)
    · refine lv_aload_n hx hb dX6_simulate_23 rfl (lv_at hl 0 rfl) ?_
      refine b_get (D := D) (E := E) (L := LRM) (o := o) (M := M) (v := .ref (o + 13)) (C := RX6) (T := TX6) (N := 7) hx hb hts hinX6 hown hK.1 hB 0 lay_0 rfl 2 (by decide) (hts (.fieldLink RX6 23 "RiverMeeting" "trial" "LRiverMeeting$Game;") (List.mem_of_getElem? (i := 3) rfl)) (fun _ h9 => h9) rfl dX6_simulate_24 ?_
      refine lv_aload_n hx hb dX6_simulate_27 rfl (lv_at hl 0 rfl) ?_
      refine b_get (D := D) (E := E) (L := LRM) (o := o) (M := M) (v := .ref (o + 3)) (C := RX6) (T := TX6) (N := 7) hx hb hts hinX6 hown hK.1 hB 0 lay_0 rfl 1 (by decide) (hts (.fieldLink RX6 19 "RiverMeeting" "present" "LRiverMeeting$Game;") (List.mem_of_getElem? (i := 4) rfl)) (fun _ h9 => h9) rfl dX6_simulate_28 ?_
      refine b_mV (b_runV (As := [.ref (o + 3)]) (rest := []) ⟨hx, hb, hml, hown, hts⟩ (c_X0_copyFrom l D E o M 13 3 isG_13 isG_3) (cwV 1 hts gX6_simulate_X0_copyFrom rfl rfl rfl (by decide +kernel) ⟨Nat.le_of_ble_eq_true rfl, Nat.le_of_ble_eq_true rfl⟩) hK (bk_recv hK.1 hB isG_13.1 rfl) hB rfl hl rfl (Nat.le_of_ble_eq_true rfl) dX6_simulate_31 ⟨Nat.zero_le _, Nat.zero_le _⟩) hS (fun q h => h) (fun M14 hM14 H locs hB _ hS => ?_)
      refine lv_aload_n hx hb dX6_simulate_34 rfl (lv_at hl 0 rfl) ?_
      refine b_get (D := D) (E := E) (L := LRM) (o := o) (M := M14) (v := .ref (o + 13)) (C := RX6) (T := TX6) (N := 7) hx hb hts hinX6 hown hK.1 hB 0 lay_0 rfl 2 (by decide) (hts (.fieldLink RX6 23 "RiverMeeting" "trial" "LRiverMeeting$Game;") (List.mem_of_getElem? (i := 3) rfl)) (fun _ h9 => h9) rfl dX6_simulate_35 ?_
      refine b_get (D := D) (E := E) (L := LRM) (o := o) (M := M14) (v := .int (M14 13 5)) (C := RX0) (T := TX0) (N := 12) hx hb hts hinX0 hown hK.1 hB 13 isG_13.1 rfl 5 (by decide) (hts (.fieldLink RX6 104 "RiverMeeting$Game" "games" "I") (List.mem_of_getElem? (i := 5) rfl)) (fun _ h9 => h9) rfl dX6_simulate_38 ?_
      refine lv_topi (fun x15 hx15 => ?_)
      refine lv_istore (lv' := [(4, .int x15), (0, .ref (o + 0)), (1, .long x1), (3, .int x2)]) hx hb dX6_simulate_41 hl (by decide) rfl (fun ls hl => ?_)
      refine lv_iconst (v := 0) hx hb dX6_simulate_43 (by decide) ?_
      refine lv_istore (lv' := [(5, .int 0), (4, .int x15), (0, .ref (o + 0)), (1, .long x1), (3, .int x2)]) hx hb dX6_simulate_44 hl (by decide) rfl (fun ls hl => ?_)
      refine lv_lload_n hx hb dX6_simulate_46 rfl (lv_at hl 3 rfl) ?_
      refine lv_lstore (lv' := [(6, .long x1), (5, .int 0), (4, .int x15), (0, .ref (o + 0)), (1, .long x1), (3, .int x2)]) hx hb dX6_simulate_47 hl (by decide) rfl (fun ls hl => ?_)
      refine lv_iconst (v := 0) hx hb dX6_simulate_49 (by decide) ?_
      refine lv_istore (lv' := [(8, .int 0), (6, .long x1), (5, .int 0), (4, .int x15), (0, .ref (o + 0)), (1, .long x1), (3, .int x2)]) hx hb dX6_simulate_50 hl (by decide) rfl (fun ls hl => ?_)
      have lp16 : ∀ (n16 i16 : Nat) (x17 : Int64) (x18 : Int32) (M19 : bM), i16 + n16 = x2.toNatClampNeg → ∀ (H : Heap) (locs : List Loc), bk D E LRM o M19 H → bS (rA o) s.heap H locs → ∀ ls : Array Slot, lv_has ls 9 [(8, .int (nI i16)), (6, .long x17), (5, .int x18), (4, .int x15), (0, .ref (o + 0)), (1, .long x1), (3, .int x2)] → (∀ (H : Heap) (locs : List Loc), bk D E LRM o ((lp_X6_simulate_52 n16 i16 x17 x18 M19).2.2) H → bS (rA o) s.heap H locs → ∀ ls : Array Slot, lv_has ls 9 [(6, .long ((lp_X6_simulate_52 n16 i16 x17 x18 M19).1)), (5, .int ((lp_X6_simulate_52 n16 i16 x17 x18 M19).2.1)), (4, .int x15), (0, .ref (o + 0)), (1, .long x1), (3, .int x2)] → W p l e (headSpec wsX6_simulate (rmX 6)).room s m ([.ref (o + 0), .long x1, .int x2] : List Value).toArray below meth c H locs 0 0 (vx_MQ below (bQ (aI fun r H => ∃ M1 : bM, f_X6_simulate M x1 x2 = (0, r, M1) ∧ bk D E LRM o M1 H) (rA o)) (bX D E LRM o (fun e M1 => e ≠ 0 ∧ f_X6_simulate M x1 x2 = (e, 0, M1)) (rA o)) ([.ref (o + 0), .long x1, .int x2] : List Value).toArray s 1 6 (rA o)) (F0 m 94 ls [])) → W p l e (headSpec wsX6_simulate (rmX 6)).room s m ([.ref (o + 0), .long x1, .int x2] : List Value).toArray below meth c H locs 0 0 (vx_MQ below (bQ (aI fun r H => ∃ M1 : bM, f_X6_simulate M x1 x2 = (0, r, M1) ∧ bk D E LRM o M1 H) (rA o)) (bX D E LRM o (fun e M1 => e ≠ 0 ∧ f_X6_simulate M x1 x2 = (e, 0, M1)) (rA o)) ([.ref (o + 0), .long x1, .int x2] : List Value).toArray s 1 6 (rA o)) (F0 m 52 ls []) := by
        intro n16
        induction n16 with
        | zero =>
          intro i16 x17 x18 M19 hi16 H locs hB hS ls hl hexit16
          have hz16 : i16 = x2.toNatClampNeg := by omega
          refine lv_iload hx hb dX6_simulate_52 (lv_at hl 0 rfl) ?_
          refine lv_iload_n hx hb dX6_simulate_54 rfl (lv_at hl 6 rfl) ?_
          refine lv_icmp_ge (tgt := 94) hx hb dX6_simulate_55 (by decide) (fun c20 => ?_) (fun c20 => absurd (by rw [hz16]; exact b_le_N _) c20)
          have e21 := p_X6_simulate_e21 M x1 x2 M14 x15 x17 x18 M19 i16 
          rw [e21] at hexit16
          exact hexit16 _ _  hB hS ls (lv_sub hl [1, 2, 3, 4, 5, 6] rfl)
        | succ n16 ih16 =>
          intro i16 x17 x18 M19 hi16 H locs hB hS ls hl hexit16
          refine lv_iload hx hb dX6_simulate_52 (lv_at hl 0 rfl) ?_
          refine lv_iload_n hx hb dX6_simulate_54 rfl (lv_at hl 6 rfl) ?_
          refine lv_icmp_ge (tgt := 94) hx hb dX6_simulate_55 (by decide) (fun c22 => absurd c22 (b_nle_N (i := i16) (by omega))) (fun c22 => ?_)
          refine lv_lload hx hb dX6_simulate_58 (lv_at hl 1 rfl) ?_
          refine b_pL (b_runS (As := [.long x17]) (rest := []) ⟨hx, hb, hml, hown, hts⟩ (c_X6_nextNumber l D E x17) (va_cwS 1 hts gX6_simulate_X6_nextNumber rfl rfl rfl (by decide +kernel) ⟨Nat.le_of_ble_eq_true rfl, Nat.le_of_ble_eq_true rfl⟩) hK trivial rfl hl rfl (Nat.le_of_ble_eq_true rfl) dX6_simulate_60 ⟨Nat.zero_le _, Nat.zero_le _⟩) hS (fun r23 hr23 locs hS => ?_)
          refine lv_lstore (lv' := [(6, .long r23), (8, .int (nI i16)), (5, .int x18), (4, .int x15), (0, .ref (o + 0)), (1, .long x1), (3, .int x2)]) hx hb dX6_simulate_63 hl (by decide) rfl (fun ls hl => ?_)
          refine lv_aload_n hx hb dX6_simulate_65 rfl (lv_at hl 4 rfl) ?_
          refine lv_lload hx hb dX6_simulate_66 (lv_at hl 0 rfl) ?_
          refine b_pI (b_runS (As := [.long r23]) (rest := [.ref (o + 0)]) ⟨hx, hb, hml, hown, hts⟩ (c_X6_drawnFrom l D E r23) (va_cwS 1 hts gX6_simulate_X6_drawnFrom rfl rfl rfl (by decide +kernel) ⟨Nat.le_of_ble_eq_true rfl, Nat.le_of_ble_eq_true rfl⟩) hK trivial rfl hl rfl (Nat.le_of_ble_eq_true rfl) dX6_simulate_68 ⟨Nat.zero_le _, Nat.zero_le _⟩) hS (fun r24 hr24 locs hS => ?_)
          refine b_mV (b_runV (As := [.int r24]) (rest := []) ⟨hx, hb, hml, hown, hts⟩ (c_X6_simulateTurn l D E o M19 r24) (cwV 1 hts gX6_simulate_X6_simulateTurn rfl rfl rfl (by decide +kernel) ⟨Nat.le_of_ble_eq_true rfl, Nat.le_of_ble_eq_true rfl⟩) hK (bk_recv hK.1 hB lay_0 rfl) hB rfl hl rfl (Nat.le_of_ble_eq_true rfl) dX6_simulate_71 ⟨Nat.zero_le _, Nat.zero_le _⟩) hS (fun q h => h) (fun M25 hM25 H locs hB _ hS => ?_)
          refine lv_aload_n hx hb dX6_simulate_74 rfl (lv_at hl 4 rfl) ?_
          refine b_get (D := D) (E := E) (L := LRM) (o := o) (M := M25) (v := .ref (o + 13)) (C := RX6) (T := TX6) (N := 7) hx hb hts hinX6 hown hK.1 hB 0 lay_0 rfl 2 (by decide) (hts (.fieldLink RX6 23 "RiverMeeting" "trial" "LRiverMeeting$Game;") (List.mem_of_getElem? (i := 3) rfl)) (fun _ h9 => h9) rfl dX6_simulate_75 ?_
          refine b_get (D := D) (E := E) (L := LRM) (o := o) (M := M25) (v := .int (M25 13 8)) (C := RX0) (T := TX0) (N := 12) hx hb hts hinX0 hown hK.1 hB 13 isG_13.1 rfl 8 (by decide) (hts (.fieldLink RX6 122 "RiverMeeting$Game" "meeting" "I") (List.mem_of_getElem? (i := 6) rfl)) (fun _ h9 => h9) rfl dX6_simulate_78 ?_
          refine lv_iconst (v := (-1)) hx hb dX6_simulate_81 (by decide) ?_
          refine lv_icmp_eq (tgt := 88) hx hb dX6_simulate_82 (by decide) (fun c26 => ?_) (fun c26 => ?_)
          · refine lv_iinc (v := nI (i16 + 1)) (lv' := [(8, .int (nI (i16 + 1))), (6, .long r23), (5, .int x18), (4, .int x15), (0, .ref (o + 0)), (1, .long x1), (3, .int x2)]) hx hb dX6_simulate_88 hl (k := 1) rfl (nI_1 i16) (by decide) rfl (fun ls hl => ?_)
            refine lv_goto (tgt := 52) hx hb dX6_simulate_91 (by decide) ?_
            have e27 := p_X6_simulate_e27 M x1 x2 M14 x15 x17 x18 M19 i16 n16 r23 hr23.symm r24 hr24.symm M25 hM25.symm c26
            rw [e27] at hexit16
            exact ih16 (i16 + 1) r23 x18 M25 (by omega) _ _ hB hS ls (lv_sub hl [0, 1, 2, 3, 4, 5, 6] rfl) hexit16
          · obtain ⟨x28, hx28⟩ : ∃ y : Int32, y = x18 + 1 := ⟨_, rfl⟩
            refine lv_iinc (v := x28) (lv' := [(5, .int x28), (6, .long r23), (8, .int (nI i16)), (4, .int x15), (0, .ref (o + 0)), (1, .long x1), (3, .int x2)]) hx hb dX6_simulate_85 hl (k := 2) rfl (by rw [hx28]; rfl) (by decide) rfl (fun ls hl => ?_)
            refine lv_iinc (v := nI (i16 + 1)) (lv' := [(8, .int (nI (i16 + 1))), (5, .int x28), (6, .long r23), (4, .int x15), (0, .ref (o + 0)), (1, .long x1), (3, .int x2)]) hx hb dX6_simulate_88 hl (k := 2) rfl (nI_1 i16) (by decide) rfl (fun ls hl => ?_)
            refine lv_goto (tgt := 52) hx hb dX6_simulate_91 (by decide) ?_
            have e29 := p_X6_simulate_e29 M x1 x2 M14 x15 x17 x18 M19 i16 n16 r23 hr23.symm r24 hr24.symm M25 hM25.symm c26 x28 hx28.symm
            rw [e29] at hexit16
            exact ih16 (i16 + 1) r23 x28 M25 (by omega) _ _ hB hS ls (lv_sub hl [0, 2, 1, 3, 4, 5, 6] rfl) hexit16
      refine lp16 x2.toNatClampNeg 0 x1 0 M14 (by omega) _ _ hB hS ls (lv_sub hl [0, 1, 2, 3, 4, 5, 6] rfl) ?_
      intro H locs hB hS ls hl
      obtain ⟨x30, hx30⟩ : ∃ y : Int64, y = (lp_X6_simulate_52 x2.toNatClampNeg 0 x1 0 M14).1 := ⟨_, rfl⟩
      rw [← hx30] at hl
      obtain ⟨x31, hx31⟩ : ∃ y : Int32, y = (lp_X6_simulate_52 x2.toNatClampNeg 0 x1 0 M14).2.1 := ⟨_, rfl⟩
      rw [← hx31] at hl
      obtain ⟨M32, hM32⟩ : ∃ y : bM, y = (lp_X6_simulate_52 x2.toNatClampNeg 0 x1 0 M14).2.2 := ⟨_, rfl⟩
      rw [← hM32] at hB
      have hl : lv_has ls 9 [(6, .long x30), (5, .int x31), (4, .int x15), (0, .ref (o + 0)), (1, .long x1), (3, .int x2)] := hl
      refine lv_aload_n hx hb dX6_simulate_94 rfl (lv_at hl 3 rfl) ?_
      refine b_get (D := D) (E := E) (L := LRM) (o := o) (M := M32) (v := .ref (o + 13)) (C := RX6) (T := TX6) (N := 7) hx hb hts hinX6 hown hK.1 hB 0 lay_0 rfl 2 (by decide) (hts (.fieldLink RX6 23 "RiverMeeting" "trial" "LRiverMeeting$Game;") (List.mem_of_getElem? (i := 3) rfl)) (fun _ h9 => h9) rfl dX6_simulate_95 ?_
      refine b_get (D := D) (E := E) (L := LRM) (o := o) (M := M32) (v := .ref (o + 14)) (C := RX0) (T := TX0) (N := 12) hx hb hts hinX0 hown hK.1 hB 13 isG_13.1 rfl 0 (by decide) (hts (.fieldLink RX6 174 "RiverMeeting$Game" "first" "LRiverMeeting$Side;") (List.mem_of_getElem? (i := 7) rfl)) (fun _ h9 => h9) rfl dX6_simulate_98 ?_
      refine b_get (D := D) (E := E) (L := LRM) (o := o) (M := M32) (v := .int (M32 14 3)) (C := RX2) (T := TX2) (N := 8) hx hb hts hinX2 hown hK.1 hB 14 isG_13.2.1.1 rfl 3 (by decide) (hts (.fieldLink RX6 148 "RiverMeeting$Side" "length" "I") (List.mem_of_getElem? (i := 8) rfl)) (fun _ h9 => h9) rfl dX6_simulate_101 ?_
      refine lv_aload_n hx hb dX6_simulate_104 rfl (lv_at hl 3 rfl) ?_
      refine b_get (D := D) (E := E) (L := LRM) (o := o) (M := M32) (v := .ref (o + 13)) (C := RX6) (T := TX6) (N := 7) hx hb hts hinX6 hown hK.1 hB 0 lay_0 rfl 2 (by decide) (hts (.fieldLink RX6 23 "RiverMeeting" "trial" "LRiverMeeting$Game;") (List.mem_of_getElem? (i := 3) rfl)) (fun _ h9 => h9) rfl dX6_simulate_105 ?_
      refine b_get (D := D) (E := E) (L := LRM) (o := o) (M := M32) (v := .ref (o + 18)) (C := RX0) (T := TX0) (N := 12) hx hb hts hinX0 hown hK.1 hB 13 isG_13.1 rfl 1 (by decide) (hts (.fieldLink RX6 182 "RiverMeeting$Game" "second" "LRiverMeeting$Side;") (List.mem_of_getElem? (i := 9) rfl)) (fun _ h9 => h9) rfl dX6_simulate_108 ?_
      refine b_get (D := D) (E := E) (L := LRM) (o := o) (M := M32) (v := .int (M32 18 3)) (C := RX2) (T := TX2) (N := 8) hx hb hts hinX2 hown hK.1 hB 18 isG_13.2.2.1.1 rfl 3 (by decide) (hts (.fieldLink RX6 148 "RiverMeeting$Side" "length" "I") (List.mem_of_getElem? (i := 8) rfl)) (fun _ h9 => h9) rfl dX6_simulate_111 ?_
      refine lv_iadd hx hb dX6_simulate_114 ?_
      refine lv_topi (fun x33 hx33 => ?_)
      refine lv_istore (lv' := [(8, .int x33), (6, .long x30), (5, .int x31), (4, .int x15), (0, .ref (o + 0)), (1, .long x1), (3, .int x2)]) hx hb dX6_simulate_115 hl (by decide) rfl (fun ls hl => ?_)
      refine lv_sipush (v := 10000) hx hb dX6_simulate_117 (by decide) ?_
      refine lv_aload_n hx hb dX6_simulate_120 rfl (lv_at hl 4 rfl) ?_
      refine b_get (D := D) (E := E) (L := LRM) (o := o) (M := M32) (v := .ref (o + 13)) (C := RX6) (T := TX6) (N := 7) hx hb hts hinX6 hown hK.1 hB 0 lay_0 rfl 2 (by decide) (hts (.fieldLink RX6 23 "RiverMeeting" "trial" "LRiverMeeting$Game;") (List.mem_of_getElem? (i := 3) rfl)) (fun _ h9 => h9) rfl dX6_simulate_121 ?_
      refine b_get (D := D) (E := E) (L := LRM) (o := o) (M := M32) (v := .int (M32 13 5)) (C := RX0) (T := TX0) (N := 12) hx hb hts hinX0 hown hK.1 hB 13 isG_13.1 rfl 5 (by decide) (hts (.fieldLink RX6 104 "RiverMeeting$Game" "games" "I") (List.mem_of_getElem? (i := 5) rfl)) (fun _ h9 => h9) rfl dX6_simulate_124 ?_
      refine lv_iload hx hb dX6_simulate_127 (lv_at hl 3 rfl) ?_
      refine lv_isub hx hb dX6_simulate_129 ?_
      refine lv_imul hx hb dX6_simulate_130 ?_
      refine lv_bipush (v := 100) hx hb dX6_simulate_131 (by decide) ?_
      refine lv_iload hx hb dX6_simulate_133 (lv_at hl 2 rfl) ?_
      refine lv_imul hx hb dX6_simulate_135 ?_
      refine lv_iadd hx hb dX6_simulate_136 ?_
      refine lv_iload hx hb dX6_simulate_137 (lv_at hl 0 rfl) ?_
      refine lv_iadd hx hb dX6_simulate_139 ?_
      have e34 := p_X6_simulate_e34 M x1 x2 c11 c13 M14 hM14.symm x15 hx15.symm x30 hx30.symm x31 hx31.symm M32 hM32.symm x33 hx33.symm
      exact x_iret hx hb hr hlocks hS ⟨_, rfl, _, e34, hB⟩ dX6_simulate_140
    · have e35 := p_X6_simulate_e35 M x1 x2 c11 c13
      obtain ⟨sa, hsa⟩ := hKX.2.2 19 _ rfl
      exact vx_throwSW (cls := xIAE) (names := xNames) (ik := 53) (is := 301) (ic := 57) (A := rA o) hx hb hst hown fit1 fitN (hts (.classLink RX6 53 "java/lang/IllegalArgumentException") (List.mem_of_getElem? (i := 1) rfl)) (hts (.initialized "java/lang/IllegalArgumentException") (List.mem_of_getElem? (i := 2) rfl)) hsa (vx_hat (B := thrB) (fun w hw => hts w (List.mem_cons_of_mem _ (List.mem_append_right _ hw))) ng1 (bT.words hKX.2.1)) ot1 hZ.1 hZ.2 (bS_va hS) (hl.1.trans hml.symm) dX6_simulate_12 dX6_simulate_15 dX6_simulate_16 dX6_simulate_19 dX6_simulate_22 (fun x hx9 => (ht x hx9).elim) (by decide) (Nat.le_of_ble_eq_true rfl) (Nat.le_refl _) (Nat.le_refl _) hlocks (x_throw (en := 1) hB hS (bk_lt hB) ⟨by decide, e35⟩ rfl) hS.2.2 (Nat.le_refl _) (Nat.le_refl _)
