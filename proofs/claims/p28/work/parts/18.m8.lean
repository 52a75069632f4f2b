theorem zz_if {α : Type} {c : Prop} [Decidable c] {x y : Int32 × α} (hx : x.1 = 0 ∨ x.1 = 1) (hy : y.1 = 0 ∨ y.1 = 1) : (if c then x else y).1 = 0 ∨ (if c then x else y).1 = 1 := by
  by_cases h : c
  · rw [if_pos h]; exact hx
  · rw [if_neg h]; exact hy
theorem zz_if0 {c : Prop} [Decidable c] {x y : Int32} (hx : x = 0 ∨ x = 1) (hy : y = 0 ∨ y = 1) : (if c then x else y) = 0 ∨ (if c then x else y) = 1 := by
  by_cases h : c
  · rw [if_pos h]; exact hx
  · rw [if_neg h]; exact hy
theorem z_X0_stepIfPossible (M : bM) (g : Nat) (x1 : Int32) : (f_X0_stepIfPossible M g x1).1 = 0 ∨ (f_X0_stepIfPossible M g x1).1 = 1 := by
  rw [u_f_X0_stepIfPossible M g x1]
  try dsimp only
  repeat' first | with_reducible apply zz_if | with_reducible apply zz_if0 | exact Or.inl rfl | exact Or.inr rfl
theorem z_X0_damIfPossible (M : bM) (g : Nat) (x1 : Int32) : (f_X0_damIfPossible M g x1).1 = 0 ∨ (f_X0_damIfPossible M g x1).1 = 1 := by
  rw [u_f_X0_damIfPossible M g x1]
  try dsimp only
  repeat' first | with_reducible apply zz_if | with_reducible apply zz_if0 | exact Or.inl rfl | exact Or.inr rfl
theorem z_X0_changeIfPossible (M : bM) (g : Nat) (x1 : Int32) (x2 : Int32) : (f_X0_changeIfPossible M g x1 x2).1 = 0 ∨ (f_X0_changeIfPossible M g x1 x2).1 = 1 := by
  rw [u_f_X0_changeIfPossible M g x1 x2]
  try dsimp only
  repeat' first | with_reducible apply zz_if | with_reducible apply zz_if0 | exact Or.inl rfl | exact Or.inr rfl
theorem z_X0_floodIfPossible (M : bM) (g : Nat) : (f_X0_floodIfPossible M g).1 = 0 ∨ (f_X0_floodIfPossible M g).1 = 1 := by
  rw [u_f_X0_floodIfPossible M g]
  try dsimp only
  repeat' first | with_reducible apply zz_if | with_reducible apply zz_if0 | exact Or.inl rfl | exact Or.inr rfl
def lp_X6_followBest_2  : Nat → Nat → bM → (Bool × Int32 × bM)
  | 0, i11, M12 => (false, 0, M12)
  | n11 + 1, i11, M12 => (let r17 : Int32 := (f_X5_bestStep M12 13).1; (let M16 : bM := (f_X5_bestStep M12 13).2; (let r19 : Int32 := (f_X0_stepIfPossible M16 13 r17).1; (let M18 : bM := (f_X0_stepIfPossible M16 13 r17).2; (if r19 = 0 then (true, 0, M18) else lp_X6_followBest_2 n11 (i11 + 1) M18)))))
theorem u0_lp_X6_followBest_2  (i11 : Nat) (M12 : bM) : lp_X6_followBest_2 0 i11 M12 = (false, 0, M12) := rfl
theorem u1_lp_X6_followBest_2  (n11 i11 : Nat) (M12 : bM) : lp_X6_followBest_2 (n11 + 1) i11 M12 = (let r17 : Int32 := (f_X5_bestStep M12 13).1; (let M16 : bM := (f_X5_bestStep M12 13).2; (let r19 : Int32 := (f_X0_stepIfPossible M16 13 r17).1; (let M18 : bM := (f_X0_stepIfPossible M16 13 r17).2; (if r19 = 0 then (true, 0, M18) else lp_X6_followBest_2 n11 (i11 + 1) M18))))) := rfl
def f_X6_followBest (M : bM) (x1 : Int32) : Int32 × bM := (if (lp_X6_followBest_2 x1.toNatClampNeg 0 M).1 = true then ((lp_X6_followBest_2 x1.toNatClampNeg 0 M).2.1, (lp_X6_followBest_2 x1.toNatClampNeg 0 M).2.2) else (let M24 : bM := (lp_X6_followBest_2 x1.toNatClampNeg 0 M).2.2; (1, M24)))
theorem u_f_X6_followBest (M : bM) (x1 : Int32) : f_X6_followBest M x1 = (if (lp_X6_followBest_2 x1.toNatClampNeg 0 M).1 = true then ((lp_X6_followBest_2 x1.toNatClampNeg 0 M).2.1, (lp_X6_followBest_2 x1.toNatClampNeg 0 M).2.2) else (let M24 : bM := (lp_X6_followBest_2 x1.toNatClampNeg 0 M).2.2; (1, M24))) := rfl
theorem p_X6_followBest_e14 (M : bM) (x1 : Int32) (M12 : bM) (i11 : Nat)  : lp_X6_followBest_2 0 i11 M12 = (false, 0, M12) := by exact u0_lp_X6_followBest_2 i11 M12
theorem p_X6_followBest_e21 (M : bM) (x1 : Int32) (M12 : bM) (i11 : Nat) (n11 : Nat) (r17 : Int32) (hr17 : (f_X5_bestStep M12 13).1 = r17) (M16 : bM) (hM16 : (f_X5_bestStep M12 13).2 = M16) (r19 : Int32) (hr19 : (f_X0_stepIfPossible M16 13 r17).1 = r19) (M18 : bM) (hM18 : (f_X0_stepIfPossible M16 13 r17).2 = M18) (c20 : ¬ r19 = 0) : lp_X6_followBest_2 (n11 + 1) i11 M12 = lp_X6_followBest_2 n11 (i11 + 1) M18 := by subst hM18 hr19 hM16 hr17; exact Eq.trans (u1_lp_X6_followBest_2 n11 i11 M12) (if_neg c20)
theorem p_X6_followBest_e22 (M : bM) (x1 : Int32) (M12 : bM) (i11 : Nat) (n11 : Nat) (r17 : Int32) (hr17 : (f_X5_bestStep M12 13).1 = r17) (M16 : bM) (hM16 : (f_X5_bestStep M12 13).2 = M16) (r19 : Int32) (hr19 : (f_X0_stepIfPossible M16 13 r17).1 = r19) (M18 : bM) (hM18 : (f_X0_stepIfPossible M16 13 r17).2 = M18) (c20 : r19 = 0) : lp_X6_followBest_2 (n11 + 1) i11 M12 = (true, 0, M18) := by subst hM18 hr19 hM16 hr17; exact Eq.trans (u1_lp_X6_followBest_2 n11 i11 M12) (if_pos c20)
theorem p_X6_followBest_e23 (M : bM) (x1 : Int32) (hfl11 : (lp_X6_followBest_2 x1.toNatClampNeg 0 M).1 = true) : f_X6_followBest M x1 = ((lp_X6_followBest_2 x1.toNatClampNeg 0 M).2.1, (lp_X6_followBest_2 x1.toNatClampNeg 0 M).2.2) := by exact Eq.trans (u_f_X6_followBest M x1) (if_pos hfl11)
theorem p_X6_followBest_e25 (M : bM) (x1 : Int32) (hfl11 : (lp_X6_followBest_2 x1.toNatClampNeg 0 M).1 = false) (M24 : bM) (hM24 : (lp_X6_followBest_2 x1.toNatClampNeg 0 M).2.2 = M24) : f_X6_followBest M x1 = (1, M24) := by subst hM24; exact Eq.trans (u_f_X6_followBest M x1) (if_neg (fun h9 => Bool.noConfusion (h9.symm.trans hfl11)))
set_option maxHeartbeats 4000000 in
set_option maxRecDepth 100000 in
theorem c_X6_followBest (l : Launch) (D : va_G) (E : Nat → ClassId) (o : Nat) (M : bM) (x1 : Int32) : Met l yX6_followBest wsX6_followBest (rmF 4) (bPc D E [.ref (o + 0), .int x1] (fun H => bk D E LRM o M H)) (bQ (aI fun r H => ∃ M1 : bM, (r = (f_X6_followBest M x1).1 ∧ M1 = (f_X6_followBest M x1).2) ∧ bk D E LRM o M1 H) (rA o)) 0 0 (rA o) := by
  refine Met.ofW (cc := cX6_followBest) (maxL := 3) (ret := (some .boolean)) (by decide) rfl ?_
  intro p e s m args below meth c s₁ B hml hv
  obtain ⟨rfl, hB, hK⟩ := hv
  have hx := B.exec
  have hb := B.bytes
  have hr := B.returns
  have hts := atoms_spec (ws := wsX6_followBest) B.pre
  have hown : s.vm.findClass RX6 = some m.cls := findClass_of_methodNamed B.named
  have hlocks := B.notSynchronized
  have hS : bS (rA o) s.heap s.heap [] := bS.rf
  have hl := lv_entry ([.ref (o + 0), .int x1]) (n := 3) (Nat.le_of_ble_eq_true rfl)
  rw [lg_entry_eq]
  generalize (lg_sl ([.ref (o + 0), .int x1]) ++ List.replicate (3 - (lg_sl ([.ref (o + 0), .int x1])).length) Slot.unset).toArray = ls at hl ⊢
  have hl : lv_has ls 3 [(0, .ref (o + 0)), (1, .int x1)] := hl
  have hB : bk D E LRM o M s.heap := hB
  have hinX6 : ∀ w ∈ wsX60, w ∈ wsX6_followBest := by decide +kernel
  refine lv_iconst (v := 0) hx hb dX6_followBest_0 (by decide) ?_
  refine lv_istore_n (lv' := [(2, .int 0), (0, .ref (o + 0)), (1, .int x1)]) hx hb dX6_followBest_1 rfl hl (by decide) rfl (fun ls hl => ?_)
  have lp11 : ∀ (n11 i11 : Nat) (M12 : bM), i11 + n11 = x1.toNatClampNeg → ∀ (H : Heap) (locs : List Loc), bk D E LRM o M12 H → bS (rA o) s.heap H locs → ∀ ls : Array Slot, lv_has ls 3 [(2, .int (nI i11)), (0, .ref (o + 0)), (1, .int x1)] → (∀ H : Heap, (lp_X6_followBest_2 n11 i11 M12).1 = true → bk D E LRM o ((lp_X6_followBest_2 n11 i11 M12).2.2) H → (aI fun r H => ∃ M1 : bM, (r = (f_X6_followBest M x1).1 ∧ M1 = (f_X6_followBest M x1).2) ∧ bk D E LRM o M1 H) (some (.int (lp_X6_followBest_2 n11 i11 M12).2.1)) H) → (∀ (H : Heap) (locs : List Loc), (lp_X6_followBest_2 n11 i11 M12).1 = false → bk D E LRM o ((lp_X6_followBest_2 n11 i11 M12).2.2) H → bS (rA o) s.heap H locs → ∀ ls : Array Slot, lv_has ls 3 [(0, .ref (o + 0)), (1, .int x1)] → W p l e (headSpec wsX6_followBest (rmF 4)).room s m ([.ref (o + 0), .int x1] : List Value).toArray below meth c H locs 0 0 (MQ below (bQ (aI fun r H => ∃ M1 : bM, (r = (f_X6_followBest M x1).1 ∧ M1 = (f_X6_followBest M x1).2) ∧ bk D E LRM o M1 H) (rA o)) ([.ref (o + 0), .int x1] : List Value).toArray s 0 0 (rA o)) (F0 m 36 ls [])) → W p l e (headSpec wsX6_followBest (rmF 4)).room s m ([.ref (o + 0), .int x1] : List Value).toArray below meth c H locs 0 0 (MQ below (bQ (aI fun r H => ∃ M1 : bM, (r = (f_X6_followBest M x1).1 ∧ M1 = (f_X6_followBest M x1).2) ∧ bk D E LRM o M1 H) (rA o)) ([.ref (o + 0), .int x1] : List Value).toArray s 0 0 (rA o)) (F0 m 2 ls []) := by
    intro n11
    induction n11 with
    | zero =>
      intro i11 M12 hi11 H locs hB hS ls hl hret11 hexit11
      have hz11 : i11 = x1.toNatClampNeg := by omega
      refine lv_iload_n hx hb dX6_followBest_2 rfl (lv_at hl 0 rfl) ?_
      refine lv_iload_n hx hb dX6_followBest_3 rfl (lv_at hl 2 rfl) ?_
      refine lv_icmp_ge (tgt := 36) hx hb dX6_followBest_4 (by decide) (fun c13 => ?_) (fun c13 => absurd (by rw [hz11]; exact b_le_N _) c13)
      have e14 := p_X6_followBest_e14 M x1 M12 i11 
      rw [e14] at hexit11
      exact hexit11 _ _ rfl hB hS ls (lv_sub hl [1, 2] rfl)
    | succ n11 ih11 =>
      intro i11 M12 hi11 H locs hB hS ls hl hret11 hexit11
      refine lv_iload_n hx hb dX6_followBest_2 rfl (lv_at hl 0 rfl) ?_
      refine lv_iload_n hx hb dX6_followBest_3 rfl (lv_at hl 2 rfl) ?_
      refine lv_icmp_ge (tgt := 36) hx hb dX6_followBest_4 (by decide) (fun c15 => absurd c15 (b_nle_N (i := i11) (by omega))) (fun c15 => ?_)
      refine lv_aload_n hx hb dX6_followBest_7 rfl (lv_at hl 1 rfl) ?_
      refine b_get (D := D) (E := E) (L := LRM) (o := o) (M := M12) (v := .ref (o + 13)) (C := RX6) (T := TX6) (N := 7) hx hb hts hinX6 hown hK.1 hB 0 lay_0 rfl 2 (by decide) (hts (.fieldLink RX6 23 "RiverMeeting" "trial" "LRiverMeeting$Game;") (List.mem_of_getElem? (i := 1) rfl)) (fun _ h9 => h9) rfl dX6_followBest_8 ?_
      refine lv_aload_n hx hb dX6_followBest_11 rfl (lv_at hl 1 rfl) ?_
      refine b_get (D := D) (E := E) (L := LRM) (o := o) (M := M12) (v := .ref (o + 23)) (C := RX6) (T := TX6) (N := 7) hx hb hts hinX6 hown hK.1 hB 0 lay_0 rfl 3 (by decide) (hts (.fieldLink RX6 29 "RiverMeeting" "ways" "LRiverMeeting$Ways;") (List.mem_of_getElem? (i := 2) rfl)) (fun _ h9 => h9) rfl dX6_followBest_12 ?_
      refine lv_aload_n hx hb dX6_followBest_15 rfl (lv_at hl 1 rfl) ?_
      refine b_get (D := D) (E := E) (L := LRM) (o := o) (M := M12) (v := .ref (o + 13)) (C := RX6) (T := TX6) (N := 7) hx hb hts hinX6 hown hK.1 hB 0 lay_0 rfl 2 (by decide) (hts (.fieldLink RX6 23 "RiverMeeting" "trial" "LRiverMeeting$Game;") (List.mem_of_getElem? (i := 1) rfl)) (fun _ h9 => h9) rfl dX6_followBest_16 ?_
      refine b_mI (b_runV (As := [.ref (o + 13)]) (rest := [.ref (o + 13)]) ⟨hx, hb, hml, hown, hts⟩ (c_X5_bestStep l D E o M12 13 isG_13) (cwV 1 hts gX6_followBest_X5_bestStep rfl rfl rfl (by decide +kernel) ⟨Nat.le_of_ble_eq_true rfl, Nat.le_of_ble_eq_true rfl⟩) hK (bk_recv hK.1 hB lay_23 rfl) hB rfl hl rfl (Nat.le_of_ble_eq_true rfl) dX6_followBest_19 ⟨Nat.zero_le _, Nat.zero_le _⟩) hS (fun q h => h) (fun r17 M16 hM16 H locs hB _ hS => ?_)
      obtain ⟨hr17, hM16⟩ := hM16
      refine b_mI (b_runV (As := [.int r17]) (rest := []) ⟨hx, hb, hml, hown, hts⟩ (c_X0_stepIfPossible l D E o M16 13 r17 isG_13) (cwV 1 hts gX6_followBest_X0_stepIfPossible rfl rfl rfl (by decide +kernel) ⟨Nat.le_of_ble_eq_true rfl, Nat.le_of_ble_eq_true rfl⟩) hK (bk_recv hK.1 hB isG_13.1 rfl) hB rfl hl rfl (Nat.le_of_ble_eq_true rfl) dX6_followBest_22 ⟨Nat.zero_le _, Nat.zero_le _⟩) hS (fun q h => h) (fun r19 M18 hM18 H locs hB _ hS => ?_)
      obtain ⟨hr19, hM18⟩ := hM18
      refine lv_if_ne (tgt := 30) hx hb dX6_followBest_25 (by decide) (fun c20 => ?_) (fun c20 => ?_)
      · refine lv_iinc (v := nI (i11 + 1)) (lv' := [(2, .int (nI (i11 + 1))), (0, .ref (o + 0)), (1, .int x1)]) hx hb dX6_followBest_30 hl (k := 0) rfl (nI_1 i11) (by decide) rfl (fun ls hl => ?_)
        refine lv_goto (tgt := 2) hx hb dX6_followBest_33 (by decide) ?_
        have e21 := p_X6_followBest_e21 M x1 M12 i11 n11 r17 hr17.symm M16 hM16.symm r19 hr19.symm M18 hM18.symm c20
        rw [e21] at hexit11 hret11
        exact ih11 (i11 + 1) M18 (by omega) _ _ hB hS ls (lv_sub hl [0, 1, 2] rfl) hret11 hexit11
      · refine lv_iconst (v := 0) hx hb dX6_followBest_28 (by decide) ?_
        have e22 := p_X6_followBest_e22 M x1 M12 i11 n11 r17 hr17.symm M16 hM16.symm r19 hr19.symm M18 hM18.symm c20
        rw [e22] at hret11
        exact b_zret (v := 0) hx hb hr rfl hlocks hS (hret11 _ rfl hB) dX6_followBest_29
  refine lp11 x1.toNatClampNeg 0 M (by omega) _ _ hB hS ls (lv_sub hl [0, 1, 2] rfl) (fun H hfl11 hB => ?_) ?_
  · have e23 := p_X6_followBest_e23 M x1 hfl11
    exact ⟨_, rfl, _, ⟨(congrArg Prod.fst e23).symm, (congrArg Prod.snd e23).symm⟩, hB⟩
  intro H locs hfl11 hB hS ls hl
  obtain ⟨M24, hM24⟩ : ∃ y : bM, y = (lp_X6_followBest_2 x1.toNatClampNeg 0 M).2.2 := ⟨_, rfl⟩
  rw [← hM24] at hB
  have hl : lv_has ls 3 [(0, .ref (o + 0)), (1, .int x1)] := hl
  refine lv_iconst (v := 1) hx hb dX6_followBest_36 (by decide) ?_
  have e25 := p_X6_followBest_e25 M x1 hfl11 M24 hM24.symm
  exact b_zret hx hb hr rfl hlocks hS ⟨_, rfl, _, ⟨(congrArg Prod.fst e25).symm, (congrArg Prod.snd e25).symm⟩, hB⟩ dX6_followBest_37
def f_X6_simulateTurn (M : bM) (x1 : Int32) : bM := (let x11 : Int32 := (x1 / 8); (let x12 : Int32 := (x1 - x1 / 8 * 8); (let r13 : Int32 := f_X0_isOver M 13; (if r13 = 0 then (let r15 : Int32 := f_X0_canFlood M 13; (if r15 = 0 then (if x12 = 0 then (let r27 : Int32 := f_X6_cellAt (x11 - x11 / 8 * 8) ((x11 / 8) - (x11 / 8) / 8 * 8); (let r29 : Int32 := (f_X0_tryDam M 13 r27).1; (let M28 : bM := (f_X0_tryDam M 13 r27).2; M28))) else (if 4 < x12 then (let r20 : Int32 := (f_X5_bestStep M 13).1; (let M19 : bM := (f_X5_bestStep M 13).2; (let r22 : Int32 := (f_X0_tryStep M19 13 r20).1; (let M21 : bM := (f_X0_tryStep M19 13 r20).2; M21)))) else (let r25 : Int32 := (f_X0_tryStep M 13 (x11 - x11 / 3 * 3)).1; (let M24 : bM := (f_X0_tryStep M 13 (x11 - x11 / 3 * 3)).2; M24)))) else (let r32 : Int32 := (f_X0_washAway M 13).1; (let M31 : bM := (f_X0_washAway M 13).2; M31)))) else (let M34 : bM := f_X0_beginGame M 13 x11.toInt64; M34)))))
theorem u_f_X6_simulateTurn (M : bM) (x1 : Int32) : f_X6_simulateTurn M x1 = (let x11 : Int32 := (x1 / 8); (let x12 : Int32 := (x1 - x1 / 8 * 8); (let r13 : Int32 := f_X0_isOver M 13; (if r13 = 0 then (let r15 : Int32 := f_X0_canFlood M 13; (if r15 = 0 then (if x12 = 0 then (let r27 : Int32 := f_X6_cellAt (x11 - x11 / 8 * 8) ((x11 / 8) - (x11 / 8) / 8 * 8); (let r29 : Int32 := (f_X0_tryDam M 13 r27).1; (let M28 : bM := (f_X0_tryDam M 13 r27).2; M28))) else (if 4 < x12 then (let r20 : Int32 := (f_X5_bestStep M 13).1; (let M19 : bM := (f_X5_bestStep M 13).2; (let r22 : Int32 := (f_X0_tryStep M19 13 r20).1; (let M21 : bM := (f_X0_tryStep M19 13 r20).2; M21)))) else (let r25 : Int32 := (f_X0_tryStep M 13 (x11 - x11 / 3 * 3)).1; (let M24 : bM := (f_X0_tryStep M 13 (x11 - x11 / 3 * 3)).2; M24)))) else (let r32 : Int32 := (f_X0_washAway M 13).1; (let M31 : bM := (f_X0_washAway M 13).2; M31)))) else (let M34 : bM := f_X0_beginGame M 13 x11.toInt64; M34))))) := rfl
theorem p_X6_simulateTurn_e23 (M : bM) (x1 : Int32) (x11 : Int32) (hx11 : (x1 / 8) = x11) (x12 : Int32) (hx12 : (x1 - x1 / 8 * 8) = x12) (r13 : Int32) (hr13 : f_X0_isOver M 13 = r13) (c14 : r13 = 0) (r15 : Int32) (hr15 : f_X0_canFlood M 13 = r15) (c16 : r15 = 0) (c17 : ¬ x12 = 0) (c18 : 4 < x12) (r20 : Int32) (hr20 : (f_X5_bestStep M 13).1 = r20) (M19 : bM) (hM19 : (f_X5_bestStep M 13).2 = M19) (r22 : Int32) (hr22 : (f_X0_tryStep M19 13 r20).1 = r22) (M21 : bM) (hM21 : (f_X0_tryStep M19 13 r20).2 = M21) : f_X6_simulateTurn M x1 = M21 := by subst hM21 hr22 hM19 hr20 hr15 hr13 hx12 hx11; exact Eq.trans (u_f_X6_simulateTurn M x1) (Eq.trans (if_pos c14) (Eq.trans (if_pos c16) (Eq.trans (if_neg c17) (if_pos c18))))
theorem p_X6_simulateTurn_e26 (M : bM) (x1 : Int32) (x11 : Int32) (hx11 : (x1 / 8) = x11) (x12 : Int32) (hx12 : (x1 - x1 / 8 * 8) = x12) (r13 : Int32) (hr13 : f_X0_isOver M 13 = r13) (c14 : r13 = 0) (r15 : Int32) (hr15 : f_X0_canFlood M 13 = r15) (c16 : r15 = 0) (c17 : ¬ x12 = 0) (c18 : ¬ 4 < x12) (r25 : Int32) (hr25 : (f_X0_tryStep M 13 (x11 - x11 / 3 * 3)).1 = r25) (M24 : bM) (hM24 : (f_X0_tryStep M 13 (x11 - x11 / 3 * 3)).2 = M24) : f_X6_simulateTurn M x1 = M24 := by subst hM24 hr25 hr15 hr13 hx12 hx11; exact Eq.trans (u_f_X6_simulateTurn M x1) (Eq.trans (if_pos c14) (Eq.trans (if_pos c16) (Eq.trans (if_neg c17) (if_neg c18))))
theorem p_X6_simulateTurn_e30 (M : bM) (x1 : Int32) (x11 : Int32) (hx11 : (x1 / 8) = x11) (x12 : Int32) (hx12 : (x1 - x1 / 8 * 8) = x12) (r13 : Int32) (hr13 : f_X0_isOver M 13 = r13) (c14 : r13 = 0) (r15 : Int32) (hr15 : f_X0_canFlood M 13 = r15) (c16 : r15 = 0) (c17 : x12 = 0) (r27 : Int32) (hr27 : f_X6_cellAt (x11 - x11 / 8 * 8) ((x11 / 8) - (x11 / 8) / 8 * 8) = r27) (r29 : Int32) (hr29 : (f_X0_tryDam M 13 r27).1 = r29) (M28 : bM) (hM28 : (f_X0_tryDam M 13 r27).2 = M28) : f_X6_simulateTurn M x1 = M28 := by subst hM28 hr29 hr27 hr15 hr13 hx12 hx11; exact Eq.trans (u_f_X6_simulateTurn M x1) (Eq.trans (if_pos c14) (Eq.trans (if_pos c16) (if_pos c17)))
theorem p_X6_simulateTurn_e33 (M : bM) (x1 : Int32) (x11 : Int32) (hx11 : (x1 / 8) = x11) (x12 : Int32) (hx12 : (x1 - x1 / 8 * 8) = x12) (r13 : Int32) (hr13 : f_X0_isOver M 13 = r13) (c14 : r13 = 0) (r15 : Int32) (hr15 : f_X0_canFlood M 13 = r15) (c16 : ¬ r15 = 0) (r32 : Int32) (hr32 : (f_X0_washAway M 13).1 = r32) (M31 : bM) (hM31 : (f_X0_washAway M 13).2 = M31) : f_X6_simulateTurn M x1 = M31 := by subst hM31 hr32 hr15 hr13 hx12 hx11; exact Eq.trans (u_f_X6_simulateTurn M x1) (Eq.trans (if_pos c14) (if_neg c16))
theorem p_X6_simulateTurn_e35 (M : bM) (x1 : Int32) (x11 : Int32) (hx11 : (x1 / 8) = x11) (x12 : Int32) (hx12 : (x1 - x1 / 8 * 8) = x12) (r13 : Int32) (hr13 : f_X0_isOver M 13 = r13) (c14 : ¬ r13 = 0) (M34 : bM) (hM34 : f_X0_beginGame M 13 x11.toInt64 = M34) : f_X6_simulateTurn M x1 = M34 := by subst hM34 hr13 hx12 hx11; exact Eq.trans (u_f_X6_simulateTurn M x1) (if_neg c14)
set_option maxHeartbeats 4000000 in
set_option maxRecDepth 100000 in
theorem c_X6_simulateTurn (l : Launch) (D : va_G) (E : Nat → ClassId) (o : Nat) (M : bM) (x1 : Int32) : Met l yX6_simulateTurn wsX6_simulateTurn (rmF 5) (bPc D E [.ref (o + 0), .int x1] (fun H => bk D E LRM o M H)) (bQ (aV fun H => ∃ M1 : bM, M1 = f_X6_simulateTurn M x1 ∧ bk D E LRM o M1 H) (rA o)) 0 0 (rA o) := by
  refine Met.ofW (cc := cX6_simulateTurn) (maxL := 4) (ret := none) (by decide) rfl ?_
  intro p e s m args below meth c s₁ B hml hv
  obtain ⟨rfl, hB, hK⟩ := hv
  have hx := B.exec
  have hb := B.bytes
  have hr := B.returns
  have hts := atoms_spec (ws := wsX6_simulateTurn) B.pre
  have hown : s.vm.findClass RX6 = some m.cls := findClass_of_methodNamed B.named
  have hlocks := B.notSynchronized
  have hS : bS (rA o) s.heap s.heap [] := bS.rf
  have hl := lv_entry ([.ref (o + 0), .int x1]) (n := 4) (Nat.le_of_ble_eq_true rfl)
  rw [lg_entry_eq]
  generalize (lg_sl ([.ref (o + 0), .int x1]) ++ List.replicate (4 - (lg_sl ([.ref (o + 0), .int x1])).length) Slot.unset).toArray = ls at hl ⊢
  have hl : lv_has ls 4 [(0, .ref (o + 0)), (1, .int x1)] := hl
  have hB : bk D E LRM o M s.heap := hB
  have hinX6 : ∀ w ∈ wsX60, w ∈ wsX6_simulateTurn := by decide +kernel
  refine lv_iload_n hx hb dX6_simulateTurn_0 rfl (lv_at hl 1 rfl) ?_
  refine lv_bipush (v := 8) hx hb dX6_simulateTurn_1 (by decide) ?_
  refine lv_idiv hx hb dX6_simulateTurn_3 (by decide) ?_
  refine lv_topi (fun x11 hx11 => ?_)
  refine lv_istore_n (lv' := [(2, .int x11), (0, .ref (o + 0)), (1, .int x1)]) hx hb dX6_simulateTurn_4 rfl hl (by decide) rfl (fun ls hl => ?_)
  refine lv_iload_n hx hb dX6_simulateTurn_5 rfl (lv_at hl 2 rfl) ?_
  refine lv_bipush (v := 8) hx hb dX6_simulateTurn_6 (by decide) ?_
  refine lv_irem hx hb dX6_simulateTurn_8 (by decide) ?_
  refine lv_topi (fun x12 hx12 => ?_)
  refine lv_istore_n (lv' := [(3, .int x12), (2, .int x11), (0, .ref (o + 0)), (1, .int x1)]) hx hb dX6_simulateTurn_9 rfl hl (by decide) rfl (fun ls hl => ?_)
  refine lv_aload_n hx hb dX6_simulateTurn_10 rfl (lv_at hl 2 rfl) ?_
  refine b_get (D := D) (E := E) (L := LRM) (o := o) (M := M) (v := .ref (o + 13)) (C := RX6) (T := TX6) (N := 7) hx hb hts hinX6 hown hK.1 hB 0 lay_0 rfl 2 (by decide) (hts (.fieldLink RX6 23 "RiverMeeting" "trial" "LRiverMeeting$Game;") (List.mem_of_getElem? (i := 1) rfl)) (fun _ h9 => h9) rfl dX6_simulateTurn_11 ?_
  refine b_pI (b_runV (As := []) (rest := []) ⟨hx, hb, hml, hown, hts⟩ (c_X0_isOver l D E o M 13 isG_13) (cwV 0 hts gX6_simulateTurn_X0_isOver rfl rfl rfl (by decide +kernel) ⟨Nat.le_of_ble_eq_true rfl, Nat.le_of_ble_eq_true rfl⟩) hK (bk_recv hK.1 hB isG_13.1 rfl) hB rfl hl rfl (Nat.le_of_ble_eq_true rfl) dX6_simulateTurn_14 ⟨Nat.zero_le _, Nat.zero_le _⟩) hS (fun r13 hr13 locs hS => ?_)
  refine lv_if_eq (tgt := 32) hx hb dX6_simulateTurn_17 (by decide) (fun c14 => ?_) (fun c14 => ?_)
  · refine lv_aload_n hx hb dX6_simulateTurn_32 rfl (lv_at hl 2 rfl) ?_
    refine b_get (D := D) (E := E) (L := LRM) (o := o) (M := M) (v := .ref (o + 13)) (C := RX6) (T := TX6) (N := 7) hx hb hts hinX6 hown hK.1 hB 0 lay_0 rfl 2 (by decide) (hts (.fieldLink RX6 23 "RiverMeeting" "trial" "LRiverMeeting$Game;") (List.mem_of_getElem? (i := 1) rfl)) (fun _ h9 => h9) rfl dX6_simulateTurn_33 ?_
    refine b_pI (b_runV (As := []) (rest := []) ⟨hx, hb, hml, hown, hts⟩ (c_X0_canFlood l D E o M 13 isG_13) (cwV 0 hts gX6_simulateTurn_X0_canFlood rfl rfl rfl (by decide +kernel) ⟨Nat.le_of_ble_eq_true rfl, Nat.le_of_ble_eq_true rfl⟩) hK (bk_recv hK.1 hB isG_13.1 rfl) hB rfl hl rfl (Nat.le_of_ble_eq_true rfl) dX6_simulateTurn_36 ⟨Nat.zero_le _, Nat.zero_le _⟩) hS (fun r15 hr15 locs hS => ?_)
    refine lv_if_eq (tgt := 53) hx hb dX6_simulateTurn_39 (by decide) (fun c16 => ?_) (fun c16 => ?_)
    · refine lv_iload_n hx hb dX6_simulateTurn_53 rfl (lv_at hl 0 rfl) ?_
      refine lv_if_ne (tgt := 86) hx hb dX6_simulateTurn_54 (by decide) (fun c17 => ?_) (fun c17 => ?_)
      · refine lv_iload_n hx hb dX6_simulateTurn_86 rfl (lv_at hl 0 rfl) ?_
        refine lv_iconst (v := 4) hx hb dX6_simulateTurn_87 (by decide) ?_
        refine lv_icmp_gt (tgt := 105) hx hb dX6_simulateTurn_88 (by decide) (fun c18 => ?_) (fun c18 => ?_)
        · refine lv_aload_n hx hb dX6_simulateTurn_105 rfl (lv_at hl 2 rfl) ?_
          refine b_get (D := D) (E := E) (L := LRM) (o := o) (M := M) (v := .ref (o + 13)) (C := RX6) (T := TX6) (N := 7) hx hb hts hinX6 hown hK.1 hB 0 lay_0 rfl 2 (by decide) (hts (.fieldLink RX6 23 "RiverMeeting" "trial" "LRiverMeeting$Game;") (List.mem_of_getElem? (i := 1) rfl)) (fun _ h9 => h9) rfl dX6_simulateTurn_106 ?_
          refine lv_aload_n hx hb dX6_simulateTurn_109 rfl (lv_at hl 2 rfl) ?_
          refine b_get (D := D) (E := E) (L := LRM) (o := o) (M := M) (v := .ref (o + 23)) (C := RX6) (T := TX6) (N := 7) hx hb hts hinX6 hown hK.1 hB 0 lay_0 rfl 3 (by decide) (hts (.fieldLink RX6 29 "RiverMeeting" "ways" "LRiverMeeting$Ways;") (List.mem_of_getElem? (i := 2) rfl)) (fun _ h9 => h9) rfl dX6_simulateTurn_110 ?_
          refine lv_aload_n hx hb dX6_simulateTurn_113 rfl (lv_at hl 2 rfl) ?_
          refine b_get (D := D) (E := E) (L := LRM) (o := o) (M := M) (v := .ref (o + 13)) (C := RX6) (T := TX6) (N := 7) hx hb hts hinX6 hown hK.1 hB 0 lay_0 rfl 2 (by decide) (hts (.fieldLink RX6 23 "RiverMeeting" "trial" "LRiverMeeting$Game;") (List.mem_of_getElem? (i := 1) rfl)) (fun _ h9 => h9) rfl dX6_simulateTurn_114 ?_
          refine b_mI (b_runV (As := [.ref (o + 13)]) (rest := [.ref (o + 13)]) ⟨hx, hb, hml, hown, hts⟩ (c_X5_bestStep l D E o M 13 isG_13) (cwV 1 hts gX6_simulateTurn_X5_bestStep rfl rfl rfl (by decide +kernel) ⟨Nat.le_of_ble_eq_true rfl, Nat.le_of_ble_eq_true rfl⟩) hK (bk_recv hK.1 hB lay_23 rfl) hB rfl hl rfl (Nat.le_of_ble_eq_true rfl) dX6_simulateTurn_117 ⟨Nat.zero_le _, Nat.zero_le _⟩) hS (fun q h => h) (fun r20 M19 hM19 H locs hB _ hS => ?_)
          obtain ⟨hr20, hM19⟩ := hM19
          refine b_mI (b_runV (As := [.int r20]) (rest := []) ⟨hx, hb, hml, hown, hts⟩ (c_X0_tryStep l D E o M19 13 r20 isG_13) (cwV 1 hts gX6_simulateTurn_X0_tryStep rfl rfl rfl (by decide +kernel) ⟨Nat.le_of_ble_eq_true rfl, Nat.le_of_ble_eq_true rfl⟩) hK (bk_recv hK.1 hB isG_13.1 rfl) hB rfl hl rfl (Nat.le_of_ble_eq_true rfl) dX6_simulateTurn_120 ⟨Nat.zero_le _, Nat.zero_le _⟩) hS (fun q h => h) (fun r22 M21 hM21 H locs hB _ hS => ?_)
          obtain ⟨hr22, hM21⟩ := hM21
          refine lv_pop hx hb dX6_simulateTurn_123 rfl ?_
          have e23 := p_X6_simulateTurn_e23 M x1 x11 hx11.symm x12 hx12.symm r13 hr13.symm c14 r15 hr15.symm c16 c17 c18 r20 hr20.symm M19 hM19.symm r22 hr22.symm M21 hM21.symm
          exact b_vret hx hb hr hlocks hS ⟨rfl, _, e23.symm, hB⟩ dX6_simulateTurn_124
        · refine lv_aload_n hx hb dX6_simulateTurn_91 rfl (lv_at hl 2 rfl) ?_
          refine b_get (D := D) (E := E) (L := LRM) (o := o) (M := M) (v := .ref (o + 13)) (C := RX6) (T := TX6) (N := 7) hx hb hts hinX6 hown hK.1 hB 0 lay_0 rfl 2 (by decide) (hts (.fieldLink RX6 23 "RiverMeeting" "trial" "LRiverMeeting$Game;") (List.mem_of_getElem? (i := 1) rfl)) (fun _ h9 => h9) rfl dX6_simulateTurn_92 ?_
          refine lv_iload_n hx hb dX6_simulateTurn_95 rfl (lv_at hl 1 rfl) ?_
          refine lv_iconst (v := 3) hx hb dX6_simulateTurn_96 (by decide) ?_
          refine lv_irem hx hb dX6_simulateTurn_97 (by decide) ?_
          refine b_mI (b_runV (As := [.int (x11 - x11 / 3 * 3)]) (rest := []) ⟨hx, hb, hml, hown, hts⟩ (c_X0_tryStep l D E o M 13 (x11 - x11 / 3 * 3) isG_13) (cwV 1 hts gX6_simulateTurn_X0_tryStep rfl rfl rfl (by decide +kernel) ⟨Nat.le_of_ble_eq_true rfl, Nat.le_of_ble_eq_true rfl⟩) hK (bk_recv hK.1 hB isG_13.1 rfl) hB rfl hl rfl (Nat.le_of_ble_eq_true rfl) dX6_simulateTurn_98 ⟨Nat.zero_le _, Nat.zero_le _⟩) hS (fun q h => h) (fun r25 M24 hM24 H locs hB _ hS => ?_)
          obtain ⟨hr25, hM24⟩ := hM24
          refine lv_pop hx hb dX6_simulateTurn_101 rfl ?_
          refine lv_goto (tgt := 124) hx hb dX6_simulateTurn_102 (by decide) ?_
          have e26 := p_X6_simulateTurn_e26 M x1 x11 hx11.symm x12 hx12.symm r13 hr13.symm c14 r15 hr15.symm c16 c17 c18 r25 hr25.symm M24 hM24.symm
          exact b_vret hx hb hr hlocks hS ⟨rfl, _, e26.symm, hB⟩ dX6_simulateTurn_124
      · refine lv_aload_n hx hb dX6_simulateTurn_57 rfl (lv_at hl 2 rfl) ?_
        refine b_get (D := D) (E := E) (L := LRM) (o := o) (M := M) (v := .ref (o + 13)) (C := RX6) (T := TX6) (N := 7) hx hb hts hinX6 hown hK.1 hB 0 lay_0 rfl 2 (by decide) (hts (.fieldLink RX6 23 "RiverMeeting" "trial" "LRiverMeeting$Game;") (List.mem_of_getElem? (i := 1) rfl)) (fun _ h9 => h9) rfl dX6_simulateTurn_58 ?_
        refine lv_iload_n hx hb dX6_simulateTurn_61 rfl (lv_at hl 1 rfl) ?_
        refine lv_bipush (v := 8) hx hb dX6_simulateTurn_62 (by decide) ?_
        refine lv_irem hx hb dX6_simulateTurn_64 (by decide) ?_
        refine lv_iload_n hx hb dX6_simulateTurn_65 rfl (lv_at hl 1 rfl) ?_
        refine lv_bipush (v := 8) hx hb dX6_simulateTurn_66 (by decide) ?_
        refine lv_idiv hx hb dX6_simulateTurn_68 (by decide) ?_
        refine lv_bipush (v := 8) hx hb dX6_simulateTurn_69 (by decide) ?_
        refine lv_irem hx hb dX6_simulateTurn_71 (by decide) ?_
        refine b_pI (b_runS (As := [.int (x11 - x11 / 8 * 8), .int ((x11 / 8) - (x11 / 8) / 8 * 8)]) (rest := [.ref (o + 13)]) ⟨hx, hb, hml, hown, hts⟩ (c_X6_cellAt l D E (x11 - x11 / 8 * 8) ((x11 / 8) - (x11 / 8) / 8 * 8)) (va_cwS 2 hts gX6_simulateTurn_X6_cellAt rfl rfl rfl (by decide +kernel) ⟨Nat.le_of_ble_eq_true rfl, Nat.le_of_ble_eq_true rfl⟩) hK trivial rfl hl rfl (Nat.le_of_ble_eq_true rfl) dX6_simulateTurn_72 ⟨Nat.zero_le _, Nat.zero_le _⟩) hS (fun r27 hr27 locs hS => ?_)
        refine lv_aload_n hx hb dX6_simulateTurn_75 rfl (lv_at hl 2 rfl) ?_
        refine b_get (D := D) (E := E) (L := LRM) (o := o) (M := M) (v := .ref (o + 23)) (C := RX6) (T := TX6) (N := 7) hx hb hts hinX6 hown hK.1 hB 0 lay_0 rfl 3 (by decide) (hts (.fieldLink RX6 29 "RiverMeeting" "ways" "LRiverMeeting$Ways;") (List.mem_of_getElem? (i := 2) rfl)) (fun _ h9 => h9) rfl dX6_simulateTurn_76 ?_
        refine b_mI (b_runV (As := [.int r27, .ref (o + 23)]) (rest := []) ⟨hx, hb, hml, hown, hts⟩ (c_X0_tryDam l D E o M 13 r27 isG_13) (cwV 2 hts gX6_simulateTurn_X0_tryDam rfl rfl rfl (by decide +kernel) ⟨Nat.le_of_ble_eq_true rfl, Nat.le_of_ble_eq_true rfl⟩) hK (bk_recv hK.1 hB isG_13.1 rfl) hB rfl hl rfl (Nat.le_of_ble_eq_true rfl) dX6_simulateTurn_79 ⟨Nat.zero_le _, Nat.zero_le _⟩) hS (fun q h => h) (fun r29 M28 hM28 H locs hB _ hS => ?_)
        obtain ⟨hr29, hM28⟩ := hM28
        refine lv_pop hx hb dX6_simulateTurn_82 rfl ?_
        refine lv_goto (tgt := 124) hx hb dX6_simulateTurn_83 (by decide) ?_
        have e30 := p_X6_simulateTurn_e30 M x1 x11 hx11.symm x12 hx12.symm r13 hr13.symm c14 r15 hr15.symm c16 c17 r27 hr27.symm r29 hr29.symm M28 hM28.symm
        exact b_vret hx hb hr hlocks hS ⟨rfl, _, e30.symm, hB⟩ dX6_simulateTurn_124
    · refine lv_aload_n hx hb dX6_simulateTurn_42 rfl (lv_at hl 2 rfl) ?_
      refine b_get (D := D) (E := E) (L := LRM) (o := o) (M := M) (v := .ref (o + 13)) (C := RX6) (T := TX6) (N := 7) hx hb hts hinX6 hown hK.1 hB 0 lay_0 rfl 2 (by decide) (hts (.fieldLink RX6 23 "RiverMeeting" "trial" "LRiverMeeting$Game;") (List.mem_of_getElem? (i := 1) rfl)) (fun _ h9 => h9) rfl dX6_simulateTurn_43 ?_
      refine b_mI (b_runV (As := []) (rest := []) ⟨hx, hb, hml, hown, hts⟩ (c_X0_washAway l D E o M 13 isG_13) (cwV 0 hts gX6_simulateTurn_X0_washAway rfl rfl rfl (by decide +kernel) ⟨Nat.le_of_ble_eq_true rfl, Nat.le_of_ble_eq_true rfl⟩) hK (bk_recv hK.1 hB isG_13.1 rfl) hB rfl hl rfl (Nat.le_of_ble_eq_true rfl) dX6_simulateTurn_46 ⟨Nat.zero_le _, Nat.zero_le _⟩) hS (fun q h => h) (fun r32 M31 hM31 H locs hB _ hS => ?_)
      obtain ⟨hr32, hM31⟩ := hM31
      refine lv_pop hx hb dX6_simulateTurn_49 rfl ?_
      refine lv_goto (tgt := 124) hx hb dX6_simulateTurn_50 (by decide) ?_
      have e33 := p_X6_simulateTurn_e33 M x1 x11 hx11.symm x12 hx12.symm r13 hr13.symm c14 r15 hr15.symm c16 r32 hr32.symm M31 hM31.symm
      exact b_vret hx hb hr hlocks hS ⟨rfl, _, e33.symm, hB⟩ dX6_simulateTurn_124
  · refine lv_aload_n hx hb dX6_simulateTurn_20 rfl (lv_at hl 2 rfl) ?_
    refine b_get (D := D) (E := E) (L := LRM) (o := o) (M := M) (v := .ref (o + 13)) (C := RX6) (T := TX6) (N := 7) hx hb hts hinX6 hown hK.1 hB 0 lay_0 rfl 2 (by decide) (hts (.fieldLink RX6 23 "RiverMeeting" "trial" "LRiverMeeting$Game;") (List.mem_of_getElem? (i := 1) rfl)) (fun _ h9 => h9) rfl dX6_simulateTurn_21 ?_
    refine lv_iload_n hx hb dX6_simulateTurn_24 rfl (lv_at hl 1 rfl) ?_
    refine lv_i2l hx hb dX6_simulateTurn_25 rfl ?_
    refine b_mV (b_runV (As := [.long x11.toInt64]) (rest := []) ⟨hx, hb, hml, hown, hts⟩ (c_X0_beginGame l D E o M 13 x11.toInt64 isG_13) (cwV 1 hts gX6_simulateTurn_X0_beginGame rfl rfl rfl (by decide +kernel) ⟨Nat.le_of_ble_eq_true rfl, Nat.le_of_ble_eq_true rfl⟩) hK (bk_recv hK.1 hB isG_13.1 rfl) hB rfl hl rfl (Nat.le_of_ble_eq_true rfl) dX6_simulateTurn_26 ⟨Nat.zero_le _, Nat.zero_le _⟩) hS (fun q h => h) (fun M34 hM34 H locs hB _ hS => ?_)
    refine lv_goto (tgt := 124) hx hb dX6_simulateTurn_29 (by decide) ?_
    have e35 := p_X6_simulateTurn_e35 M x1 x11 hx11.symm x12 hx12.symm r13 hr13.symm c14 M34 hM34.symm
    exact b_vret hx hb hr hlocks hS ⟨rfl, _, e35.symm, hB⟩ dX6_simulateTurn_124
def f_X6_doGroup (M : bM) (x1 : Int32) : Int32 × bM := (let x11 : Int32 := ((x1 / 100) - (x1 / 100) / 10 * 10); (let x12 : Int32 := ((x1 / 10) - (x1 / 10) / 10 * 10); (let x13 : Int32 := (x1 - x1 / 10 * 10); (let x14 : Int32 := (x1 - x1 / 100 * 100); (if (x1 / 1000) = 1 then (if x11 = 0 then (let M17 : bM := f_X0_beginGame M 13 x14.toInt64; (1, M17)) else (0, M)) else (if (x1 / 1000) = 2 then (if x11 = 0 then (if x12 = 0 then (let r26 : Int32 := (f_X0_stepIfPossible M 13 x13).1; (let M25 : bM := (f_X0_stepIfPossible M 13 x13).2; (if r26 = 0 then (0, M25) else (1, M25)))) else (0, M)) else (0, M)) else (if (x1 / 1000) = 3 then (if x11 = 0 then (let r33 : Int32 := f_X6_cellAt x12 x13; (let r35 : Int32 := (f_X0_damIfPossible M 13 r33).1; (let M34 : bM := (f_X0_damIfPossible M 13 r33).2; (if r35 = 0 then (0, M34) else (1, M34))))) else (0, M)) else (if (x1 / 1000) = 4 then (if x1 = 4000 then (let r43 : Int32 := (f_X0_floodIfPossible M 13).1; (let M42 : bM := (f_X0_floodIfPossible M 13).2; (if r43 = 0 then (0, M42) else (1, M42)))) else (0, M)) else (if (x1 / 1000) = 5 then (let r49 : Int32 := (f_X0_changeIfPossible M 13 x11 x14).1; (let M48 : bM := (f_X0_changeIfPossible M 13 x11 x14).2; (r49, M48))) else (if (x1 / 1000) = 6 then (if x11 = 0 then (if x12 = 0 then (let r57 : Int32 := (f_X6_followBest M x13).1; (let M56 : bM := (f_X6_followBest M x13).2; (if r57 = 0 then (0, M56) else (1, M56)))) else (0, M)) else (0, M)) else (if (x1 / 1000) = 7 then (let r62 : Int32 := f_X6_isPlayer x11; (if r62 = 0 then (0, M) else (let k66 : Nat := f_X0_sideOf M 13 x11; (if x14 < (M k66 4) then (0, M) else (1, M))))) else (if (x1 / 1000) = 8 then (if x11 = 0 then (if x12 = 0 then (let r75 : Int32 := f_X0_phase M 13; (if r75 = x13 then (1, M) else (0, M))) else (0, M)) else (0, M)) else (if (x1 / 1000) = 9 then (let r80 : Int32 := f_X6_isPlayer x11; (if r80 = 0 then (0, M) else (let k84 : Nat := f_X0_sideOf M 13 x11; (if (M k84 3) < x14 then (0, M) else (1, M))))) else (0, M))))))))))))))
theorem u_f_X6_doGroup (M : bM) (x1 : Int32) : f_X6_doGroup M x1 = (let x11 : Int32 := ((x1 / 100) - (x1 / 100) / 10 * 10); (let x12 : Int32 := ((x1 / 10) - (x1 / 10) / 10 * 10); (let x13 : Int32 := (x1 - x1 / 10 * 10); (let x14 : Int32 := (x1 - x1 / 100 * 100); (if (x1 / 1000) = 1 then (if x11 = 0 then (let M17 : bM := f_X0_beginGame M 13 x14.toInt64; (1, M17)) else (0, M)) else (if (x1 / 1000) = 2 then (if x11 = 0 then (if x12 = 0 then (let r26 : Int32 := (f_X0_stepIfPossible M 13 x13).1; (let M25 : bM := (f_X0_stepIfPossible M 13 x13).2; (if r26 = 0 then (0, M25) else (1, M25)))) else (0, M)) else (0, M)) else (if (x1 / 1000) = 3 then (if x11 = 0 then (let r33 : Int32 := f_X6_cellAt x12 x13; (let r35 : Int32 := (f_X0_damIfPossible M 13 r33).1; (let M34 : bM := (f_X0_damIfPossible M 13 r33).2; (if r35 = 0 then (0, M34) else (1, M34))))) else (0, M)) else (if (x1 / 1000) = 4 then (if x1 = 4000 then (let r43 : Int32 := (f_X0_floodIfPossible M 13).1; (let M42 : bM := (f_X0_floodIfPossible M 13).2; (if r43 = 0 then (0, M42) else (1, M42)))) else (0, M)) else (if (x1 / 1000) = 5 then (let r49 : Int32 := (f_X0_changeIfPossible M 13 x11 x14).1; (let M48 : bM := (f_X0_changeIfPossible M 13 x11 x14).2; (r49, M48))) else (if (x1 / 1000) = 6 then (if x11 = 0 then (if x12 = 0 then (let r57 : Int32 := (f_X6_followBest M x13).1; (let M56 : bM := (f_X6_followBest M x13).2; (if r57 = 0 then (0, M56) else (1, M56)))) else (0, M)) else (0, M)) else (if (x1 / 1000) = 7 then (let r62 : Int32 := f_X6_isPlayer x11; (if r62 = 0 then (0, M) else (let k66 : Nat := f_X0_sideOf M 13 x11; (if x14 < (M k66 4) then (0, M) else (1, M))))) else (if (x1 / 1000) = 8 then (if x11 = 0 then (if x12 = 0 then (let r75 : Int32 := f_X0_phase M 13; (if r75 = x13 then (1, M) else (0, M))) else (0, M)) else (0, M)) else (if (x1 / 1000) = 9 then (let r80 : Int32 := f_X6_isPlayer x11; (if r80 = 0 then (0, M) else (let k84 : Nat := f_X0_sideOf M 13 x11; (if (M k84 3) < x14 then (0, M) else (1, M))))) else (0, M)))))))))))))) := rfl
theorem p_X6_doGroup_e18 (M : bM) (x1 : Int32) (x11 : Int32) (hx11 : ((x1 / 100) - (x1 / 100) / 10 * 10) = x11) (x12 : Int32) (hx12 : ((x1 / 10) - (x1 / 10) / 10 * 10) = x12) (x13 : Int32) (hx13 : (x1 - x1 / 10 * 10) = x13) (x14 : Int32) (hx14 : (x1 - x1 / 100 * 100) = x14) (c15 : (x1 / 1000) = 1) (c16 : x11 = 0) (M17 : bM) (hM17 : f_X0_beginGame M 13 x14.toInt64 = M17) : f_X6_doGroup M x1 = (1, M17) := by subst hM17 hx14 hx13 hx12 hx11; exact Eq.trans (u_f_X6_doGroup M x1) (Eq.trans (if_pos c15) (if_pos c16))
theorem p_X6_doGroup_e19 (M : bM) (x1 : Int32) (x11 : Int32) (hx11 : ((x1 / 100) - (x1 / 100) / 10 * 10) = x11) (x12 : Int32) (hx12 : ((x1 / 10) - (x1 / 10) / 10 * 10) = x12) (x13 : Int32) (hx13 : (x1 - x1 / 10 * 10) = x13) (x14 : Int32) (hx14 : (x1 - x1 / 100 * 100) = x14) (c15 : (x1 / 1000) = 1) (c16 : ¬ x11 = 0) : f_X6_doGroup M x1 = (0, M) := by subst hx14 hx13 hx12 hx11; exact Eq.trans (u_f_X6_doGroup M x1) (Eq.trans (if_pos c15) (if_neg c16))
theorem p_X6_doGroup_e22 (M : bM) (x1 : Int32) (x11 : Int32) (hx11 : ((x1 / 100) - (x1 / 100) / 10 * 10) = x11) (x12 : Int32) (hx12 : ((x1 / 10) - (x1 / 10) / 10 * 10) = x12) (x13 : Int32) (hx13 : (x1 - x1 / 10 * 10) = x13) (x14 : Int32) (hx14 : (x1 - x1 / 100 * 100) = x14) (c15 : ¬ (x1 / 1000) = 1) (c20 : (x1 / 1000) = 2) (c21 : ¬ x11 = 0) : f_X6_doGroup M x1 = (0, M) := by subst hx14 hx13 hx12 hx11; exact Eq.trans (u_f_X6_doGroup M x1) (Eq.trans (if_neg c15) (Eq.trans (if_pos c20) (if_neg c21)))
theorem p_X6_doGroup_e24 (M : bM) (x1 : Int32) (x11 : Int32) (hx11 : ((x1 / 100) - (x1 / 100) / 10 * 10) = x11) (x12 : Int32) (hx12 : ((x1 / 10) - (x1 / 10) / 10 * 10) = x12) (x13 : Int32) (hx13 : (x1 - x1 / 10 * 10) = x13) (x14 : Int32) (hx14 : (x1 - x1 / 100 * 100) = x14) (c15 : ¬ (x1 / 1000) = 1) (c20 : (x1 / 1000) = 2) (c21 : x11 = 0) (c23 : ¬ x12 = 0) : f_X6_doGroup M x1 = (0, M) := by subst hx14 hx13 hx12 hx11; exact Eq.trans (u_f_X6_doGroup M x1) (Eq.trans (if_neg c15) (Eq.trans (if_pos c20) (Eq.trans (if_pos c21) (if_neg c23))))
theorem p_X6_doGroup_e28 (M : bM) (x1 : Int32) (x11 : Int32) (hx11 : ((x1 / 100) - (x1 / 100) / 10 * 10) = x11) (x12 : Int32) (hx12 : ((x1 / 10) - (x1 / 10) / 10 * 10) = x12) (x13 : Int32) (hx13 : (x1 - x1 / 10 * 10) = x13) (x14 : Int32) (hx14 : (x1 - x1 / 100 * 100) = x14) (c15 : ¬ (x1 / 1000) = 1) (c20 : (x1 / 1000) = 2) (c21 : x11 = 0) (c23 : x12 = 0) (r26 : Int32) (hr26 : (f_X0_stepIfPossible M 13 x13).1 = r26) (M25 : bM) (hM25 : (f_X0_stepIfPossible M 13 x13).2 = M25) (c27 : r26 = 0) : f_X6_doGroup M x1 = (0, M25) := by subst hM25 hr26 hx14 hx13 hx12 hx11; exact Eq.trans (u_f_X6_doGroup M x1) (Eq.trans (if_neg c15) (Eq.trans (if_pos c20) (Eq.trans (if_pos c21) (Eq.trans (if_pos c23) (if_pos c27)))))
theorem p_X6_doGroup_e29 (M : bM) (x1 : Int32) (x11 : Int32) (hx11 : ((x1 / 100) - (x1 / 100) / 10 * 10) = x11) (x12 : Int32) (hx12 : ((x1 / 10) - (x1 / 10) / 10 * 10) = x12) (x13 : Int32) (hx13 : (x1 - x1 / 10 * 10) = x13) (x14 : Int32) (hx14 : (x1 - x1 / 100 * 100) = x14) (c15 : ¬ (x1 / 1000) = 1) (c20 : (x1 / 1000) = 2) (c21 : x11 = 0) (c23 : x12 = 0) (r26 : Int32) (hr26 : (f_X0_stepIfPossible M 13 x13).1 = r26) (M25 : bM) (hM25 : (f_X0_stepIfPossible M 13 x13).2 = M25) (c27 : ¬ r26 = 0) : f_X6_doGroup M x1 = (1, M25) := by subst hM25 hr26 hx14 hx13 hx12 hx11; exact Eq.trans (u_f_X6_doGroup M x1) (Eq.trans (if_neg c15) (Eq.trans (if_pos c20) (Eq.trans (if_pos c21) (Eq.trans (if_pos c23) (if_neg c27)))))
theorem p_X6_doGroup_e32 (M : bM) (x1 : Int32) (x11 : Int32) (hx11 : ((x1 / 100) - (x1 / 100) / 10 * 10) = x11) (x12 : Int32) (hx12 : ((x1 / 10) - (x1 / 10) / 10 * 10) = x12) (x13 : Int32) (hx13 : (x1 - x1 / 10 * 10) = x13) (x14 : Int32) (hx14 : (x1 - x1 / 100 * 100) = x14) (c15 : ¬ (x1 / 1000) = 1) (c20 : ¬ (x1 / 1000) = 2) (c30 : (x1 / 1000) = 3) (c31 : ¬ x11 = 0) : f_X6_doGroup M x1 = (0, M) := by subst hx14 hx13 hx12 hx11; exact Eq.trans (u_f_X6_doGroup M x1) (Eq.trans (if_neg c15) (Eq.trans (if_neg c20) (Eq.trans (if_pos c30) (if_neg c31))))
theorem p_X6_doGroup_e37 (M : bM) (x1 : Int32) (x11 : Int32) (hx11 : ((x1 / 100) - (x1 / 100) / 10 * 10) = x11) (x12 : Int32) (hx12 : ((x1 / 10) - (x1 / 10) / 10 * 10) = x12) (x13 : Int32) (hx13 : (x1 - x1 / 10 * 10) = x13) (x14 : Int32) (hx14 : (x1 - x1 / 100 * 100) = x14) (c15 : ¬ (x1 / 1000) = 1) (c20 : ¬ (x1 / 1000) = 2) (c30 : (x1 / 1000) = 3) (c31 : x11 = 0) (r33 : Int32) (hr33 : f_X6_cellAt x12 x13 = r33) (r35 : Int32) (hr35 : (f_X0_damIfPossible M 13 r33).1 = r35) (M34 : bM) (hM34 : (f_X0_damIfPossible M 13 r33).2 = M34) (c36 : r35 = 0) : f_X6_doGroup M x1 = (0, M34) := by subst hM34 hr35 hr33 hx14 hx13 hx12 hx11; exact Eq.trans (u_f_X6_doGroup M x1) (Eq.trans (if_neg c15) (Eq.trans (if_neg c20) (Eq.trans (if_pos c30) (Eq.trans (if_pos c31) (if_pos c36)))))
theorem p_X6_doGroup_e38 (M : bM) (x1 : Int32) (x11 : Int32) (hx11 : ((x1 / 100) - (x1 / 100) / 10 * 10) = x11) (x12 : Int32) (hx12 : ((x1 / 10) - (x1 / 10) / 10 * 10) = x12) (x13 : Int32) (hx13 : (x1 - x1 / 10 * 10) = x13) (x14 : Int32) (hx14 : (x1 - x1 / 100 * 100) = x14) (c15 : ¬ (x1 / 1000) = 1) (c20 : ¬ (x1 / 1000) = 2) (c30 : (x1 / 1000) = 3) (c31 : x11 = 0) (r33 : Int32) (hr33 : f_X6_cellAt x12 x13 = r33) (r35 : Int32) (hr35 : (f_X0_damIfPossible M 13 r33).1 = r35) (M34 : bM) (hM34 : (f_X0_damIfPossible M 13 r33).2 = M34) (c36 : ¬ r35 = 0) : f_X6_doGroup M x1 = (1, M34) := by subst hM34 hr35 hr33 hx14 hx13 hx12 hx11; exact Eq.trans (u_f_X6_doGroup M x1) (Eq.trans (if_neg c15) (Eq.trans (if_neg c20) (Eq.trans (if_pos c30) (Eq.trans (if_pos c31) (if_neg c36)))))
theorem p_X6_doGroup_e41 (M : bM) (x1 : Int32) (x11 : Int32) (hx11 : ((x1 / 100) - (x1 / 100) / 10 * 10) = x11) (x12 : Int32) (hx12 : ((x1 / 10) - (x1 / 10) / 10 * 10) = x12) (x13 : Int32) (hx13 : (x1 - x1 / 10 * 10) = x13) (x14 : Int32) (hx14 : (x1 - x1 / 100 * 100) = x14) (c15 : ¬ (x1 / 1000) = 1) (c20 : ¬ (x1 / 1000) = 2) (c30 : ¬ (x1 / 1000) = 3) (c39 : (x1 / 1000) = 4) (c40 : ¬ x1 = 4000) : f_X6_doGroup M x1 = (0, M) := by subst hx14 hx13 hx12 hx11; exact Eq.trans (u_f_X6_doGroup M x1) (Eq.trans (if_neg c15) (Eq.trans (if_neg c20) (Eq.trans (if_neg c30) (Eq.trans (if_pos c39) (if_neg c40)))))
theorem p_X6_doGroup_e45 (M : bM) (x1 : Int32) (x11 : Int32) (hx11 : ((x1 / 100) - (x1 / 100) / 10 * 10) = x11) (x12 : Int32) (hx12 : ((x1 / 10) - (x1 / 10) / 10 * 10) = x12) (x13 : Int32) (hx13 : (x1 - x1 / 10 * 10) = x13) (x14 : Int32) (hx14 : (x1 - x1 / 100 * 100) = x14) (c15 : ¬ (x1 / 1000) = 1) (c20 : ¬ (x1 / 1000) = 2) (c30 : ¬ (x1 / 1000) = 3) (c39 : (x1 / 1000) = 4) (c40 : x1 = 4000) (r43 : Int32) (hr43 : (f_X0_floodIfPossible M 13).1 = r43) (M42 : bM) (hM42 : (f_X0_floodIfPossible M 13).2 = M42) (c44 : r43 = 0) : f_X6_doGroup M x1 = (0, M42) := by subst hM42 hr43 hx14 hx13 hx12 hx11; exact Eq.trans (u_f_X6_doGroup M x1) (Eq.trans (if_neg c15) (Eq.trans (if_neg c20) (Eq.trans (if_neg c30) (Eq.trans (if_pos c39) (Eq.trans (if_pos c40) (if_pos c44))))))
theorem p_X6_doGroup_e46 (M : bM) (x1 : Int32) (x11 : Int32) (hx11 : ((x1 / 100) - (x1 / 100) / 10 * 10) = x11) (x12 : Int32) (hx12 : ((x1 / 10) - (x1 / 10) / 10 * 10) = x12) (x13 : Int32) (hx13 : (x1 - x1 / 10 * 10) = x13) (x14 : Int32) (hx14 : (x1 - x1 / 100 * 100) = x14) (c15 : ¬ (x1 / 1000) = 1) (c20 : ¬ (x1 / 1000) = 2) (c30 : ¬ (x1 / 1000) = 3) (c39 : (x1 / 1000) = 4) (c40 : x1 = 4000) (r43 : Int32) (hr43 : (f_X0_floodIfPossible M 13).1 = r43) (M42 : bM) (hM42 : (f_X0_floodIfPossible M 13).2 = M42) (c44 : ¬ r43 = 0) : f_X6_doGroup M x1 = (1, M42) := by subst hM42 hr43 hx14 hx13 hx12 hx11; exact Eq.trans (u_f_X6_doGroup M x1) (Eq.trans (if_neg c15) (Eq.trans (if_neg c20) (Eq.trans (if_neg c30) (Eq.trans (if_pos c39) (Eq.trans (if_pos c40) (if_neg c44))))))
theorem p_X6_doGroup_e50 (M : bM) (x1 : Int32) (x11 : Int32) (hx11 : ((x1 / 100) - (x1 / 100) / 10 * 10) = x11) (x12 : Int32) (hx12 : ((x1 / 10) - (x1 / 10) / 10 * 10) = x12) (x13 : Int32) (hx13 : (x1 - x1 / 10 * 10) = x13) (x14 : Int32) (hx14 : (x1 - x1 / 100 * 100) = x14) (c15 : ¬ (x1 / 1000) = 1) (c20 : ¬ (x1 / 1000) = 2) (c30 : ¬ (x1 / 1000) = 3) (c39 : ¬ (x1 / 1000) = 4) (c47 : (x1 / 1000) = 5) (r49 : Int32) (hr49 : (f_X0_changeIfPossible M 13 x11 x14).1 = r49) (M48 : bM) (hM48 : (f_X0_changeIfPossible M 13 x11 x14).2 = M48) : f_X6_doGroup M x1 = (r49, M48) := by subst hM48 hr49 hx14 hx13 hx12 hx11; exact Eq.trans (u_f_X6_doGroup M x1) (Eq.trans (if_neg c15) (Eq.trans (if_neg c20) (Eq.trans (if_neg c30) (Eq.trans (if_neg c39) (if_pos c47)))))
theorem p_X6_doGroup_e53 (M : bM) (x1 : Int32) (x11 : Int32) (hx11 : ((x1 / 100) - (x1 / 100) / 10 * 10) = x11) (x12 : Int32) (hx12 : ((x1 / 10) - (x1 / 10) / 10 * 10) = x12) (x13 : Int32) (hx13 : (x1 - x1 / 10 * 10) = x13) (x14 : Int32) (hx14 : (x1 - x1 / 100 * 100) = x14) (c15 : ¬ (x1 / 1000) = 1) (c20 : ¬ (x1 / 1000) = 2) (c30 : ¬ (x1 / 1000) = 3) (c39 : ¬ (x1 / 1000) = 4) (c47 : ¬ (x1 / 1000) = 5) (c51 : (x1 / 1000) = 6) (c52 : ¬ x11 = 0) : f_X6_doGroup M x1 = (0, M) := by subst hx14 hx13 hx12 hx11; exact Eq.trans (u_f_X6_doGroup M x1) (Eq.trans (if_neg c15) (Eq.trans (if_neg c20) (Eq.trans (if_neg c30) (Eq.trans (if_neg c39) (Eq.trans (if_neg c47) (Eq.trans (if_pos c51) (if_neg c52)))))))
theorem p_X6_doGroup_e55 (M : bM) (x1 : Int32) (x11 : Int32) (hx11 : ((x1 / 100) - (x1 / 100) / 10 * 10) = x11) (x12 : Int32) (hx12 : ((x1 / 10) - (x1 / 10) / 10 * 10) = x12) (x13 : Int32) (hx13 : (x1 - x1 / 10 * 10) = x13) (x14 : Int32) (hx14 : (x1 - x1 / 100 * 100) = x14) (c15 : ¬ (x1 / 1000) = 1) (c20 : ¬ (x1 / 1000) = 2) (c30 : ¬ (x1 / 1000) = 3) (c39 : ¬ (x1 / 1000) = 4) (c47 : ¬ (x1 / 1000) = 5) (c51 : (x1 / 1000) = 6) (c52 : x11 = 0) (c54 : ¬ x12 = 0) : f_X6_doGroup M x1 = (0, M) := by subst hx14 hx13 hx12 hx11; exact Eq.trans (u_f_X6_doGroup M x1) (Eq.trans (if_neg c15) (Eq.trans (if_neg c20) (Eq.trans (if_neg c30) (Eq.trans (if_neg c39) (Eq.trans (if_neg c47) (Eq.trans (if_pos c51) (Eq.trans (if_pos c52) (if_neg c54))))))))
theorem p_X6_doGroup_e59 (M : bM) (x1 : Int32) (x11 : Int32) (hx11 : ((x1 / 100) - (x1 / 100) / 10 * 10) = x11) (x12 : Int32) (hx12 : ((x1 / 10) - (x1 / 10) / 10 * 10) = x12) (x13 : Int32) (hx13 : (x1 - x1 / 10 * 10) = x13) (x14 : Int32) (hx14 : (x1 - x1 / 100 * 100) = x14) (c15 : ¬ (x1 / 1000) = 1) (c20 : ¬ (x1 / 1000) = 2) (c30 : ¬ (x1 / 1000) = 3) (c39 : ¬ (x1 / 1000) = 4) (c47 : ¬ (x1 / 1000) = 5) (c51 : (x1 / 1000) = 6) (c52 : x11 = 0) (c54 : x12 = 0) (r57 : Int32) (hr57 : (f_X6_followBest M x13).1 = r57) (M56 : bM) (hM56 : (f_X6_followBest M x13).2 = M56) (c58 : r57 = 0) : f_X6_doGroup M x1 = (0, M56) := by subst hM56 hr57 hx14 hx13 hx12 hx11; exact Eq.trans (u_f_X6_doGroup M x1) (Eq.trans (if_neg c15) (Eq.trans (if_neg c20) (Eq.trans (if_neg c30) (Eq.trans (if_neg c39) (Eq.trans (if_neg c47) (Eq.trans (if_pos c51) (Eq.trans (if_pos c52) (Eq.trans (if_pos c54) (if_pos c58)))))))))
theorem p_X6_doGroup_e60 (M : bM) (x1 : Int32) (x11 : Int32) (hx11 : ((x1 / 100) - (x1 / 100) / 10 * 10) = x11) (x12 : Int32) (hx12 : ((x1 / 10) - (x1 / 10) / 10 * 10) = x12) (x13 : Int32) (hx13 : (x1 - x1 / 10 * 10) = x13) (x14 : Int32) (hx14 : (x1 - x1 / 100 * 100) = x14) (c15 : ¬ (x1 / 1000) = 1) (c20 : ¬ (x1 / 1000) = 2) (c30 : ¬ (x1 / 1000) = 3) (c39 : ¬ (x1 / 1000) = 4) (c47 : ¬ (x1 / 1000) = 5) (c51 : (x1 / 1000) = 6) (c52 : x11 = 0) (c54 : x12 = 0) (r57 : Int32) (hr57 : (f_X6_followBest M x13).1 = r57) (M56 : bM) (hM56 : (f_X6_followBest M x13).2 = M56) (c58 : ¬ r57 = 0) : f_X6_doGroup M x1 = (1, M56) := by subst hM56 hr57 hx14 hx13 hx12 hx11; exact Eq.trans (u_f_X6_doGroup M x1) (Eq.trans (if_neg c15) (Eq.trans (if_neg c20) (Eq.trans (if_neg c30) (Eq.trans (if_neg c39) (Eq.trans (if_neg c47) (Eq.trans (if_pos c51) (Eq.trans (if_pos c52) (Eq.trans (if_pos c54) (if_neg c58)))))))))
theorem p_X6_doGroup_e64 (M : bM) (x1 : Int32) (x11 : Int32) (hx11 : ((x1 / 100) - (x1 / 100) / 10 * 10) = x11) (x12 : Int32) (hx12 : ((x1 / 10) - (x1 / 10) / 10 * 10) = x12) (x13 : Int32) (hx13 : (x1 - x1 / 10 * 10) = x13) (x14 : Int32) (hx14 : (x1 - x1 / 100 * 100) = x14) (c15 : ¬ (x1 / 1000) = 1) (c20 : ¬ (x1 / 1000) = 2) (c30 : ¬ (x1 / 1000) = 3) (c39 : ¬ (x1 / 1000) = 4) (c47 : ¬ (x1 / 1000) = 5) (c51 : ¬ (x1 / 1000) = 6) (c61 : (x1 / 1000) = 7) (r62 : Int32) (hr62 : f_X6_isPlayer x11 = r62) (c63 : r62 = 0) : f_X6_doGroup M x1 = (0, M) := by subst hr62 hx14 hx13 hx12 hx11; exact Eq.trans (u_f_X6_doGroup M x1) (Eq.trans (if_neg c15) (Eq.trans (if_neg c20) (Eq.trans (if_neg c30) (Eq.trans (if_neg c39) (Eq.trans (if_neg c47) (Eq.trans (if_neg c51) (Eq.trans (if_pos c61) (if_pos c63))))))))
theorem p_X6_doGroup_e68 (M : bM) (x1 : Int32) (x11 : Int32) (hx11 : ((x1 / 100) - (x1 / 100) / 10 * 10) = x11) (x12 : Int32) (hx12 : ((x1 / 10) - (x1 / 10) / 10 * 10) = x12) (x13 : Int32) (hx13 : (x1 - x1 / 10 * 10) = x13) (x14 : Int32) (hx14 : (x1 - x1 / 100 * 100) = x14) (c15 : ¬ (x1 / 1000) = 1) (c20 : ¬ (x1 / 1000) = 2) (c30 : ¬ (x1 / 1000) = 3) (c39 : ¬ (x1 / 1000) = 4) (c47 : ¬ (x1 / 1000) = 5) (c51 : ¬ (x1 / 1000) = 6) (c61 : (x1 / 1000) = 7) (r62 : Int32) (hr62 : f_X6_isPlayer x11 = r62) (c63 : ¬ r62 = 0) (k66 : Nat) (hk66 : f_X0_sideOf M 13 x11 = k66) (c67 : x14 < (M k66 4)) : f_X6_doGroup M x1 = (0, M) := by subst hk66 hr62 hx14 hx13 hx12 hx11; exact Eq.trans (u_f_X6_doGroup M x1) (Eq.trans (if_neg c15) (Eq.trans (if_neg c20) (Eq.trans (if_neg c30) (Eq.trans (if_neg c39) (Eq.trans (if_neg c47) (Eq.trans (if_neg c51) (Eq.trans (if_pos c61) (Eq.trans (if_neg c63) (if_pos c67)))))))))
theorem p_X6_doGroup_e69 (M : bM) (x1 : Int32) (x11 : Int32) (hx11 : ((x1 / 100) - (x1 / 100) / 10 * 10) = x11) (x12 : Int32) (hx12 : ((x1 / 10) - (x1 / 10) / 10 * 10) = x12) (x13 : Int32) (hx13 : (x1 - x1 / 10 * 10) = x13) (x14 : Int32) (hx14 : (x1 - x1 / 100 * 100) = x14) (c15 : ¬ (x1 / 1000) = 1) (c20 : ¬ (x1 / 1000) = 2) (c30 : ¬ (x1 / 1000) = 3) (c39 : ¬ (x1 / 1000) = 4) (c47 : ¬ (x1 / 1000) = 5) (c51 : ¬ (x1 / 1000) = 6) (c61 : (x1 / 1000) = 7) (r62 : Int32) (hr62 : f_X6_isPlayer x11 = r62) (c63 : ¬ r62 = 0) (k66 : Nat) (hk66 : f_X0_sideOf M 13 x11 = k66) (c67 : ¬ x14 < (M k66 4)) : f_X6_doGroup M x1 = (1, M) := by subst hk66 hr62 hx14 hx13 hx12 hx11; exact Eq.trans (u_f_X6_doGroup M x1) (Eq.trans (if_neg c15) (Eq.trans (if_neg c20) (Eq.trans (if_neg c30) (Eq.trans (if_neg c39) (Eq.trans (if_neg c47) (Eq.trans (if_neg c51) (Eq.trans (if_pos c61) (Eq.trans (if_neg c63) (if_neg c67)))))))))
theorem p_X6_doGroup_e72 (M : bM) (x1 : Int32) (x11 : Int32) (hx11 : ((x1 / 100) - (x1 / 100) / 10 * 10) = x11) (x12 : Int32) (hx12 : ((x1 / 10) - (x1 / 10) / 10 * 10) = x12) (x13 : Int32) (hx13 : (x1 - x1 / 10 * 10) = x13) (x14 : Int32) (hx14 : (x1 - x1 / 100 * 100) = x14) (c15 : ¬ (x1 / 1000) = 1) (c20 : ¬ (x1 / 1000) = 2) (c30 : ¬ (x1 / 1000) = 3) (c39 : ¬ (x1 / 1000) = 4) (c47 : ¬ (x1 / 1000) = 5) (c51 : ¬ (x1 / 1000) = 6) (c61 : ¬ (x1 / 1000) = 7) (c70 : (x1 / 1000) = 8) (c71 : ¬ x11 = 0) : f_X6_doGroup M x1 = (0, M) := by subst hx14 hx13 hx12 hx11; exact Eq.trans (u_f_X6_doGroup M x1) (Eq.trans (if_neg c15) (Eq.trans (if_neg c20) (Eq.trans (if_neg c30) (Eq.trans (if_neg c39) (Eq.trans (if_neg c47) (Eq.trans (if_neg c51) (Eq.trans (if_neg c61) (Eq.trans (if_pos c70) (if_neg c71)))))))))
theorem p_X6_doGroup_e74 (M : bM) (x1 : Int32) (x11 : Int32) (hx11 : ((x1 / 100) - (x1 / 100) / 10 * 10) = x11) (x12 : Int32) (hx12 : ((x1 / 10) - (x1 / 10) / 10 * 10) = x12) (x13 : Int32) (hx13 : (x1 - x1 / 10 * 10) = x13) (x14 : Int32) (hx14 : (x1 - x1 / 100 * 100) = x14) (c15 : ¬ (x1 / 1000) = 1) (c20 : ¬ (x1 / 1000) = 2) (c30 : ¬ (x1 / 1000) = 3) (c39 : ¬ (x1 / 1000) = 4) (c47 : ¬ (x1 / 1000) = 5) (c51 : ¬ (x1 / 1000) = 6) (c61 : ¬ (x1 / 1000) = 7) (c70 : (x1 / 1000) = 8) (c71 : x11 = 0) (c73 : ¬ x12 = 0) : f_X6_doGroup M x1 = (0, M) := by subst hx14 hx13 hx12 hx11; exact Eq.trans (u_f_X6_doGroup M x1) (Eq.trans (if_neg c15) (Eq.trans (if_neg c20) (Eq.trans (if_neg c30) (Eq.trans (if_neg c39) (Eq.trans (if_neg c47) (Eq.trans (if_neg c51) (Eq.trans (if_neg c61) (Eq.trans (if_pos c70) (Eq.trans (if_pos c71) (if_neg c73))))))))))
theorem p_X6_doGroup_e77 (M : bM) (x1 : Int32) (x11 : Int32) (hx11 : ((x1 / 100) - (x1 / 100) / 10 * 10) = x11) (x12 : Int32) (hx12 : ((x1 / 10) - (x1 / 10) / 10 * 10) = x12) (x13 : Int32) (hx13 : (x1 - x1 / 10 * 10) = x13) (x14 : Int32) (hx14 : (x1 - x1 / 100 * 100) = x14) (c15 : ¬ (x1 / 1000) = 1) (c20 : ¬ (x1 / 1000) = 2) (c30 : ¬ (x1 / 1000) = 3) (c39 : ¬ (x1 / 1000) = 4) (c47 : ¬ (x1 / 1000) = 5) (c51 : ¬ (x1 / 1000) = 6) (c61 : ¬ (x1 / 1000) = 7) (c70 : (x1 / 1000) = 8) (c71 : x11 = 0) (c73 : x12 = 0) (r75 : Int32) (hr75 : f_X0_phase M 13 = r75) (c76 : ¬ r75 = x13) : f_X6_doGroup M x1 = (0, M) := by subst hr75 hx14 hx13 hx12 hx11; exact Eq.trans (u_f_X6_doGroup M x1) (Eq.trans (if_neg c15) (Eq.trans (if_neg c20) (Eq.trans (if_neg c30) (Eq.trans (if_neg c39) (Eq.trans (if_neg c47) (Eq.trans (if_neg c51) (Eq.trans (if_neg c61) (Eq.trans (if_pos c70) (Eq.trans (if_pos c71) (Eq.trans (if_pos c73) (if_neg c76)))))))))))
theorem p_X6_doGroup_e78 (M : bM) (x1 : Int32) (x11 : Int32) (hx11 : ((x1 / 100) - (x1 / 100) / 10 * 10) = x11) (x12 : Int32) (hx12 : ((x1 / 10) - (x1 / 10) / 10 * 10) = x12) (x13 : Int32) (hx13 : (x1 - x1 / 10 * 10) = x13) (x14 : Int32) (hx14 : (x1 - x1 / 100 * 100) = x14) (c15 : ¬ (x1 / 1000) = 1) (c20 : ¬ (x1 / 1000) = 2) (c30 : ¬ (x1 / 1000) = 3) (c39 : ¬ (x1 / 1000) = 4) (c47 : ¬ (x1 / 1000) = 5) (c51 : ¬ (x1 / 1000) = 6) (c61 : ¬ (x1 / 1000) = 7) (c70 : (x1 / 1000) = 8) (c71 : x11 = 0) (c73 : x12 = 0) (r75 : Int32) (hr75 : f_X0_phase M 13 = r75) (c76 : r75 = x13) : f_X6_doGroup M x1 = (1, M) := by subst hr75 hx14 hx13 hx12 hx11; exact Eq.trans (u_f_X6_doGroup M x1) (Eq.trans (if_neg c15) (Eq.trans (if_neg c20) (Eq.trans (if_neg c30) (Eq.trans (if_neg c39) (Eq.trans (if_neg c47) (Eq.trans (if_neg c51) (Eq.trans (if_neg c61) (Eq.trans (if_pos c70) (Eq.trans (if_pos c71) (Eq.trans (if_pos c73) (if_pos c76)))))))))))
theorem p_X6_doGroup_e82 (M : bM) (x1 : Int32) (x11 : Int32) (hx11 : ((x1 / 100) - (x1 / 100) / 10 * 10) = x11) (x12 : Int32) (hx12 : ((x1 / 10) - (x1 / 10) / 10 * 10) = x12) (x13 : Int32) (hx13 : (x1 - x1 / 10 * 10) = x13) (x14 : Int32) (hx14 : (x1 - x1 / 100 * 100) = x14) (c15 : ¬ (x1 / 1000) = 1) (c20 : ¬ (x1 / 1000) = 2) (c30 : ¬ (x1 / 1000) = 3) (c39 : ¬ (x1 / 1000) = 4) (c47 : ¬ (x1 / 1000) = 5) (c51 : ¬ (x1 / 1000) = 6) (c61 : ¬ (x1 / 1000) = 7) (c70 : ¬ (x1 / 1000) = 8) (c79 : (x1 / 1000) = 9) (r80 : Int32) (hr80 : f_X6_isPlayer x11 = r80) (c81 : r80 = 0) : f_X6_doGroup M x1 = (0, M) := by subst hr80 hx14 hx13 hx12 hx11; exact Eq.trans (u_f_X6_doGroup M x1) (Eq.trans (if_neg c15) (Eq.trans (if_neg c20) (Eq.trans (if_neg c30) (Eq.trans (if_neg c39) (Eq.trans (if_neg c47) (Eq.trans (if_neg c51) (Eq.trans (if_neg c61) (Eq.trans (if_neg c70) (Eq.trans (if_pos c79) (if_pos c81))))))))))
theorem p_X6_doGroup_e86 (M : bM) (x1 : Int32) (x11 : Int32) (hx11 : ((x1 / 100) - (x1 / 100) / 10 * 10) = x11) (x12 : Int32) (hx12 : ((x1 / 10) - (x1 / 10) / 10 * 10) = x12) (x13 : Int32) (hx13 : (x1 - x1 / 10 * 10) = x13) (x14 : Int32) (hx14 : (x1 - x1 / 100 * 100) = x14) (c15 : ¬ (x1 / 1000) = 1) (c20 : ¬ (x1 / 1000) = 2) (c30 : ¬ (x1 / 1000) = 3) (c39 : ¬ (x1 / 1000) = 4) (c47 : ¬ (x1 / 1000) = 5) (c51 : ¬ (x1 / 1000) = 6) (c61 : ¬ (x1 / 1000) = 7) (c70 : ¬ (x1 / 1000) = 8) (c79 : (x1 / 1000) = 9) (r80 : Int32) (hr80 : f_X6_isPlayer x11 = r80) (c81 : ¬ r80 = 0) (k84 : Nat) (hk84 : f_X0_sideOf M 13 x11 = k84) (c85 : (M k84 3) < x14) : f_X6_doGroup M x1 = (0, M) := by subst hk84 hr80 hx14 hx13 hx12 hx11; exact Eq.trans (u_f_X6_doGroup M x1) (Eq.trans (if_neg c15) (Eq.trans (if_neg c20) (Eq.trans (if_neg c30) (Eq.trans (if_neg c39) (Eq.trans (if_neg c47) (Eq.trans (if_neg c51) (Eq.trans (if_neg c61) (Eq.trans (if_neg c70) (Eq.trans (if_pos c79) (Eq.trans (if_neg c81) (if_pos c85)))))))))))
theorem p_X6_doGroup_e87 (M : bM) (x1 : Int32) (x11 : Int32) (hx11 : ((x1 / 100) - (x1 / 100) / 10 * 10) = x11) (x12 : Int32) (hx12 : ((x1 / 10) - (x1 / 10) / 10 * 10) = x12) (x13 : Int32) (hx13 : (x1 - x1 / 10 * 10) = x13) (x14 : Int32) (hx14 : (x1 - x1 / 100 * 100) = x14) (c15 : ¬ (x1 / 1000) = 1) (c20 : ¬ (x1 / 1000) = 2) (c30 : ¬ (x1 / 1000) = 3) (c39 : ¬ (x1 / 1000) = 4) (c47 : ¬ (x1 / 1000) = 5) (c51 : ¬ (x1 / 1000) = 6) (c61 : ¬ (x1 / 1000) = 7) (c70 : ¬ (x1 / 1000) = 8) (c79 : (x1 / 1000) = 9) (r80 : Int32) (hr80 : f_X6_isPlayer x11 = r80) (c81 : ¬ r80 = 0) (k84 : Nat) (hk84 : f_X0_sideOf M 13 x11 = k84) (c85 : ¬ (M k84 3) < x14) : f_X6_doGroup M x1 = (1, M) := by subst hk84 hr80 hx14 hx13 hx12 hx11; exact Eq.trans (u_f_X6_doGroup M x1) (Eq.trans (if_neg c15) (Eq.trans (if_neg c20) (Eq.trans (if_neg c30) (Eq.trans (if_neg c39) (Eq.trans (if_neg c47) (Eq.trans (if_neg c51) (Eq.trans (if_neg c61) (Eq.trans (if_neg c70) (Eq.trans (if_pos c79) (Eq.trans (if_neg c81) (if_neg c85)))))))))))
theorem p_X6_doGroup_e88 (M : bM) (x1 : Int32) (x11 : Int32) (hx11 : ((x1 / 100) - (x1 / 100) / 10 * 10) = x11) (x12 : Int32) (hx12 : ((x1 / 10) - (x1 / 10) / 10 * 10) = x12) (x13 : Int32) (hx13 : (x1 - x1 / 10 * 10) = x13) (x14 : Int32) (hx14 : (x1 - x1 / 100 * 100) = x14) (c15 : ¬ (x1 / 1000) = 1) (c20 : ¬ (x1 / 1000) = 2) (c30 : ¬ (x1 / 1000) = 3) (c39 : ¬ (x1 / 1000) = 4) (c47 : ¬ (x1 / 1000) = 5) (c51 : ¬ (x1 / 1000) = 6) (c61 : ¬ (x1 / 1000) = 7) (c70 : ¬ (x1 / 1000) = 8) (c79 : ¬ (x1 / 1000) = 9) : f_X6_doGroup M x1 = (0, M) := by subst hx14 hx13 hx12 hx11; exact Eq.trans (u_f_X6_doGroup M x1) (Eq.trans (if_neg c15) (Eq.trans (if_neg c20) (Eq.trans (if_neg c30) (Eq.trans (if_neg c39) (Eq.trans (if_neg c47) (Eq.trans (if_neg c51) (Eq.trans (if_neg c61) (Eq.trans (if_neg c70) (if_neg c79)))))))))
set_option maxHeartbeats 4000000 in
set_option maxRecDepth 100000 in
theorem c_X6_doGroup (l : Launch) (D : va_G) (E : Nat → ClassId) (o : Nat) (M : bM) (x1 : Int32) : Met l yX6_doGroup wsX6_doGroup (rmF 5) (bPc D E [.ref (o + 0), .int x1] (fun H => bk D E LRM o M H)) (bQ (aI fun r H => ∃ M1 : bM, (r = (f_X6_doGroup M x1).1 ∧ M1 = (f_X6_doGroup M x1).2) ∧ bk D E LRM o M1 H) (rA o)) 0 0 (rA o) := by
  refine Met.ofW (cc := cX6_doGroup) (maxL := 6) (ret := (some .boolean)) (by decide) rfl ?_
  intro p e s m args below meth c s₁ B hml hv
  obtain ⟨rfl, hB, hK⟩ := hv
  have hx := B.exec
  have hb := B.bytes
  have hr := B.returns
  have hts := atoms_spec (ws := wsX6_doGroup) B.pre
  have hown : s.vm.findClass RX6 = some m.cls := findClass_of_methodNamed B.named
  have hlocks := B.notSynchronized
  have hS : bS (rA o) s.heap s.heap [] := bS.rf
  have hl := lv_entry ([.ref (o + 0), .int x1]) (n := 6) (Nat.le_of_ble_eq_true rfl)
  rw [lg_entry_eq]
  generalize (lg_sl ([.ref (o + 0), .int x1]) ++ List.replicate (6 - (lg_sl ([.ref (o + 0), .int x1])).length) Slot.unset).toArray = ls at hl ⊢
  have hl : lv_has ls 6 [(0, .ref (o + 0)), (1, .int x1)] := hl
  have hB : bk D E LRM o M s.heap := hB
  have hinX2 : ∀ w ∈ wsX20, w ∈ wsX6_doGroup := by decide +kernel
  have hinX6 : ∀ w ∈ wsX60, w ∈ wsX6_doGroup := by decide +kernel
  refine lv_iload_n hx hb dX6_doGroup_0 rfl (lv_at hl 1 rfl) ?_
  refine lv_bipush (v := 100) hx hb dX6_doGroup_1 (by decide) ?_
  refine lv_idiv hx hb dX6_doGroup_3 (by decide) ?_
  refine lv_bipush (v := 10) hx hb dX6_doGroup_4 (by decide) ?_
  refine lv_irem hx hb dX6_doGroup_6 (by decide) ?_
  refine lv_topi (fun x11 hx11 => ?_)
  refine lv_istore_n (lv' := [(2, .int x11), (0, .ref (o + 0)), (1, .int x1)]) hx hb dX6_doGroup_7 rfl hl (by decide) rfl (fun ls hl => ?_)
  refine lv_iload_n hx hb dX6_doGroup_8 rfl (lv_at hl 2 rfl) ?_
  refine lv_bipush (v := 10) hx hb dX6_doGroup_9 (by decide) ?_
  refine lv_idiv hx hb dX6_doGroup_11 (by decide) ?_
  refine lv_bipush (v := 10) hx hb dX6_doGroup_12 (by decide) ?_
  refine lv_irem hx hb dX6_doGroup_14 (by decide) ?_
  refine lv_topi (fun x12 hx12 => ?_)
  refine lv_istore_n (lv' := [(3, .int x12), (2, .int x11), (0, .ref (o + 0)), (1, .int x1)]) hx hb dX6_doGroup_15 rfl hl (by decide) rfl (fun ls hl => ?_)
  refine lv_iload_n hx hb dX6_doGroup_16 rfl (lv_at hl 3 rfl) ?_
  refine lv_bipush (v := 10) hx hb dX6_doGroup_17 (by decide) ?_
  refine lv_irem hx hb dX6_doGroup_19 (by decide) ?_
  refine lv_topi (fun x13 hx13 => ?_)
  refine lv_istore (lv' := [(4, .int x13), (3, .int x12), (2, .int x11), (0, .ref (o + 0)), (1, .int x1)]) hx hb dX6_doGroup_20 hl (by decide) rfl (fun ls hl => ?_)
  refine lv_iload_n hx hb dX6_doGroup_22 rfl (lv_at hl 4 rfl) ?_
  refine lv_bipush (v := 100) hx hb dX6_doGroup_23 (by decide) ?_
  refine lv_irem hx hb dX6_doGroup_25 (by decide) ?_
  refine lv_topi (fun x14 hx14 => ?_)
  refine lv_istore (lv' := [(5, .int x14), (4, .int x13), (3, .int x12), (2, .int x11), (0, .ref (o + 0)), (1, .int x1)]) hx hb dX6_doGroup_26 hl (by decide) rfl (fun ls hl => ?_)
  refine lv_iload_n hx hb dX6_doGroup_28 rfl (lv_at hl 5 rfl) ?_
  refine lv_sipush (v := 1000) hx hb dX6_doGroup_29 (by decide) ?_
  refine lv_idiv hx hb dX6_doGroup_32 (by decide) ?_
  by_cases c15 : (x1 / 1000) = 1
  · refine b_tabI (tgt := 84) hx hb 1 dX6_doGroup_33 (by rw [c15]; rfl) (by decide) (by decide) rfl (by decide) ?_
    refine lv_iload_n hx hb dX6_doGroup_84 rfl (lv_at hl 3 rfl) ?_
    refine lv_if_eq (tgt := 90) hx hb dX6_doGroup_85 (by decide) (fun c16 => ?_) (fun c16 => ?_)
    · refine lv_aload_n hx hb dX6_doGroup_90 rfl (lv_at hl 4 rfl) ?_
      refine b_get (D := D) (E := E) (L := LRM) (o := o) (M := M) (v := .ref (o + 13)) (C := RX6) (T := TX6) (N := 7) hx hb hts hinX6 hown hK.1 hB 0 lay_0 rfl 2 (by decide) (hts (.fieldLink RX6 23 "RiverMeeting" "trial" "LRiverMeeting$Game;") (List.mem_of_getElem? (i := 1) rfl)) (fun _ h9 => h9) rfl dX6_doGroup_91 ?_
      refine lv_iload hx hb dX6_doGroup_94 (lv_at hl 0 rfl) ?_
      refine lv_i2l hx hb dX6_doGroup_96 rfl ?_
      refine b_mV (b_runV (As := [.long x14.toInt64]) (rest := []) ⟨hx, hb, hml, hown, hts⟩ (c_X0_beginGame l D E o M 13 x14.toInt64 isG_13) (cwV 1 hts gX6_doGroup_X0_beginGame rfl rfl rfl (by decide +kernel) ⟨Nat.le_of_ble_eq_true rfl, Nat.le_of_ble_eq_true rfl⟩) hK (bk_recv hK.1 hB isG_13.1 rfl) hB rfl hl rfl (Nat.le_of_ble_eq_true rfl) dX6_doGroup_97 ⟨Nat.zero_le _, Nat.zero_le _⟩) hS (fun q h => h) (fun M17 hM17 H locs hB _ hS => ?_)
      refine lv_iconst (v := 1) hx hb dX6_doGroup_100 (by decide) ?_
      have e18 := p_X6_doGroup_e18 M x1 x11 hx11.symm x12 hx12.symm x13 hx13.symm x14 hx14.symm c15 c16 M17 hM17.symm
      exact b_zret hx hb hr rfl hlocks hS ⟨_, rfl, _, ⟨(congrArg Prod.fst e18).symm, (congrArg Prod.snd e18).symm⟩, hB⟩ dX6_doGroup_101
    · refine lv_iconst (v := 0) hx hb dX6_doGroup_88 (by decide) ?_
      have e19 := p_X6_doGroup_e19 M x1 x11 hx11.symm x12 hx12.symm x13 hx13.symm x14 hx14.symm c15 c16
      exact b_zret hx hb hr rfl hlocks hS ⟨_, rfl, _, ⟨(congrArg Prod.fst e19).symm, (congrArg Prod.snd e19).symm⟩, hB⟩ dX6_doGroup_89
  by_cases c20 : (x1 / 1000) = 2
  · refine b_tabI (tgt := 102) hx hb 2 dX6_doGroup_33 (by rw [c20]; rfl) (by decide) (by decide) rfl (by decide) ?_
    refine lv_iload_n hx hb dX6_doGroup_102 rfl (lv_at hl 3 rfl) ?_
    refine lv_if_ne (tgt := 126) hx hb dX6_doGroup_103 (by decide) (fun c21 => ?_) (fun c21 => ?_)
    · refine lv_iconst (v := 0) hx hb dX6_doGroup_126 (by decide) ?_
      have e22 := p_X6_doGroup_e22 M x1 x11 hx11.symm x12 hx12.symm x13 hx13.symm x14 hx14.symm c15 c20 c21
      exact b_zret hx hb hr rfl hlocks hS ⟨_, rfl, _, ⟨(congrArg Prod.fst e22).symm, (congrArg Prod.snd e22).symm⟩, hB⟩ dX6_doGroup_127
    · refine lv_iload_n hx hb dX6_doGroup_106 rfl (lv_at hl 2 rfl) ?_
      refine lv_if_ne (tgt := 126) hx hb dX6_doGroup_107 (by decide) (fun c23 => ?_) (fun c23 => ?_)
      · refine lv_iconst (v := 0) hx hb dX6_doGroup_126 (by decide) ?_
        have e24 := p_X6_doGroup_e24 M x1 x11 hx11.symm x12 hx12.symm x13 hx13.symm x14 hx14.symm c15 c20 c21 c23
        exact b_zret hx hb hr rfl hlocks hS ⟨_, rfl, _, ⟨(congrArg Prod.fst e24).symm, (congrArg Prod.snd e24).symm⟩, hB⟩ dX6_doGroup_127
      · refine lv_aload_n hx hb dX6_doGroup_110 rfl (lv_at hl 4 rfl) ?_
        refine b_get (D := D) (E := E) (L := LRM) (o := o) (M := M) (v := .ref (o + 13)) (C := RX6) (T := TX6) (N := 7) hx hb hts hinX6 hown hK.1 hB 0 lay_0 rfl 2 (by decide) (hts (.fieldLink RX6 23 "RiverMeeting" "trial" "LRiverMeeting$Game;") (List.mem_of_getElem? (i := 1) rfl)) (fun _ h9 => h9) rfl dX6_doGroup_111 ?_
        refine lv_iload hx hb dX6_doGroup_114 (lv_at hl 1 rfl) ?_
        refine b_mI (b_runV (As := [.int x13]) (rest := []) ⟨hx, hb, hml, hown, hts⟩ (c_X0_stepIfPossible l D E o M 13 x13 isG_13) (cwV 1 hts gX6_doGroup_X0_stepIfPossible rfl rfl rfl (by decide +kernel) ⟨Nat.le_of_ble_eq_true rfl, Nat.le_of_ble_eq_true rfl⟩) hK (bk_recv hK.1 hB isG_13.1 rfl) hB rfl hl rfl (Nat.le_of_ble_eq_true rfl) dX6_doGroup_116 ⟨Nat.zero_le _, Nat.zero_le _⟩) hS (fun q h => h) (fun r26 M25 hM25 H locs hB _ hS => ?_)
        obtain ⟨hr26, hM25⟩ := hM25
        refine lv_if_eq (tgt := 126) hx hb dX6_doGroup_119 (by decide) (fun c27 => ?_) (fun c27 => ?_)
        · refine lv_iconst (v := 0) hx hb dX6_doGroup_126 (by decide) ?_
          have e28 := p_X6_doGroup_e28 M x1 x11 hx11.symm x12 hx12.symm x13 hx13.symm x14 hx14.symm c15 c20 c21 c23 r26 hr26.symm M25 hM25.symm c27
          exact b_zret hx hb hr rfl hlocks hS ⟨_, rfl, _, ⟨(congrArg Prod.fst e28).symm, (congrArg Prod.snd e28).symm⟩, hB⟩ dX6_doGroup_127
        · refine lv_iconst (v := 1) hx hb dX6_doGroup_122 (by decide) ?_
          refine lv_goto (tgt := 127) hx hb dX6_doGroup_123 (by decide) ?_
          have e29 := p_X6_doGroup_e29 M x1 x11 hx11.symm x12 hx12.symm x13 hx13.symm x14 hx14.symm c15 c20 c21 c23 r26 hr26.symm M25 hM25.symm c27
          exact b_zret hx hb hr rfl hlocks hS ⟨_, rfl, _, ⟨(congrArg Prod.fst e29).symm, (congrArg Prod.snd e29).symm⟩, hB⟩ dX6_doGroup_127
  by_cases c30 : (x1 / 1000) = 3
  · refine b_tabI (tgt := 128) hx hb 3 dX6_doGroup_33 (by rw [c30]; rfl) (by decide) (by decide) rfl (by decide) ?_
    refine lv_iload_n hx hb dX6_doGroup_128 rfl (lv_at hl 3 rfl) ?_
    refine lv_if_ne (tgt := 156) hx hb dX6_doGroup_129 (by decide) (fun c31 => ?_) (fun c31 => ?_)
    · refine lv_iconst (v := 0) hx hb dX6_doGroup_156 (by decide) ?_
      have e32 := p_X6_doGroup_e32 M x1 x11 hx11.symm x12 hx12.symm x13 hx13.symm x14 hx14.symm c15 c20 c30 c31
      exact b_zret hx hb hr rfl hlocks hS ⟨_, rfl, _, ⟨(congrArg Prod.fst e32).symm, (congrArg Prod.snd e32).symm⟩, hB⟩ dX6_doGroup_157
    · refine lv_aload_n hx hb dX6_doGroup_132 rfl (lv_at hl 4 rfl) ?_
      refine b_get (D := D) (E := E) (L := LRM) (o := o) (M := M) (v := .ref (o + 13)) (C := RX6) (T := TX6) (N := 7) hx hb hts hinX6 hown hK.1 hB 0 lay_0 rfl 2 (by decide) (hts (.fieldLink RX6 23 "RiverMeeting" "trial" "LRiverMeeting$Game;") (List.mem_of_getElem? (i := 1) rfl)) (fun _ h9 => h9) rfl dX6_doGroup_133 ?_
      refine lv_iload_n hx hb dX6_doGroup_136 rfl (lv_at hl 2 rfl) ?_
      refine lv_iload hx hb dX6_doGroup_137 (lv_at hl 1 rfl) ?_
      refine b_pI (b_runS (As := [.int x12, .int x13]) (rest := [.ref (o + 13)]) ⟨hx, hb, hml, hown, hts⟩ (c_X6_cellAt l D E x12 x13) (va_cwS 2 hts gX6_doGroup_X6_cellAt rfl rfl rfl (by decide +kernel) ⟨Nat.le_of_ble_eq_true rfl, Nat.le_of_ble_eq_true rfl⟩) hK trivial rfl hl rfl (Nat.le_of_ble_eq_true rfl) dX6_doGroup_139 ⟨Nat.zero_le _, Nat.zero_le _⟩) hS (fun r33 hr33 locs hS => ?_)
      refine lv_aload_n hx hb dX6_doGroup_142 rfl (lv_at hl 4 rfl) ?_
      refine b_get (D := D) (E := E) (L := LRM) (o := o) (M := M) (v := .ref (o + 23)) (C := RX6) (T := TX6) (N := 7) hx hb hts hinX6 hown hK.1 hB 0 lay_0 rfl 3 (by decide) (hts (.fieldLink RX6 29 "RiverMeeting" "ways" "LRiverMeeting$Ways;") (List.mem_of_getElem? (i := 2) rfl)) (fun _ h9 => h9) rfl dX6_doGroup_143 ?_
      refine b_mI (b_runV (As := [.int r33, .ref (o + 23)]) (rest := []) ⟨hx, hb, hml, hown, hts⟩ (c_X0_damIfPossible l D E o M 13 r33 isG_13) (cwV 2 hts gX6_doGroup_X0_damIfPossible rfl rfl rfl (by decide +kernel) ⟨Nat.le_of_ble_eq_true rfl, Nat.le_of_ble_eq_true rfl⟩) hK (bk_recv hK.1 hB isG_13.1 rfl) hB rfl hl rfl (Nat.le_of_ble_eq_true rfl) dX6_doGroup_146 ⟨Nat.zero_le _, Nat.zero_le _⟩) hS (fun q h => h) (fun r35 M34 hM34 H locs hB _ hS => ?_)
      obtain ⟨hr35, hM34⟩ := hM34
      refine lv_if_eq (tgt := 156) hx hb dX6_doGroup_149 (by decide) (fun c36 => ?_) (fun c36 => ?_)
      · refine lv_iconst (v := 0) hx hb dX6_doGroup_156 (by decide) ?_
        have e37 := p_X6_doGroup_e37 M x1 x11 hx11.symm x12 hx12.symm x13 hx13.symm x14 hx14.symm c15 c20 c30 c31 r33 hr33.symm r35 hr35.symm M34 hM34.symm c36
        exact b_zret hx hb hr rfl hlocks hS ⟨_, rfl, _, ⟨(congrArg Prod.fst e37).symm, (congrArg Prod.snd e37).symm⟩, hB⟩ dX6_doGroup_157
      · refine lv_iconst (v := 1) hx hb dX6_doGroup_152 (by decide) ?_
        refine lv_goto (tgt := 157) hx hb dX6_doGroup_153 (by decide) ?_
        have e38 := p_X6_doGroup_e38 M x1 x11 hx11.symm x12 hx12.symm x13 hx13.symm x14 hx14.symm c15 c20 c30 c31 r33 hr33.symm r35 hr35.symm M34 hM34.symm c36
        exact b_zret hx hb hr rfl hlocks hS ⟨_, rfl, _, ⟨(congrArg Prod.fst e38).symm, (congrArg Prod.snd e38).symm⟩, hB⟩ dX6_doGroup_157
  by_cases c39 : (x1 / 1000) = 4
  · refine b_tabI (tgt := 158) hx hb 4 dX6_doGroup_33 (by rw [c39]; rfl) (by decide) (by decide) rfl (by decide) ?_
    refine lv_iload_n hx hb dX6_doGroup_158 rfl (lv_at hl 5 rfl) ?_
    refine lv_sipush (v := 4000) hx hb dX6_doGroup_159 (by decide) ?_
    refine lv_icmp_ne (tgt := 179) hx hb dX6_doGroup_162 (by decide) (fun c40 => ?_) (fun c40 => ?_)
    · refine lv_iconst (v := 0) hx hb dX6_doGroup_179 (by decide) ?_
      have e41 := p_X6_doGroup_e41 M x1 x11 hx11.symm x12 hx12.symm x13 hx13.symm x14 hx14.symm c15 c20 c30 c39 c40
      exact b_zret hx hb hr rfl hlocks hS ⟨_, rfl, _, ⟨(congrArg Prod.fst e41).symm, (congrArg Prod.snd e41).symm⟩, hB⟩ dX6_doGroup_180
    · refine lv_aload_n hx hb dX6_doGroup_165 rfl (lv_at hl 4 rfl) ?_
      refine b_get (D := D) (E := E) (L := LRM) (o := o) (M := M) (v := .ref (o + 13)) (C := RX6) (T := TX6) (N := 7) hx hb hts hinX6 hown hK.1 hB 0 lay_0 rfl 2 (by decide) (hts (.fieldLink RX6 23 "RiverMeeting" "trial" "LRiverMeeting$Game;") (List.mem_of_getElem? (i := 1) rfl)) (fun _ h9 => h9) rfl dX6_doGroup_166 ?_
      refine b_mI (b_runV (As := []) (rest := []) ⟨hx, hb, hml, hown, hts⟩ (c_X0_floodIfPossible l D E o M 13 isG_13) (cwV 0 hts gX6_doGroup_X0_floodIfPossible rfl rfl rfl (by decide +kernel) ⟨Nat.le_of_ble_eq_true rfl, Nat.le_of_ble_eq_true rfl⟩) hK (bk_recv hK.1 hB isG_13.1 rfl) hB rfl hl rfl (Nat.le_of_ble_eq_true rfl) dX6_doGroup_169 ⟨Nat.zero_le _, Nat.zero_le _⟩) hS (fun q h => h) (fun r43 M42 hM42 H locs hB _ hS => ?_)
      obtain ⟨hr43, hM42⟩ := hM42
      refine lv_if_eq (tgt := 179) hx hb dX6_doGroup_172 (by decide) (fun c44 => ?_) (fun c44 => ?_)
      · refine lv_iconst (v := 0) hx hb dX6_doGroup_179 (by decide) ?_
        have e45 := p_X6_doGroup_e45 M x1 x11 hx11.symm x12 hx12.symm x13 hx13.symm x14 hx14.symm c15 c20 c30 c39 c40 r43 hr43.symm M42 hM42.symm c44
        exact b_zret hx hb hr rfl hlocks hS ⟨_, rfl, _, ⟨(congrArg Prod.fst e45).symm, (congrArg Prod.snd e45).symm⟩, hB⟩ dX6_doGroup_180
      · refine lv_iconst (v := 1) hx hb dX6_doGroup_175 (by decide) ?_
        refine lv_goto (tgt := 180) hx hb dX6_doGroup_176 (by decide) ?_
        have e46 := p_X6_doGroup_e46 M x1 x11 hx11.symm x12 hx12.symm x13 hx13.symm x14 hx14.symm c15 c20 c30 c39 c40 r43 hr43.symm M42 hM42.symm c44
        exact b_zret hx hb hr rfl hlocks hS ⟨_, rfl, _, ⟨(congrArg Prod.fst e46).symm, (congrArg Prod.snd e46).symm⟩, hB⟩ dX6_doGroup_180
  by_cases c47 : (x1 / 1000) = 5
  · refine b_tabI (tgt := 181) hx hb 5 dX6_doGroup_33 (by rw [c47]; rfl) (by decide) (by decide) rfl (by decide) ?_
    refine lv_aload_n hx hb dX6_doGroup_181 rfl (lv_at hl 4 rfl) ?_
    refine b_get (D := D) (E := E) (L := LRM) (o := o) (M := M) (v := .ref (o + 13)) (C := RX6) (T := TX6) (N := 7) hx hb hts hinX6 hown hK.1 hB 0 lay_0 rfl 2 (by decide) (hts (.fieldLink RX6 23 "RiverMeeting" "trial" "LRiverMeeting$Game;") (List.mem_of_getElem? (i := 1) rfl)) (fun _ h9 => h9) rfl dX6_doGroup_182 ?_
    refine lv_iload_n hx hb dX6_doGroup_185 rfl (lv_at hl 3 rfl) ?_
    refine lv_iload hx hb dX6_doGroup_186 (lv_at hl 0 rfl) ?_
    refine b_mI (b_runV (As := [.int x11, .int x14]) (rest := []) ⟨hx, hb, hml, hown, hts⟩ (c_X0_changeIfPossible l D E o M 13 x11 x14 isG_13) (cwV 2 hts gX6_doGroup_X0_changeIfPossible rfl rfl rfl (by decide +kernel) ⟨Nat.le_of_ble_eq_true rfl, Nat.le_of_ble_eq_true rfl⟩) hK (bk_recv hK.1 hB isG_13.1 rfl) hB rfl hl rfl (Nat.le_of_ble_eq_true rfl) dX6_doGroup_188 ⟨Nat.zero_le _, Nat.zero_le _⟩) hS (fun q h => h) (fun r49 M48 hM48 H locs hB _ hS => ?_)
    obtain ⟨hr49, hM48⟩ := hM48
    have e50 := p_X6_doGroup_e50 M x1 x11 hx11.symm x12 hx12.symm x13 hx13.symm x14 hx14.symm c15 c20 c30 c39 c47 r49 hr49.symm M48 hM48.symm
    exact b_zret hx hb hr (nar_z (by rw [hr49]; exact z_X0_changeIfPossible M 13 x11 x14)) hlocks hS ⟨_, rfl, _, ⟨(congrArg Prod.fst e50).symm, (congrArg Prod.snd e50).symm⟩, hB⟩ dX6_doGroup_191
  by_cases c51 : (x1 / 1000) = 6
  · refine b_tabI (tgt := 192) hx hb 6 dX6_doGroup_33 (by rw [c51]; rfl) (by decide) (by decide) rfl (by decide) ?_
    refine lv_iload_n hx hb dX6_doGroup_192 rfl (lv_at hl 3 rfl) ?_
    refine lv_if_ne (tgt := 213) hx hb dX6_doGroup_193 (by decide) (fun c52 => ?_) (fun c52 => ?_)
    · refine lv_iconst (v := 0) hx hb dX6_doGroup_213 (by decide) ?_
      have e53 := p_X6_doGroup_e53 M x1 x11 hx11.symm x12 hx12.symm x13 hx13.symm x14 hx14.symm c15 c20 c30 c39 c47 c51 c52
      exact b_zret hx hb hr rfl hlocks hS ⟨_, rfl, _, ⟨(congrArg Prod.fst e53).symm, (congrArg Prod.snd e53).symm⟩, hB⟩ dX6_doGroup_214
    · refine lv_iload_n hx hb dX6_doGroup_196 rfl (lv_at hl 2 rfl) ?_
      refine lv_if_ne (tgt := 213) hx hb dX6_doGroup_197 (by decide) (fun c54 => ?_) (fun c54 => ?_)
      · refine lv_iconst (v := 0) hx hb dX6_doGroup_213 (by decide) ?_
        have e55 := p_X6_doGroup_e55 M x1 x11 hx11.symm x12 hx12.symm x13 hx13.symm x14 hx14.symm c15 c20 c30 c39 c47 c51 c52 c54
        exact b_zret hx hb hr rfl hlocks hS ⟨_, rfl, _, ⟨(congrArg Prod.fst e55).symm, (congrArg Prod.snd e55).symm⟩, hB⟩ dX6_doGroup_214
      · refine lv_aload_n hx hb dX6_doGroup_200 rfl (lv_at hl 4 rfl) ?_
        refine lv_iload hx hb dX6_doGroup_201 (lv_at hl 1 rfl) ?_
        refine b_mI (b_runV (As := [.int x13]) (rest := []) ⟨hx, hb, hml, hown, hts⟩ (c_X6_followBest l D E o M x13) (cwV 1 hts gX6_doGroup_X6_followBest rfl rfl rfl (by decide +kernel) ⟨Nat.le_of_ble_eq_true rfl, Nat.le_of_ble_eq_true rfl⟩) hK (bk_recv hK.1 hB lay_0 rfl) hB rfl hl rfl (Nat.le_of_ble_eq_true rfl) dX6_doGroup_203 ⟨Nat.zero_le _, Nat.zero_le _⟩) hS (fun q h => h) (fun r57 M56 hM56 H locs hB _ hS => ?_)
        obtain ⟨hr57, hM56⟩ := hM56
        refine lv_if_eq (tgt := 213) hx hb dX6_doGroup_206 (by decide) (fun c58 => ?_) (fun c58 => ?_)
        · refine lv_iconst (v := 0) hx hb dX6_doGroup_213 (by decide) ?_
          have e59 := p_X6_doGroup_e59 M x1 x11 hx11.symm x12 hx12.symm x13 hx13.symm x14 hx14.symm c15 c20 c30 c39 c47 c51 c52 c54 r57 hr57.symm M56 hM56.symm c58
          exact b_zret hx hb hr rfl hlocks hS ⟨_, rfl, _, ⟨(congrArg Prod.fst e59).symm, (congrArg Prod.snd e59).symm⟩, hB⟩ dX6_doGroup_214
        · refine lv_iconst (v := 1) hx hb dX6_doGroup_209 (by decide) ?_
          refine lv_goto (tgt := 214) hx hb dX6_doGroup_210 (by decide) ?_
          have e60 := p_X6_doGroup_e60 M x1 x11 hx11.symm x12 hx12.symm x13 hx13.symm x14 hx14.symm c15 c20 c30 c39 c47 c51 c52 c54 r57 hr57.symm M56 hM56.symm c58
          exact b_zret hx hb hr rfl hlocks hS ⟨_, rfl, _, ⟨(congrArg Prod.fst e60).symm, (congrArg Prod.snd e60).symm⟩, hB⟩ dX6_doGroup_214
  by_cases c61 : (x1 / 1000) = 7
  · refine b_tabI (tgt := 215) hx hb 7 dX6_doGroup_33 (by rw [c61]; rfl) (by decide) (by decide) rfl (by decide) ?_
    refine lv_iload_n hx hb dX6_doGroup_215 rfl (lv_at hl 3 rfl) ?_
    refine b_pI (b_runS (As := [.int x11]) (rest := []) ⟨hx, hb, hml, hown, hts⟩ (c_X6_isPlayer l D E x11) (va_cwS 1 hts gX6_doGroup_X6_isPlayer rfl rfl rfl (by decide +kernel) ⟨Nat.le_of_ble_eq_true rfl, Nat.le_of_ble_eq_true rfl⟩) hK trivial rfl hl rfl (Nat.le_of_ble_eq_true rfl) dX6_doGroup_216 ⟨Nat.zero_le _, Nat.zero_le _⟩) hS (fun r62 hr62 locs hS => ?_)
    refine lv_if_eq (tgt := 242) hx hb dX6_doGroup_219 (by decide) (fun c63 => ?_) (fun c63 => ?_)
    · refine lv_iconst (v := 0) hx hb dX6_doGroup_242 (by decide) ?_
      have e64 := p_X6_doGroup_e64 M x1 x11 hx11.symm x12 hx12.symm x13 hx13.symm x14 hx14.symm c15 c20 c30 c39 c47 c51 c61 r62 hr62.symm c63
      exact b_zret hx hb hr rfl hlocks hS ⟨_, rfl, _, ⟨(congrArg Prod.fst e64).symm, (congrArg Prod.snd e64).symm⟩, hB⟩ dX6_doGroup_243
    · refine lv_aload_n hx hb dX6_doGroup_222 rfl (lv_at hl 4 rfl) ?_
      refine b_get (D := D) (E := E) (L := LRM) (o := o) (M := M) (v := .ref (o + 13)) (C := RX6) (T := TX6) (N := 7) hx hb hts hinX6 hown hK.1 hB 0 lay_0 rfl 2 (by decide) (hts (.fieldLink RX6 23 "RiverMeeting" "trial" "LRiverMeeting$Game;") (List.mem_of_getElem? (i := 1) rfl)) (fun _ h9 => h9) rfl dX6_doGroup_223 ?_
      refine lv_iload_n hx hb dX6_doGroup_226 rfl (lv_at hl 3 rfl) ?_
      refine b_pR (b_runV (As := [.int x11]) (rest := []) ⟨hx, hb, hml, hown, hts⟩ (c_X0_sideOf l D E o M 13 x11 isG_13) (cwV 1 hts gX6_doGroup_X0_sideOf rfl rfl rfl (by decide +kernel) ⟨Nat.le_of_ble_eq_true rfl, Nat.le_of_ble_eq_true rfl⟩) hK (bk_recv hK.1 hB isG_13.1 rfl) hB rfl hl rfl (Nat.le_of_ble_eq_true rfl) dX6_doGroup_227 ⟨Nat.zero_le _, Nat.zero_le _⟩) hS (fun r65 hr65 locs hS => ?_)
      obtain ⟨k66, hk66⟩ : ∃ y : Nat, y = f_X0_sideOf M 13 x11 := ⟨_, rfl⟩
      rw [← hk66] at hr65; subst hr65
      have hfk66 : isS k66 := by rw [hk66]; exact (isS_sideOf isG_13)
      refine b_get (D := D) (E := E) (L := LRM) (o := o) (M := M) (v := .int (M k66 4)) (C := RX2) (T := TX2) (N := 8) hx hb hts hinX2 hown hK.1 hB k66 hfk66.1 rfl 4 (by decide) (hts (.fieldLink RX6 154 "RiverMeeting$Side" "paid" "I") (List.mem_of_getElem? (i := 3) rfl)) (fun _ h9 => h9) rfl dX6_doGroup_230 ?_
      refine lv_iload hx hb dX6_doGroup_233 (lv_at hl 0 rfl) ?_
      refine lv_icmp_gt (tgt := 242) hx hb dX6_doGroup_235 (by decide) (fun c67 => ?_) (fun c67 => ?_)
      · refine lv_iconst (v := 0) hx hb dX6_doGroup_242 (by decide) ?_
        have e68 := p_X6_doGroup_e68 M x1 x11 hx11.symm x12 hx12.symm x13 hx13.symm x14 hx14.symm c15 c20 c30 c39 c47 c51 c61 r62 hr62.symm c63 k66 hk66.symm c67
        exact b_zret hx hb hr rfl hlocks hS ⟨_, rfl, _, ⟨(congrArg Prod.fst e68).symm, (congrArg Prod.snd e68).symm⟩, hB⟩ dX6_doGroup_243
      · refine lv_iconst (v := 1) hx hb dX6_doGroup_238 (by decide) ?_
        refine lv_goto (tgt := 243) hx hb dX6_doGroup_239 (by decide) ?_
        have e69 := p_X6_doGroup_e69 M x1 x11 hx11.symm x12 hx12.symm x13 hx13.symm x14 hx14.symm c15 c20 c30 c39 c47 c51 c61 r62 hr62.symm c63 k66 hk66.symm c67
        exact b_zret hx hb hr rfl hlocks hS ⟨_, rfl, _, ⟨(congrArg Prod.fst e69).symm, (congrArg Prod.snd e69).symm⟩, hB⟩ dX6_doGroup_243
  by_cases c70 : (x1 / 1000) = 8
  · refine b_tabI (tgt := 244) hx hb 8 dX6_doGroup_33 (by rw [c70]; rfl) (by decide) (by decide) rfl (by decide) ?_
    refine lv_iload_n hx hb dX6_doGroup_244 rfl (lv_at hl 3 rfl) ?_
    refine lv_if_ne (tgt := 268) hx hb dX6_doGroup_245 (by decide) (fun c71 => ?_) (fun c71 => ?_)
    · refine lv_iconst (v := 0) hx hb dX6_doGroup_268 (by decide) ?_
      have e72 := p_X6_doGroup_e72 M x1 x11 hx11.symm x12 hx12.symm x13 hx13.symm x14 hx14.symm c15 c20 c30 c39 c47 c51 c61 c70 c71
      exact b_zret hx hb hr rfl hlocks hS ⟨_, rfl, _, ⟨(congrArg Prod.fst e72).symm, (congrArg Prod.snd e72).symm⟩, hB⟩ dX6_doGroup_269
    · refine lv_iload_n hx hb dX6_doGroup_248 rfl (lv_at hl 2 rfl) ?_
      refine lv_if_ne (tgt := 268) hx hb dX6_doGroup_249 (by decide) (fun c73 => ?_) (fun c73 => ?_)
      · refine lv_iconst (v := 0) hx hb dX6_doGroup_268 (by decide) ?_
        have e74 := p_X6_doGroup_e74 M x1 x11 hx11.symm x12 hx12.symm x13 hx13.symm x14 hx14.symm c15 c20 c30 c39 c47 c51 c61 c70 c71 c73
        exact b_zret hx hb hr rfl hlocks hS ⟨_, rfl, _, ⟨(congrArg Prod.fst e74).symm, (congrArg Prod.snd e74).symm⟩, hB⟩ dX6_doGroup_269
      · refine lv_aload_n hx hb dX6_doGroup_252 rfl (lv_at hl 4 rfl) ?_
        refine b_get (D := D) (E := E) (L := LRM) (o := o) (M := M) (v := .ref (o + 13)) (C := RX6) (T := TX6) (N := 7) hx hb hts hinX6 hown hK.1 hB 0 lay_0 rfl 2 (by decide) (hts (.fieldLink RX6 23 "RiverMeeting" "trial" "LRiverMeeting$Game;") (List.mem_of_getElem? (i := 1) rfl)) (fun _ h9 => h9) rfl dX6_doGroup_253 ?_
        refine b_pI (b_runV (As := []) (rest := []) ⟨hx, hb, hml, hown, hts⟩ (c_X0_phase l D E o M 13 isG_13) (cwV 0 hts gX6_doGroup_X0_phase rfl rfl rfl (by decide +kernel) ⟨Nat.le_of_ble_eq_true rfl, Nat.le_of_ble_eq_true rfl⟩) hK (bk_recv hK.1 hB isG_13.1 rfl) hB rfl hl rfl (Nat.le_of_ble_eq_true rfl) dX6_doGroup_256 ⟨Nat.zero_le _, Nat.zero_le _⟩) hS (fun r75 hr75 locs hS => ?_)
        refine lv_iload hx hb dX6_doGroup_259 (lv_at hl 1 rfl) ?_
        refine lv_icmp_ne (tgt := 268) hx hb dX6_doGroup_261 (by decide) (fun c76 => ?_) (fun c76 => ?_)
        · refine lv_iconst (v := 0) hx hb dX6_doGroup_268 (by decide) ?_
          have e77 := p_X6_doGroup_e77 M x1 x11 hx11.symm x12 hx12.symm x13 hx13.symm x14 hx14.symm c15 c20 c30 c39 c47 c51 c61 c70 c71 c73 r75 hr75.symm c76
          exact b_zret hx hb hr rfl hlocks hS ⟨_, rfl, _, ⟨(congrArg Prod.fst e77).symm, (congrArg Prod.snd e77).symm⟩, hB⟩ dX6_doGroup_269
        · refine lv_iconst (v := 1) hx hb dX6_doGroup_264 (by decide) ?_
          refine lv_goto (tgt := 269) hx hb dX6_doGroup_265 (by decide) ?_
          have e78 := p_X6_doGroup_e78 M x1 x11 hx11.symm x12 hx12.symm x13 hx13.symm x14 hx14.symm c15 c20 c30 c39 c47 c51 c61 c70 c71 c73 r75 hr75.symm c76
          exact b_zret hx hb hr rfl hlocks hS ⟨_, rfl, _, ⟨(congrArg Prod.fst e78).symm, (congrArg Prod.snd e78).symm⟩, hB⟩ dX6_doGroup_269
  by_cases c79 : (x1 / 1000) = 9
  · refine b_tabI (tgt := 270) hx hb 9 dX6_doGroup_33 (by rw [c79]; rfl) (by decide) (by decide) rfl (by decide) ?_
    refine lv_iload_n hx hb dX6_doGroup_270 rfl (lv_at hl 3 rfl) ?_
    refine b_pI (b_runS (As := [.int x11]) (rest := []) ⟨hx, hb, hml, hown, hts⟩ (c_X6_isPlayer l D E x11) (va_cwS 1 hts gX6_doGroup_X6_isPlayer rfl rfl rfl (by decide +kernel) ⟨Nat.le_of_ble_eq_true rfl, Nat.le_of_ble_eq_true rfl⟩) hK trivial rfl hl rfl (Nat.le_of_ble_eq_true rfl) dX6_doGroup_271 ⟨Nat.zero_le _, Nat.zero_le _⟩) hS (fun r80 hr80 locs hS => ?_)
    refine lv_if_eq (tgt := 297) hx hb dX6_doGroup_274 (by decide) (fun c81 => ?_) (fun c81 => ?_)
    · refine lv_iconst (v := 0) hx hb dX6_doGroup_297 (by decide) ?_
      have e82 := p_X6_doGroup_e82 M x1 x11 hx11.symm x12 hx12.symm x13 hx13.symm x14 hx14.symm c15 c20 c30 c39 c47 c51 c61 c70 c79 r80 hr80.symm c81
      exact b_zret hx hb hr rfl hlocks hS ⟨_, rfl, _, ⟨(congrArg Prod.fst e82).symm, (congrArg Prod.snd e82).symm⟩, hB⟩ dX6_doGroup_298
    · refine lv_aload_n hx hb dX6_doGroup_277 rfl (lv_at hl 4 rfl) ?_
      refine b_get (D := D) (E := E) (L := LRM) (o := o) (M := M) (v := .ref (o + 13)) (C := RX6) (T := TX6) (N := 7) hx hb hts hinX6 hown hK.1 hB 0 lay_0 rfl 2 (by decide) (hts (.fieldLink RX6 23 "RiverMeeting" "trial" "LRiverMeeting$Game;") (List.mem_of_getElem? (i := 1) rfl)) (fun _ h9 => h9) rfl dX6_doGroup_278 ?_
      refine lv_iload_n hx hb dX6_doGroup_281 rfl (lv_at hl 3 rfl) ?_
      refine b_pR (b_runV (As := [.int x11]) (rest := []) ⟨hx, hb, hml, hown, hts⟩ (c_X0_sideOf l D E o M 13 x11 isG_13) (cwV 1 hts gX6_doGroup_X0_sideOf rfl rfl rfl (by decide +kernel) ⟨Nat.le_of_ble_eq_true rfl, Nat.le_of_ble_eq_true rfl⟩) hK (bk_recv hK.1 hB isG_13.1 rfl) hB rfl hl rfl (Nat.le_of_ble_eq_true rfl) dX6_doGroup_282 ⟨Nat.zero_le _, Nat.zero_le _⟩) hS (fun r83 hr83 locs hS => ?_)
      obtain ⟨k84, hk84⟩ : ∃ y : Nat, y = f_X0_sideOf M 13 x11 := ⟨_, rfl⟩
      rw [← hk84] at hr83; subst hr83
      have hfk84 : isS k84 := by rw [hk84]; exact (isS_sideOf isG_13)
      refine b_get (D := D) (E := E) (L := LRM) (o := o) (M := M) (v := .int (M k84 3)) (C := RX2) (T := TX2) (N := 8) hx hb hts hinX2 hown hK.1 hB k84 hfk84.1 rfl 3 (by decide) (hts (.fieldLink RX6 148 "RiverMeeting$Side" "length" "I") (List.mem_of_getElem? (i := 4) rfl)) (fun _ h9 => h9) rfl dX6_doGroup_285 ?_
      refine lv_iload hx hb dX6_doGroup_288 (lv_at hl 0 rfl) ?_
      refine lv_icmp_lt (tgt := 297) hx hb dX6_doGroup_290 (by decide) (fun c85 => ?_) (fun c85 => ?_)
      · refine lv_iconst (v := 0) hx hb dX6_doGroup_297 (by decide) ?_
        have e86 := p_X6_doGroup_e86 M x1 x11 hx11.symm x12 hx12.symm x13 hx13.symm x14 hx14.symm c15 c20 c30 c39 c47 c51 c61 c70 c79 r80 hr80.symm c81 k84 hk84.symm c85
        exact b_zret hx hb hr rfl hlocks hS ⟨_, rfl, _, ⟨(congrArg Prod.fst e86).symm, (congrArg Prod.snd e86).symm⟩, hB⟩ dX6_doGroup_298
      · refine lv_iconst (v := 1) hx hb dX6_doGroup_293 (by decide) ?_
        refine lv_goto (tgt := 298) hx hb dX6_doGroup_294 (by decide) ?_
        have e87 := p_X6_doGroup_e87 M x1 x11 hx11.symm x12 hx12.symm x13 hx13.symm x14 hx14.symm c15 c20 c30 c39 c47 c51 c61 c70 c79 r80 hr80.symm c81 k84 hk84.symm c85
        exact b_zret hx hb hr rfl hlocks hS ⟨_, rfl, _, ⟨(congrArg Prod.fst e87).symm, (congrArg Prod.snd e87).symm⟩, hB⟩ dX6_doGroup_298
  refine b_tabD (tgt := 299) hx hb [1, 2, 3, 4, 5, 6, 7, 8, 9] dX6_doGroup_33 (by decide) (by decide) (List.forall_mem_cons.mpr ⟨lv_neT c15 (a := 1) rfl, (List.forall_mem_cons.mpr ⟨lv_neT c20 (a := 2) rfl, (List.forall_mem_cons.mpr ⟨lv_neT c30 (a := 3) rfl, (List.forall_mem_cons.mpr ⟨lv_neT c39 (a := 4) rfl, (List.forall_mem_cons.mpr ⟨lv_neT c47 (a := 5) rfl, (List.forall_mem_cons.mpr ⟨lv_neT c51 (a := 6) rfl, (List.forall_mem_cons.mpr ⟨lv_neT c61 (a := 7) rfl, (List.forall_mem_cons.mpr ⟨lv_neT c70 (a := 8) rfl, (List.forall_mem_cons.mpr ⟨lv_neT c79 (a := 9) rfl, (fun v h => absurd h List.not_mem_nil)⟩)⟩)⟩)⟩)⟩)⟩)⟩)⟩)⟩) (by decide) ?_
  refine lv_iconst (v := 0) hx hb dX6_doGroup_299 (by decide) ?_
  have e88 := p_X6_doGroup_e88 M x1 x11 hx11.symm x12 hx12.symm x13 hx13.symm x14 hx14.symm c15 c20 c30 c39 c47 c51 c61 c70 c79
  exact b_zret hx hb hr rfl hlocks hS ⟨_, rfl, _, ⟨(congrArg Prod.fst e88).symm, (congrArg Prod.snd e88).symm⟩, hB⟩ dX6_doGroup_300
def f_X6_doTextCommand (M : bM) (x1 : Int32) : Int32 × bM := (let r11 : Int32 := f_X4_signAt M x1; (if r11 = 98 then (let r14 : Int32 := (f_X5_bestStep M 3).1; (let M13 : bM := (f_X5_bestStep M 3).2; (let r16 : Int32 := (f_X0_stepIfPossible M13 3 r14).1; (let M15 : bM := (f_X0_stepIfPossible M13 3 r14).2; (1, M15))))) else (if r11 = 100 then (let r19 : Int32 := f_X4_digitAt M (x1 + 1); (let r20 : Int32 := f_X4_digitAt M (x1 + 2); (let r21 : Int32 := f_X6_cellAt r19 r20; (let r23 : Int32 := (f_X0_damIfPossible M 3 r21).1; (let M22 : bM := (f_X0_damIfPossible M 3 r21).2; (r23, M22)))))) else (if r11 = 101 then (let r27 : Int32 := (f_X0_stepIfPossible M 3 1).1; (let M26 : bM := (f_X0_stepIfPossible M 3 1).2; (r27, M26))) else (if r11 = 102 then (let r31 : Int32 := (f_X0_floodIfPossible M 3).1; (let M30 : bM := (f_X0_floodIfPossible M 3).2; (r31, M30))) else (if r11 = 110 then (let r34 : Int32 := f_X4_numberAt M (x1 + 1); (let M35 : bM := f_X0_beginGame M 3 r34.toInt64; (1, M35))) else (if r11 = 115 then (let r39 : Int32 := (f_X0_stepIfPossible M 3 0).1; (let M38 : bM := (f_X0_stepIfPossible M 3 0).2; (r39, M38))) else (if r11 = 118 then (let r42 : Int32 := f_X4_digitAt M (x1 + 1); (let r43 : Int32 := f_X4_numberAt M (x1 + 2); (let r45 : Int32 := (f_X0_changeIfPossible M 3 r42 r43).1; (let M44 : bM := (f_X0_changeIfPossible M 3 r42 r43).2; (r45, M44))))) else (if r11 = 119 then (let r49 : Int32 := (f_X0_stepIfPossible M 3 2).1; (let M48 : bM := (f_X0_stepIfPossible M 3 2).2; (r49, M48))) else (0, M))))))))))
theorem u_f_X6_doTextCommand (M : bM) (x1 : Int32) : f_X6_doTextCommand M x1 = (let r11 : Int32 := f_X4_signAt M x1; (if r11 = 98 then (let r14 : Int32 := (f_X5_bestStep M 3).1; (let M13 : bM := (f_X5_bestStep M 3).2; (let r16 : Int32 := (f_X0_stepIfPossible M13 3 r14).1; (let M15 : bM := (f_X0_stepIfPossible M13 3 r14).2; (1, M15))))) else (if r11 = 100 then (let r19 : Int32 := f_X4_digitAt M (x1 + 1); (let r20 : Int32 := f_X4_digitAt M (x1 + 2); (let r21 : Int32 := f_X6_cellAt r19 r20; (let r23 : Int32 := (f_X0_damIfPossible M 3 r21).1; (let M22 : bM := (f_X0_damIfPossible M 3 r21).2; (r23, M22)))))) else (if r11 = 101 then (let r27 : Int32 := (f_X0_stepIfPossible M 3 1).1; (let M26 : bM := (f_X0_stepIfPossible M 3 1).2; (r27, M26))) else (if r11 = 102 then (let r31 : Int32 := (f_X0_floodIfPossible M 3).1; (let M30 : bM := (f_X0_floodIfPossible M 3).2; (r31, M30))) else (if r11 = 110 then (let r34 : Int32 := f_X4_numberAt M (x1 + 1); (let M35 : bM := f_X0_beginGame M 3 r34.toInt64; (1, M35))) else (if r11 = 115 then (let r39 : Int32 := (f_X0_stepIfPossible M 3 0).1; (let M38 : bM := (f_X0_stepIfPossible M 3 0).2; (r39, M38))) else (if r11 = 118 then (let r42 : Int32 := f_X4_digitAt M (x1 + 1); (let r43 : Int32 := f_X4_numberAt M (x1 + 2); (let r45 : Int32 := (f_X0_changeIfPossible M 3 r42 r43).1; (let M44 : bM := (f_X0_changeIfPossible M 3 r42 r43).2; (r45, M44))))) else (if r11 = 119 then (let r49 : Int32 := (f_X0_stepIfPossible M 3 2).1; (let M48 : bM := (f_X0_stepIfPossible M 3 2).2; (r49, M48))) else (0, M)))))))))) := rfl
theorem p_X6_doTextCommand_e17 (M : bM) (x1 : Int32) (r11 : Int32) (hr11 : f_X4_signAt M x1 = r11) (c12 : r11 = 98) (r14 : Int32) (hr14 : (f_X5_bestStep M 3).1 = r14) (M13 : bM) (hM13 : (f_X5_bestStep M 3).2 = M13) (r16 : Int32) (hr16 : (f_X0_stepIfPossible M13 3 r14).1 = r16) (M15 : bM) (hM15 : (f_X0_stepIfPossible M13 3 r14).2 = M15) : f_X6_doTextCommand M x1 = (1, M15) := by subst hM15 hr16 hM13 hr14 hr11; exact Eq.trans (u_f_X6_doTextCommand M x1) (if_pos c12)
theorem p_X6_doTextCommand_e24 (M : bM) (x1 : Int32) (r11 : Int32) (hr11 : f_X4_signAt M x1 = r11) (c12 : ¬ r11 = 98) (c18 : r11 = 100) (r19 : Int32) (hr19 : f_X4_digitAt M (x1 + 1) = r19) (r20 : Int32) (hr20 : f_X4_digitAt M (x1 + 2) = r20) (r21 : Int32) (hr21 : f_X6_cellAt r19 r20 = r21) (r23 : Int32) (hr23 : (f_X0_damIfPossible M 3 r21).1 = r23) (M22 : bM) (hM22 : (f_X0_damIfPossible M 3 r21).2 = M22) : f_X6_doTextCommand M x1 = (r23, M22) := by subst hM22 hr23 hr21 hr20 hr19 hr11; exact Eq.trans (u_f_X6_doTextCommand M x1) (Eq.trans (if_neg c12) (if_pos c18))
theorem p_X6_doTextCommand_e28 (M : bM) (x1 : Int32) (r11 : Int32) (hr11 : f_X4_signAt M x1 = r11) (c12 : ¬ r11 = 98) (c18 : ¬ r11 = 100) (c25 : r11 = 101) (r27 : Int32) (hr27 : (f_X0_stepIfPossible M 3 1).1 = r27) (M26 : bM) (hM26 : (f_X0_stepIfPossible M 3 1).2 = M26) : f_X6_doTextCommand M x1 = (r27, M26) := by subst hM26 hr27 hr11; exact Eq.trans (u_f_X6_doTextCommand M x1) (Eq.trans (if_neg c12) (Eq.trans (if_neg c18) (if_pos c25)))
theorem p_X6_doTextCommand_e32 (M : bM) (x1 : Int32) (r11 : Int32) (hr11 : f_X4_signAt M x1 = r11) (c12 : ¬ r11 = 98) (c18 : ¬ r11 = 100) (c25 : ¬ r11 = 101) (c29 : r11 = 102) (r31 : Int32) (hr31 : (f_X0_floodIfPossible M 3).1 = r31) (M30 : bM) (hM30 : (f_X0_floodIfPossible M 3).2 = M30) : f_X6_doTextCommand M x1 = (r31, M30) := by subst hM30 hr31 hr11; exact Eq.trans (u_f_X6_doTextCommand M x1) (Eq.trans (if_neg c12) (Eq.trans (if_neg c18) (Eq.trans (if_neg c25) (if_pos c29))))
theorem p_X6_doTextCommand_e36 (M : bM) (x1 : Int32) (r11 : Int32) (hr11 : f_X4_signAt M x1 = r11) (c12 : ¬ r11 = 98) (c18 : ¬ r11 = 100) (c25 : ¬ r11 = 101) (c29 : ¬ r11 = 102) (c33 : r11 = 110) (r34 : Int32) (hr34 : f_X4_numberAt M (x1 + 1) = r34) (M35 : bM) (hM35 : f_X0_beginGame M 3 r34.toInt64 = M35) : f_X6_doTextCommand M x1 = (1, M35) := by subst hM35 hr34 hr11; exact Eq.trans (u_f_X6_doTextCommand M x1) (Eq.trans (if_neg c12) (Eq.trans (if_neg c18) (Eq.trans (if_neg c25) (Eq.trans (if_neg c29) (if_pos c33)))))
theorem p_X6_doTextCommand_e40 (M : bM) (x1 : Int32) (r11 : Int32) (hr11 : f_X4_signAt M x1 = r11) (c12 : ¬ r11 = 98) (c18 : ¬ r11 = 100) (c25 : ¬ r11 = 101) (c29 : ¬ r11 = 102) (c33 : ¬ r11 = 110) (c37 : r11 = 115) (r39 : Int32) (hr39 : (f_X0_stepIfPossible M 3 0).1 = r39) (M38 : bM) (hM38 : (f_X0_stepIfPossible M 3 0).2 = M38) : f_X6_doTextCommand M x1 = (r39, M38) := by subst hM38 hr39 hr11; exact Eq.trans (u_f_X6_doTextCommand M x1) (Eq.trans (if_neg c12) (Eq.trans (if_neg c18) (Eq.trans (if_neg c25) (Eq.trans (if_neg c29) (Eq.trans (if_neg c33) (if_pos c37))))))
theorem p_X6_doTextCommand_e46 (M : bM) (x1 : Int32) (r11 : Int32) (hr11 : f_X4_signAt M x1 = r11) (c12 : ¬ r11 = 98) (c18 : ¬ r11 = 100) (c25 : ¬ r11 = 101) (c29 : ¬ r11 = 102) (c33 : ¬ r11 = 110) (c37 : ¬ r11 = 115) (c41 : r11 = 118) (r42 : Int32) (hr42 : f_X4_digitAt M (x1 + 1) = r42) (r43 : Int32) (hr43 : f_X4_numberAt M (x1 + 2) = r43) (r45 : Int32) (hr45 : (f_X0_changeIfPossible M 3 r42 r43).1 = r45) (M44 : bM) (hM44 : (f_X0_changeIfPossible M 3 r42 r43).2 = M44) : f_X6_doTextCommand M x1 = (r45, M44) := by subst hM44 hr45 hr43 hr42 hr11; exact Eq.trans (u_f_X6_doTextCommand M x1) (Eq.trans (if_neg c12) (Eq.trans (if_neg c18) (Eq.trans (if_neg c25) (Eq.trans (if_neg c29) (Eq.trans (if_neg c33) (Eq.trans (if_neg c37) (if_pos c41)))))))
theorem p_X6_doTextCommand_e50 (M : bM) (x1 : Int32) (r11 : Int32) (hr11 : f_X4_signAt M x1 = r11) (c12 : ¬ r11 = 98) (c18 : ¬ r11 = 100) (c25 : ¬ r11 = 101) (c29 : ¬ r11 = 102) (c33 : ¬ r11 = 110) (c37 : ¬ r11 = 115) (c41 : ¬ r11 = 118) (c47 : r11 = 119) (r49 : Int32) (hr49 : (f_X0_stepIfPossible M 3 2).1 = r49) (M48 : bM) (hM48 : (f_X0_stepIfPossible M 3 2).2 = M48) : f_X6_doTextCommand M x1 = (r49, M48) := by subst hM48 hr49 hr11; exact Eq.trans (u_f_X6_doTextCommand M x1) (Eq.trans (if_neg c12) (Eq.trans (if_neg c18) (Eq.trans (if_neg c25) (Eq.trans (if_neg c29) (Eq.trans (if_neg c33) (Eq.trans (if_neg c37) (Eq.trans (if_neg c41) (if_pos c47))))))))
theorem p_X6_doTextCommand_e51 (M : bM) (x1 : Int32) (r11 : Int32) (hr11 : f_X4_signAt M x1 = r11) (c12 : ¬ r11 = 98) (c18 : ¬ r11 = 100) (c25 : ¬ r11 = 101) (c29 : ¬ r11 = 102) (c33 : ¬ r11 = 110) (c37 : ¬ r11 = 115) (c41 : ¬ r11 = 118) (c47 : ¬ r11 = 119) : f_X6_doTextCommand M x1 = (0, M) := by subst hr11; exact Eq.trans (u_f_X6_doTextCommand M x1) (Eq.trans (if_neg c12) (Eq.trans (if_neg c18) (Eq.trans (if_neg c25) (Eq.trans (if_neg c29) (Eq.trans (if_neg c33) (Eq.trans (if_neg c37) (Eq.trans (if_neg c41) (if_neg c47))))))))
set_option maxHeartbeats 4000000 in
set_option maxRecDepth 100000 in
theorem c_X6_doTextCommand (l : Launch) (D : va_G) (E : Nat → ClassId) (o : Nat) (M : bM) (x1 : Int32) (hch : chOK M) : Met l yX6_doTextCommand wsX6_doTextCommand (rmF 5) (bPc D E [.ref (o + 0), .int x1] (fun H => bk D E LRM o M H)) (bQ (aI fun r H => ∃ M1 : bM, (r = (f_X6_doTextCommand M x1).1 ∧ M1 = (f_X6_doTextCommand M x1).2) ∧ bk D E LRM o M1 H) (rA o)) 0 0 (rA o) := by
  refine Met.ofW (cc := cX6_doTextCommand) (maxL := 2) (ret := (some .boolean)) (by decide) rfl ?_
  intro p e s m args below meth c s₁ B hml hv
  obtain ⟨rfl, hB, hK⟩ := hv
  have hx := B.exec
  have hb := B.bytes
  have hr := B.returns
  have hts := atoms_spec (ws := wsX6_doTextCommand) B.pre
  have hown : s.vm.findClass RX6 = some m.cls := findClass_of_methodNamed B.named
  have hlocks := B.notSynchronized
  have hS : bS (rA o) s.heap s.heap [] := bS.rf
  have hl := lv_entry ([.ref (o + 0), .int x1]) (n := 2) (Nat.le_of_ble_eq_true rfl)
  rw [lg_entry_eq]
  generalize (lg_sl ([.ref (o + 0), .int x1]) ++ List.replicate (2 - (lg_sl ([.ref (o + 0), .int x1])).length) Slot.unset).toArray = ls at hl ⊢
  have hl : lv_has ls 2 [(0, .ref (o + 0)), (1, .int x1)] := hl
  have hB : bk D E LRM o M s.heap := hB
  have hinX6 : ∀ w ∈ wsX60, w ∈ wsX6_doTextCommand := by decide +kernel
  refine lv_aload_n hx hb dX6_doTextCommand_0 rfl (lv_at hl 0 rfl) ?_
  refine b_get (D := D) (E := E) (L := LRM) (o := o) (M := M) (v := .ref (o + 1)) (C := RX6) (T := TX6) (N := 7) hx hb hts hinX6 hown hK.1 hB 0 lay_0 rfl 0 (by decide) (hts (.fieldLink RX6 10 "RiverMeeting" "text" "LRiverMeeting$TextBuffer;") (List.mem_of_getElem? (i := 1) rfl)) (fun _ h9 => h9) rfl dX6_doTextCommand_1 ?_
  refine lv_iload_n hx hb dX6_doTextCommand_4 rfl (lv_at hl 1 rfl) ?_
  refine b_pI (b_runV (As := [.int x1]) (rest := []) ⟨hx, hb, hml, hown, hts⟩ (c_X4_signAt l D E o M x1 hch) (cwV 1 hts gX6_doTextCommand_X4_signAt rfl rfl rfl (by decide +kernel) ⟨Nat.le_of_ble_eq_true rfl, Nat.le_of_ble_eq_true rfl⟩) hK (bk_recv hK.1 hB lay_1 rfl) hB rfl hl rfl (Nat.le_of_ble_eq_true rfl) dX6_doTextCommand_5 ⟨Nat.zero_le _, Nat.zero_le _⟩) hS (fun r11 hr11 locs hS => ?_)
  by_cases c12 : r11 = 98
  · refine b_tabI (tgt := 202) hx hb 98 dX6_doTextCommand_8 (by rw [c12]; rfl) (by decide) (by decide) rfl (by decide) ?_
    refine lv_aload_n hx hb dX6_doTextCommand_202 rfl (lv_at hl 0 rfl) ?_
    refine b_get (D := D) (E := E) (L := LRM) (o := o) (M := M) (v := .ref (o + 3)) (C := RX6) (T := TX6) (N := 7) hx hb hts hinX6 hown hK.1 hB 0 lay_0 rfl 1 (by decide) (hts (.fieldLink RX6 19 "RiverMeeting" "present" "LRiverMeeting$Game;") (List.mem_of_getElem? (i := 2) rfl)) (fun _ h9 => h9) rfl dX6_doTextCommand_203 ?_
    refine lv_aload_n hx hb dX6_doTextCommand_206 rfl (lv_at hl 0 rfl) ?_
    refine b_get (D := D) (E := E) (L := LRM) (o := o) (M := M) (v := .ref (o + 23)) (C := RX6) (T := TX6) (N := 7) hx hb hts hinX6 hown hK.1 hB 0 lay_0 rfl 3 (by decide) (hts (.fieldLink RX6 29 "RiverMeeting" "ways" "LRiverMeeting$Ways;") (List.mem_of_getElem? (i := 3) rfl)) (fun _ h9 => h9) rfl dX6_doTextCommand_207 ?_
    refine lv_aload_n hx hb dX6_doTextCommand_210 rfl (lv_at hl 0 rfl) ?_
    refine b_get (D := D) (E := E) (L := LRM) (o := o) (M := M) (v := .ref (o + 3)) (C := RX6) (T := TX6) (N := 7) hx hb hts hinX6 hown hK.1 hB 0 lay_0 rfl 1 (by decide) (hts (.fieldLink RX6 19 "RiverMeeting" "present" "LRiverMeeting$Game;") (List.mem_of_getElem? (i := 2) rfl)) (fun _ h9 => h9) rfl dX6_doTextCommand_211 ?_
    refine b_mI (b_runV (As := [.ref (o + 3)]) (rest := [.ref (o + 3)]) ⟨hx, hb, hml, hown, hts⟩ (c_X5_bestStep l D E o M 3 isG_3) (cwV 1 hts gX6_doTextCommand_X5_bestStep rfl rfl rfl (by decide +kernel) ⟨Nat.le_of_ble_eq_true rfl, Nat.le_of_ble_eq_true rfl⟩) hK (bk_recv hK.1 hB lay_23 rfl) hB rfl hl rfl (Nat.le_of_ble_eq_true rfl) dX6_doTextCommand_214 ⟨Nat.zero_le _, Nat.zero_le _⟩) hS (fun q h => h) (fun r14 M13 hM13 H locs hB _ hS => ?_)
    obtain ⟨hr14, hM13⟩ := hM13
    refine b_mI (b_runV (As := [.int r14]) (rest := []) ⟨hx, hb, hml, hown, hts⟩ (c_X0_stepIfPossible l D E o M13 3 r14 isG_3) (cwV 1 hts gX6_doTextCommand_X0_stepIfPossible rfl rfl rfl (by decide +kernel) ⟨Nat.le_of_ble_eq_true rfl, Nat.le_of_ble_eq_true rfl⟩) hK (bk_recv hK.1 hB isG_3.1 rfl) hB rfl hl rfl (Nat.le_of_ble_eq_true rfl) dX6_doTextCommand_217 ⟨Nat.zero_le _, Nat.zero_le _⟩) hS (fun q h => h) (fun r16 M15 hM15 H locs hB _ hS => ?_)
    obtain ⟨hr16, hM15⟩ := hM15
    refine lv_pop hx hb dX6_doTextCommand_220 rfl ?_
    refine lv_iconst (v := 1) hx hb dX6_doTextCommand_221 (by decide) ?_
    have e17 := p_X6_doTextCommand_e17 M x1 r11 hr11.symm c12 r14 hr14.symm M13 hM13.symm r16 hr16.symm M15 hM15.symm
    exact b_zret hx hb hr rfl hlocks hS ⟨_, rfl, _, ⟨(congrArg Prod.fst e17).symm, (congrArg Prod.snd e17).symm⟩, hB⟩ dX6_doTextCommand_222
  by_cases c18 : r11 = 100
  · refine b_tabI (tgt := 159) hx hb 100 dX6_doTextCommand_8 (by rw [c18]; rfl) (by decide) (by decide) rfl (by decide) ?_
    refine lv_aload_n hx hb dX6_doTextCommand_159 rfl (lv_at hl 0 rfl) ?_
    refine b_get (D := D) (E := E) (L := LRM) (o := o) (M := M) (v := .ref (o + 3)) (C := RX6) (T := TX6) (N := 7) hx hb hts hinX6 hown hK.1 hB 0 lay_0 rfl 1 (by decide) (hts (.fieldLink RX6 19 "RiverMeeting" "present" "LRiverMeeting$Game;") (List.mem_of_getElem? (i := 2) rfl)) (fun _ h9 => h9) rfl dX6_doTextCommand_160 ?_
    refine lv_aload_n hx hb dX6_doTextCommand_163 rfl (lv_at hl 0 rfl) ?_
    refine b_get (D := D) (E := E) (L := LRM) (o := o) (M := M) (v := .ref (o + 1)) (C := RX6) (T := TX6) (N := 7) hx hb hts hinX6 hown hK.1 hB 0 lay_0 rfl 0 (by decide) (hts (.fieldLink RX6 10 "RiverMeeting" "text" "LRiverMeeting$TextBuffer;") (List.mem_of_getElem? (i := 1) rfl)) (fun _ h9 => h9) rfl dX6_doTextCommand_164 ?_
    refine lv_iload_n hx hb dX6_doTextCommand_167 rfl (lv_at hl 1 rfl) ?_
    refine lv_iconst (v := 1) hx hb dX6_doTextCommand_168 (by decide) ?_
    refine lv_iadd hx hb dX6_doTextCommand_169 ?_
    refine b_pI (b_runV (As := [.int (x1 + 1)]) (rest := [.ref (o + 3)]) ⟨hx, hb, hml, hown, hts⟩ (c_X4_digitAt l D E o M (x1 + 1) hch) (cwV 1 hts gX6_doTextCommand_X4_digitAt rfl rfl rfl (by decide +kernel) ⟨Nat.le_of_ble_eq_true rfl, Nat.le_of_ble_eq_true rfl⟩) hK (bk_recv hK.1 hB lay_1 rfl) hB rfl hl rfl (Nat.le_of_ble_eq_true rfl) dX6_doTextCommand_170 ⟨Nat.zero_le _, Nat.zero_le _⟩) hS (fun r19 hr19 locs hS => ?_)
    refine lv_aload_n hx hb dX6_doTextCommand_173 rfl (lv_at hl 0 rfl) ?_
    refine b_get (D := D) (E := E) (L := LRM) (o := o) (M := M) (v := .ref (o + 1)) (C := RX6) (T := TX6) (N := 7) hx hb hts hinX6 hown hK.1 hB 0 lay_0 rfl 0 (by decide) (hts (.fieldLink RX6 10 "RiverMeeting" "text" "LRiverMeeting$TextBuffer;") (List.mem_of_getElem? (i := 1) rfl)) (fun _ h9 => h9) rfl dX6_doTextCommand_174 ?_
    refine lv_iload_n hx hb dX6_doTextCommand_177 rfl (lv_at hl 1 rfl) ?_
    refine lv_iconst (v := 2) hx hb dX6_doTextCommand_178 (by decide) ?_
    refine lv_iadd hx hb dX6_doTextCommand_179 ?_
    refine b_pI (b_runV (As := [.int (x1 + 2)]) (rest := [.int r19, .ref (o + 3)]) ⟨hx, hb, hml, hown, hts⟩ (c_X4_digitAt l D E o M (x1 + 2) hch) (cwV 1 hts gX6_doTextCommand_X4_digitAt rfl rfl rfl (by decide +kernel) ⟨Nat.le_of_ble_eq_true rfl, Nat.le_of_ble_eq_true rfl⟩) hK (bk_recv hK.1 hB lay_1 rfl) hB rfl hl rfl (Nat.le_of_ble_eq_true rfl) dX6_doTextCommand_180 ⟨Nat.zero_le _, Nat.zero_le _⟩) hS (fun r20 hr20 locs hS => ?_)
    refine b_pI (b_runS (As := [.int r19, .int r20]) (rest := [.ref (o + 3)]) ⟨hx, hb, hml, hown, hts⟩ (c_X6_cellAt l D E r19 r20) (va_cwS 2 hts gX6_doTextCommand_X6_cellAt rfl rfl rfl (by decide +kernel) ⟨Nat.le_of_ble_eq_true rfl, Nat.le_of_ble_eq_true rfl⟩) hK trivial rfl hl rfl (Nat.le_of_ble_eq_true rfl) dX6_doTextCommand_183 ⟨Nat.zero_le _, Nat.zero_le _⟩) hS (fun r21 hr21 locs hS => ?_)
    refine lv_aload_n hx hb dX6_doTextCommand_186 rfl (lv_at hl 0 rfl) ?_
    refine b_get (D := D) (E := E) (L := LRM) (o := o) (M := M) (v := .ref (o + 23)) (C := RX6) (T := TX6) (N := 7) hx hb hts hinX6 hown hK.1 hB 0 lay_0 rfl 3 (by decide) (hts (.fieldLink RX6 29 "RiverMeeting" "ways" "LRiverMeeting$Ways;") (List.mem_of_getElem? (i := 3) rfl)) (fun _ h9 => h9) rfl dX6_doTextCommand_187 ?_
    refine b_mI (b_runV (As := [.int r21, .ref (o + 23)]) (rest := []) ⟨hx, hb, hml, hown, hts⟩ (c_X0_damIfPossible l D E o M 3 r21 isG_3) (cwV 2 hts gX6_doTextCommand_X0_damIfPossible rfl rfl rfl (by decide +kernel) ⟨Nat.le_of_ble_eq_true rfl, Nat.le_of_ble_eq_true rfl⟩) hK (bk_recv hK.1 hB isG_3.1 rfl) hB rfl hl rfl (Nat.le_of_ble_eq_true rfl) dX6_doTextCommand_190 ⟨Nat.zero_le _, Nat.zero_le _⟩) hS (fun q h => h) (fun r23 M22 hM22 H locs hB _ hS => ?_)
    obtain ⟨hr23, hM22⟩ := hM22
    have e24 := p_X6_doTextCommand_e24 M x1 r11 hr11.symm c12 c18 r19 hr19.symm r20 hr20.symm r21 hr21.symm r23 hr23.symm M22 hM22.symm
    exact b_zret hx hb hr (nar_z (by rw [hr23]; exact z_X0_damIfPossible M 3 r21)) hlocks hS ⟨_, rfl, _, ⟨(congrArg Prod.fst e24).symm, (congrArg Prod.snd e24).symm⟩, hB⟩ dX6_doTextCommand_193
  by_cases c25 : r11 = 101
  · refine b_tabI (tgt := 141) hx hb 101 dX6_doTextCommand_8 (by rw [c25]; rfl) (by decide) (by decide) rfl (by decide) ?_
    refine lv_aload_n hx hb dX6_doTextCommand_141 rfl (lv_at hl 0 rfl) ?_
    refine b_get (D := D) (E := E) (L := LRM) (o := o) (M := M) (v := .ref (o + 3)) (C := RX6) (T := TX6) (N := 7) hx hb hts hinX6 hown hK.1 hB 0 lay_0 rfl 1 (by decide) (hts (.fieldLink RX6 19 "RiverMeeting" "present" "LRiverMeeting$Game;") (List.mem_of_getElem? (i := 2) rfl)) (fun _ h9 => h9) rfl dX6_doTextCommand_142 ?_
    refine lv_iconst (v := 1) hx hb dX6_doTextCommand_145 (by decide) ?_
    refine b_mI (b_runV (As := [.int 1]) (rest := []) ⟨hx, hb, hml, hown, hts⟩ (c_X0_stepIfPossible l D E o M 3 1 isG_3) (cwV 1 hts gX6_doTextCommand_X0_stepIfPossible rfl rfl rfl (by decide +kernel) ⟨Nat.le_of_ble_eq_true rfl, Nat.le_of_ble_eq_true rfl⟩) hK (bk_recv hK.1 hB isG_3.1 rfl) hB rfl hl rfl (Nat.le_of_ble_eq_true rfl) dX6_doTextCommand_146 ⟨Nat.zero_le _, Nat.zero_le _⟩) hS (fun q h => h) (fun r27 M26 hM26 H locs hB _ hS => ?_)
    obtain ⟨hr27, hM26⟩ := hM26
    have e28 := p_X6_doTextCommand_e28 M x1 r11 hr11.symm c12 c18 c25 r27 hr27.symm M26 hM26.symm
    exact b_zret hx hb hr (nar_z (by rw [hr27]; exact z_X0_stepIfPossible M 3 1)) hlocks hS ⟨_, rfl, _, ⟨(congrArg Prod.fst e28).symm, (congrArg Prod.snd e28).symm⟩, hB⟩ dX6_doTextCommand_149
  by_cases c29 : r11 = 102
  · refine b_tabI (tgt := 194) hx hb 102 dX6_doTextCommand_8 (by rw [c29]; rfl) (by decide) (by decide) rfl (by decide) ?_
    refine lv_aload_n hx hb dX6_doTextCommand_194 rfl (lv_at hl 0 rfl) ?_
    refine b_get (D := D) (E := E) (L := LRM) (o := o) (M := M) (v := .ref (o + 3)) (C := RX6) (T := TX6) (N := 7) hx hb hts hinX6 hown hK.1 hB 0 lay_0 rfl 1 (by decide) (hts (.fieldLink RX6 19 "RiverMeeting" "present" "LRiverMeeting$Game;") (List.mem_of_getElem? (i := 2) rfl)) (fun _ h9 => h9) rfl dX6_doTextCommand_195 ?_
    refine b_mI (b_runV (As := []) (rest := []) ⟨hx, hb, hml, hown, hts⟩ (c_X0_floodIfPossible l D E o M 3 isG_3) (cwV 0 hts gX6_doTextCommand_X0_floodIfPossible rfl rfl rfl (by decide +kernel) ⟨Nat.le_of_ble_eq_true rfl, Nat.le_of_ble_eq_true rfl⟩) hK (bk_recv hK.1 hB isG_3.1 rfl) hB rfl hl rfl (Nat.le_of_ble_eq_true rfl) dX6_doTextCommand_198 ⟨Nat.zero_le _, Nat.zero_le _⟩) hS (fun q h => h) (fun r31 M30 hM30 H locs hB _ hS => ?_)
    obtain ⟨hr31, hM30⟩ := hM30
    have e32 := p_X6_doTextCommand_e32 M x1 r11 hr11.symm c12 c18 c25 c29 r31 hr31.symm M30 hM30.symm
    exact b_zret hx hb hr (nar_z (by rw [hr31]; exact z_X0_floodIfPossible M 3)) hlocks hS ⟨_, rfl, _, ⟨(congrArg Prod.fst e32).symm, (congrArg Prod.snd e32).symm⟩, hB⟩ dX6_doTextCommand_201
  by_cases c33 : r11 = 110
  · refine b_tabI (tgt := 112) hx hb 110 dX6_doTextCommand_8 (by rw [c33]; rfl) (by decide) (by decide) rfl (by decide) ?_
    refine lv_aload_n hx hb dX6_doTextCommand_112 rfl (lv_at hl 0 rfl) ?_
    refine b_get (D := D) (E := E) (L := LRM) (o := o) (M := M) (v := .ref (o + 3)) (C := RX6) (T := TX6) (N := 7) hx hb hts hinX6 hown hK.1 hB 0 lay_0 rfl 1 (by decide) (hts (.fieldLink RX6 19 "RiverMeeting" "present" "LRiverMeeting$Game;") (List.mem_of_getElem? (i := 2) rfl)) (fun _ h9 => h9) rfl dX6_doTextCommand_113 ?_
    refine lv_aload_n hx hb dX6_doTextCommand_116 rfl (lv_at hl 0 rfl) ?_
    refine b_get (D := D) (E := E) (L := LRM) (o := o) (M := M) (v := .ref (o + 1)) (C := RX6) (T := TX6) (N := 7) hx hb hts hinX6 hown hK.1 hB 0 lay_0 rfl 0 (by decide) (hts (.fieldLink RX6 10 "RiverMeeting" "text" "LRiverMeeting$TextBuffer;") (List.mem_of_getElem? (i := 1) rfl)) (fun _ h9 => h9) rfl dX6_doTextCommand_117 ?_
    refine lv_iload_n hx hb dX6_doTextCommand_120 rfl (lv_at hl 1 rfl) ?_
    refine lv_iconst (v := 1) hx hb dX6_doTextCommand_121 (by decide) ?_
    refine lv_iadd hx hb dX6_doTextCommand_122 ?_
    refine b_pI (b_runV (As := [.int (x1 + 1)]) (rest := [.ref (o + 3)]) ⟨hx, hb, hml, hown, hts⟩ (c_X4_numberAt l D E o M (x1 + 1) hch) (cwV 1 hts gX6_doTextCommand_X4_numberAt rfl rfl rfl (by decide +kernel) ⟨Nat.le_of_ble_eq_true rfl, Nat.le_of_ble_eq_true rfl⟩) hK (bk_recv hK.1 hB lay_1 rfl) hB rfl hl rfl (Nat.le_of_ble_eq_true rfl) dX6_doTextCommand_123 ⟨Nat.zero_le _, Nat.zero_le _⟩) hS (fun r34 hr34 locs hS => ?_)
    refine lv_i2l hx hb dX6_doTextCommand_126 rfl ?_
    refine b_mV (b_runV (As := [.long r34.toInt64]) (rest := []) ⟨hx, hb, hml, hown, hts⟩ (c_X0_beginGame l D E o M 3 r34.toInt64 isG_3) (cwV 1 hts gX6_doTextCommand_X0_beginGame rfl rfl rfl (by decide +kernel) ⟨Nat.le_of_ble_eq_true rfl, Nat.le_of_ble_eq_true rfl⟩) hK (bk_recv hK.1 hB isG_3.1 rfl) hB rfl hl rfl (Nat.le_of_ble_eq_true rfl) dX6_doTextCommand_127 ⟨Nat.zero_le _, Nat.zero_le _⟩) hS (fun q h => h) (fun M35 hM35 H locs hB _ hS => ?_)
    refine lv_iconst (v := 1) hx hb dX6_doTextCommand_130 (by decide) ?_
    have e36 := p_X6_doTextCommand_e36 M x1 r11 hr11.symm c12 c18 c25 c29 c33 r34 hr34.symm M35 hM35.symm
    exact b_zret hx hb hr rfl hlocks hS ⟨_, rfl, _, ⟨(congrArg Prod.fst e36).symm, (congrArg Prod.snd e36).symm⟩, hB⟩ dX6_doTextCommand_131
  by_cases c37 : r11 = 115
  · refine b_tabI (tgt := 132) hx hb 115 dX6_doTextCommand_8 (by rw [c37]; rfl) (by decide) (by decide) rfl (by decide) ?_
    refine lv_aload_n hx hb dX6_doTextCommand_132 rfl (lv_at hl 0 rfl) ?_
    refine b_get (D := D) (E := E) (L := LRM) (o := o) (M := M) (v := .ref (o + 3)) (C := RX6) (T := TX6) (N := 7) hx hb hts hinX6 hown hK.1 hB 0 lay_0 rfl 1 (by decide) (hts (.fieldLink RX6 19 "RiverMeeting" "present" "LRiverMeeting$Game;") (List.mem_of_getElem? (i := 2) rfl)) (fun _ h9 => h9) rfl dX6_doTextCommand_133 ?_
    refine lv_iconst (v := 0) hx hb dX6_doTextCommand_136 (by decide) ?_
    refine b_mI (b_runV (As := [.int 0]) (rest := []) ⟨hx, hb, hml, hown, hts⟩ (c_X0_stepIfPossible l D E o M 3 0 isG_3) (cwV 1 hts gX6_doTextCommand_X0_stepIfPossible rfl rfl rfl (by decide +kernel) ⟨Nat.le_of_ble_eq_true rfl, Nat.le_of_ble_eq_true rfl⟩) hK (bk_recv hK.1 hB isG_3.1 rfl) hB rfl hl rfl (Nat.le_of_ble_eq_true rfl) dX6_doTextCommand_137 ⟨Nat.zero_le _, Nat.zero_le _⟩) hS (fun q h => h) (fun r39 M38 hM38 H locs hB _ hS => ?_)
    obtain ⟨hr39, hM38⟩ := hM38
    have e40 := p_X6_doTextCommand_e40 M x1 r11 hr11.symm c12 c18 c25 c29 c33 c37 r39 hr39.symm M38 hM38.symm
    exact b_zret hx hb hr (nar_z (by rw [hr39]; exact z_X0_stepIfPossible M 3 0)) hlocks hS ⟨_, rfl, _, ⟨(congrArg Prod.fst e40).symm, (congrArg Prod.snd e40).symm⟩, hB⟩ dX6_doTextCommand_140
  by_cases c41 : r11 = 118
  · refine b_tabI (tgt := 223) hx hb 118 dX6_doTextCommand_8 (by rw [c41]; rfl) (by decide) (by decide) rfl (by decide) ?_
    refine lv_aload_n hx hb dX6_doTextCommand_223 rfl (lv_at hl 0 rfl) ?_
    refine b_get (D := D) (E := E) (L := LRM) (o := o) (M := M) (v := .ref (o + 3)) (C := RX6) (T := TX6) (N := 7) hx hb hts hinX6 hown hK.1 hB 0 lay_0 rfl 1 (by decide) (hts (.fieldLink RX6 19 "RiverMeeting" "present" "LRiverMeeting$Game;") (List.mem_of_getElem? (i := 2) rfl)) (fun _ h9 => h9) rfl dX6_doTextCommand_224 ?_
    refine lv_aload_n hx hb dX6_doTextCommand_227 rfl (lv_at hl 0 rfl) ?_
    refine b_get (D := D) (E := E) (L := LRM) (o := o) (M := M) (v := .ref (o + 1)) (C := RX6) (T := TX6) (N := 7) hx hb hts hinX6 hown hK.1 hB 0 lay_0 rfl 0 (by decide) (hts (.fieldLink RX6 10 "RiverMeeting" "text" "LRiverMeeting$TextBuffer;") (List.mem_of_getElem? (i := 1) rfl)) (fun _ h9 => h9) rfl dX6_doTextCommand_228 ?_
    refine lv_iload_n hx hb dX6_doTextCommand_231 rfl (lv_at hl 1 rfl) ?_
    refine lv_iconst (v := 1) hx hb dX6_doTextCommand_232 (by decide) ?_
    refine lv_iadd hx hb dX6_doTextCommand_233 ?_
    refine b_pI (b_runV (As := [.int (x1 + 1)]) (rest := [.ref (o + 3)]) ⟨hx, hb, hml, hown, hts⟩ (c_X4_digitAt l D E o M (x1 + 1) hch) (cwV 1 hts gX6_doTextCommand_X4_digitAt rfl rfl rfl (by decide +kernel) ⟨Nat.le_of_ble_eq_true rfl, Nat.le_of_ble_eq_true rfl⟩) hK (bk_recv hK.1 hB lay_1 rfl) hB rfl hl rfl (Nat.le_of_ble_eq_true rfl) dX6_doTextCommand_234 ⟨Nat.zero_le _, Nat.zero_le _⟩) hS (fun r42 hr42 locs hS => ?_)
    refine lv_aload_n hx hb dX6_doTextCommand_237 rfl (lv_at hl 0 rfl) ?_
    refine b_get (D := D) (E := E) (L := LRM) (o := o) (M := M) (v := .ref (o + 1)) (C := RX6) (T := TX6) (N := 7) hx hb hts hinX6 hown hK.1 hB 0 lay_0 rfl 0 (by decide) (hts (.fieldLink RX6 10 "RiverMeeting" "text" "LRiverMeeting$TextBuffer;") (List.mem_of_getElem? (i := 1) rfl)) (fun _ h9 => h9) rfl dX6_doTextCommand_238 ?_
    refine lv_iload_n hx hb dX6_doTextCommand_241 rfl (lv_at hl 1 rfl) ?_
    refine lv_iconst (v := 2) hx hb dX6_doTextCommand_242 (by decide) ?_
    refine lv_iadd hx hb dX6_doTextCommand_243 ?_
    refine b_pI (b_runV (As := [.int (x1 + 2)]) (rest := [.int r42, .ref (o + 3)]) ⟨hx, hb, hml, hown, hts⟩ (c_X4_numberAt l D E o M (x1 + 2) hch) (cwV 1 hts gX6_doTextCommand_X4_numberAt rfl rfl rfl (by decide +kernel) ⟨Nat.le_of_ble_eq_true rfl, Nat.le_of_ble_eq_true rfl⟩) hK (bk_recv hK.1 hB lay_1 rfl) hB rfl hl rfl (Nat.le_of_ble_eq_true rfl) dX6_doTextCommand_244 ⟨Nat.zero_le _, Nat.zero_le _⟩) hS (fun r43 hr43 locs hS => ?_)
    refine b_mI (b_runV (As := [.int r42, .int r43]) (rest := []) ⟨hx, hb, hml, hown, hts⟩ (c_X0_changeIfPossible l D E o M 3 r42 r43 isG_3) (cwV 2 hts gX6_doTextCommand_X0_changeIfPossible rfl rfl rfl (by decide +kernel) ⟨Nat.le_of_ble_eq_true rfl, Nat.le_of_ble_eq_true rfl⟩) hK (bk_recv hK.1 hB isG_3.1 rfl) hB rfl hl rfl (Nat.le_of_ble_eq_true rfl) dX6_doTextCommand_247 ⟨Nat.zero_le _, Nat.zero_le _⟩) hS (fun q h => h) (fun r45 M44 hM44 H locs hB _ hS => ?_)
    obtain ⟨hr45, hM44⟩ := hM44
    have e46 := p_X6_doTextCommand_e46 M x1 r11 hr11.symm c12 c18 c25 c29 c33 c37 c41 r42 hr42.symm r43 hr43.symm r45 hr45.symm M44 hM44.symm
    exact b_zret hx hb hr (nar_z (by rw [hr45]; exact z_X0_changeIfPossible M 3 r42 r43)) hlocks hS ⟨_, rfl, _, ⟨(congrArg Prod.fst e46).symm, (congrArg Prod.snd e46).symm⟩, hB⟩ dX6_doTextCommand_250
  by_cases c47 : r11 = 119
  · refine b_tabI (tgt := 150) hx hb 119 dX6_doTextCommand_8 (by rw [c47]; rfl) (by decide) (by decide) rfl (by decide) ?_
    refine lv_aload_n hx hb dX6_doTextCommand_150 rfl (lv_at hl 0 rfl) ?_
    refine b_get (D := D) (E := E) (L := LRM) (o := o) (M := M) (v := .ref (o + 3)) (C := RX6) (T := TX6) (N := 7) hx hb hts hinX6 hown hK.1 hB 0 lay_0 rfl 1 (by decide) (hts (.fieldLink RX6 19 "RiverMeeting" "present" "LRiverMeeting$Game;") (List.mem_of_getElem? (i := 2) rfl)) (fun _ h9 => h9) rfl dX6_doTextCommand_151 ?_
    refine lv_iconst (v := 2) hx hb dX6_doTextCommand_154 (by decide) ?_
    refine b_mI (b_runV (As := [.int 2]) (rest := []) ⟨hx, hb, hml, hown, hts⟩ (c_X0_stepIfPossible l D E o M 3 2 isG_3) (cwV 1 hts gX6_doTextCommand_X0_stepIfPossible rfl rfl rfl (by decide +kernel) ⟨Nat.le_of_ble_eq_true rfl, Nat.le_of_ble_eq_true rfl⟩) hK (bk_recv hK.1 hB isG_3.1 rfl) hB rfl hl rfl (Nat.le_of_ble_eq_true rfl) dX6_doTextCommand_155 ⟨Nat.zero_le _, Nat.zero_le _⟩) hS (fun q h => h) (fun r49 M48 hM48 H locs hB _ hS => ?_)
    obtain ⟨hr49, hM48⟩ := hM48
    have e50 := p_X6_doTextCommand_e50 M x1 r11 hr11.symm c12 c18 c25 c29 c33 c37 c41 c47 r49 hr49.symm M48 hM48.symm
    exact b_zret hx hb hr (nar_z (by rw [hr49]; exact z_X0_stepIfPossible M 3 2)) hlocks hS ⟨_, rfl, _, ⟨(congrArg Prod.fst e50).symm, (congrArg Prod.snd e50).symm⟩, hB⟩ dX6_doTextCommand_158
  refine b_tabD (tgt := 251) hx hb [98, 100, 101, 102, 110, 115, 118, 119] dX6_doTextCommand_8 (by decide) (by decide) (List.forall_mem_cons.mpr ⟨lv_neT c12 (a := 98) rfl, (List.forall_mem_cons.mpr ⟨lv_neT c18 (a := 100) rfl, (List.forall_mem_cons.mpr ⟨lv_neT c25 (a := 101) rfl, (List.forall_mem_cons.mpr ⟨lv_neT c29 (a := 102) rfl, (List.forall_mem_cons.mpr ⟨lv_neT c33 (a := 110) rfl, (List.forall_mem_cons.mpr ⟨lv_neT c37 (a := 115) rfl, (List.forall_mem_cons.mpr ⟨lv_neT c41 (a := 118) rfl, (List.forall_mem_cons.mpr ⟨lv_neT c47 (a := 119) rfl, (fun v h => absurd h List.not_mem_nil)⟩)⟩)⟩)⟩)⟩)⟩)⟩)⟩) (by decide) ?_
  refine lv_iconst (v := 0) hx hb dX6_doTextCommand_251 (by decide) ?_
  have e51 := p_X6_doTextCommand_e51 M x1 r11 hr11.symm c12 c18 c25 c29 c33 c37 c41 c47
  exact b_zret hx hb hr rfl hlocks hS ⟨_, rfl, _, ⟨(congrArg Prod.fst e51).symm, (congrArg Prod.snd e51).symm⟩, hB⟩ dX6_doTextCommand_252
