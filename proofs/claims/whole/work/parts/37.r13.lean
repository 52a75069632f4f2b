theorem rcG {M : bM} {k : Nat} (h0 : 0 ≠ k) (h7 : 7 ≠ k) (h : gR (M k)) (t : txR M) (c : ¬ M 0 2 ≤ M 0 11) : gR ((f_X7_readCommand M k).2 k) := by
  obtain ⟨s, z, t⟩ := t
  exact (readCommand_ok h0 h7 h t ((nlt_le t).mp c)).1
theorem rcT {M : bM} {k : Nat} (h0 : 0 ≠ k) (h7 : 7 ≠ k) (h : gR (M k)) (t : txR M) (c : ¬ M 0 2 ≤ M 0 11) : txR (f_X7_readCommand M k).2 := by
  obtain ⟨s, z, t⟩ := t
  have h1 := readCommand_ok h0 h7 h t ((nlt_le t).mp c)
  rcases Classical.em ((f_X7_readCommand M k).1 = 0) with q | q
  · obtain ⟨s', _, q2⟩ := h1.2.1 q
    exact ⟨s', z, q2⟩
  · obtain ⟨s', _, q2⟩ := h1.2.2 q
    exact ⟨s', z, q2⟩
theorem rt_tx {N : bM} (h : vp_in (N 0 2) 121) (c : ¬ N 0 2 = 0) : txR (up2 N 0 11 1) := by
  obtain ⟨z, hz, e⟩ := vp_in_of h (by decide)
  have : z ≠ 0 := fun q => c (by rw [e, q]; rfl)
  exact ⟨1, z, by rw [up2_at, if_pos rfl]; rfl, by rw [up2_at, if_neg (by decide)]; exact e, by omega, by omega⟩
def lp_X7_readText_39 (k1 : Nat) : Nat → Nat → bM → (Bool × Int32 × bM)
  | 0, i18, M19 => (if (M19 0 2) ≤ (M19 0 11) then (false, 0, M19) else (false, 0, M19))
  | n18 + 1, i18, M19 => (if (M19 0 2) ≤ (M19 0 11) then (false, 0, M19) else (let r26 : Int32 := (f_X7_readCommand M19 k1).1; (let M25 : bM := (f_X7_readCommand M19 k1).2; (if r26 = 0 then (true, (M25 0 11), M25) else lp_X7_readText_39 k1 n18 (i18 + 1) M25))))
theorem u0_lp_X7_readText_39 (k1 : Nat) (i18 : Nat) (M19 : bM) : lp_X7_readText_39 k1 0 i18 M19 = (if (M19 0 2) ≤ (M19 0 11) then (false, 0, M19) else (false, 0, M19)) := rfl
theorem u1_lp_X7_readText_39 (k1 : Nat) (n18 i18 : Nat) (M19 : bM) : lp_X7_readText_39 k1 (n18 + 1) i18 M19 = (if (M19 0 2) ≤ (M19 0 11) then (false, 0, M19) else (let r26 : Int32 := (f_X7_readCommand M19 k1).1; (let M25 : bM := (f_X7_readCommand M19 k1).2; (if r26 = 0 then (true, (M25 0 11), M25) else lp_X7_readText_39 k1 n18 (i18 + 1) M25)))) := rfl
def f_X7_readText (M : bM) (k1 : Nat) : Int32 × bM := (let M11 : bM := f_X7_clear M k1; (let M12 : bM := up2 M11 0 12 0; (let M13 : bM := up2 M12 0 11 0; (if (M13 0 2) = 0 then (0, M13) else (if (M13 1 0) = 87 then (let M17 : bM := up2 M13 0 11 1; (if (lp_X7_readText_39 k1 120 0 M17).1 = true then ((lp_X7_readText_39 k1 120 0 M17).2.1, (lp_X7_readText_39 k1 120 0 M17).2.2) else (let M31 : bM := (lp_X7_readText_39 k1 120 0 M17).2.2; ((-1), M31)))) else (0, M13))))))
theorem u_f_X7_readText (M : bM) (k1 : Nat) : f_X7_readText M k1 = (let M11 : bM := f_X7_clear M k1; (let M12 : bM := up2 M11 0 12 0; (let M13 : bM := up2 M12 0 11 0; (if (M13 0 2) = 0 then (0, M13) else (if (M13 1 0) = 87 then (let M17 : bM := up2 M13 0 11 1; (if (lp_X7_readText_39 k1 120 0 M17).1 = true then ((lp_X7_readText_39 k1 120 0 M17).2.1, (lp_X7_readText_39 k1 120 0 M17).2.2) else (let M31 : bM := (lp_X7_readText_39 k1 120 0 M17).2.2; ((-1), M31)))) else (0, M13)))))) := rfl
theorem p_X7_readText_e15 (M : bM) (k1 : Nat) (M11 : bM) (hM11 : f_X7_clear M k1 = M11) (M12 : bM) (hM12 : up2 M11 0 12 0 = M12) (M13 : bM) (hM13 : up2 M12 0 11 0 = M13) (c14 : (M13 0 2) = 0) : f_X7_readText M k1 = (0, M13) := by subst hM13 hM12 hM11; exact Eq.trans (u_f_X7_readText M k1) (if_pos c14)
theorem p_X7_readText_e21 (M : bM) (k1 : Nat) (M11 : bM) (M12 : bM) (M13 : bM) (M17 : bM) (M19 : bM) (i18 : Nat) (c20 : (M19 0 2) ≤ (M19 0 11)) : lp_X7_readText_39 k1 0 i18 M19 = (false, 0, M19) := by exact Eq.trans (u0_lp_X7_readText_39 k1 i18 M19) (if_pos c20)
theorem p_X7_readText_e22 (M : bM) (k1 : Nat) (M11 : bM) (M12 : bM) (M13 : bM) (M17 : bM) (M19 : bM) (i18 : Nat) (c20 : ¬ (M19 0 2) ≤ (M19 0 11)) : lp_X7_readText_39 k1 0 i18 M19 = (false, 0, M19) := by exact Eq.trans (u0_lp_X7_readText_39 k1 i18 M19) (if_neg c20)
theorem p_X7_readText_e24 (M : bM) (k1 : Nat) (M11 : bM) (M12 : bM) (M13 : bM) (M17 : bM) (M19 : bM) (i18 : Nat) (n18 : Nat) (c23 : (M19 0 2) ≤ (M19 0 11)) : lp_X7_readText_39 k1 (n18 + 1) i18 M19 = (false, 0, M19) := by exact Eq.trans (u1_lp_X7_readText_39 k1 n18 i18 M19) (if_pos c23)
theorem p_X7_readText_e28 (M : bM) (k1 : Nat) (M11 : bM) (M12 : bM) (M13 : bM) (M17 : bM) (M19 : bM) (i18 : Nat) (n18 : Nat) (c23 : ¬ (M19 0 2) ≤ (M19 0 11)) (r26 : Int32) (hr26 : (f_X7_readCommand M19 k1).1 = r26) (M25 : bM) (hM25 : (f_X7_readCommand M19 k1).2 = M25) (c27 : ¬ r26 = 0) : lp_X7_readText_39 k1 (n18 + 1) i18 M19 = lp_X7_readText_39 k1 n18 (i18 + 1) M25 := by subst hM25 hr26; exact Eq.trans (u1_lp_X7_readText_39 k1 n18 i18 M19) (Eq.trans (if_neg c23) (if_neg c27))
theorem p_X7_readText_e29 (M : bM) (k1 : Nat) (M11 : bM) (M12 : bM) (M13 : bM) (M17 : bM) (M19 : bM) (i18 : Nat) (n18 : Nat) (c23 : ¬ (M19 0 2) ≤ (M19 0 11)) (r26 : Int32) (hr26 : (f_X7_readCommand M19 k1).1 = r26) (M25 : bM) (hM25 : (f_X7_readCommand M19 k1).2 = M25) (c27 : r26 = 0) : lp_X7_readText_39 k1 (n18 + 1) i18 M19 = (true, (M25 0 11), M25) := by subst hM25 hr26; exact Eq.trans (u1_lp_X7_readText_39 k1 n18 i18 M19) (Eq.trans (if_neg c23) (if_pos c27))
theorem p_X7_readText_e30 (M : bM) (k1 : Nat) (M11 : bM) (hM11 : f_X7_clear M k1 = M11) (M12 : bM) (hM12 : up2 M11 0 12 0 = M12) (M13 : bM) (hM13 : up2 M12 0 11 0 = M13) (c14 : ¬ (M13 0 2) = 0) (c16 : (M13 1 0) = 87) (M17 : bM) (hM17 : up2 M13 0 11 1 = M17) (hfl18 : (lp_X7_readText_39 k1 120 0 M17).1 = true) : f_X7_readText M k1 = ((lp_X7_readText_39 k1 120 0 M17).2.1, (lp_X7_readText_39 k1 120 0 M17).2.2) := by subst hM17 hM13 hM12 hM11; exact Eq.trans (u_f_X7_readText M k1) (Eq.trans (if_neg c14) (Eq.trans (if_pos c16) (if_pos hfl18)))
theorem p_X7_readText_e32 (M : bM) (k1 : Nat) (M11 : bM) (hM11 : f_X7_clear M k1 = M11) (M12 : bM) (hM12 : up2 M11 0 12 0 = M12) (M13 : bM) (hM13 : up2 M12 0 11 0 = M13) (c14 : ¬ (M13 0 2) = 0) (c16 : (M13 1 0) = 87) (M17 : bM) (hM17 : up2 M13 0 11 1 = M17) (hfl18 : (lp_X7_readText_39 k1 120 0 M17).1 = false) (M31 : bM) (hM31 : (lp_X7_readText_39 k1 120 0 M17).2.2 = M31) : f_X7_readText M k1 = ((-1), M31) := by subst hM31 hM17 hM13 hM12 hM11; exact Eq.trans (u_f_X7_readText M k1) (Eq.trans (if_neg c14) (Eq.trans (if_pos c16) (if_neg (fun h9 => Bool.noConfusion (h9.symm.trans hfl18)))))
theorem p_X7_readText_e33 (M : bM) (k1 : Nat) (M11 : bM) (hM11 : f_X7_clear M k1 = M11) (M12 : bM) (hM12 : up2 M11 0 12 0 = M12) (M13 : bM) (hM13 : up2 M12 0 11 0 = M13) (c14 : ¬ (M13 0 2) = 0) (c16 : ¬ (M13 1 0) = 87) : f_X7_readText M k1 = (0, M13) := by subst hM13 hM12 hM11; exact Eq.trans (u_f_X7_readText M k1) (Eq.trans (if_neg c14) (if_neg c16))
theorem fr_lp_X7_readText_39 (M : bM) (k1 : Nat) (M11 : bM) (M12 : bM) (M13 : bM) (M17 : bM) (k : Nat) (hk : k ≠ k1) (hf : k ≠ 7) (h0k : k ≠ 0) : ∀ (n18 i18 : Nat) (M19 : bM), (lp_X7_readText_39 k1 n18 i18 M19).2.2 k = M19 k := by
  intro n18
  induction n18 with
  | zero =>
    intro i18 M19
    by_cases c20 : (M19 0 2) ≤ (M19 0 11)
    · rw [p_X7_readText_e21 M k1 M11 M12 M13 M17 M19 i18 c20]
    · rw [p_X7_readText_e22 M k1 M11 M12 M13 M17 M19 i18 c20]
  | succ n18 ih18 =>
    intro i18 M19
    by_cases c23 : (M19 0 2) ≤ (M19 0 11)
    · rw [p_X7_readText_e24 M k1 M11 M12 M13 M17 M19 i18 n18 c23]
    · obtain ⟨r26, hr26⟩ : ∃ y : Int32, y = (f_X7_readCommand M19 k1).1 := ⟨_, rfl⟩
      obtain ⟨M25, hM25⟩ : ∃ y : bM, y = (f_X7_readCommand M19 k1).2 := ⟨_, rfl⟩
      by_cases c27 : r26 = 0
      · rw [p_X7_readText_e29 M k1 M11 M12 M13 M17 M19 i18 n18 c23 r26 hr26.symm M25 hM25.symm c27]
        try dsimp only
        rw [hM25, fr_X7_readCommand M19 k1 k (by omega) (by omega) (by omega)]
      · rw [p_X7_readText_e28 M k1 M11 M12 M13 M17 M19 i18 n18 c23 r26 hr26.symm M25 hM25.symm c27, ih18]
        try dsimp only
        rw [hM25, fr_X7_readCommand M19 k1 k (by omega) (by omega) (by omega)]
theorem fr_X7_readText (M : bM) (k1 : Nat) (k : Nat) (hk : k ≠ k1) (hf : k ≠ 7) (h0k : k ≠ 0) : (f_X7_readText M k1).2 k = M k := by
  obtain ⟨M11, hM11⟩ : ∃ y : bM, y = f_X7_clear M k1 := ⟨_, rfl⟩
  obtain ⟨M12, hM12⟩ : ∃ y : bM, y = up2 M11 0 12 0 := ⟨_, rfl⟩
  obtain ⟨M13, hM13⟩ : ∃ y : bM, y = up2 M12 0 11 0 := ⟨_, rfl⟩
  by_cases c14 : (M13 0 2) = 0
  · rw [p_X7_readText_e15 M k1 M11 hM11.symm M12 hM12.symm M13 hM13.symm c14]
    try dsimp only
    rw [hM13, up2_row (by omega), hM12, up2_row (by omega), hM11, fr_X7_clear M k1 k (by omega)]
  · by_cases c16 : (M13 1 0) = 87
    · obtain ⟨M17, hM17⟩ : ∃ y : bM, y = up2 M13 0 11 1 := ⟨_, rfl⟩
      rcases (by cases (lp_X7_readText_39 k1 120 0 M17).1 <;> simp : (lp_X7_readText_39 k1 120 0 M17).1 = true ∨ (lp_X7_readText_39 k1 120 0 M17).1 = false) with hfl18 | hfl18
      · rw [p_X7_readText_e30 M k1 M11 hM11.symm M12 hM12.symm M13 hM13.symm c14 c16 M17 hM17.symm hfl18]
        try dsimp only
        rw [fr_lp_X7_readText_39 M k1 M11 M12 M13 M17 k hk hf h0k 120 0 M17, hM17, up2_row (by omega), hM13, up2_row (by omega), hM12, up2_row (by omega), hM11, fr_X7_clear M k1 k (by omega)]
      · obtain ⟨M31, hM31⟩ : ∃ y : bM, y = (lp_X7_readText_39 k1 120 0 M17).2.2 := ⟨_, rfl⟩
        rw [p_X7_readText_e32 M k1 M11 hM11.symm M12 hM12.symm M13 hM13.symm c14 c16 M17 hM17.symm hfl18 M31 hM31.symm]
        try dsimp only
        rw [hM31, fr_lp_X7_readText_39 M k1 M11 M12 M13 M17 k hk hf h0k 120 0 M17, hM17, up2_row (by omega), hM13, up2_row (by omega), hM12, up2_row (by omega), hM11, fr_X7_clear M k1 k (by omega)]
    · rw [p_X7_readText_e33 M k1 M11 hM11.symm M12 hM12.symm M13 hM13.symm c14 c16]
      try dsimp only
      rw [hM13, up2_row (by omega), hM12, up2_row (by omega), hM11, fr_X7_clear M k1 k (by omega)]
set_option maxHeartbeats 4000000 in
set_option maxRecDepth 100000 in
theorem c_X7_readText (l : Launch) (D : va_G) (E : Nat → ClassId) (o : Nat) (M : bM) (k1 : Nat) (hk1 : LRR[k1]? = some (.inl (0, 404))) (h7 : 7 ≠ k1) (h0 : 0 ≠ k1) (hz : vp_in (M 0 2) 121) (he : ∀ N : bM, gR (N k1) → txR N → (lp_X7_readText_39 k1 120 0 N).1 = false → (lp_X7_readText_39 k1 120 0 N).2.2 0 2 ≤ (lp_X7_readText_39 k1 120 0 N).2.2 0 11) : Met l yX7_readText wsX7_readText (rmF 9) (bPc D E [.ref (o + 0), .ref (o + k1)] (fun H => bk D E LRR o M H)) (bQ (aI fun r H => ∃ M1 : bM, (r = (f_X7_readText M k1).1 ∧ M1 = (f_X7_readText M k1).2) ∧ bk D E LRR o M1 H) (rB o)) 0 0 (rB o) := by
  refine Met.ofW (cc := cX7_readText) (maxL := 2) (ret := (some .int)) (by decide) rfl ?_
  intro p e s m args below meth c s₁ B hml hv
  obtain ⟨rfl, hB, hK⟩ := hv
  have hx := B.exec
  have hb := B.bytes
  have hr := B.returns
  have hts := atoms_spec (ws := wsX7_readText) B.pre
  have hown : s.vm.findClass RX7 = some m.cls := findClass_of_methodNamed B.named
  have hlocks := B.notSynchronized
  have hS : bS (rB o) s.heap s.heap [] := bS.rf
  have hl := lv_entry ([.ref (o + 0), .ref (o + k1)]) (n := 2) (Nat.le_of_ble_eq_true rfl)
  rw [lg_entry_eq]
  generalize (lg_sl ([.ref (o + 0), .ref (o + k1)]) ++ List.replicate (2 - (lg_sl ([.ref (o + 0), .ref (o + k1)])).length) Slot.unset).toArray = ls at hl ⊢
  have hl : lv_has ls 2 [(0, .ref (o + 0)), (1, .ref (o + k1))] := hl
  have hB : bk D E LRR o M s.heap := hB
  have hinX7 : ∀ w ∈ wsX70, w ∈ wsX7_readText := by decide +kernel
  refine lv_aload_n hx hb dX7_readText_0 rfl (lv_at hl 1 rfl) ?_
  refine b_mV (b_runS (As := [.ref (o + k1)]) (rest := []) ⟨hx, hb, hml, hown, hts⟩ (c_X7_clear l D E o M k1 hk1) (va_cwS 1 hts gX7_readText_X7_clear rfl rfl rfl (by decide +kernel) ⟨Nat.le_of_ble_eq_true rfl, Nat.le_of_ble_eq_true rfl⟩) hK hB rfl hl rfl (Nat.le_of_ble_eq_true rfl) dX7_readText_1 ⟨Nat.zero_le _, Nat.zero_le _⟩) hS (fun q h => h) (fun M11 hM11 H locs hB _ hS => ?_)
  refine lv_aload_n hx hb dX7_readText_4 rfl (lv_at hl 0 rfl) ?_
  refine lv_iconst (v := 0) hx hb dX7_readText_5 (by decide) ?_
  refine b_put (D := D) (E := E) (L := LRR) (o := o) (M := M11) (v := 0) (ty := .int) (C := RX7) (T := TX7) (N := 13) hx hb hts hinX7 tyX7 tyX7_ok nmX7 hown hK.1 hB hS 0 (rB_of lay_m0) lay_m0 rfl 12 (by decide) rfl (hts (.fieldLink RX7 144 "RiverMeetingModel" "out" "I") (List.mem_of_getElem? (i := 1) rfl)) (fun _ h9 => h9) rfl (by decide +kernel) rfl rfl dX7_readText_6 (fun M12 hM12 H locs hB _ hS => ?_)
  refine lv_aload_n hx hb dX7_readText_9 rfl (lv_at hl 0 rfl) ?_
  refine lv_iconst (v := 0) hx hb dX7_readText_10 (by decide) ?_
  refine b_put (D := D) (E := E) (L := LRR) (o := o) (M := M12) (v := 0) (ty := .int) (C := RX7) (T := TX7) (N := 13) hx hb hts hinX7 tyX7 tyX7_ok nmX7 hown hK.1 hB hS 0 (rB_of lay_m0) lay_m0 rfl 11 (by decide) rfl (hts (.fieldLink RX7 141 "RiverMeetingModel" "spot" "I") (List.mem_of_getElem? (i := 2) rfl)) (fun _ h9 => h9) rfl (by decide +kernel) rfl rfl dX7_readText_11 (fun M13 hM13 H locs hB _ hS => ?_)
  refine lv_aload_n hx hb dX7_readText_14 rfl (lv_at hl 0 rfl) ?_
  refine b_get (D := D) (E := E) (L := LRR) (o := o) (M := M13) (v := .int (M13 0 2)) (C := RX7) (T := TX7) (N := 13) hx hb hts hinX7 hown hK.1 hB 0 lay_m0 rfl 2 (by decide) (hts (.fieldLink RX7 134 "RiverMeetingModel" "size" "I") (List.mem_of_getElem? (i := 3) rfl)) (fun _ h9 => h9) rfl dX7_readText_15 ?_
  refine lv_if_eq (tgt := 32) hx hb dX7_readText_18 (by decide) (fun c14 => ?_) (fun c14 => ?_)
  · refine lv_iconst (v := 0) hx hb dX7_readText_32 (by decide) ?_
    have e15 := p_X7_readText_e15 M k1 M11 hM11.symm M12 hM12.symm M13 hM13.symm c14
    exact b_iret hx hb hr hlocks hS ⟨_, rfl, _, ⟨(congrArg Prod.fst e15).symm, (congrArg Prod.snd e15).symm⟩, hB⟩ dX7_readText_33
  · refine lv_aload_n hx hb dX7_readText_21 rfl (lv_at hl 0 rfl) ?_
    refine b_get (D := D) (E := E) (L := LRR) (o := o) (M := M13) (v := .ref (o + 1)) (C := RX7) (T := TX7) (N := 13) hx hb hts hinX7 hown hK.1 hB 0 lay_m0 rfl 1 (by decide) (hts (.fieldLink RX7 7 "RiverMeetingModel" "text" "[I") (List.mem_of_getElem? (i := 4) rfl)) (fun _ h9 => h9) rfl dX7_readText_22 ?_
    refine lv_iconst (v := 0) hx hb dX7_readText_25 (by decide) ?_
    refine b_iald hx hb hK.1 hB 1 lay_m1 (vp_in_nI (n := 0) (by decide) (by decide)) dX7_readText_26 ?_
    refine lv_const (y := M13 1 0) (by rfl) ?_
    refine lv_bipush (v := 87) hx hb dX7_readText_27 (by decide) ?_
    refine lv_icmp_eq (tgt := 34) hx hb dX7_readText_29 (by decide) (fun c16 => ?_) (fun c16 => ?_)
    · refine lv_aload_n hx hb dX7_readText_34 rfl (lv_at hl 0 rfl) ?_
      refine lv_iconst (v := 1) hx hb dX7_readText_35 (by decide) ?_
      refine b_put (D := D) (E := E) (L := LRR) (o := o) (M := M13) (v := 1) (ty := .int) (C := RX7) (T := TX7) (N := 13) hx hb hts hinX7 tyX7 tyX7_ok nmX7 hown hK.1 hB hS 0 (rB_of lay_m0) lay_m0 rfl 11 (by decide) rfl (hts (.fieldLink RX7 141 "RiverMeetingModel" "spot" "I") (List.mem_of_getElem? (i := 2) rfl)) (fun _ h9 => h9) rfl (by decide +kernel) rfl rfl dX7_readText_36 (fun M17 hM17 H locs hB _ hS => ?_)
      have lp18 : ∀ (n18 i18 : Nat) (M19 : bM), ((lp_X7_readText_39 k1 n18 i18 M19).1 = false → ((lp_X7_readText_39 k1 n18 i18 M19).2.2) 0 2 ≤ ((lp_X7_readText_39 k1 n18 i18 M19).2.2) 0 11) → (gR (M19 k1)) → (txR M19) → ∀ (H : Heap) (locs : List Loc), bk D E LRR o M19 H → bS (rB o) s.heap H locs → ∀ ls : Array Slot, lv_has ls 2 [(0, .ref (o + 0)), (1, .ref (o + k1))] → (∀ H : Heap, (lp_X7_readText_39 k1 n18 i18 M19).1 = true → bk D E LRR o ((lp_X7_readText_39 k1 n18 i18 M19).2.2) H → (aI fun r H => ∃ M1 : bM, (r = (f_X7_readText M k1).1 ∧ M1 = (f_X7_readText M k1).2) ∧ bk D E LRR o M1 H) (some (.int (lp_X7_readText_39 k1 n18 i18 M19).2.1)) H) → (∀ (H : Heap) (locs : List Loc), (lp_X7_readText_39 k1 n18 i18 M19).1 = false → (gR (((lp_X7_readText_39 k1 n18 i18 M19).2.2) k1)) → (txR ((lp_X7_readText_39 k1 n18 i18 M19).2.2)) → bk D E LRR o ((lp_X7_readText_39 k1 n18 i18 M19).2.2) H → bS (rB o) s.heap H locs → ∀ ls : Array Slot, lv_has ls 2 [(0, .ref (o + 0)), (1, .ref (o + k1))] → W p l e (headSpec wsX7_readText (rmF 9)).room s m ([.ref (o + 0), .ref (o + k1)] : List Value).toArray below meth c H locs 0 0 (MQ below (bQ (aI fun r H => ∃ M1 : bM, (r = (f_X7_readText M k1).1 ∧ M1 = (f_X7_readText M k1).2) ∧ bk D E LRR o M1 H) (rB o)) ([.ref (o + 0), .ref (o + k1)] : List Value).toArray s 0 0 (rB o)) (F0 m 63 ls [])) → W p l e (headSpec wsX7_readText (rmF 9)).room s m ([.ref (o + 0), .ref (o + k1)] : List Value).toArray below meth c H locs 0 0 (MQ below (bQ (aI fun r H => ∃ M1 : bM, (r = (f_X7_readText M k1).1 ∧ M1 = (f_X7_readText M k1).2) ∧ bk D E LRR o M1 H) (rB o)) ([.ref (o + 0), .ref (o + k1)] : List Value).toArray s 0 0 (rB o)) (F0 m 39 ls []) := by
        intro n18
        induction n18 with
        | zero =>
          intro i18 M19 hi18 hv0_18 hv1_18 H locs hB hS ls hl hret18 hexit18
          refine lv_aload_n hx hb dX7_readText_39 rfl (lv_at hl 0 rfl) ?_
          refine b_get (D := D) (E := E) (L := LRR) (o := o) (M := M19) (v := .int (M19 0 11)) (C := RX7) (T := TX7) (N := 13) hx hb hts hinX7 hown hK.1 hB 0 lay_m0 rfl 11 (by decide) (hts (.fieldLink RX7 141 "RiverMeetingModel" "spot" "I") (List.mem_of_getElem? (i := 2) rfl)) (fun _ h9 => h9) rfl dX7_readText_40 ?_
          refine lv_aload_n hx hb dX7_readText_43 rfl (lv_at hl 0 rfl) ?_
          refine b_get (D := D) (E := E) (L := LRR) (o := o) (M := M19) (v := .int (M19 0 2)) (C := RX7) (T := TX7) (N := 13) hx hb hts hinX7 hown hK.1 hB 0 lay_m0 rfl 2 (by decide) (hts (.fieldLink RX7 134 "RiverMeetingModel" "size" "I") (List.mem_of_getElem? (i := 3) rfl)) (fun _ h9 => h9) rfl dX7_readText_44 ?_
          refine lv_icmp_ge (tgt := 63) hx hb dX7_readText_47 (by decide) (fun c20 => ?_) (fun c20 => ?_)
          · have e21 := p_X7_readText_e21 M k1 M11 M12 M13 M17 M19 i18 c20
            rw [e21] at hexit18
            exact hexit18 _ _ rfl hv0_18 hv1_18 hB hS ls (lv_sub hl [0, 1] rfl)
          · have e22 := p_X7_readText_e22 M k1 M11 M12 M13 M17 M19 i18 c20
            rw [e22] at hi18
            exact absurd (hi18 rfl) c20
        | succ n18 ih18 =>
          intro i18 M19 hi18 hv0_18 hv1_18 H locs hB hS ls hl hret18 hexit18
          refine lv_aload_n hx hb dX7_readText_39 rfl (lv_at hl 0 rfl) ?_
          refine b_get (D := D) (E := E) (L := LRR) (o := o) (M := M19) (v := .int (M19 0 11)) (C := RX7) (T := TX7) (N := 13) hx hb hts hinX7 hown hK.1 hB 0 lay_m0 rfl 11 (by decide) (hts (.fieldLink RX7 141 "RiverMeetingModel" "spot" "I") (List.mem_of_getElem? (i := 2) rfl)) (fun _ h9 => h9) rfl dX7_readText_40 ?_
          refine lv_aload_n hx hb dX7_readText_43 rfl (lv_at hl 0 rfl) ?_
          refine b_get (D := D) (E := E) (L := LRR) (o := o) (M := M19) (v := .int (M19 0 2)) (C := RX7) (T := TX7) (N := 13) hx hb hts hinX7 hown hK.1 hB 0 lay_m0 rfl 2 (by decide) (hts (.fieldLink RX7 134 "RiverMeetingModel" "size" "I") (List.mem_of_getElem? (i := 3) rfl)) (fun _ h9 => h9) rfl dX7_readText_44 ?_
          refine lv_icmp_ge (tgt := 63) hx hb dX7_readText_47 (by decide) (fun c23 => ?_) (fun c23 => ?_)
          · have e24 := p_X7_readText_e24 M k1 M11 M12 M13 M17 M19 i18 n18 c23
            rw [e24] at hexit18
            exact hexit18 _ _ rfl hv0_18 hv1_18 hB hS ls (lv_sub hl [0, 1] rfl)
          · refine lv_aload_n hx hb dX7_readText_50 rfl (lv_at hl 0 rfl) ?_
            refine lv_aload_n hx hb dX7_readText_51 rfl (lv_at hl 1 rfl) ?_
            refine b_mI (b_runV (As := [.ref (o + k1)]) (rest := []) ⟨hx, hb, hml, hown, hts⟩ (c_X7_readCommand l D E o M19 k1 hk1 hv0_18 h7 h0 hv1_18 c23) (cwV 1 hts gX7_readText_X7_readCommand rfl rfl rfl (by decide +kernel) ⟨Nat.le_of_ble_eq_true rfl, Nat.le_of_ble_eq_true rfl⟩) hK (bk_recv hK.1 hB lay_m0 rfl) hB rfl hl rfl (Nat.le_of_ble_eq_true rfl) dX7_readText_52 ⟨Nat.zero_le _, Nat.zero_le _⟩) hS (fun q h => h) (fun r26 M25 hM25 H locs hB _ hS => ?_)
            obtain ⟨hr26, hM25⟩ := hM25
            refine lv_if_ne (tgt := 39) hx hb dX7_readText_55 (by decide) (fun c27 => ?_) (fun c27 => ?_)
            · have e28 := p_X7_readText_e28 M k1 M11 M12 M13 M17 M19 i18 n18 c23 r26 hr26.symm M25 hM25.symm c27
              rw [e28] at hexit18 hret18 hi18
              exact ih18 (i18 + 1) M25 hi18 (by rw [hM25]; exact rcG h0 h7 hv0_18 hv1_18 c23) (by rw [hM25]; exact rcT h0 h7 hv0_18 hv1_18 c23) _ _ hB hS ls (lv_sub hl [0, 1] rfl) hret18 hexit18
            · refine lv_aload_n hx hb dX7_readText_58 rfl (lv_at hl 0 rfl) ?_
              refine b_get (D := D) (E := E) (L := LRR) (o := o) (M := M25) (v := .int (M25 0 11)) (C := RX7) (T := TX7) (N := 13) hx hb hts hinX7 hown hK.1 hB 0 lay_m0 rfl 11 (by decide) (hts (.fieldLink RX7 141 "RiverMeetingModel" "spot" "I") (List.mem_of_getElem? (i := 2) rfl)) (fun _ h9 => h9) rfl dX7_readText_59 ?_
              have e29 := p_X7_readText_e29 M k1 M11 M12 M13 M17 M19 i18 n18 c23 r26 hr26.symm M25 hM25.symm c27
              rw [e29] at hret18
              exact b_iret hx hb hr hlocks hS (hret18 _ rfl hB) dX7_readText_62
      refine lp18 120 0 M17 (he M17 (gR_of (M := M13) (by rw [hM17]; exact up2_row (Ne.symm h0)) (gR_of (M := M12) (by rw [hM13]; exact up2_row (Ne.symm h0)) (gR_of (M := M11) (by rw [hM12]; exact up2_row (Ne.symm h0)) (by rw [hM11]; exact gR_clear)))) (by rw [hM17]; exact rt_tx (by rw [hM13, up2_at, if_neg (by decide), hM12, up2_at, if_neg (by decide), hM11, fr_X7_clear M k1 0 h0]; exact hz) c14)) (gR_of (M := M13) (by rw [hM17]; exact up2_row (Ne.symm h0)) (gR_of (M := M12) (by rw [hM13]; exact up2_row (Ne.symm h0)) (gR_of (M := M11) (by rw [hM12]; exact up2_row (Ne.symm h0)) (by rw [hM11]; exact gR_clear)))) (by rw [hM17]; exact rt_tx (by rw [hM13, up2_at, if_neg (by decide), hM12, up2_at, if_neg (by decide), hM11, fr_X7_clear M k1 0 h0]; exact hz) c14) _ _ hB hS ls (lv_sub hl [0, 1] rfl) (fun H hfl18 hB => ?_) ?_
      · have e30 := p_X7_readText_e30 M k1 M11 hM11.symm M12 hM12.symm M13 hM13.symm c14 c16 M17 hM17.symm hfl18
        exact ⟨_, rfl, _, ⟨(congrArg Prod.fst e30).symm, (congrArg Prod.snd e30).symm⟩, hB⟩
      intro H locs hfl18 hw0_18 hw1_18 hB hS ls hl
      obtain ⟨M31, hM31⟩ : ∃ y : bM, y = (lp_X7_readText_39 k1 120 0 M17).2.2 := ⟨_, rfl⟩
      rw [← hM31] at hB hw0_18 hw1_18
      have hl : lv_has ls 2 [(0, .ref (o + 0)), (1, .ref (o + k1))] := hl
      refine lv_iconst (v := (-1)) hx hb dX7_readText_63 (by decide) ?_
      have e32 := p_X7_readText_e32 M k1 M11 hM11.symm M12 hM12.symm M13 hM13.symm c14 c16 M17 hM17.symm hfl18 M31 hM31.symm
      exact b_iret hx hb hr hlocks hS ⟨_, rfl, _, ⟨(congrArg Prod.fst e32).symm, (congrArg Prod.snd e32).symm⟩, hB⟩ dX7_readText_64
    · refine lv_iconst (v := 0) hx hb dX7_readText_32 (by decide) ?_
      have e33 := p_X7_readText_e33 M k1 M11 hM11.symm M12 hM12.symm M13 hM13.symm c14 c16
      exact b_iret hx hb hr hlocks hS ⟨_, rfl, _, ⟨(congrArg Prod.fst e33).symm, (congrArg Prod.snd e33).symm⟩, hB⟩ dX7_readText_33

def f_X7_command (M : bM) (x1 : Int32) (x2 : Int32) : Int32 × bM := (let x11 : Int32 := (x2 / 100); (let x12 : Int32 := ((x2 / 10) - (x2 / 10) / 10 * 10); (let x13 : Int32 := (x2 - x2 / 10 * 10); (let x14 : Int32 := (x2 - x2 / 100 * 100); (if x1 = 1 then (if x11 = 0 then (let r19 : Int32 := (f_X7_gameOn M 3 x14.toInt64).1; (let M18 : bM := (f_X7_gameOn M 3 x14.toInt64).2; (if r19 ≤ 0 then (0, M18) else (1, M18)))) else (0, M)) else (if x1 = 2 then (if 3 ≤ x2 then (0, M) else (let r26 : Int32 := f_X7_isUnderWay M 3; (if r26 = 0 then (0, M) else (let r30 : Int32 := (f_X7_stepOn M 3 x13).1; (let M29 : bM := (f_X7_stepOn M 3 x13).2; (if r30 = 0 then (1, M29) else (0, M29))))))) else (if x1 = 3 then (if x11 = 0 then (let r37 : Int32 := f_X7_isCell x12 x13; (if r37 = 0 then (0, M) else (let r40 : Int32 := f_X7_isUnderWay M 3; (if r40 = 0 then (0, M) else (let r44 : Int32 := (f_X7_damOn M 3 (((8 : Int32) * x13) + x12)).1; (let M43 : bM := (f_X7_damOn M 3 (((8 : Int32) * x13) + x12)).2; (if r44 = 0 then (1, M43) else (0, M43)))))))) else (0, M)) else (if x1 = 4 then (if x2 = 0 then (let r51 : Int32 := f_X7_isUnderWay M 3; (if r51 = 0 then (0, M) else (let r54 : Int32 := f_X7_canStep M 3; (if r54 = 0 then (let r58 : Int32 := (f_X7_floodOn M 3).1; (let M57 : bM := (f_X7_floodOn M 3).2; (if r58 < 0 then (0, M57) else (1, M57)))) else (0, M))))) else (0, M)) else (if x1 = 5 then (let r63 : Int32 := f_X7_isSetting x11 x14; (if r63 = 0 then (0, M) else (let r67 : Int32 := (f_X7_change M 3 x11 x14).1; (let M66 : bM := (f_X7_change M 3 x11 x14).2; (if r67 < 0 then (0, M66) else (1, M66)))))) else (if x1 = 6 then (if 10 ≤ x2 then (0, M) else (let r75 : Int32 := (f_X7_stepsBest M x13).1; (let M74 : bM := (f_X7_stepsBest M x13).2; (if r75 = 0 then (0, M74) else (1, M74))))) else (if x1 = 7 then (if 2 ≤ x11 then (0, M) else (let r82 : Int32 := f_X7_of M 3 x11 0; (if x14 < r82 then (0, M) else (1, M)))) else (if x1 = 8 then (if 10 ≤ x2 then (0, M) else (if (M 3 1) = x13 then (1, M) else (0, M))) else (if x1 = 9 then (if 2 ≤ x11 then (0, M) else (let r95 : Int32 := f_X7_of M 3 x11 4; (if r95 < x14 then (0, M) else (1, M)))) else (0, M))))))))))))))
theorem u_f_X7_command (M : bM) (x1 : Int32) (x2 : Int32) : f_X7_command M x1 x2 = (let x11 : Int32 := (x2 / 100); (let x12 : Int32 := ((x2 / 10) - (x2 / 10) / 10 * 10); (let x13 : Int32 := (x2 - x2 / 10 * 10); (let x14 : Int32 := (x2 - x2 / 100 * 100); (if x1 = 1 then (if x11 = 0 then (let r19 : Int32 := (f_X7_gameOn M 3 x14.toInt64).1; (let M18 : bM := (f_X7_gameOn M 3 x14.toInt64).2; (if r19 ≤ 0 then (0, M18) else (1, M18)))) else (0, M)) else (if x1 = 2 then (if 3 ≤ x2 then (0, M) else (let r26 : Int32 := f_X7_isUnderWay M 3; (if r26 = 0 then (0, M) else (let r30 : Int32 := (f_X7_stepOn M 3 x13).1; (let M29 : bM := (f_X7_stepOn M 3 x13).2; (if r30 = 0 then (1, M29) else (0, M29))))))) else (if x1 = 3 then (if x11 = 0 then (let r37 : Int32 := f_X7_isCell x12 x13; (if r37 = 0 then (0, M) else (let r40 : Int32 := f_X7_isUnderWay M 3; (if r40 = 0 then (0, M) else (let r44 : Int32 := (f_X7_damOn M 3 (((8 : Int32) * x13) + x12)).1; (let M43 : bM := (f_X7_damOn M 3 (((8 : Int32) * x13) + x12)).2; (if r44 = 0 then (1, M43) else (0, M43)))))))) else (0, M)) else (if x1 = 4 then (if x2 = 0 then (let r51 : Int32 := f_X7_isUnderWay M 3; (if r51 = 0 then (0, M) else (let r54 : Int32 := f_X7_canStep M 3; (if r54 = 0 then (let r58 : Int32 := (f_X7_floodOn M 3).1; (let M57 : bM := (f_X7_floodOn M 3).2; (if r58 < 0 then (0, M57) else (1, M57)))) else (0, M))))) else (0, M)) else (if x1 = 5 then (let r63 : Int32 := f_X7_isSetting x11 x14; (if r63 = 0 then (0, M) else (let r67 : Int32 := (f_X7_change M 3 x11 x14).1; (let M66 : bM := (f_X7_change M 3 x11 x14).2; (if r67 < 0 then (0, M66) else (1, M66)))))) else (if x1 = 6 then (if 10 ≤ x2 then (0, M) else (let r75 : Int32 := (f_X7_stepsBest M x13).1; (let M74 : bM := (f_X7_stepsBest M x13).2; (if r75 = 0 then (0, M74) else (1, M74))))) else (if x1 = 7 then (if 2 ≤ x11 then (0, M) else (let r82 : Int32 := f_X7_of M 3 x11 0; (if x14 < r82 then (0, M) else (1, M)))) else (if x1 = 8 then (if 10 ≤ x2 then (0, M) else (if (M 3 1) = x13 then (1, M) else (0, M))) else (if x1 = 9 then (if 2 ≤ x11 then (0, M) else (let r95 : Int32 := f_X7_of M 3 x11 4; (if r95 < x14 then (0, M) else (1, M)))) else (0, M)))))))))))))) := rfl
theorem z_X7_command (M : bM) (x1 : Int32) (x2 : Int32) : (f_X7_command M x1 x2).1 = 0 ∨ (f_X7_command M x1 x2).1 = 1 := by
  rw [u_f_X7_command M x1 x2]
  try dsimp only
  repeat' first | with_reducible apply zz_if | with_reducible apply zz_if0 | exact Or.inl rfl | exact Or.inr rfl
theorem p_X7_command_e17 (M : bM) (x1 : Int32) (x2 : Int32) (x11 : Int32) (hx11 : (x2 / 100) = x11) (x12 : Int32) (hx12 : ((x2 / 10) - (x2 / 10) / 10 * 10) = x12) (x13 : Int32) (hx13 : (x2 - x2 / 10 * 10) = x13) (x14 : Int32) (hx14 : (x2 - x2 / 100 * 100) = x14) (c15 : x1 = 1) (c16 : ¬ x11 = 0) : f_X7_command M x1 x2 = (0, M) := by subst hx14 hx13 hx12 hx11; exact Eq.trans (u_f_X7_command M x1 x2) (Eq.trans (if_pos c15) (if_neg c16))
theorem p_X7_command_e21 (M : bM) (x1 : Int32) (x2 : Int32) (x11 : Int32) (hx11 : (x2 / 100) = x11) (x12 : Int32) (hx12 : ((x2 / 10) - (x2 / 10) / 10 * 10) = x12) (x13 : Int32) (hx13 : (x2 - x2 / 10 * 10) = x13) (x14 : Int32) (hx14 : (x2 - x2 / 100 * 100) = x14) (c15 : x1 = 1) (c16 : x11 = 0) (r19 : Int32) (hr19 : (f_X7_gameOn M 3 x14.toInt64).1 = r19) (M18 : bM) (hM18 : (f_X7_gameOn M 3 x14.toInt64).2 = M18) (c20 : r19 ≤ 0) : f_X7_command M x1 x2 = (0, M18) := by subst hM18 hr19 hx14 hx13 hx12 hx11; exact Eq.trans (u_f_X7_command M x1 x2) (Eq.trans (if_pos c15) (Eq.trans (if_pos c16) (if_pos c20)))
theorem p_X7_command_e22 (M : bM) (x1 : Int32) (x2 : Int32) (x11 : Int32) (hx11 : (x2 / 100) = x11) (x12 : Int32) (hx12 : ((x2 / 10) - (x2 / 10) / 10 * 10) = x12) (x13 : Int32) (hx13 : (x2 - x2 / 10 * 10) = x13) (x14 : Int32) (hx14 : (x2 - x2 / 100 * 100) = x14) (c15 : x1 = 1) (c16 : x11 = 0) (r19 : Int32) (hr19 : (f_X7_gameOn M 3 x14.toInt64).1 = r19) (M18 : bM) (hM18 : (f_X7_gameOn M 3 x14.toInt64).2 = M18) (c20 : ¬ r19 ≤ 0) : f_X7_command M x1 x2 = (1, M18) := by subst hM18 hr19 hx14 hx13 hx12 hx11; exact Eq.trans (u_f_X7_command M x1 x2) (Eq.trans (if_pos c15) (Eq.trans (if_pos c16) (if_neg c20)))
theorem p_X7_command_e25 (M : bM) (x1 : Int32) (x2 : Int32) (x11 : Int32) (hx11 : (x2 / 100) = x11) (x12 : Int32) (hx12 : ((x2 / 10) - (x2 / 10) / 10 * 10) = x12) (x13 : Int32) (hx13 : (x2 - x2 / 10 * 10) = x13) (x14 : Int32) (hx14 : (x2 - x2 / 100 * 100) = x14) (c15 : ¬ x1 = 1) (c23 : x1 = 2) (c24 : 3 ≤ x2) : f_X7_command M x1 x2 = (0, M) := by subst hx14 hx13 hx12 hx11; exact Eq.trans (u_f_X7_command M x1 x2) (Eq.trans (if_neg c15) (Eq.trans (if_pos c23) (if_pos c24)))
theorem p_X7_command_e28 (M : bM) (x1 : Int32) (x2 : Int32) (x11 : Int32) (hx11 : (x2 / 100) = x11) (x12 : Int32) (hx12 : ((x2 / 10) - (x2 / 10) / 10 * 10) = x12) (x13 : Int32) (hx13 : (x2 - x2 / 10 * 10) = x13) (x14 : Int32) (hx14 : (x2 - x2 / 100 * 100) = x14) (c15 : ¬ x1 = 1) (c23 : x1 = 2) (c24 : ¬ 3 ≤ x2) (r26 : Int32) (hr26 : f_X7_isUnderWay M 3 = r26) (c27 : r26 = 0) : f_X7_command M x1 x2 = (0, M) := by subst hr26 hx14 hx13 hx12 hx11; exact Eq.trans (u_f_X7_command M x1 x2) (Eq.trans (if_neg c15) (Eq.trans (if_pos c23) (Eq.trans (if_neg c24) (if_pos c27))))
theorem p_X7_command_e32 (M : bM) (x1 : Int32) (x2 : Int32) (x11 : Int32) (hx11 : (x2 / 100) = x11) (x12 : Int32) (hx12 : ((x2 / 10) - (x2 / 10) / 10 * 10) = x12) (x13 : Int32) (hx13 : (x2 - x2 / 10 * 10) = x13) (x14 : Int32) (hx14 : (x2 - x2 / 100 * 100) = x14) (c15 : ¬ x1 = 1) (c23 : x1 = 2) (c24 : ¬ 3 ≤ x2) (r26 : Int32) (hr26 : f_X7_isUnderWay M 3 = r26) (c27 : ¬ r26 = 0) (r30 : Int32) (hr30 : (f_X7_stepOn M 3 x13).1 = r30) (M29 : bM) (hM29 : (f_X7_stepOn M 3 x13).2 = M29) (c31 : ¬ r30 = 0) : f_X7_command M x1 x2 = (0, M29) := by subst hM29 hr30 hr26 hx14 hx13 hx12 hx11; exact Eq.trans (u_f_X7_command M x1 x2) (Eq.trans (if_neg c15) (Eq.trans (if_pos c23) (Eq.trans (if_neg c24) (Eq.trans (if_neg c27) (if_neg c31)))))
theorem p_X7_command_e33 (M : bM) (x1 : Int32) (x2 : Int32) (x11 : Int32) (hx11 : (x2 / 100) = x11) (x12 : Int32) (hx12 : ((x2 / 10) - (x2 / 10) / 10 * 10) = x12) (x13 : Int32) (hx13 : (x2 - x2 / 10 * 10) = x13) (x14 : Int32) (hx14 : (x2 - x2 / 100 * 100) = x14) (c15 : ¬ x1 = 1) (c23 : x1 = 2) (c24 : ¬ 3 ≤ x2) (r26 : Int32) (hr26 : f_X7_isUnderWay M 3 = r26) (c27 : ¬ r26 = 0) (r30 : Int32) (hr30 : (f_X7_stepOn M 3 x13).1 = r30) (M29 : bM) (hM29 : (f_X7_stepOn M 3 x13).2 = M29) (c31 : r30 = 0) : f_X7_command M x1 x2 = (1, M29) := by subst hM29 hr30 hr26 hx14 hx13 hx12 hx11; exact Eq.trans (u_f_X7_command M x1 x2) (Eq.trans (if_neg c15) (Eq.trans (if_pos c23) (Eq.trans (if_neg c24) (Eq.trans (if_neg c27) (if_pos c31)))))
theorem p_X7_command_e36 (M : bM) (x1 : Int32) (x2 : Int32) (x11 : Int32) (hx11 : (x2 / 100) = x11) (x12 : Int32) (hx12 : ((x2 / 10) - (x2 / 10) / 10 * 10) = x12) (x13 : Int32) (hx13 : (x2 - x2 / 10 * 10) = x13) (x14 : Int32) (hx14 : (x2 - x2 / 100 * 100) = x14) (c15 : ¬ x1 = 1) (c23 : ¬ x1 = 2) (c34 : x1 = 3) (c35 : ¬ x11 = 0) : f_X7_command M x1 x2 = (0, M) := by subst hx14 hx13 hx12 hx11; exact Eq.trans (u_f_X7_command M x1 x2) (Eq.trans (if_neg c15) (Eq.trans (if_neg c23) (Eq.trans (if_pos c34) (if_neg c35))))
theorem p_X7_command_e39 (M : bM) (x1 : Int32) (x2 : Int32) (x11 : Int32) (hx11 : (x2 / 100) = x11) (x12 : Int32) (hx12 : ((x2 / 10) - (x2 / 10) / 10 * 10) = x12) (x13 : Int32) (hx13 : (x2 - x2 / 10 * 10) = x13) (x14 : Int32) (hx14 : (x2 - x2 / 100 * 100) = x14) (c15 : ¬ x1 = 1) (c23 : ¬ x1 = 2) (c34 : x1 = 3) (c35 : x11 = 0) (r37 : Int32) (hr37 : f_X7_isCell x12 x13 = r37) (c38 : r37 = 0) : f_X7_command M x1 x2 = (0, M) := by subst hr37 hx14 hx13 hx12 hx11; exact Eq.trans (u_f_X7_command M x1 x2) (Eq.trans (if_neg c15) (Eq.trans (if_neg c23) (Eq.trans (if_pos c34) (Eq.trans (if_pos c35) (if_pos c38)))))
theorem p_X7_command_e42 (M : bM) (x1 : Int32) (x2 : Int32) (x11 : Int32) (hx11 : (x2 / 100) = x11) (x12 : Int32) (hx12 : ((x2 / 10) - (x2 / 10) / 10 * 10) = x12) (x13 : Int32) (hx13 : (x2 - x2 / 10 * 10) = x13) (x14 : Int32) (hx14 : (x2 - x2 / 100 * 100) = x14) (c15 : ¬ x1 = 1) (c23 : ¬ x1 = 2) (c34 : x1 = 3) (c35 : x11 = 0) (r37 : Int32) (hr37 : f_X7_isCell x12 x13 = r37) (c38 : ¬ r37 = 0) (r40 : Int32) (hr40 : f_X7_isUnderWay M 3 = r40) (c41 : r40 = 0) : f_X7_command M x1 x2 = (0, M) := by subst hr40 hr37 hx14 hx13 hx12 hx11; exact Eq.trans (u_f_X7_command M x1 x2) (Eq.trans (if_neg c15) (Eq.trans (if_neg c23) (Eq.trans (if_pos c34) (Eq.trans (if_pos c35) (Eq.trans (if_neg c38) (if_pos c41))))))
theorem p_X7_command_e46 (M : bM) (x1 : Int32) (x2 : Int32) (x11 : Int32) (hx11 : (x2 / 100) = x11) (x12 : Int32) (hx12 : ((x2 / 10) - (x2 / 10) / 10 * 10) = x12) (x13 : Int32) (hx13 : (x2 - x2 / 10 * 10) = x13) (x14 : Int32) (hx14 : (x2 - x2 / 100 * 100) = x14) (c15 : ¬ x1 = 1) (c23 : ¬ x1 = 2) (c34 : x1 = 3) (c35 : x11 = 0) (r37 : Int32) (hr37 : f_X7_isCell x12 x13 = r37) (c38 : ¬ r37 = 0) (r40 : Int32) (hr40 : f_X7_isUnderWay M 3 = r40) (c41 : ¬ r40 = 0) (r44 : Int32) (hr44 : (f_X7_damOn M 3 (((8 : Int32) * x13) + x12)).1 = r44) (M43 : bM) (hM43 : (f_X7_damOn M 3 (((8 : Int32) * x13) + x12)).2 = M43) (c45 : ¬ r44 = 0) : f_X7_command M x1 x2 = (0, M43) := by subst hM43 hr44 hr40 hr37 hx14 hx13 hx12 hx11; exact Eq.trans (u_f_X7_command M x1 x2) (Eq.trans (if_neg c15) (Eq.trans (if_neg c23) (Eq.trans (if_pos c34) (Eq.trans (if_pos c35) (Eq.trans (if_neg c38) (Eq.trans (if_neg c41) (if_neg c45)))))))
theorem p_X7_command_e47 (M : bM) (x1 : Int32) (x2 : Int32) (x11 : Int32) (hx11 : (x2 / 100) = x11) (x12 : Int32) (hx12 : ((x2 / 10) - (x2 / 10) / 10 * 10) = x12) (x13 : Int32) (hx13 : (x2 - x2 / 10 * 10) = x13) (x14 : Int32) (hx14 : (x2 - x2 / 100 * 100) = x14) (c15 : ¬ x1 = 1) (c23 : ¬ x1 = 2) (c34 : x1 = 3) (c35 : x11 = 0) (r37 : Int32) (hr37 : f_X7_isCell x12 x13 = r37) (c38 : ¬ r37 = 0) (r40 : Int32) (hr40 : f_X7_isUnderWay M 3 = r40) (c41 : ¬ r40 = 0) (r44 : Int32) (hr44 : (f_X7_damOn M 3 (((8 : Int32) * x13) + x12)).1 = r44) (M43 : bM) (hM43 : (f_X7_damOn M 3 (((8 : Int32) * x13) + x12)).2 = M43) (c45 : r44 = 0) : f_X7_command M x1 x2 = (1, M43) := by subst hM43 hr44 hr40 hr37 hx14 hx13 hx12 hx11; exact Eq.trans (u_f_X7_command M x1 x2) (Eq.trans (if_neg c15) (Eq.trans (if_neg c23) (Eq.trans (if_pos c34) (Eq.trans (if_pos c35) (Eq.trans (if_neg c38) (Eq.trans (if_neg c41) (if_pos c45)))))))
theorem p_X7_command_e50 (M : bM) (x1 : Int32) (x2 : Int32) (x11 : Int32) (hx11 : (x2 / 100) = x11) (x12 : Int32) (hx12 : ((x2 / 10) - (x2 / 10) / 10 * 10) = x12) (x13 : Int32) (hx13 : (x2 - x2 / 10 * 10) = x13) (x14 : Int32) (hx14 : (x2 - x2 / 100 * 100) = x14) (c15 : ¬ x1 = 1) (c23 : ¬ x1 = 2) (c34 : ¬ x1 = 3) (c48 : x1 = 4) (c49 : ¬ x2 = 0) : f_X7_command M x1 x2 = (0, M) := by subst hx14 hx13 hx12 hx11; exact Eq.trans (u_f_X7_command M x1 x2) (Eq.trans (if_neg c15) (Eq.trans (if_neg c23) (Eq.trans (if_neg c34) (Eq.trans (if_pos c48) (if_neg c49)))))
theorem p_X7_command_e53 (M : bM) (x1 : Int32) (x2 : Int32) (x11 : Int32) (hx11 : (x2 / 100) = x11) (x12 : Int32) (hx12 : ((x2 / 10) - (x2 / 10) / 10 * 10) = x12) (x13 : Int32) (hx13 : (x2 - x2 / 10 * 10) = x13) (x14 : Int32) (hx14 : (x2 - x2 / 100 * 100) = x14) (c15 : ¬ x1 = 1) (c23 : ¬ x1 = 2) (c34 : ¬ x1 = 3) (c48 : x1 = 4) (c49 : x2 = 0) (r51 : Int32) (hr51 : f_X7_isUnderWay M 3 = r51) (c52 : r51 = 0) : f_X7_command M x1 x2 = (0, M) := by subst hr51 hx14 hx13 hx12 hx11; exact Eq.trans (u_f_X7_command M x1 x2) (Eq.trans (if_neg c15) (Eq.trans (if_neg c23) (Eq.trans (if_neg c34) (Eq.trans (if_pos c48) (Eq.trans (if_pos c49) (if_pos c52))))))
theorem p_X7_command_e56 (M : bM) (x1 : Int32) (x2 : Int32) (x11 : Int32) (hx11 : (x2 / 100) = x11) (x12 : Int32) (hx12 : ((x2 / 10) - (x2 / 10) / 10 * 10) = x12) (x13 : Int32) (hx13 : (x2 - x2 / 10 * 10) = x13) (x14 : Int32) (hx14 : (x2 - x2 / 100 * 100) = x14) (c15 : ¬ x1 = 1) (c23 : ¬ x1 = 2) (c34 : ¬ x1 = 3) (c48 : x1 = 4) (c49 : x2 = 0) (r51 : Int32) (hr51 : f_X7_isUnderWay M 3 = r51) (c52 : ¬ r51 = 0) (r54 : Int32) (hr54 : f_X7_canStep M 3 = r54) (c55 : ¬ r54 = 0) : f_X7_command M x1 x2 = (0, M) := by subst hr54 hr51 hx14 hx13 hx12 hx11; exact Eq.trans (u_f_X7_command M x1 x2) (Eq.trans (if_neg c15) (Eq.trans (if_neg c23) (Eq.trans (if_neg c34) (Eq.trans (if_pos c48) (Eq.trans (if_pos c49) (Eq.trans (if_neg c52) (if_neg c55)))))))
theorem p_X7_command_e60 (M : bM) (x1 : Int32) (x2 : Int32) (x11 : Int32) (hx11 : (x2 / 100) = x11) (x12 : Int32) (hx12 : ((x2 / 10) - (x2 / 10) / 10 * 10) = x12) (x13 : Int32) (hx13 : (x2 - x2 / 10 * 10) = x13) (x14 : Int32) (hx14 : (x2 - x2 / 100 * 100) = x14) (c15 : ¬ x1 = 1) (c23 : ¬ x1 = 2) (c34 : ¬ x1 = 3) (c48 : x1 = 4) (c49 : x2 = 0) (r51 : Int32) (hr51 : f_X7_isUnderWay M 3 = r51) (c52 : ¬ r51 = 0) (r54 : Int32) (hr54 : f_X7_canStep M 3 = r54) (c55 : r54 = 0) (r58 : Int32) (hr58 : (f_X7_floodOn M 3).1 = r58) (M57 : bM) (hM57 : (f_X7_floodOn M 3).2 = M57) (c59 : r58 < 0) : f_X7_command M x1 x2 = (0, M57) := by subst hM57 hr58 hr54 hr51 hx14 hx13 hx12 hx11; exact Eq.trans (u_f_X7_command M x1 x2) (Eq.trans (if_neg c15) (Eq.trans (if_neg c23) (Eq.trans (if_neg c34) (Eq.trans (if_pos c48) (Eq.trans (if_pos c49) (Eq.trans (if_neg c52) (Eq.trans (if_pos c55) (if_pos c59))))))))
theorem p_X7_command_e61 (M : bM) (x1 : Int32) (x2 : Int32) (x11 : Int32) (hx11 : (x2 / 100) = x11) (x12 : Int32) (hx12 : ((x2 / 10) - (x2 / 10) / 10 * 10) = x12) (x13 : Int32) (hx13 : (x2 - x2 / 10 * 10) = x13) (x14 : Int32) (hx14 : (x2 - x2 / 100 * 100) = x14) (c15 : ¬ x1 = 1) (c23 : ¬ x1 = 2) (c34 : ¬ x1 = 3) (c48 : x1 = 4) (c49 : x2 = 0) (r51 : Int32) (hr51 : f_X7_isUnderWay M 3 = r51) (c52 : ¬ r51 = 0) (r54 : Int32) (hr54 : f_X7_canStep M 3 = r54) (c55 : r54 = 0) (r58 : Int32) (hr58 : (f_X7_floodOn M 3).1 = r58) (M57 : bM) (hM57 : (f_X7_floodOn M 3).2 = M57) (c59 : ¬ r58 < 0) : f_X7_command M x1 x2 = (1, M57) := by subst hM57 hr58 hr54 hr51 hx14 hx13 hx12 hx11; exact Eq.trans (u_f_X7_command M x1 x2) (Eq.trans (if_neg c15) (Eq.trans (if_neg c23) (Eq.trans (if_neg c34) (Eq.trans (if_pos c48) (Eq.trans (if_pos c49) (Eq.trans (if_neg c52) (Eq.trans (if_pos c55) (if_neg c59))))))))
theorem p_X7_command_e65 (M : bM) (x1 : Int32) (x2 : Int32) (x11 : Int32) (hx11 : (x2 / 100) = x11) (x12 : Int32) (hx12 : ((x2 / 10) - (x2 / 10) / 10 * 10) = x12) (x13 : Int32) (hx13 : (x2 - x2 / 10 * 10) = x13) (x14 : Int32) (hx14 : (x2 - x2 / 100 * 100) = x14) (c15 : ¬ x1 = 1) (c23 : ¬ x1 = 2) (c34 : ¬ x1 = 3) (c48 : ¬ x1 = 4) (c62 : x1 = 5) (r63 : Int32) (hr63 : f_X7_isSetting x11 x14 = r63) (c64 : r63 = 0) : f_X7_command M x1 x2 = (0, M) := by subst hr63 hx14 hx13 hx12 hx11; exact Eq.trans (u_f_X7_command M x1 x2) (Eq.trans (if_neg c15) (Eq.trans (if_neg c23) (Eq.trans (if_neg c34) (Eq.trans (if_neg c48) (Eq.trans (if_pos c62) (if_pos c64))))))
theorem p_X7_command_e69 (M : bM) (x1 : Int32) (x2 : Int32) (x11 : Int32) (hx11 : (x2 / 100) = x11) (x12 : Int32) (hx12 : ((x2 / 10) - (x2 / 10) / 10 * 10) = x12) (x13 : Int32) (hx13 : (x2 - x2 / 10 * 10) = x13) (x14 : Int32) (hx14 : (x2 - x2 / 100 * 100) = x14) (c15 : ¬ x1 = 1) (c23 : ¬ x1 = 2) (c34 : ¬ x1 = 3) (c48 : ¬ x1 = 4) (c62 : x1 = 5) (r63 : Int32) (hr63 : f_X7_isSetting x11 x14 = r63) (c64 : ¬ r63 = 0) (r67 : Int32) (hr67 : (f_X7_change M 3 x11 x14).1 = r67) (M66 : bM) (hM66 : (f_X7_change M 3 x11 x14).2 = M66) (c68 : r67 < 0) : f_X7_command M x1 x2 = (0, M66) := by subst hM66 hr67 hr63 hx14 hx13 hx12 hx11; exact Eq.trans (u_f_X7_command M x1 x2) (Eq.trans (if_neg c15) (Eq.trans (if_neg c23) (Eq.trans (if_neg c34) (Eq.trans (if_neg c48) (Eq.trans (if_pos c62) (Eq.trans (if_neg c64) (if_pos c68)))))))
theorem p_X7_command_e70 (M : bM) (x1 : Int32) (x2 : Int32) (x11 : Int32) (hx11 : (x2 / 100) = x11) (x12 : Int32) (hx12 : ((x2 / 10) - (x2 / 10) / 10 * 10) = x12) (x13 : Int32) (hx13 : (x2 - x2 / 10 * 10) = x13) (x14 : Int32) (hx14 : (x2 - x2 / 100 * 100) = x14) (c15 : ¬ x1 = 1) (c23 : ¬ x1 = 2) (c34 : ¬ x1 = 3) (c48 : ¬ x1 = 4) (c62 : x1 = 5) (r63 : Int32) (hr63 : f_X7_isSetting x11 x14 = r63) (c64 : ¬ r63 = 0) (r67 : Int32) (hr67 : (f_X7_change M 3 x11 x14).1 = r67) (M66 : bM) (hM66 : (f_X7_change M 3 x11 x14).2 = M66) (c68 : ¬ r67 < 0) : f_X7_command M x1 x2 = (1, M66) := by subst hM66 hr67 hr63 hx14 hx13 hx12 hx11; exact Eq.trans (u_f_X7_command M x1 x2) (Eq.trans (if_neg c15) (Eq.trans (if_neg c23) (Eq.trans (if_neg c34) (Eq.trans (if_neg c48) (Eq.trans (if_pos c62) (Eq.trans (if_neg c64) (if_neg c68)))))))
theorem p_X7_command_e73 (M : bM) (x1 : Int32) (x2 : Int32) (x11 : Int32) (hx11 : (x2 / 100) = x11) (x12 : Int32) (hx12 : ((x2 / 10) - (x2 / 10) / 10 * 10) = x12) (x13 : Int32) (hx13 : (x2 - x2 / 10 * 10) = x13) (x14 : Int32) (hx14 : (x2 - x2 / 100 * 100) = x14) (c15 : ¬ x1 = 1) (c23 : ¬ x1 = 2) (c34 : ¬ x1 = 3) (c48 : ¬ x1 = 4) (c62 : ¬ x1 = 5) (c71 : x1 = 6) (c72 : 10 ≤ x2) : f_X7_command M x1 x2 = (0, M) := by subst hx14 hx13 hx12 hx11; exact Eq.trans (u_f_X7_command M x1 x2) (Eq.trans (if_neg c15) (Eq.trans (if_neg c23) (Eq.trans (if_neg c34) (Eq.trans (if_neg c48) (Eq.trans (if_neg c62) (Eq.trans (if_pos c71) (if_pos c72)))))))
theorem p_X7_command_e77 (M : bM) (x1 : Int32) (x2 : Int32) (x11 : Int32) (hx11 : (x2 / 100) = x11) (x12 : Int32) (hx12 : ((x2 / 10) - (x2 / 10) / 10 * 10) = x12) (x13 : Int32) (hx13 : (x2 - x2 / 10 * 10) = x13) (x14 : Int32) (hx14 : (x2 - x2 / 100 * 100) = x14) (c15 : ¬ x1 = 1) (c23 : ¬ x1 = 2) (c34 : ¬ x1 = 3) (c48 : ¬ x1 = 4) (c62 : ¬ x1 = 5) (c71 : x1 = 6) (c72 : ¬ 10 ≤ x2) (r75 : Int32) (hr75 : (f_X7_stepsBest M x13).1 = r75) (M74 : bM) (hM74 : (f_X7_stepsBest M x13).2 = M74) (c76 : r75 = 0) : f_X7_command M x1 x2 = (0, M74) := by subst hM74 hr75 hx14 hx13 hx12 hx11; exact Eq.trans (u_f_X7_command M x1 x2) (Eq.trans (if_neg c15) (Eq.trans (if_neg c23) (Eq.trans (if_neg c34) (Eq.trans (if_neg c48) (Eq.trans (if_neg c62) (Eq.trans (if_pos c71) (Eq.trans (if_neg c72) (if_pos c76))))))))
theorem p_X7_command_e78 (M : bM) (x1 : Int32) (x2 : Int32) (x11 : Int32) (hx11 : (x2 / 100) = x11) (x12 : Int32) (hx12 : ((x2 / 10) - (x2 / 10) / 10 * 10) = x12) (x13 : Int32) (hx13 : (x2 - x2 / 10 * 10) = x13) (x14 : Int32) (hx14 : (x2 - x2 / 100 * 100) = x14) (c15 : ¬ x1 = 1) (c23 : ¬ x1 = 2) (c34 : ¬ x1 = 3) (c48 : ¬ x1 = 4) (c62 : ¬ x1 = 5) (c71 : x1 = 6) (c72 : ¬ 10 ≤ x2) (r75 : Int32) (hr75 : (f_X7_stepsBest M x13).1 = r75) (M74 : bM) (hM74 : (f_X7_stepsBest M x13).2 = M74) (c76 : ¬ r75 = 0) : f_X7_command M x1 x2 = (1, M74) := by subst hM74 hr75 hx14 hx13 hx12 hx11; exact Eq.trans (u_f_X7_command M x1 x2) (Eq.trans (if_neg c15) (Eq.trans (if_neg c23) (Eq.trans (if_neg c34) (Eq.trans (if_neg c48) (Eq.trans (if_neg c62) (Eq.trans (if_pos c71) (Eq.trans (if_neg c72) (if_neg c76))))))))
theorem p_X7_command_e81 (M : bM) (x1 : Int32) (x2 : Int32) (x11 : Int32) (hx11 : (x2 / 100) = x11) (x12 : Int32) (hx12 : ((x2 / 10) - (x2 / 10) / 10 * 10) = x12) (x13 : Int32) (hx13 : (x2 - x2 / 10 * 10) = x13) (x14 : Int32) (hx14 : (x2 - x2 / 100 * 100) = x14) (c15 : ¬ x1 = 1) (c23 : ¬ x1 = 2) (c34 : ¬ x1 = 3) (c48 : ¬ x1 = 4) (c62 : ¬ x1 = 5) (c71 : ¬ x1 = 6) (c79 : x1 = 7) (c80 : 2 ≤ x11) : f_X7_command M x1 x2 = (0, M) := by subst hx14 hx13 hx12 hx11; exact Eq.trans (u_f_X7_command M x1 x2) (Eq.trans (if_neg c15) (Eq.trans (if_neg c23) (Eq.trans (if_neg c34) (Eq.trans (if_neg c48) (Eq.trans (if_neg c62) (Eq.trans (if_neg c71) (Eq.trans (if_pos c79) (if_pos c80))))))))
theorem p_X7_command_e84 (M : bM) (x1 : Int32) (x2 : Int32) (x11 : Int32) (hx11 : (x2 / 100) = x11) (x12 : Int32) (hx12 : ((x2 / 10) - (x2 / 10) / 10 * 10) = x12) (x13 : Int32) (hx13 : (x2 - x2 / 10 * 10) = x13) (x14 : Int32) (hx14 : (x2 - x2 / 100 * 100) = x14) (c15 : ¬ x1 = 1) (c23 : ¬ x1 = 2) (c34 : ¬ x1 = 3) (c48 : ¬ x1 = 4) (c62 : ¬ x1 = 5) (c71 : ¬ x1 = 6) (c79 : x1 = 7) (c80 : ¬ 2 ≤ x11) (r82 : Int32) (hr82 : f_X7_of M 3 x11 0 = r82) (c83 : x14 < r82) : f_X7_command M x1 x2 = (0, M) := by subst hr82 hx14 hx13 hx12 hx11; exact Eq.trans (u_f_X7_command M x1 x2) (Eq.trans (if_neg c15) (Eq.trans (if_neg c23) (Eq.trans (if_neg c34) (Eq.trans (if_neg c48) (Eq.trans (if_neg c62) (Eq.trans (if_neg c71) (Eq.trans (if_pos c79) (Eq.trans (if_neg c80) (if_pos c83)))))))))
theorem p_X7_command_e85 (M : bM) (x1 : Int32) (x2 : Int32) (x11 : Int32) (hx11 : (x2 / 100) = x11) (x12 : Int32) (hx12 : ((x2 / 10) - (x2 / 10) / 10 * 10) = x12) (x13 : Int32) (hx13 : (x2 - x2 / 10 * 10) = x13) (x14 : Int32) (hx14 : (x2 - x2 / 100 * 100) = x14) (c15 : ¬ x1 = 1) (c23 : ¬ x1 = 2) (c34 : ¬ x1 = 3) (c48 : ¬ x1 = 4) (c62 : ¬ x1 = 5) (c71 : ¬ x1 = 6) (c79 : x1 = 7) (c80 : ¬ 2 ≤ x11) (r82 : Int32) (hr82 : f_X7_of M 3 x11 0 = r82) (c83 : ¬ x14 < r82) : f_X7_command M x1 x2 = (1, M) := by subst hr82 hx14 hx13 hx12 hx11; exact Eq.trans (u_f_X7_command M x1 x2) (Eq.trans (if_neg c15) (Eq.trans (if_neg c23) (Eq.trans (if_neg c34) (Eq.trans (if_neg c48) (Eq.trans (if_neg c62) (Eq.trans (if_neg c71) (Eq.trans (if_pos c79) (Eq.trans (if_neg c80) (if_neg c83)))))))))
theorem p_X7_command_e88 (M : bM) (x1 : Int32) (x2 : Int32) (x11 : Int32) (hx11 : (x2 / 100) = x11) (x12 : Int32) (hx12 : ((x2 / 10) - (x2 / 10) / 10 * 10) = x12) (x13 : Int32) (hx13 : (x2 - x2 / 10 * 10) = x13) (x14 : Int32) (hx14 : (x2 - x2 / 100 * 100) = x14) (c15 : ¬ x1 = 1) (c23 : ¬ x1 = 2) (c34 : ¬ x1 = 3) (c48 : ¬ x1 = 4) (c62 : ¬ x1 = 5) (c71 : ¬ x1 = 6) (c79 : ¬ x1 = 7) (c86 : x1 = 8) (c87 : 10 ≤ x2) : f_X7_command M x1 x2 = (0, M) := by subst hx14 hx13 hx12 hx11; exact Eq.trans (u_f_X7_command M x1 x2) (Eq.trans (if_neg c15) (Eq.trans (if_neg c23) (Eq.trans (if_neg c34) (Eq.trans (if_neg c48) (Eq.trans (if_neg c62) (Eq.trans (if_neg c71) (Eq.trans (if_neg c79) (Eq.trans (if_pos c86) (if_pos c87)))))))))
theorem p_X7_command_e90 (M : bM) (x1 : Int32) (x2 : Int32) (x11 : Int32) (hx11 : (x2 / 100) = x11) (x12 : Int32) (hx12 : ((x2 / 10) - (x2 / 10) / 10 * 10) = x12) (x13 : Int32) (hx13 : (x2 - x2 / 10 * 10) = x13) (x14 : Int32) (hx14 : (x2 - x2 / 100 * 100) = x14) (c15 : ¬ x1 = 1) (c23 : ¬ x1 = 2) (c34 : ¬ x1 = 3) (c48 : ¬ x1 = 4) (c62 : ¬ x1 = 5) (c71 : ¬ x1 = 6) (c79 : ¬ x1 = 7) (c86 : x1 = 8) (c87 : ¬ 10 ≤ x2) (c89 : ¬ (M 3 1) = x13) : f_X7_command M x1 x2 = (0, M) := by subst hx14 hx13 hx12 hx11; exact Eq.trans (u_f_X7_command M x1 x2) (Eq.trans (if_neg c15) (Eq.trans (if_neg c23) (Eq.trans (if_neg c34) (Eq.trans (if_neg c48) (Eq.trans (if_neg c62) (Eq.trans (if_neg c71) (Eq.trans (if_neg c79) (Eq.trans (if_pos c86) (Eq.trans (if_neg c87) (if_neg c89))))))))))
theorem p_X7_command_e91 (M : bM) (x1 : Int32) (x2 : Int32) (x11 : Int32) (hx11 : (x2 / 100) = x11) (x12 : Int32) (hx12 : ((x2 / 10) - (x2 / 10) / 10 * 10) = x12) (x13 : Int32) (hx13 : (x2 - x2 / 10 * 10) = x13) (x14 : Int32) (hx14 : (x2 - x2 / 100 * 100) = x14) (c15 : ¬ x1 = 1) (c23 : ¬ x1 = 2) (c34 : ¬ x1 = 3) (c48 : ¬ x1 = 4) (c62 : ¬ x1 = 5) (c71 : ¬ x1 = 6) (c79 : ¬ x1 = 7) (c86 : x1 = 8) (c87 : ¬ 10 ≤ x2) (c89 : (M 3 1) = x13) : f_X7_command M x1 x2 = (1, M) := by subst hx14 hx13 hx12 hx11; exact Eq.trans (u_f_X7_command M x1 x2) (Eq.trans (if_neg c15) (Eq.trans (if_neg c23) (Eq.trans (if_neg c34) (Eq.trans (if_neg c48) (Eq.trans (if_neg c62) (Eq.trans (if_neg c71) (Eq.trans (if_neg c79) (Eq.trans (if_pos c86) (Eq.trans (if_neg c87) (if_pos c89))))))))))
theorem p_X7_command_e94 (M : bM) (x1 : Int32) (x2 : Int32) (x11 : Int32) (hx11 : (x2 / 100) = x11) (x12 : Int32) (hx12 : ((x2 / 10) - (x2 / 10) / 10 * 10) = x12) (x13 : Int32) (hx13 : (x2 - x2 / 10 * 10) = x13) (x14 : Int32) (hx14 : (x2 - x2 / 100 * 100) = x14) (c15 : ¬ x1 = 1) (c23 : ¬ x1 = 2) (c34 : ¬ x1 = 3) (c48 : ¬ x1 = 4) (c62 : ¬ x1 = 5) (c71 : ¬ x1 = 6) (c79 : ¬ x1 = 7) (c86 : ¬ x1 = 8) (c92 : x1 = 9) (c93 : 2 ≤ x11) : f_X7_command M x1 x2 = (0, M) := by subst hx14 hx13 hx12 hx11; exact Eq.trans (u_f_X7_command M x1 x2) (Eq.trans (if_neg c15) (Eq.trans (if_neg c23) (Eq.trans (if_neg c34) (Eq.trans (if_neg c48) (Eq.trans (if_neg c62) (Eq.trans (if_neg c71) (Eq.trans (if_neg c79) (Eq.trans (if_neg c86) (Eq.trans (if_pos c92) (if_pos c93))))))))))
theorem p_X7_command_e97 (M : bM) (x1 : Int32) (x2 : Int32) (x11 : Int32) (hx11 : (x2 / 100) = x11) (x12 : Int32) (hx12 : ((x2 / 10) - (x2 / 10) / 10 * 10) = x12) (x13 : Int32) (hx13 : (x2 - x2 / 10 * 10) = x13) (x14 : Int32) (hx14 : (x2 - x2 / 100 * 100) = x14) (c15 : ¬ x1 = 1) (c23 : ¬ x1 = 2) (c34 : ¬ x1 = 3) (c48 : ¬ x1 = 4) (c62 : ¬ x1 = 5) (c71 : ¬ x1 = 6) (c79 : ¬ x1 = 7) (c86 : ¬ x1 = 8) (c92 : x1 = 9) (c93 : ¬ 2 ≤ x11) (r95 : Int32) (hr95 : f_X7_of M 3 x11 4 = r95) (c96 : r95 < x14) : f_X7_command M x1 x2 = (0, M) := by subst hr95 hx14 hx13 hx12 hx11; exact Eq.trans (u_f_X7_command M x1 x2) (Eq.trans (if_neg c15) (Eq.trans (if_neg c23) (Eq.trans (if_neg c34) (Eq.trans (if_neg c48) (Eq.trans (if_neg c62) (Eq.trans (if_neg c71) (Eq.trans (if_neg c79) (Eq.trans (if_neg c86) (Eq.trans (if_pos c92) (Eq.trans (if_neg c93) (if_pos c96)))))))))))
theorem p_X7_command_e98 (M : bM) (x1 : Int32) (x2 : Int32) (x11 : Int32) (hx11 : (x2 / 100) = x11) (x12 : Int32) (hx12 : ((x2 / 10) - (x2 / 10) / 10 * 10) = x12) (x13 : Int32) (hx13 : (x2 - x2 / 10 * 10) = x13) (x14 : Int32) (hx14 : (x2 - x2 / 100 * 100) = x14) (c15 : ¬ x1 = 1) (c23 : ¬ x1 = 2) (c34 : ¬ x1 = 3) (c48 : ¬ x1 = 4) (c62 : ¬ x1 = 5) (c71 : ¬ x1 = 6) (c79 : ¬ x1 = 7) (c86 : ¬ x1 = 8) (c92 : x1 = 9) (c93 : ¬ 2 ≤ x11) (r95 : Int32) (hr95 : f_X7_of M 3 x11 4 = r95) (c96 : ¬ r95 < x14) : f_X7_command M x1 x2 = (1, M) := by subst hr95 hx14 hx13 hx12 hx11; exact Eq.trans (u_f_X7_command M x1 x2) (Eq.trans (if_neg c15) (Eq.trans (if_neg c23) (Eq.trans (if_neg c34) (Eq.trans (if_neg c48) (Eq.trans (if_neg c62) (Eq.trans (if_neg c71) (Eq.trans (if_neg c79) (Eq.trans (if_neg c86) (Eq.trans (if_pos c92) (Eq.trans (if_neg c93) (if_neg c96)))))))))))
theorem p_X7_command_e99 (M : bM) (x1 : Int32) (x2 : Int32) (x11 : Int32) (hx11 : (x2 / 100) = x11) (x12 : Int32) (hx12 : ((x2 / 10) - (x2 / 10) / 10 * 10) = x12) (x13 : Int32) (hx13 : (x2 - x2 / 10 * 10) = x13) (x14 : Int32) (hx14 : (x2 - x2 / 100 * 100) = x14) (c15 : ¬ x1 = 1) (c23 : ¬ x1 = 2) (c34 : ¬ x1 = 3) (c48 : ¬ x1 = 4) (c62 : ¬ x1 = 5) (c71 : ¬ x1 = 6) (c79 : ¬ x1 = 7) (c86 : ¬ x1 = 8) (c92 : ¬ x1 = 9) : f_X7_command M x1 x2 = (0, M) := by subst hx14 hx13 hx12 hx11; exact Eq.trans (u_f_X7_command M x1 x2) (Eq.trans (if_neg c15) (Eq.trans (if_neg c23) (Eq.trans (if_neg c34) (Eq.trans (if_neg c48) (Eq.trans (if_neg c62) (Eq.trans (if_neg c71) (Eq.trans (if_neg c79) (Eq.trans (if_neg c86) (if_neg c92)))))))))
theorem fr_X7_command (M : bM) (x1 : Int32) (x2 : Int32) (k : Nat) (hk3 : k ≠ 3) (hf : k ≠ 7) : (f_X7_command M x1 x2).2 k = M k := by
  obtain ⟨x11, hx11⟩ : ∃ y : Int32, y = (x2 / 100) := ⟨_, rfl⟩
  obtain ⟨x12, hx12⟩ : ∃ y : Int32, y = ((x2 / 10) - (x2 / 10) / 10 * 10) := ⟨_, rfl⟩
  obtain ⟨x13, hx13⟩ : ∃ y : Int32, y = (x2 - x2 / 10 * 10) := ⟨_, rfl⟩
  obtain ⟨x14, hx14⟩ : ∃ y : Int32, y = (x2 - x2 / 100 * 100) := ⟨_, rfl⟩
  by_cases c15 : x1 = 1
  · by_cases c16 : x11 = 0
    · obtain ⟨r19, hr19⟩ : ∃ y : Int32, y = (f_X7_gameOn M 3 x14.toInt64).1 := ⟨_, rfl⟩
      obtain ⟨M18, hM18⟩ : ∃ y : bM, y = (f_X7_gameOn M 3 x14.toInt64).2 := ⟨_, rfl⟩
      by_cases c20 : r19 ≤ 0
      · rw [p_X7_command_e21 M x1 x2 x11 hx11.symm x12 hx12.symm x13 hx13.symm x14 hx14.symm c15 c16 r19 hr19.symm M18 hM18.symm c20]
        try dsimp only
        rw [hM18, fr_X7_gameOn M 3 x14.toInt64 k (by omega)]
      · rw [p_X7_command_e22 M x1 x2 x11 hx11.symm x12 hx12.symm x13 hx13.symm x14 hx14.symm c15 c16 r19 hr19.symm M18 hM18.symm c20]
        try dsimp only
        rw [hM18, fr_X7_gameOn M 3 x14.toInt64 k (by omega)]
    · rw [p_X7_command_e17 M x1 x2 x11 hx11.symm x12 hx12.symm x13 hx13.symm x14 hx14.symm c15 c16]
  by_cases c23 : x1 = 2
  · by_cases c24 : 3 ≤ x2
    · rw [p_X7_command_e25 M x1 x2 x11 hx11.symm x12 hx12.symm x13 hx13.symm x14 hx14.symm c15 c23 c24]
    · obtain ⟨r26, hr26⟩ : ∃ y : Int32, y = f_X7_isUnderWay M 3 := ⟨_, rfl⟩
      by_cases c27 : r26 = 0
      · rw [p_X7_command_e28 M x1 x2 x11 hx11.symm x12 hx12.symm x13 hx13.symm x14 hx14.symm c15 c23 c24 r26 hr26.symm c27]
      · obtain ⟨r30, hr30⟩ : ∃ y : Int32, y = (f_X7_stepOn M 3 x13).1 := ⟨_, rfl⟩
        obtain ⟨M29, hM29⟩ : ∃ y : bM, y = (f_X7_stepOn M 3 x13).2 := ⟨_, rfl⟩
        by_cases c31 : r30 = 0
        · rw [p_X7_command_e33 M x1 x2 x11 hx11.symm x12 hx12.symm x13 hx13.symm x14 hx14.symm c15 c23 c24 r26 hr26.symm c27 r30 hr30.symm M29 hM29.symm c31]
          try dsimp only
          rw [hM29, fr_X7_stepOn M 3 x13 k (by omega)]
        · rw [p_X7_command_e32 M x1 x2 x11 hx11.symm x12 hx12.symm x13 hx13.symm x14 hx14.symm c15 c23 c24 r26 hr26.symm c27 r30 hr30.symm M29 hM29.symm c31]
          try dsimp only
          rw [hM29, fr_X7_stepOn M 3 x13 k (by omega)]
  by_cases c34 : x1 = 3
  · by_cases c35 : x11 = 0
    · obtain ⟨r37, hr37⟩ : ∃ y : Int32, y = f_X7_isCell x12 x13 := ⟨_, rfl⟩
      by_cases c38 : r37 = 0
      · rw [p_X7_command_e39 M x1 x2 x11 hx11.symm x12 hx12.symm x13 hx13.symm x14 hx14.symm c15 c23 c34 c35 r37 hr37.symm c38]
      · obtain ⟨r40, hr40⟩ : ∃ y : Int32, y = f_X7_isUnderWay M 3 := ⟨_, rfl⟩
        by_cases c41 : r40 = 0
        · rw [p_X7_command_e42 M x1 x2 x11 hx11.symm x12 hx12.symm x13 hx13.symm x14 hx14.symm c15 c23 c34 c35 r37 hr37.symm c38 r40 hr40.symm c41]
        · obtain ⟨r44, hr44⟩ : ∃ y : Int32, y = (f_X7_damOn M 3 (((8 : Int32) * x13) + x12)).1 := ⟨_, rfl⟩
          obtain ⟨M43, hM43⟩ : ∃ y : bM, y = (f_X7_damOn M 3 (((8 : Int32) * x13) + x12)).2 := ⟨_, rfl⟩
          by_cases c45 : r44 = 0
          · rw [p_X7_command_e47 M x1 x2 x11 hx11.symm x12 hx12.symm x13 hx13.symm x14 hx14.symm c15 c23 c34 c35 r37 hr37.symm c38 r40 hr40.symm c41 r44 hr44.symm M43 hM43.symm c45]
            try dsimp only
            rw [hM43, fr_X7_damOn M 3 (((8 : Int32) * x13) + x12) k (by omega) (by omega)]
          · rw [p_X7_command_e46 M x1 x2 x11 hx11.symm x12 hx12.symm x13 hx13.symm x14 hx14.symm c15 c23 c34 c35 r37 hr37.symm c38 r40 hr40.symm c41 r44 hr44.symm M43 hM43.symm c45]
            try dsimp only
            rw [hM43, fr_X7_damOn M 3 (((8 : Int32) * x13) + x12) k (by omega) (by omega)]
    · rw [p_X7_command_e36 M x1 x2 x11 hx11.symm x12 hx12.symm x13 hx13.symm x14 hx14.symm c15 c23 c34 c35]
  by_cases c48 : x1 = 4
  · by_cases c49 : x2 = 0
    · obtain ⟨r51, hr51⟩ : ∃ y : Int32, y = f_X7_isUnderWay M 3 := ⟨_, rfl⟩
      by_cases c52 : r51 = 0
      · rw [p_X7_command_e53 M x1 x2 x11 hx11.symm x12 hx12.symm x13 hx13.symm x14 hx14.symm c15 c23 c34 c48 c49 r51 hr51.symm c52]
      · obtain ⟨r54, hr54⟩ : ∃ y : Int32, y = f_X7_canStep M 3 := ⟨_, rfl⟩
        by_cases c55 : r54 = 0
        · obtain ⟨r58, hr58⟩ : ∃ y : Int32, y = (f_X7_floodOn M 3).1 := ⟨_, rfl⟩
          obtain ⟨M57, hM57⟩ : ∃ y : bM, y = (f_X7_floodOn M 3).2 := ⟨_, rfl⟩
          by_cases c59 : r58 < 0
          · rw [p_X7_command_e60 M x1 x2 x11 hx11.symm x12 hx12.symm x13 hx13.symm x14 hx14.symm c15 c23 c34 c48 c49 r51 hr51.symm c52 r54 hr54.symm c55 r58 hr58.symm M57 hM57.symm c59]
            try dsimp only
            rw [hM57, fr_X7_floodOn M 3 k (by omega)]
          · rw [p_X7_command_e61 M x1 x2 x11 hx11.symm x12 hx12.symm x13 hx13.symm x14 hx14.symm c15 c23 c34 c48 c49 r51 hr51.symm c52 r54 hr54.symm c55 r58 hr58.symm M57 hM57.symm c59]
            try dsimp only
            rw [hM57, fr_X7_floodOn M 3 k (by omega)]
        · rw [p_X7_command_e56 M x1 x2 x11 hx11.symm x12 hx12.symm x13 hx13.symm x14 hx14.symm c15 c23 c34 c48 c49 r51 hr51.symm c52 r54 hr54.symm c55]
    · rw [p_X7_command_e50 M x1 x2 x11 hx11.symm x12 hx12.symm x13 hx13.symm x14 hx14.symm c15 c23 c34 c48 c49]
  by_cases c62 : x1 = 5
  · obtain ⟨r63, hr63⟩ : ∃ y : Int32, y = f_X7_isSetting x11 x14 := ⟨_, rfl⟩
    by_cases c64 : r63 = 0
    · rw [p_X7_command_e65 M x1 x2 x11 hx11.symm x12 hx12.symm x13 hx13.symm x14 hx14.symm c15 c23 c34 c48 c62 r63 hr63.symm c64]
    · obtain ⟨r67, hr67⟩ : ∃ y : Int32, y = (f_X7_change M 3 x11 x14).1 := ⟨_, rfl⟩
      obtain ⟨M66, hM66⟩ : ∃ y : bM, y = (f_X7_change M 3 x11 x14).2 := ⟨_, rfl⟩
      by_cases c68 : r67 < 0
      · rw [p_X7_command_e69 M x1 x2 x11 hx11.symm x12 hx12.symm x13 hx13.symm x14 hx14.symm c15 c23 c34 c48 c62 r63 hr63.symm c64 r67 hr67.symm M66 hM66.symm c68]
        try dsimp only
        rw [hM66, fr_X7_change M 3 x11 x14 k (by omega)]
      · rw [p_X7_command_e70 M x1 x2 x11 hx11.symm x12 hx12.symm x13 hx13.symm x14 hx14.symm c15 c23 c34 c48 c62 r63 hr63.symm c64 r67 hr67.symm M66 hM66.symm c68]
        try dsimp only
        rw [hM66, fr_X7_change M 3 x11 x14 k (by omega)]
  by_cases c71 : x1 = 6
  · by_cases c72 : 10 ≤ x2
    · rw [p_X7_command_e73 M x1 x2 x11 hx11.symm x12 hx12.symm x13 hx13.symm x14 hx14.symm c15 c23 c34 c48 c62 c71 c72]
    · obtain ⟨r75, hr75⟩ : ∃ y : Int32, y = (f_X7_stepsBest M x13).1 := ⟨_, rfl⟩
      obtain ⟨M74, hM74⟩ : ∃ y : bM, y = (f_X7_stepsBest M x13).2 := ⟨_, rfl⟩
      by_cases c76 : r75 = 0
      · rw [p_X7_command_e77 M x1 x2 x11 hx11.symm x12 hx12.symm x13 hx13.symm x14 hx14.symm c15 c23 c34 c48 c62 c71 c72 r75 hr75.symm M74 hM74.symm c76]
        try dsimp only
        rw [hM74, fr_X7_stepsBest M x13 k (by omega) (by omega)]
      · rw [p_X7_command_e78 M x1 x2 x11 hx11.symm x12 hx12.symm x13 hx13.symm x14 hx14.symm c15 c23 c34 c48 c62 c71 c72 r75 hr75.symm M74 hM74.symm c76]
        try dsimp only
        rw [hM74, fr_X7_stepsBest M x13 k (by omega) (by omega)]
  by_cases c79 : x1 = 7
  · by_cases c80 : 2 ≤ x11
    · rw [p_X7_command_e81 M x1 x2 x11 hx11.symm x12 hx12.symm x13 hx13.symm x14 hx14.symm c15 c23 c34 c48 c62 c71 c79 c80]
    · obtain ⟨r82, hr82⟩ : ∃ y : Int32, y = f_X7_of M 3 x11 0 := ⟨_, rfl⟩
      by_cases c83 : x14 < r82
      · rw [p_X7_command_e84 M x1 x2 x11 hx11.symm x12 hx12.symm x13 hx13.symm x14 hx14.symm c15 c23 c34 c48 c62 c71 c79 c80 r82 hr82.symm c83]
      · rw [p_X7_command_e85 M x1 x2 x11 hx11.symm x12 hx12.symm x13 hx13.symm x14 hx14.symm c15 c23 c34 c48 c62 c71 c79 c80 r82 hr82.symm c83]
  by_cases c86 : x1 = 8
  · by_cases c87 : 10 ≤ x2
    · rw [p_X7_command_e88 M x1 x2 x11 hx11.symm x12 hx12.symm x13 hx13.symm x14 hx14.symm c15 c23 c34 c48 c62 c71 c79 c86 c87]
    · by_cases c89 : (M 3 1) = x13
      · rw [p_X7_command_e91 M x1 x2 x11 hx11.symm x12 hx12.symm x13 hx13.symm x14 hx14.symm c15 c23 c34 c48 c62 c71 c79 c86 c87 c89]
      · rw [p_X7_command_e90 M x1 x2 x11 hx11.symm x12 hx12.symm x13 hx13.symm x14 hx14.symm c15 c23 c34 c48 c62 c71 c79 c86 c87 c89]
  by_cases c92 : x1 = 9
  · by_cases c93 : 2 ≤ x11
    · rw [p_X7_command_e94 M x1 x2 x11 hx11.symm x12 hx12.symm x13 hx13.symm x14 hx14.symm c15 c23 c34 c48 c62 c71 c79 c86 c92 c93]
    · obtain ⟨r95, hr95⟩ : ∃ y : Int32, y = f_X7_of M 3 x11 4 := ⟨_, rfl⟩
      by_cases c96 : r95 < x14
      · rw [p_X7_command_e97 M x1 x2 x11 hx11.symm x12 hx12.symm x13 hx13.symm x14 hx14.symm c15 c23 c34 c48 c62 c71 c79 c86 c92 c93 r95 hr95.symm c96]
      · rw [p_X7_command_e98 M x1 x2 x11 hx11.symm x12 hx12.symm x13 hx13.symm x14 hx14.symm c15 c23 c34 c48 c62 c71 c79 c86 c92 c93 r95 hr95.symm c96]
  rw [p_X7_command_e99 M x1 x2 x11 hx11.symm x12 hx12.symm x13 hx13.symm x14 hx14.symm c15 c23 c34 c48 c62 c71 c79 c86 c92]
set_option maxHeartbeats 4000000 in
set_option maxRecDepth 100000 in
theorem c_X7_command (l : Launch) (D : va_G) (E : Nat → ClassId) (o : Nat) (M : bM) (x1 : Int32) (x2 : Int32) (hg : gR (M 3)) (h3 : vp_in x2 1000) : Met l yX7_command wsX7_command (rmF 8) (bPc D E [.ref (o + 0), .int x1, .int x2] (fun H => bk D E LRR o M H)) (bQ (aI fun r H => ∃ M1 : bM, (r = (f_X7_command M x1 x2).1 ∧ M1 = (f_X7_command M x1 x2).2) ∧ bk D E LRR o M1 H) (rB o)) 0 0 (rB o) := by
  refine Met.ofW (cc := cX7_command) (maxL := 7) (ret := (some .boolean)) (by decide) rfl ?_
  intro p e s m args below meth c s₁ B hml hv
  obtain ⟨rfl, hB, hK⟩ := hv
  have hx := B.exec
  have hb := B.bytes
  have hr := B.returns
  have hts := atoms_spec (ws := wsX7_command) B.pre
  have hown : s.vm.findClass RX7 = some m.cls := findClass_of_methodNamed B.named
  have hlocks := B.notSynchronized
  have hS : bS (rB o) s.heap s.heap [] := bS.rf
  have hl := lv_entry ([.ref (o + 0), .int x1, .int x2]) (n := 7) (Nat.le_of_ble_eq_true rfl)
  rw [lg_entry_eq]
  generalize (lg_sl ([.ref (o + 0), .int x1, .int x2]) ++ List.replicate (7 - (lg_sl ([.ref (o + 0), .int x1, .int x2])).length) Slot.unset).toArray = ls at hl ⊢
  have hl : lv_has ls 7 [(0, .ref (o + 0)), (1, .int x1), (2, .int x2)] := hl
  have hB : bk D E LRR o M s.heap := hB
  have hinX7 : ∀ w ∈ wsX70, w ∈ wsX7_command := by decide +kernel
  refine lv_iload_n hx hb dX7_command_0 rfl (lv_at hl 2 rfl) ?_
  refine lv_bipush (v := 100) hx hb dX7_command_1 (by decide) ?_
  refine lv_idiv hx hb dX7_command_3 (by decide) ?_
  refine lv_topi (fun x11 hx11 => ?_)
  refine lv_istore_n (lv' := [(3, .int x11), (0, .ref (o + 0)), (1, .int x1), (2, .int x2)]) hx hb dX7_command_4 rfl hl (by decide) rfl (fun ls hl => ?_)
  refine lv_iload_n hx hb dX7_command_5 rfl (lv_at hl 3 rfl) ?_
  refine lv_bipush (v := 10) hx hb dX7_command_6 (by decide) ?_
  refine lv_idiv hx hb dX7_command_8 (by decide) ?_
  refine lv_bipush (v := 10) hx hb dX7_command_9 (by decide) ?_
  refine lv_irem hx hb dX7_command_11 (by decide) ?_
  refine lv_topi (fun x12 hx12 => ?_)
  refine lv_istore (lv' := [(4, .int x12), (3, .int x11), (0, .ref (o + 0)), (1, .int x1), (2, .int x2)]) hx hb dX7_command_12 hl (by decide) rfl (fun ls hl => ?_)
  refine lv_iload_n hx hb dX7_command_14 rfl (lv_at hl 4 rfl) ?_
  refine lv_bipush (v := 10) hx hb dX7_command_15 (by decide) ?_
  refine lv_irem hx hb dX7_command_17 (by decide) ?_
  refine lv_topi (fun x13 hx13 => ?_)
  refine lv_istore (lv' := [(5, .int x13), (4, .int x12), (3, .int x11), (0, .ref (o + 0)), (1, .int x1), (2, .int x2)]) hx hb dX7_command_18 hl (by decide) rfl (fun ls hl => ?_)
  refine lv_iload_n hx hb dX7_command_20 rfl (lv_at hl 5 rfl) ?_
  refine lv_bipush (v := 100) hx hb dX7_command_21 (by decide) ?_
  refine lv_irem hx hb dX7_command_23 (by decide) ?_
  refine lv_topi (fun x14 hx14 => ?_)
  refine lv_istore (lv' := [(6, .int x14), (5, .int x13), (4, .int x12), (3, .int x11), (0, .ref (o + 0)), (1, .int x1), (2, .int x2)]) hx hb dX7_command_24 hl (by decide) rfl (fun ls hl => ?_)
  refine lv_iload_n hx hb dX7_command_26 rfl (lv_at hl 5 rfl) ?_
  by_cases c15 : x1 = 1
  · refine b_tabI (tgt := 76) hx hb 1 dX7_command_27 (by rw [c15]; rfl) (by decide) (by decide) rfl (by decide) ?_
    refine lv_iload_n hx hb dX7_command_76 rfl (lv_at hl 3 rfl) ?_
    refine lv_if_ne (tgt := 97) hx hb dX7_command_77 (by decide) (fun c16 => ?_) (fun c16 => ?_)
    · refine lv_iconst (v := 0) hx hb dX7_command_97 (by decide) ?_
      have e17 := p_X7_command_e17 M x1 x2 x11 hx11.symm x12 hx12.symm x13 hx13.symm x14 hx14.symm c15 c16
      exact b_zret hx hb hr rfl hlocks hS ⟨_, rfl, _, ⟨(congrArg Prod.fst e17).symm, (congrArg Prod.snd e17).symm⟩, hB⟩ dX7_command_98
    · refine lv_aload_n hx hb dX7_command_80 rfl (lv_at hl 4 rfl) ?_
      refine b_get (D := D) (E := E) (L := LRR) (o := o) (M := M) (v := .ref (o + 3)) (C := RX7) (T := TX7) (N := 13) hx hb hts hinX7 hown hK.1 hB 0 lay_m0 rfl 4 (by decide) (hts (.fieldLink RX7 16 "RiverMeetingModel" "trial" "[I") (List.mem_of_getElem? (i := 1) rfl)) (fun _ h9 => h9) rfl dX7_command_81 ?_
      refine lv_iload hx hb dX7_command_84 (lv_at hl 0 rfl) ?_
      refine lv_i2l hx hb dX7_command_86 rfl ?_
      refine b_mI (b_runS (As := [.ref (o + 3), .long x14.toInt64]) (rest := []) ⟨hx, hb, hml, hown, hts⟩ (c_X7_gameOn l D E o M 3 x14.toInt64 lay_m3) (va_cwS 2 hts gX7_command_X7_gameOn rfl rfl rfl (by decide +kernel) ⟨Nat.le_of_ble_eq_true rfl, Nat.le_of_ble_eq_true rfl⟩) hK hB rfl hl rfl (Nat.le_of_ble_eq_true rfl) dX7_command_87 ⟨Nat.zero_le _, Nat.zero_le _⟩) hS (fun q h => h) (fun r19 M18 hM18 H locs hB _ hS => ?_)
      obtain ⟨hr19, hM18⟩ := hM18
      refine lv_if_le (tgt := 97) hx hb dX7_command_90 (by decide) (fun c20 => ?_) (fun c20 => ?_)
      · refine lv_iconst (v := 0) hx hb dX7_command_97 (by decide) ?_
        have e21 := p_X7_command_e21 M x1 x2 x11 hx11.symm x12 hx12.symm x13 hx13.symm x14 hx14.symm c15 c16 r19 hr19.symm M18 hM18.symm c20
        exact b_zret hx hb hr rfl hlocks hS ⟨_, rfl, _, ⟨(congrArg Prod.fst e21).symm, (congrArg Prod.snd e21).symm⟩, hB⟩ dX7_command_98
      · refine lv_iconst (v := 1) hx hb dX7_command_93 (by decide) ?_
        refine lv_goto (tgt := 98) hx hb dX7_command_94 (by decide) ?_
        have e22 := p_X7_command_e22 M x1 x2 x11 hx11.symm x12 hx12.symm x13 hx13.symm x14 hx14.symm c15 c16 r19 hr19.symm M18 hM18.symm c20
        exact b_zret hx hb hr rfl hlocks hS ⟨_, rfl, _, ⟨(congrArg Prod.fst e22).symm, (congrArg Prod.snd e22).symm⟩, hB⟩ dX7_command_98
  by_cases c23 : x1 = 2
  · refine b_tabI (tgt := 99) hx hb 2 dX7_command_27 (by rw [c23]; rfl) (by decide) (by decide) rfl (by decide) ?_
    refine lv_iload_n hx hb dX7_command_99 rfl (lv_at hl 6 rfl) ?_
    refine lv_iconst (v := 3) hx hb dX7_command_100 (by decide) ?_
    refine lv_icmp_ge (tgt := 130) hx hb dX7_command_101 (by decide) (fun c24 => ?_) (fun c24 => ?_)
    · refine lv_iconst (v := 0) hx hb dX7_command_130 (by decide) ?_
      have e25 := p_X7_command_e25 M x1 x2 x11 hx11.symm x12 hx12.symm x13 hx13.symm x14 hx14.symm c15 c23 c24
      exact b_zret hx hb hr rfl hlocks hS ⟨_, rfl, _, ⟨(congrArg Prod.fst e25).symm, (congrArg Prod.snd e25).symm⟩, hB⟩ dX7_command_131
    · refine lv_aload_n hx hb dX7_command_104 rfl (lv_at hl 4 rfl) ?_
      refine b_get (D := D) (E := E) (L := LRR) (o := o) (M := M) (v := .ref (o + 3)) (C := RX7) (T := TX7) (N := 13) hx hb hts hinX7 hown hK.1 hB 0 lay_m0 rfl 4 (by decide) (hts (.fieldLink RX7 16 "RiverMeetingModel" "trial" "[I") (List.mem_of_getElem? (i := 1) rfl)) (fun _ h9 => h9) rfl dX7_command_105 ?_
      refine b_pI (b_runS (As := [.ref (o + 3)]) (rest := []) ⟨hx, hb, hml, hown, hts⟩ (c_X7_isUnderWay l D E o M 3 lay_m3) (va_cwS 1 hts gX7_command_X7_isUnderWay rfl rfl rfl (by decide +kernel) ⟨Nat.le_of_ble_eq_true rfl, Nat.le_of_ble_eq_true rfl⟩) hK hB rfl hl rfl (Nat.le_of_ble_eq_true rfl) dX7_command_108 ⟨Nat.zero_le _, Nat.zero_le _⟩) hS (fun r26 hr26 locs hS => ?_)
      refine lv_if_eq (tgt := 130) hx hb dX7_command_111 (by decide) (fun c27 => ?_) (fun c27 => ?_)
      · refine lv_iconst (v := 0) hx hb dX7_command_130 (by decide) ?_
        have e28 := p_X7_command_e28 M x1 x2 x11 hx11.symm x12 hx12.symm x13 hx13.symm x14 hx14.symm c15 c23 c24 r26 hr26.symm c27
        exact b_zret hx hb hr rfl hlocks hS ⟨_, rfl, _, ⟨(congrArg Prod.fst e28).symm, (congrArg Prod.snd e28).symm⟩, hB⟩ dX7_command_131
      · refine lv_aload_n hx hb dX7_command_114 rfl (lv_at hl 4 rfl) ?_
        refine b_get (D := D) (E := E) (L := LRR) (o := o) (M := M) (v := .ref (o + 3)) (C := RX7) (T := TX7) (N := 13) hx hb hts hinX7 hown hK.1 hB 0 lay_m0 rfl 4 (by decide) (hts (.fieldLink RX7 16 "RiverMeetingModel" "trial" "[I") (List.mem_of_getElem? (i := 1) rfl)) (fun _ h9 => h9) rfl dX7_command_115 ?_
        refine lv_iload hx hb dX7_command_118 (lv_at hl 1 rfl) ?_
        refine b_mI (b_runS (As := [.ref (o + 3), .int x13]) (rest := []) ⟨hx, hb, hml, hown, hts⟩ (c_X7_stepOn l D E o M 3 x13 lay_m3 (gR_wf hg) (gR_room hg)) (va_cwS 2 hts gX7_command_X7_stepOn rfl rfl rfl (by decide +kernel) ⟨Nat.le_of_ble_eq_true rfl, Nat.le_of_ble_eq_true rfl⟩) hK hB rfl hl rfl (Nat.le_of_ble_eq_true rfl) dX7_command_120 ⟨Nat.zero_le _, Nat.zero_le _⟩) hS (fun q h => h) (fun r30 M29 hM29 H locs hB _ hS => ?_)
        obtain ⟨hr30, hM29⟩ := hM29
        refine lv_if_ne (tgt := 130) hx hb dX7_command_123 (by decide) (fun c31 => ?_) (fun c31 => ?_)
        · refine lv_iconst (v := 0) hx hb dX7_command_130 (by decide) ?_
          have e32 := p_X7_command_e32 M x1 x2 x11 hx11.symm x12 hx12.symm x13 hx13.symm x14 hx14.symm c15 c23 c24 r26 hr26.symm c27 r30 hr30.symm M29 hM29.symm c31
          exact b_zret hx hb hr rfl hlocks hS ⟨_, rfl, _, ⟨(congrArg Prod.fst e32).symm, (congrArg Prod.snd e32).symm⟩, hB⟩ dX7_command_131
        · refine lv_iconst (v := 1) hx hb dX7_command_126 (by decide) ?_
          refine lv_goto (tgt := 131) hx hb dX7_command_127 (by decide) ?_
          have e33 := p_X7_command_e33 M x1 x2 x11 hx11.symm x12 hx12.symm x13 hx13.symm x14 hx14.symm c15 c23 c24 r26 hr26.symm c27 r30 hr30.symm M29 hM29.symm c31
          exact b_zret hx hb hr rfl hlocks hS ⟨_, rfl, _, ⟨(congrArg Prod.fst e33).symm, (congrArg Prod.snd e33).symm⟩, hB⟩ dX7_command_131
  by_cases c34 : x1 = 3
  · refine b_tabI (tgt := 132) hx hb 3 dX7_command_27 (by rw [c34]; rfl) (by decide) (by decide) rfl (by decide) ?_
    refine lv_iload_n hx hb dX7_command_132 rfl (lv_at hl 3 rfl) ?_
    refine lv_if_ne (tgt := 179) hx hb dX7_command_133 (by decide) (fun c35 => ?_) (fun c35 => ?_)
    · refine lv_iconst (v := 0) hx hb dX7_command_179 (by decide) ?_
      have e36 := p_X7_command_e36 M x1 x2 x11 hx11.symm x12 hx12.symm x13 hx13.symm x14 hx14.symm c15 c23 c34 c35
      exact b_zret hx hb hr rfl hlocks hS ⟨_, rfl, _, ⟨(congrArg Prod.fst e36).symm, (congrArg Prod.snd e36).symm⟩, hB⟩ dX7_command_180
    · refine lv_iload hx hb dX7_command_136 (lv_at hl 2 rfl) ?_
      refine lv_iload hx hb dX7_command_138 (lv_at hl 1 rfl) ?_
      refine b_pI (b_runS (As := [.int x12, .int x13]) (rest := []) ⟨hx, hb, hml, hown, hts⟩ (c_X7_isCell l D E x12 x13) (va_cwS 2 hts gX7_command_X7_isCell rfl rfl rfl (by decide +kernel) ⟨Nat.le_of_ble_eq_true rfl, Nat.le_of_ble_eq_true rfl⟩) hK trivial rfl hl rfl (Nat.le_of_ble_eq_true rfl) dX7_command_140 ⟨Nat.zero_le _, Nat.zero_le _⟩) hS (fun r37 hr37 locs hS => ?_)
      refine lv_if_eq (tgt := 179) hx hb dX7_command_143 (by decide) (fun c38 => ?_) (fun c38 => ?_)
      · refine lv_iconst (v := 0) hx hb dX7_command_179 (by decide) ?_
        have e39 := p_X7_command_e39 M x1 x2 x11 hx11.symm x12 hx12.symm x13 hx13.symm x14 hx14.symm c15 c23 c34 c35 r37 hr37.symm c38
        exact b_zret hx hb hr rfl hlocks hS ⟨_, rfl, _, ⟨(congrArg Prod.fst e39).symm, (congrArg Prod.snd e39).symm⟩, hB⟩ dX7_command_180
      · refine lv_aload_n hx hb dX7_command_146 rfl (lv_at hl 4 rfl) ?_
        refine b_get (D := D) (E := E) (L := LRR) (o := o) (M := M) (v := .ref (o + 3)) (C := RX7) (T := TX7) (N := 13) hx hb hts hinX7 hown hK.1 hB 0 lay_m0 rfl 4 (by decide) (hts (.fieldLink RX7 16 "RiverMeetingModel" "trial" "[I") (List.mem_of_getElem? (i := 1) rfl)) (fun _ h9 => h9) rfl dX7_command_147 ?_
        refine b_pI (b_runS (As := [.ref (o + 3)]) (rest := []) ⟨hx, hb, hml, hown, hts⟩ (c_X7_isUnderWay l D E o M 3 lay_m3) (va_cwS 1 hts gX7_command_X7_isUnderWay rfl rfl rfl (by decide +kernel) ⟨Nat.le_of_ble_eq_true rfl, Nat.le_of_ble_eq_true rfl⟩) hK hB rfl hl rfl (Nat.le_of_ble_eq_true rfl) dX7_command_150 ⟨Nat.zero_le _, Nat.zero_le _⟩) hS (fun r40 hr40 locs hS => ?_)
        refine lv_if_eq (tgt := 179) hx hb dX7_command_153 (by decide) (fun c41 => ?_) (fun c41 => ?_)
        · refine lv_iconst (v := 0) hx hb dX7_command_179 (by decide) ?_
          have e42 := p_X7_command_e42 M x1 x2 x11 hx11.symm x12 hx12.symm x13 hx13.symm x14 hx14.symm c15 c23 c34 c35 r37 hr37.symm c38 r40 hr40.symm c41
          exact b_zret hx hb hr rfl hlocks hS ⟨_, rfl, _, ⟨(congrArg Prod.fst e42).symm, (congrArg Prod.snd e42).symm⟩, hB⟩ dX7_command_180
        · refine lv_aload_n hx hb dX7_command_156 rfl (lv_at hl 4 rfl) ?_
          refine lv_aload_n hx hb dX7_command_157 rfl (lv_at hl 4 rfl) ?_
          refine b_get (D := D) (E := E) (L := LRR) (o := o) (M := M) (v := .ref (o + 3)) (C := RX7) (T := TX7) (N := 13) hx hb hts hinX7 hown hK.1 hB 0 lay_m0 rfl 4 (by decide) (hts (.fieldLink RX7 16 "RiverMeetingModel" "trial" "[I") (List.mem_of_getElem? (i := 1) rfl)) (fun _ h9 => h9) rfl dX7_command_158 ?_
          refine lv_bipush (v := 8) hx hb dX7_command_161 (by decide) ?_
          refine lv_iload hx hb dX7_command_163 (lv_at hl 1 rfl) ?_
          refine lv_imul hx hb dX7_command_165 ?_
          refine lv_iload hx hb dX7_command_166 (lv_at hl 2 rfl) ?_
          refine lv_iadd hx hb dX7_command_168 ?_
          refine b_mI (b_runV (As := [.ref (o + 3), .int (((8 : Int32) * x13) + x12)]) (rest := []) ⟨hx, hb, hml, hown, hts⟩ (c_X7_damOn l D E o M 3 (((8 : Int32) * x13) + x12) lay_m3 (cell64 (isCell_in (hr37 ▸ c38)).1 (isCell_in (hr37 ▸ c38)).2) (gR_wf hg) (by decide) (gR_cell hg)) (cwV 2 hts gX7_command_X7_damOn rfl rfl rfl (by decide +kernel) ⟨Nat.le_of_ble_eq_true rfl, Nat.le_of_ble_eq_true rfl⟩) hK (bk_recv hK.1 hB lay_m0 rfl) hB rfl hl rfl (Nat.le_of_ble_eq_true rfl) dX7_command_169 ⟨Nat.zero_le _, Nat.zero_le _⟩) hS (fun q h => h) (fun r44 M43 hM43 H locs hB _ hS => ?_)
          obtain ⟨hr44, hM43⟩ := hM43
          refine lv_if_ne (tgt := 179) hx hb dX7_command_172 (by decide) (fun c45 => ?_) (fun c45 => ?_)
          · refine lv_iconst (v := 0) hx hb dX7_command_179 (by decide) ?_
            have e46 := p_X7_command_e46 M x1 x2 x11 hx11.symm x12 hx12.symm x13 hx13.symm x14 hx14.symm c15 c23 c34 c35 r37 hr37.symm c38 r40 hr40.symm c41 r44 hr44.symm M43 hM43.symm c45
            exact b_zret hx hb hr rfl hlocks hS ⟨_, rfl, _, ⟨(congrArg Prod.fst e46).symm, (congrArg Prod.snd e46).symm⟩, hB⟩ dX7_command_180
          · refine lv_iconst (v := 1) hx hb dX7_command_175 (by decide) ?_
            refine lv_goto (tgt := 180) hx hb dX7_command_176 (by decide) ?_
            have e47 := p_X7_command_e47 M x1 x2 x11 hx11.symm x12 hx12.symm x13 hx13.symm x14 hx14.symm c15 c23 c34 c35 r37 hr37.symm c38 r40 hr40.symm c41 r44 hr44.symm M43 hM43.symm c45
            exact b_zret hx hb hr rfl hlocks hS ⟨_, rfl, _, ⟨(congrArg Prod.fst e47).symm, (congrArg Prod.snd e47).symm⟩, hB⟩ dX7_command_180
  by_cases c48 : x1 = 4
  · refine b_tabI (tgt := 181) hx hb 4 dX7_command_27 (by rw [c48]; rfl) (by decide) (by decide) rfl (by decide) ?_
    refine lv_iload_n hx hb dX7_command_181 rfl (lv_at hl 6 rfl) ?_
    refine lv_if_ne (tgt := 219) hx hb dX7_command_182 (by decide) (fun c49 => ?_) (fun c49 => ?_)
    · refine lv_iconst (v := 0) hx hb dX7_command_219 (by decide) ?_
      have e50 := p_X7_command_e50 M x1 x2 x11 hx11.symm x12 hx12.symm x13 hx13.symm x14 hx14.symm c15 c23 c34 c48 c49
      exact b_zret hx hb hr rfl hlocks hS ⟨_, rfl, _, ⟨(congrArg Prod.fst e50).symm, (congrArg Prod.snd e50).symm⟩, hB⟩ dX7_command_220
    · refine lv_aload_n hx hb dX7_command_185 rfl (lv_at hl 4 rfl) ?_
      refine b_get (D := D) (E := E) (L := LRR) (o := o) (M := M) (v := .ref (o + 3)) (C := RX7) (T := TX7) (N := 13) hx hb hts hinX7 hown hK.1 hB 0 lay_m0 rfl 4 (by decide) (hts (.fieldLink RX7 16 "RiverMeetingModel" "trial" "[I") (List.mem_of_getElem? (i := 1) rfl)) (fun _ h9 => h9) rfl dX7_command_186 ?_
      refine b_pI (b_runS (As := [.ref (o + 3)]) (rest := []) ⟨hx, hb, hml, hown, hts⟩ (c_X7_isUnderWay l D E o M 3 lay_m3) (va_cwS 1 hts gX7_command_X7_isUnderWay rfl rfl rfl (by decide +kernel) ⟨Nat.le_of_ble_eq_true rfl, Nat.le_of_ble_eq_true rfl⟩) hK hB rfl hl rfl (Nat.le_of_ble_eq_true rfl) dX7_command_189 ⟨Nat.zero_le _, Nat.zero_le _⟩) hS (fun r51 hr51 locs hS => ?_)
      refine lv_if_eq (tgt := 219) hx hb dX7_command_192 (by decide) (fun c52 => ?_) (fun c52 => ?_)
      · refine lv_iconst (v := 0) hx hb dX7_command_219 (by decide) ?_
        have e53 := p_X7_command_e53 M x1 x2 x11 hx11.symm x12 hx12.symm x13 hx13.symm x14 hx14.symm c15 c23 c34 c48 c49 r51 hr51.symm c52
        exact b_zret hx hb hr rfl hlocks hS ⟨_, rfl, _, ⟨(congrArg Prod.fst e53).symm, (congrArg Prod.snd e53).symm⟩, hB⟩ dX7_command_220
      · refine lv_aload_n hx hb dX7_command_195 rfl (lv_at hl 4 rfl) ?_
        refine b_get (D := D) (E := E) (L := LRR) (o := o) (M := M) (v := .ref (o + 3)) (C := RX7) (T := TX7) (N := 13) hx hb hts hinX7 hown hK.1 hB 0 lay_m0 rfl 4 (by decide) (hts (.fieldLink RX7 16 "RiverMeetingModel" "trial" "[I") (List.mem_of_getElem? (i := 1) rfl)) (fun _ h9 => h9) rfl dX7_command_196 ?_
        refine b_pI (b_runS (As := [.ref (o + 3)]) (rest := []) ⟨hx, hb, hml, hown, hts⟩ (c_X7_canStep l D E o M 3 lay_m3 (gR_wf hg)) (va_cwS 1 hts gX7_command_X7_canStep rfl rfl rfl (by decide +kernel) ⟨Nat.le_of_ble_eq_true rfl, Nat.le_of_ble_eq_true rfl⟩) hK hB rfl hl rfl (Nat.le_of_ble_eq_true rfl) dX7_command_199 ⟨Nat.zero_le _, Nat.zero_le _⟩) hS (fun r54 hr54 locs hS => ?_)
        refine lv_if_ne (tgt := 219) hx hb dX7_command_202 (by decide) (fun c55 => ?_) (fun c55 => ?_)
        · refine lv_iconst (v := 0) hx hb dX7_command_219 (by decide) ?_
          have e56 := p_X7_command_e56 M x1 x2 x11 hx11.symm x12 hx12.symm x13 hx13.symm x14 hx14.symm c15 c23 c34 c48 c49 r51 hr51.symm c52 r54 hr54.symm c55
          exact b_zret hx hb hr rfl hlocks hS ⟨_, rfl, _, ⟨(congrArg Prod.fst e56).symm, (congrArg Prod.snd e56).symm⟩, hB⟩ dX7_command_220
        · refine lv_aload_n hx hb dX7_command_205 rfl (lv_at hl 4 rfl) ?_
          refine b_get (D := D) (E := E) (L := LRR) (o := o) (M := M) (v := .ref (o + 3)) (C := RX7) (T := TX7) (N := 13) hx hb hts hinX7 hown hK.1 hB 0 lay_m0 rfl 4 (by decide) (hts (.fieldLink RX7 16 "RiverMeetingModel" "trial" "[I") (List.mem_of_getElem? (i := 1) rfl)) (fun _ h9 => h9) rfl dX7_command_206 ?_
          refine b_mI (b_runS (As := [.ref (o + 3)]) (rest := []) ⟨hx, hb, hml, hown, hts⟩ (c_X7_floodOn l D E o M 3 lay_m3 (gR_wf hg)) (va_cwS 1 hts gX7_command_X7_floodOn rfl rfl rfl (by decide +kernel) ⟨Nat.le_of_ble_eq_true rfl, Nat.le_of_ble_eq_true rfl⟩) hK hB rfl hl rfl (Nat.le_of_ble_eq_true rfl) dX7_command_209 ⟨Nat.zero_le _, Nat.zero_le _⟩) hS (fun q h => h) (fun r58 M57 hM57 H locs hB _ hS => ?_)
          obtain ⟨hr58, hM57⟩ := hM57
          refine lv_if_lt (tgt := 219) hx hb dX7_command_212 (by decide) (fun c59 => ?_) (fun c59 => ?_)
          · refine lv_iconst (v := 0) hx hb dX7_command_219 (by decide) ?_
            have e60 := p_X7_command_e60 M x1 x2 x11 hx11.symm x12 hx12.symm x13 hx13.symm x14 hx14.symm c15 c23 c34 c48 c49 r51 hr51.symm c52 r54 hr54.symm c55 r58 hr58.symm M57 hM57.symm c59
            exact b_zret hx hb hr rfl hlocks hS ⟨_, rfl, _, ⟨(congrArg Prod.fst e60).symm, (congrArg Prod.snd e60).symm⟩, hB⟩ dX7_command_220
          · refine lv_iconst (v := 1) hx hb dX7_command_215 (by decide) ?_
            refine lv_goto (tgt := 220) hx hb dX7_command_216 (by decide) ?_
            have e61 := p_X7_command_e61 M x1 x2 x11 hx11.symm x12 hx12.symm x13 hx13.symm x14 hx14.symm c15 c23 c34 c48 c49 r51 hr51.symm c52 r54 hr54.symm c55 r58 hr58.symm M57 hM57.symm c59
            exact b_zret hx hb hr rfl hlocks hS ⟨_, rfl, _, ⟨(congrArg Prod.fst e61).symm, (congrArg Prod.snd e61).symm⟩, hB⟩ dX7_command_220
  by_cases c62 : x1 = 5
  · refine b_tabI (tgt := 221) hx hb 5 dX7_command_27 (by rw [c62]; rfl) (by decide) (by decide) rfl (by decide) ?_
    refine lv_iload_n hx hb dX7_command_221 rfl (lv_at hl 3 rfl) ?_
    refine lv_iload hx hb dX7_command_222 (lv_at hl 0 rfl) ?_
    refine b_pI (b_runS (As := [.int x11, .int x14]) (rest := []) ⟨hx, hb, hml, hown, hts⟩ (c_X7_isSetting l D E x11 x14) (va_cwS 2 hts gX7_command_X7_isSetting rfl rfl rfl (by decide +kernel) ⟨Nat.le_of_ble_eq_true rfl, Nat.le_of_ble_eq_true rfl⟩) hK trivial rfl hl rfl (Nat.le_of_ble_eq_true rfl) dX7_command_224 ⟨Nat.zero_le _, Nat.zero_le _⟩) hS (fun r63 hr63 locs hS => ?_)
    refine lv_if_eq (tgt := 247) hx hb dX7_command_227 (by decide) (fun c64 => ?_) (fun c64 => ?_)
    · refine lv_iconst (v := 0) hx hb dX7_command_247 (by decide) ?_
      have e65 := p_X7_command_e65 M x1 x2 x11 hx11.symm x12 hx12.symm x13 hx13.symm x14 hx14.symm c15 c23 c34 c48 c62 r63 hr63.symm c64
      exact b_zret hx hb hr rfl hlocks hS ⟨_, rfl, _, ⟨(congrArg Prod.fst e65).symm, (congrArg Prod.snd e65).symm⟩, hB⟩ dX7_command_248
    · refine lv_aload_n hx hb dX7_command_230 rfl (lv_at hl 4 rfl) ?_
      refine b_get (D := D) (E := E) (L := LRR) (o := o) (M := M) (v := .ref (o + 3)) (C := RX7) (T := TX7) (N := 13) hx hb hts hinX7 hown hK.1 hB 0 lay_m0 rfl 4 (by decide) (hts (.fieldLink RX7 16 "RiverMeetingModel" "trial" "[I") (List.mem_of_getElem? (i := 1) rfl)) (fun _ h9 => h9) rfl dX7_command_231 ?_
      refine lv_iload_n hx hb dX7_command_234 rfl (lv_at hl 3 rfl) ?_
      refine lv_iload hx hb dX7_command_235 (lv_at hl 0 rfl) ?_
      refine b_mI (b_runS (As := [.ref (o + 3), .int x11, .int x14]) (rest := []) ⟨hx, hb, hml, hown, hts⟩ (c_X7_change l D E o M 3 x11 x14 lay_m3 (isSet_pb (by rw [← hr63]; exact c64))) (va_cwS 3 hts gX7_command_X7_change rfl rfl rfl (by decide +kernel) ⟨Nat.le_of_ble_eq_true rfl, Nat.le_of_ble_eq_true rfl⟩) hK hB rfl hl rfl (Nat.le_of_ble_eq_true rfl) dX7_command_237 ⟨Nat.zero_le _, Nat.zero_le _⟩) hS (fun q h => h) (fun r67 M66 hM66 H locs hB _ hS => ?_)
      obtain ⟨hr67, hM66⟩ := hM66
      refine lv_if_lt (tgt := 247) hx hb dX7_command_240 (by decide) (fun c68 => ?_) (fun c68 => ?_)
      · refine lv_iconst (v := 0) hx hb dX7_command_247 (by decide) ?_
        have e69 := p_X7_command_e69 M x1 x2 x11 hx11.symm x12 hx12.symm x13 hx13.symm x14 hx14.symm c15 c23 c34 c48 c62 r63 hr63.symm c64 r67 hr67.symm M66 hM66.symm c68
        exact b_zret hx hb hr rfl hlocks hS ⟨_, rfl, _, ⟨(congrArg Prod.fst e69).symm, (congrArg Prod.snd e69).symm⟩, hB⟩ dX7_command_248
      · refine lv_iconst (v := 1) hx hb dX7_command_243 (by decide) ?_
        refine lv_goto (tgt := 248) hx hb dX7_command_244 (by decide) ?_
        have e70 := p_X7_command_e70 M x1 x2 x11 hx11.symm x12 hx12.symm x13 hx13.symm x14 hx14.symm c15 c23 c34 c48 c62 r63 hr63.symm c64 r67 hr67.symm M66 hM66.symm c68
        exact b_zret hx hb hr rfl hlocks hS ⟨_, rfl, _, ⟨(congrArg Prod.fst e70).symm, (congrArg Prod.snd e70).symm⟩, hB⟩ dX7_command_248
  by_cases c71 : x1 = 6
  · refine b_tabI (tgt := 249) hx hb 6 dX7_command_27 (by rw [c71]; rfl) (by decide) (by decide) rfl (by decide) ?_
    refine lv_iload_n hx hb dX7_command_249 rfl (lv_at hl 6 rfl) ?_
    refine lv_bipush (v := 10) hx hb dX7_command_250 (by decide) ?_
    refine lv_icmp_ge (tgt := 268) hx hb dX7_command_252 (by decide) (fun c72 => ?_) (fun c72 => ?_)
    · refine lv_iconst (v := 0) hx hb dX7_command_268 (by decide) ?_
      have e73 := p_X7_command_e73 M x1 x2 x11 hx11.symm x12 hx12.symm x13 hx13.symm x14 hx14.symm c15 c23 c34 c48 c62 c71 c72
      exact b_zret hx hb hr rfl hlocks hS ⟨_, rfl, _, ⟨(congrArg Prod.fst e73).symm, (congrArg Prod.snd e73).symm⟩, hB⟩ dX7_command_269
    · refine lv_aload_n hx hb dX7_command_255 rfl (lv_at hl 4 rfl) ?_
      refine lv_iload hx hb dX7_command_256 (lv_at hl 1 rfl) ?_
      refine b_mI (b_runV (As := [.int x13]) (rest := []) ⟨hx, hb, hml, hown, hts⟩ (c_X7_stepsBest l D E o M x13 hg) (cwV 1 hts gX7_command_X7_stepsBest rfl rfl rfl (by decide +kernel) ⟨Nat.le_of_ble_eq_true rfl, Nat.le_of_ble_eq_true rfl⟩) hK (bk_recv hK.1 hB lay_m0 rfl) hB rfl hl rfl (Nat.le_of_ble_eq_true rfl) dX7_command_258 ⟨Nat.zero_le _, Nat.zero_le _⟩) hS (fun q h => h) (fun r75 M74 hM74 H locs hB _ hS => ?_)
      obtain ⟨hr75, hM74⟩ := hM74
      refine lv_if_eq (tgt := 268) hx hb dX7_command_261 (by decide) (fun c76 => ?_) (fun c76 => ?_)
      · refine lv_iconst (v := 0) hx hb dX7_command_268 (by decide) ?_
        have e77 := p_X7_command_e77 M x1 x2 x11 hx11.symm x12 hx12.symm x13 hx13.symm x14 hx14.symm c15 c23 c34 c48 c62 c71 c72 r75 hr75.symm M74 hM74.symm c76
        exact b_zret hx hb hr rfl hlocks hS ⟨_, rfl, _, ⟨(congrArg Prod.fst e77).symm, (congrArg Prod.snd e77).symm⟩, hB⟩ dX7_command_269
      · refine lv_iconst (v := 1) hx hb dX7_command_264 (by decide) ?_
        refine lv_goto (tgt := 269) hx hb dX7_command_265 (by decide) ?_
        have e78 := p_X7_command_e78 M x1 x2 x11 hx11.symm x12 hx12.symm x13 hx13.symm x14 hx14.symm c15 c23 c34 c48 c62 c71 c72 r75 hr75.symm M74 hM74.symm c76
        exact b_zret hx hb hr rfl hlocks hS ⟨_, rfl, _, ⟨(congrArg Prod.fst e78).symm, (congrArg Prod.snd e78).symm⟩, hB⟩ dX7_command_269
  by_cases c79 : x1 = 7
  · refine b_tabI (tgt := 270) hx hb 7 dX7_command_27 (by rw [c79]; rfl) (by decide) (by decide) rfl (by decide) ?_
    refine lv_iload_n hx hb dX7_command_270 rfl (lv_at hl 3 rfl) ?_
    refine lv_iconst (v := 2) hx hb dX7_command_271 (by decide) ?_
    refine lv_icmp_ge (tgt := 293) hx hb dX7_command_272 (by decide) (fun c80 => ?_) (fun c80 => ?_)
    · refine lv_iconst (v := 0) hx hb dX7_command_293 (by decide) ?_
      have e81 := p_X7_command_e81 M x1 x2 x11 hx11.symm x12 hx12.symm x13 hx13.symm x14 hx14.symm c15 c23 c34 c48 c62 c71 c79 c80
      exact b_zret hx hb hr rfl hlocks hS ⟨_, rfl, _, ⟨(congrArg Prod.fst e81).symm, (congrArg Prod.snd e81).symm⟩, hB⟩ dX7_command_294
    · refine lv_aload_n hx hb dX7_command_275 rfl (lv_at hl 4 rfl) ?_
      refine b_get (D := D) (E := E) (L := LRR) (o := o) (M := M) (v := .ref (o + 3)) (C := RX7) (T := TX7) (N := 13) hx hb hts hinX7 hown hK.1 hB 0 lay_m0 rfl 4 (by decide) (hts (.fieldLink RX7 16 "RiverMeetingModel" "trial" "[I") (List.mem_of_getElem? (i := 1) rfl)) (fun _ h9 => h9) rfl dX7_command_276 ?_
      refine lv_iload_n hx hb dX7_command_279 rfl (lv_at hl 3 rfl) ?_
      refine lv_iconst (v := 0) hx hb dX7_command_280 (by decide) ?_
      refine b_pI (b_runS (As := [.ref (o + 3), .int x11, .int 0]) (rest := []) ⟨hx, hb, hml, hown, hts⟩ (c_X7_of l D E o M 3 x11 0 lay_m3 (pb_lt2 (by rw [hx11]; exact (in_100 h3)) c80) (vp_in_nI (n := 0) (by decide) (by decide))) (va_cwS 3 hts gX7_command_X7_of rfl rfl rfl (by decide +kernel) ⟨Nat.le_of_ble_eq_true rfl, Nat.le_of_ble_eq_true rfl⟩) hK hB rfl hl rfl (Nat.le_of_ble_eq_true rfl) dX7_command_281 ⟨Nat.zero_le _, Nat.zero_le _⟩) hS (fun r82 hr82 locs hS => ?_)
      refine lv_iload hx hb dX7_command_284 (lv_at hl 0 rfl) ?_
      refine lv_icmp_gt (tgt := 293) hx hb dX7_command_286 (by decide) (fun c83 => ?_) (fun c83 => ?_)
      · refine lv_iconst (v := 0) hx hb dX7_command_293 (by decide) ?_
        have e84 := p_X7_command_e84 M x1 x2 x11 hx11.symm x12 hx12.symm x13 hx13.symm x14 hx14.symm c15 c23 c34 c48 c62 c71 c79 c80 r82 hr82.symm c83
        exact b_zret hx hb hr rfl hlocks hS ⟨_, rfl, _, ⟨(congrArg Prod.fst e84).symm, (congrArg Prod.snd e84).symm⟩, hB⟩ dX7_command_294
      · refine lv_iconst (v := 1) hx hb dX7_command_289 (by decide) ?_
        refine lv_goto (tgt := 294) hx hb dX7_command_290 (by decide) ?_
        have e85 := p_X7_command_e85 M x1 x2 x11 hx11.symm x12 hx12.symm x13 hx13.symm x14 hx14.symm c15 c23 c34 c48 c62 c71 c79 c80 r82 hr82.symm c83
        exact b_zret hx hb hr rfl hlocks hS ⟨_, rfl, _, ⟨(congrArg Prod.fst e85).symm, (congrArg Prod.snd e85).symm⟩, hB⟩ dX7_command_294
  by_cases c86 : x1 = 8
  · refine b_tabI (tgt := 295) hx hb 8 dX7_command_27 (by rw [c86]; rfl) (by decide) (by decide) rfl (by decide) ?_
    refine lv_iload_n hx hb dX7_command_295 rfl (lv_at hl 6 rfl) ?_
    refine lv_bipush (v := 10) hx hb dX7_command_296 (by decide) ?_
    refine lv_icmp_ge (tgt := 316) hx hb dX7_command_298 (by decide) (fun c87 => ?_) (fun c87 => ?_)
    · refine lv_iconst (v := 0) hx hb dX7_command_316 (by decide) ?_
      have e88 := p_X7_command_e88 M x1 x2 x11 hx11.symm x12 hx12.symm x13 hx13.symm x14 hx14.symm c15 c23 c34 c48 c62 c71 c79 c86 c87
      exact b_zret hx hb hr rfl hlocks hS ⟨_, rfl, _, ⟨(congrArg Prod.fst e88).symm, (congrArg Prod.snd e88).symm⟩, hB⟩ dX7_command_317
    · refine lv_aload_n hx hb dX7_command_301 rfl (lv_at hl 4 rfl) ?_
      refine b_get (D := D) (E := E) (L := LRR) (o := o) (M := M) (v := .ref (o + 3)) (C := RX7) (T := TX7) (N := 13) hx hb hts hinX7 hown hK.1 hB 0 lay_m0 rfl 4 (by decide) (hts (.fieldLink RX7 16 "RiverMeetingModel" "trial" "[I") (List.mem_of_getElem? (i := 1) rfl)) (fun _ h9 => h9) rfl dX7_command_302 ?_
      refine lv_iconst (v := 1) hx hb dX7_command_305 (by decide) ?_
      refine b_iald hx hb hK.1 hB 3 lay_m3 (vp_in_nI (n := 1) (by decide) (by decide)) dX7_command_306 ?_
      refine lv_const (y := M 3 1) (by rfl) ?_
      refine lv_iload hx hb dX7_command_307 (lv_at hl 1 rfl) ?_
      refine lv_icmp_ne (tgt := 316) hx hb dX7_command_309 (by decide) (fun c89 => ?_) (fun c89 => ?_)
      · refine lv_iconst (v := 0) hx hb dX7_command_316 (by decide) ?_
        have e90 := p_X7_command_e90 M x1 x2 x11 hx11.symm x12 hx12.symm x13 hx13.symm x14 hx14.symm c15 c23 c34 c48 c62 c71 c79 c86 c87 c89
        exact b_zret hx hb hr rfl hlocks hS ⟨_, rfl, _, ⟨(congrArg Prod.fst e90).symm, (congrArg Prod.snd e90).symm⟩, hB⟩ dX7_command_317
      · refine lv_iconst (v := 1) hx hb dX7_command_312 (by decide) ?_
        refine lv_goto (tgt := 317) hx hb dX7_command_313 (by decide) ?_
        have e91 := p_X7_command_e91 M x1 x2 x11 hx11.symm x12 hx12.symm x13 hx13.symm x14 hx14.symm c15 c23 c34 c48 c62 c71 c79 c86 c87 c89
        exact b_zret hx hb hr rfl hlocks hS ⟨_, rfl, _, ⟨(congrArg Prod.fst e91).symm, (congrArg Prod.snd e91).symm⟩, hB⟩ dX7_command_317
  by_cases c92 : x1 = 9
  · refine b_tabI (tgt := 318) hx hb 9 dX7_command_27 (by rw [c92]; rfl) (by decide) (by decide) rfl (by decide) ?_
    refine lv_iload_n hx hb dX7_command_318 rfl (lv_at hl 3 rfl) ?_
    refine lv_iconst (v := 2) hx hb dX7_command_319 (by decide) ?_
    refine lv_icmp_ge (tgt := 341) hx hb dX7_command_320 (by decide) (fun c93 => ?_) (fun c93 => ?_)
    · refine lv_iconst (v := 0) hx hb dX7_command_341 (by decide) ?_
      have e94 := p_X7_command_e94 M x1 x2 x11 hx11.symm x12 hx12.symm x13 hx13.symm x14 hx14.symm c15 c23 c34 c48 c62 c71 c79 c86 c92 c93
      exact b_zret hx hb hr rfl hlocks hS ⟨_, rfl, _, ⟨(congrArg Prod.fst e94).symm, (congrArg Prod.snd e94).symm⟩, hB⟩ dX7_command_342
    · refine lv_aload_n hx hb dX7_command_323 rfl (lv_at hl 4 rfl) ?_
      refine b_get (D := D) (E := E) (L := LRR) (o := o) (M := M) (v := .ref (o + 3)) (C := RX7) (T := TX7) (N := 13) hx hb hts hinX7 hown hK.1 hB 0 lay_m0 rfl 4 (by decide) (hts (.fieldLink RX7 16 "RiverMeetingModel" "trial" "[I") (List.mem_of_getElem? (i := 1) rfl)) (fun _ h9 => h9) rfl dX7_command_324 ?_
      refine lv_iload_n hx hb dX7_command_327 rfl (lv_at hl 3 rfl) ?_
      refine lv_iconst (v := 4) hx hb dX7_command_328 (by decide) ?_
      refine b_pI (b_runS (As := [.ref (o + 3), .int x11, .int 4]) (rest := []) ⟨hx, hb, hml, hown, hts⟩ (c_X7_of l D E o M 3 x11 4 lay_m3 (pb_lt2 (by rw [hx11]; exact (in_100 h3)) c93) (vp_in_nI (n := 4) (by decide) (by decide))) (va_cwS 3 hts gX7_command_X7_of rfl rfl rfl (by decide +kernel) ⟨Nat.le_of_ble_eq_true rfl, Nat.le_of_ble_eq_true rfl⟩) hK hB rfl hl rfl (Nat.le_of_ble_eq_true rfl) dX7_command_329 ⟨Nat.zero_le _, Nat.zero_le _⟩) hS (fun r95 hr95 locs hS => ?_)
      refine lv_iload hx hb dX7_command_332 (lv_at hl 0 rfl) ?_
      refine lv_icmp_lt (tgt := 341) hx hb dX7_command_334 (by decide) (fun c96 => ?_) (fun c96 => ?_)
      · refine lv_iconst (v := 0) hx hb dX7_command_341 (by decide) ?_
        have e97 := p_X7_command_e97 M x1 x2 x11 hx11.symm x12 hx12.symm x13 hx13.symm x14 hx14.symm c15 c23 c34 c48 c62 c71 c79 c86 c92 c93 r95 hr95.symm c96
        exact b_zret hx hb hr rfl hlocks hS ⟨_, rfl, _, ⟨(congrArg Prod.fst e97).symm, (congrArg Prod.snd e97).symm⟩, hB⟩ dX7_command_342
      · refine lv_iconst (v := 1) hx hb dX7_command_337 (by decide) ?_
        refine lv_goto (tgt := 342) hx hb dX7_command_338 (by decide) ?_
        have e98 := p_X7_command_e98 M x1 x2 x11 hx11.symm x12 hx12.symm x13 hx13.symm x14 hx14.symm c15 c23 c34 c48 c62 c71 c79 c86 c92 c93 r95 hr95.symm c96
        exact b_zret hx hb hr rfl hlocks hS ⟨_, rfl, _, ⟨(congrArg Prod.fst e98).symm, (congrArg Prod.snd e98).symm⟩, hB⟩ dX7_command_342
  refine b_tabD (tgt := 343) hx hb [1, 2, 3, 4, 5, 6, 7, 8, 9] dX7_command_27 (by decide) (by decide) (List.forall_mem_cons.mpr ⟨lv_neT c15 (a := 1) rfl, (List.forall_mem_cons.mpr ⟨lv_neT c23 (a := 2) rfl, (List.forall_mem_cons.mpr ⟨lv_neT c34 (a := 3) rfl, (List.forall_mem_cons.mpr ⟨lv_neT c48 (a := 4) rfl, (List.forall_mem_cons.mpr ⟨lv_neT c62 (a := 5) rfl, (List.forall_mem_cons.mpr ⟨lv_neT c71 (a := 6) rfl, (List.forall_mem_cons.mpr ⟨lv_neT c79 (a := 7) rfl, (List.forall_mem_cons.mpr ⟨lv_neT c86 (a := 8) rfl, (List.forall_mem_cons.mpr ⟨lv_neT c92 (a := 9) rfl, (fun v h => absurd h List.not_mem_nil)⟩)⟩)⟩)⟩)⟩)⟩)⟩)⟩)⟩) (by decide) ?_
  refine lv_iconst (v := 0) hx hb dX7_command_343 (by decide) ?_
  have e99 := p_X7_command_e99 M x1 x2 x11 hx11.symm x12 hx12.symm x13 hx13.symm x14 hx14.symm c15 c23 c34 c48 c62 c71 c79 c86 c92
  exact b_zret hx hb hr rfl hlocks hS ⟨_, rfl, _, ⟨(congrArg Prod.fst e99).symm, (congrArg Prod.snd e99).symm⟩, hB⟩ dX7_command_344
