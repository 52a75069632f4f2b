theorem gR_of {M N : bM} {k : Nat} (e : N k = M k) (h : gR (M k)) : gR (N k) := by
  rw [e]
  exact h
abbrev txR (M : bM) : Prop := ∃ s z : Nat, M 0 11 = nI s ∧ M 0 2 = nI z ∧ s ≤ z ∧ z ≤ 120
theorem tx_in {M : bM} (h : txR M) (c : ¬ M 0 2 ≤ M 0 11) : vp_in (M 0 11) 120 := by
  obtain ⟨s, z, e1, e2, h1, h2⟩ := h
  rw [e1, e2] at c
  rw [e1]
  refine vp_in_nI ?_ (by decide)
  rcases Nat.lt_or_ge s z with q | q
  · omega
  · exact absurd (nI_le q (by omega)) c
theorem tx_up {M : bM} (h : txR M) (c : ¬ M 0 2 ≤ M 0 11) : txR (up2 M 0 11 (M 0 11 + 1)) := by
  obtain ⟨s, z, e1, e2, h1, h2⟩ := h
  have h3 : s < z := by
    rw [e1, e2] at c
    rcases Nat.lt_or_ge s z with q | q
    · exact q
    · exact absurd (nI_le q (by omega)) c
  refine ⟨s + 1, z, ?_, ?_, by omega, h2⟩
  · rw [up2_at, if_pos rfl, e1]; exact nI_add s 1
  · rw [up2_at, if_neg (by decide)]; exact e2
theorem rf_col {M : bM} {v : Int32} {a j : Nat} (h : j ≠ 0) : (f_X7_refused M v).2 a j = M a j := by
  rw [u_f_X7_refused]
  dsimp only
  split
  · show (if a = 0 ∧ j = 0 then v else M a j) = M a j
    rw [if_neg (fun q => h q.2)]
  · show (if a = 0 ∧ j = 0 then v else M a j) = M a j
    rw [if_neg (fun q => h q.2)]
theorem app_in {x : Int32} (h : vp_in x 121) (c : ¬ x = 120) : vp_in x 120 := by
  obtain ⟨i, hi, rfl⟩ := vp_in_of h (by decide)
  refine vp_in_nI ?_ (by decide)
  rcases Nat.lt_or_ge i 120 with q | q
  · exact q
  · exact absurd (by rw [show i = 120 by omega]; rfl) c
theorem uw_of {M : bM} {k : Nat} (h : ¬ f_X7_isUnderWay M k = 0) : M k 1 = 1 := by
  rw [u_f_X7_isUnderWay] at h
  rcases Classical.em (M k 1 = 1) with q | q
  · exact q
  · rw [if_neg q] at h; exact absurd rfl h
def f_X7_append (M : bM) (x1 : Int32) : Int32 × bM := (let r11 : Int32 := f_X7_in x1.toInt64 0 255; (if r11 = 0 then (let r25 : Int32 := (f_X7_refused M 1).1; (let M24 : bM := (f_X7_refused M 1).2; (0, M24))) else (if (M 0 2) = 120 then (let r21 : Int32 := (f_X7_refused M 2).1; (let M20 : bM := (f_X7_refused M 2).2; (0, M20))) else (let r15 : Int32 := (f_X7_refused M 0).1; (let M14 : bM := (f_X7_refused M 0).2; (let M17 : bM := up2 M14 1 (M14 0 2).toNatClampNeg x1; (let M18 : bM := up2 M17 0 2 ((M17 0 2) + 1); ((M18 0 2), M18))))))))
theorem u_f_X7_append (M : bM) (x1 : Int32) : f_X7_append M x1 = (let r11 : Int32 := f_X7_in x1.toInt64 0 255; (if r11 = 0 then (let r25 : Int32 := (f_X7_refused M 1).1; (let M24 : bM := (f_X7_refused M 1).2; (0, M24))) else (if (M 0 2) = 120 then (let r21 : Int32 := (f_X7_refused M 2).1; (let M20 : bM := (f_X7_refused M 2).2; (0, M20))) else (let r15 : Int32 := (f_X7_refused M 0).1; (let M14 : bM := (f_X7_refused M 0).2; (let M17 : bM := up2 M14 1 (M14 0 2).toNatClampNeg x1; (let M18 : bM := up2 M17 0 2 ((M17 0 2) + 1); ((M18 0 2), M18)))))))) := rfl
theorem p_X7_append_e19 (M : bM) (x1 : Int32) (r11 : Int32) (hr11 : f_X7_in x1.toInt64 0 255 = r11) (c12 : ¬ r11 = 0) (c13 : ¬ (M 0 2) = 120) (r15 : Int32) (hr15 : (f_X7_refused M 0).1 = r15) (M14 : bM) (hM14 : (f_X7_refused M 0).2 = M14) (M17 : bM) (hM17 : up2 M14 1 (M14 0 2).toNatClampNeg x1 = M17) (M18 : bM) (hM18 : up2 M17 0 2 ((M17 0 2) + 1) = M18) : f_X7_append M x1 = ((M18 0 2), M18) := by subst hM18 hM17 hM14 hr15 hr11; exact Eq.trans (u_f_X7_append M x1) (Eq.trans (if_neg c12) (if_neg c13))
theorem p_X7_append_e23 (M : bM) (x1 : Int32) (r11 : Int32) (hr11 : f_X7_in x1.toInt64 0 255 = r11) (c12 : ¬ r11 = 0) (c13 : (M 0 2) = 120) (r21 : Int32) (hr21 : (f_X7_refused M 2).1 = r21) (M20 : bM) (hM20 : (f_X7_refused M 2).2 = M20) : f_X7_append M x1 = (0, M20) := by subst hM20 hr21 hr11; exact Eq.trans (u_f_X7_append M x1) (Eq.trans (if_neg c12) (if_pos c13))
theorem p_X7_append_e27 (M : bM) (x1 : Int32) (r11 : Int32) (hr11 : f_X7_in x1.toInt64 0 255 = r11) (c12 : r11 = 0) (r25 : Int32) (hr25 : (f_X7_refused M 1).1 = r25) (M24 : bM) (hM24 : (f_X7_refused M 1).2 = M24) : f_X7_append M x1 = (0, M24) := by subst hM24 hr25 hr11; exact Eq.trans (u_f_X7_append M x1) (if_pos c12)
theorem fr_X7_append (M : bM) (x1 : Int32) (k : Nat) (hk : k ≠ 0) (hk1 : k ≠ 1) : (f_X7_append M x1).2 k = M k := by
  obtain ⟨r11, hr11⟩ : ∃ y : Int32, y = f_X7_in x1.toInt64 0 255 := ⟨_, rfl⟩
  by_cases c12 : r11 = 0
  · obtain ⟨r25, hr25⟩ : ∃ y : Int32, y = (f_X7_refused M 1).1 := ⟨_, rfl⟩
    obtain ⟨M24, hM24⟩ : ∃ y : bM, y = (f_X7_refused M 1).2 := ⟨_, rfl⟩
    rw [p_X7_append_e27 M x1 r11 hr11.symm c12 r25 hr25.symm M24 hM24.symm]
    try dsimp only
    rw [hM24, fr_X7_refused M 1 k (by omega)]
  · by_cases c13 : (M 0 2) = 120
    · obtain ⟨r21, hr21⟩ : ∃ y : Int32, y = (f_X7_refused M 2).1 := ⟨_, rfl⟩
      obtain ⟨M20, hM20⟩ : ∃ y : bM, y = (f_X7_refused M 2).2 := ⟨_, rfl⟩
      rw [p_X7_append_e23 M x1 r11 hr11.symm c12 c13 r21 hr21.symm M20 hM20.symm]
      try dsimp only
      rw [hM20, fr_X7_refused M 2 k (by omega)]
    · obtain ⟨r15, hr15⟩ : ∃ y : Int32, y = (f_X7_refused M 0).1 := ⟨_, rfl⟩
      obtain ⟨M14, hM14⟩ : ∃ y : bM, y = (f_X7_refused M 0).2 := ⟨_, rfl⟩
      obtain ⟨M17, hM17⟩ : ∃ y : bM, y = up2 M14 1 (M14 0 2).toNatClampNeg x1 := ⟨_, rfl⟩
      obtain ⟨M18, hM18⟩ : ∃ y : bM, y = up2 M17 0 2 ((M17 0 2) + 1) := ⟨_, rfl⟩
      rw [p_X7_append_e19 M x1 r11 hr11.symm c12 c13 r15 hr15.symm M14 hM14.symm M17 hM17.symm M18 hM18.symm]
      try dsimp only
      rw [hM18, up2_row (by omega), hM17, up2_row (by omega), hM14, fr_X7_refused M 0 k (by omega)]
set_option maxHeartbeats 4000000 in
set_option maxRecDepth 100000 in
theorem c_X7_append (l : Launch) (D : va_G) (E : Nat → ClassId) (o : Nat) (M : bM) (x1 : Int32) (hz : vp_in (M 0 2) 121) : Met l yX7_append wsX7_append (rmF 1) (bPc D E [.ref (o + 0), .int x1] (fun H => bk D E LRR o M H)) (bQ (aI fun r H => ∃ M1 : bM, (r = (f_X7_append M x1).1 ∧ M1 = (f_X7_append M x1).2) ∧ bk D E LRR o M1 H) (rB o)) 0 0 (rB o) := by
  refine Met.ofW (cc := cX7_append) (maxL := 2) (ret := (some .int)) (by decide) rfl ?_
  intro p e s m args below meth c s₁ B hml hv
  obtain ⟨rfl, hB, hK⟩ := hv
  have hx := B.exec
  have hb := B.bytes
  have hr := B.returns
  have hts := atoms_spec (ws := wsX7_append) B.pre
  have hown : s.vm.findClass RX7 = some m.cls := findClass_of_methodNamed B.named
  have hlocks := B.notSynchronized
  have hS : bS (rB o) s.heap s.heap [] := bS.rf
  have hl := lv_entry ([.ref (o + 0), .int x1]) (n := 2) (Nat.le_of_ble_eq_true rfl)
  rw [lg_entry_eq]
  generalize (lg_sl ([.ref (o + 0), .int x1]) ++ List.replicate (2 - (lg_sl ([.ref (o + 0), .int x1])).length) Slot.unset).toArray = ls at hl ⊢
  have hl : lv_has ls 2 [(0, .ref (o + 0)), (1, .int x1)] := hl
  have hB : bk D E LRR o M s.heap := hB
  have hinX7 : ∀ w ∈ wsX70, w ∈ wsX7_append := by decide +kernel
  refine lv_aload_n hx hb dX7_append_0 rfl (lv_at hl 0 rfl) ?_
  refine lv_iload_n hx hb dX7_append_1 rfl (lv_at hl 1 rfl) ?_
  refine lv_i2l hx hb dX7_append_2 rfl ?_
  refine lv_lconst (v := 0) hx hb dX7_append_3 (by decide) ?_
  refine lv_ldc2 (v := 255) hx hb hown (hts (.constantLong RX7 132 (255)) (List.mem_of_getElem? (i := 1) rfl)) dX7_append_4 ?_
  refine b_pI (b_runS (As := [.long x1.toInt64, .long 0, .long 255]) (rest := [.ref (o + 0)]) ⟨hx, hb, hml, hown, hts⟩ (c_X7_in l D E x1.toInt64 0 255) (va_cwS 3 hts gX7_append_X7_in rfl rfl rfl (by decide +kernel) ⟨Nat.le_of_ble_eq_true rfl, Nat.le_of_ble_eq_true rfl⟩) hK trivial rfl hl rfl (Nat.le_of_ble_eq_true rfl) dX7_append_7 ⟨Nat.zero_le _, Nat.zero_le _⟩) hS (fun r11 hr11 locs hS => ?_)
  refine lv_if_ne (tgt := 17) hx hb dX7_append_10 (by decide) (fun c12 => ?_) (fun c12 => ?_)
  · refine lv_aload_n hx hb dX7_append_17 rfl (lv_at hl 0 rfl) ?_
    refine b_get (D := D) (E := E) (L := LRR) (o := o) (M := M) (v := .int (M 0 2)) (C := RX7) (T := TX7) (N := 13) hx hb hts hinX7 hown hK.1 hB 0 lay_m0 rfl 2 (by decide) (hts (.fieldLink RX7 134 "RiverMeetingModel" "size" "I") (List.mem_of_getElem? (i := 2) rfl)) (fun _ h9 => h9) rfl dX7_append_18 ?_
    refine lv_bipush (v := 120) hx hb dX7_append_21 (by decide) ?_
    refine lv_icmp_ne (tgt := 30) hx hb dX7_append_23 (by decide) (fun c13 => ?_) (fun c13 => ?_)
    · refine lv_iconst (v := 0) hx hb dX7_append_30 (by decide) ?_
      refine b_mI (b_runV (As := [.int 0]) (rest := []) ⟨hx, hb, hml, hown, hts⟩ (c_X7_refused l D E o M 0) (cwV 1 hts gX7_append_X7_refused rfl rfl rfl (by decide +kernel) ⟨Nat.le_of_ble_eq_true rfl, Nat.le_of_ble_eq_true rfl⟩) hK (bk_recv hK.1 hB lay_m0 rfl) hB rfl hl rfl (Nat.le_of_ble_eq_true rfl) dX7_append_31 ⟨Nat.zero_le _, Nat.zero_le _⟩) hS (fun q h => h) (fun r15 M14 hM14 H locs hB _ hS => ?_)
      obtain ⟨hr15, hM14⟩ := hM14
      have hkr15 : r15 = 0 := by rw [hr15]; rfl
      refine lv_const (y := 0) hkr15 ?_
      refine lv_if_eq (tgt := 39) hx hb dX7_append_34 (by decide) (fun c16 => ?_) (fun c16 => absurd (by decide) c16)
      refine lv_aload_n hx hb dX7_append_39 rfl (lv_at hl 0 rfl) ?_
      refine b_get (D := D) (E := E) (L := LRR) (o := o) (M := M14) (v := .ref (o + 1)) (C := RX7) (T := TX7) (N := 13) hx hb hts hinX7 hown hK.1 hB 0 lay_m0 rfl 1 (by decide) (hts (.fieldLink RX7 7 "RiverMeetingModel" "text" "[I") (List.mem_of_getElem? (i := 3) rfl)) (fun _ h9 => h9) rfl dX7_append_40 ?_
      refine lv_aload_n hx hb dX7_append_43 rfl (lv_at hl 0 rfl) ?_
      refine b_get (D := D) (E := E) (L := LRR) (o := o) (M := M14) (v := .int (M14 0 2)) (C := RX7) (T := TX7) (N := 13) hx hb hts hinX7 hown hK.1 hB 0 lay_m0 rfl 2 (by decide) (hts (.fieldLink RX7 134 "RiverMeetingModel" "size" "I") (List.mem_of_getElem? (i := 2) rfl)) (fun _ h9 => h9) rfl dX7_append_44 ?_
      refine lv_iload_n hx hb dX7_append_47 rfl (lv_at hl 1 rfl) ?_
      refine b_iast hx hb hK.1 hB hS 1 (rB_of lay_m1) lay_m1 (by rw [hM14, rf_col (by decide)]; exact app_in hz c13) dX7_append_48 (fun M17 hM17 H locs hB _ hS => ?_)
      refine lv_aload_n hx hb dX7_append_49 rfl (lv_at hl 0 rfl) ?_
      refine lv_dup hx hb dX7_append_50 rfl ?_
      refine b_get (D := D) (E := E) (L := LRR) (o := o) (M := M17) (v := .int (M17 0 2)) (C := RX7) (T := TX7) (N := 13) hx hb hts hinX7 hown hK.1 hB 0 lay_m0 rfl 2 (by decide) (hts (.fieldLink RX7 134 "RiverMeetingModel" "size" "I") (List.mem_of_getElem? (i := 2) rfl)) (fun _ h9 => h9) rfl dX7_append_51 ?_
      refine lv_iconst (v := 1) hx hb dX7_append_54 (by decide) ?_
      refine lv_iadd hx hb dX7_append_55 ?_
      refine b_put (D := D) (E := E) (L := LRR) (o := o) (M := M17) (v := ((M17 0 2) + 1)) (ty := .int) (C := RX7) (T := TX7) (N := 13) hx hb hts hinX7 tyX7 tyX7_ok nmX7 hown hK.1 hB hS 0 (rB_of lay_m0) lay_m0 rfl 2 (by decide) rfl (hts (.fieldLink RX7 134 "RiverMeetingModel" "size" "I") (List.mem_of_getElem? (i := 2) rfl)) (fun _ h9 => h9) rfl (by decide +kernel) rfl rfl dX7_append_56 (fun M18 hM18 H locs hB _ hS => ?_)
      refine lv_aload_n hx hb dX7_append_59 rfl (lv_at hl 0 rfl) ?_
      refine b_get (D := D) (E := E) (L := LRR) (o := o) (M := M18) (v := .int (M18 0 2)) (C := RX7) (T := TX7) (N := 13) hx hb hts hinX7 hown hK.1 hB 0 lay_m0 rfl 2 (by decide) (hts (.fieldLink RX7 134 "RiverMeetingModel" "size" "I") (List.mem_of_getElem? (i := 2) rfl)) (fun _ h9 => h9) rfl dX7_append_60 ?_
      have e19 := p_X7_append_e19 M x1 r11 hr11.symm c12 c13 r15 hr15.symm M14 hM14.symm M17 hM17.symm M18 hM18.symm
      exact b_iret hx hb hr hlocks hS ⟨_, rfl, _, ⟨(congrArg Prod.fst e19).symm, (congrArg Prod.snd e19).symm⟩, hB⟩ dX7_append_63
    · refine lv_iconst (v := 2) hx hb dX7_append_26 (by decide) ?_
      refine lv_goto (tgt := 31) hx hb dX7_append_27 (by decide) ?_
      refine b_mI (b_runV (As := [.int 2]) (rest := []) ⟨hx, hb, hml, hown, hts⟩ (c_X7_refused l D E o M 2) (cwV 1 hts gX7_append_X7_refused rfl rfl rfl (by decide +kernel) ⟨Nat.le_of_ble_eq_true rfl, Nat.le_of_ble_eq_true rfl⟩) hK (bk_recv hK.1 hB lay_m0 rfl) hB rfl hl rfl (Nat.le_of_ble_eq_true rfl) dX7_append_31 ⟨Nat.zero_le _, Nat.zero_le _⟩) hS (fun q h => h) (fun r21 M20 hM20 H locs hB _ hS => ?_)
      obtain ⟨hr21, hM20⟩ := hM20
      have hkr21 : r21 = 1 := by rw [hr21]; rfl
      refine lv_const (y := 1) hkr21 ?_
      refine lv_if_eq (tgt := 39) hx hb dX7_append_34 (by decide) (fun c22 => absurd c22 (by decide)) (fun c22 => ?_)
      refine lv_iconst (v := 0) hx hb dX7_append_37 (by decide) ?_
      have e23 := p_X7_append_e23 M x1 r11 hr11.symm c12 c13 r21 hr21.symm M20 hM20.symm
      exact b_iret hx hb hr hlocks hS ⟨_, rfl, _, ⟨(congrArg Prod.fst e23).symm, (congrArg Prod.snd e23).symm⟩, hB⟩ dX7_append_38
  · refine lv_iconst (v := 1) hx hb dX7_append_13 (by decide) ?_
    refine lv_goto (tgt := 31) hx hb dX7_append_14 (by decide) ?_
    refine b_mI (b_runV (As := [.int 1]) (rest := []) ⟨hx, hb, hml, hown, hts⟩ (c_X7_refused l D E o M 1) (cwV 1 hts gX7_append_X7_refused rfl rfl rfl (by decide +kernel) ⟨Nat.le_of_ble_eq_true rfl, Nat.le_of_ble_eq_true rfl⟩) hK (bk_recv hK.1 hB lay_m0 rfl) hB rfl hl rfl (Nat.le_of_ble_eq_true rfl) dX7_append_31 ⟨Nat.zero_le _, Nat.zero_le _⟩) hS (fun q h => h) (fun r25 M24 hM24 H locs hB _ hS => ?_)
    obtain ⟨hr25, hM24⟩ := hM24
    have hkr25 : r25 = 1 := by rw [hr25]; rfl
    refine lv_const (y := 1) hkr25 ?_
    refine lv_if_eq (tgt := 39) hx hb dX7_append_34 (by decide) (fun c26 => absurd c26 (by decide)) (fun c26 => ?_)
    refine lv_iconst (v := 0) hx hb dX7_append_37 (by decide) ?_
    have e27 := p_X7_append_e27 M x1 r11 hr11.symm c12 r25 hr25.symm M24 hM24.symm
    exact b_iret hx hb hr hlocks hS ⟨_, rfl, _, ⟨(congrArg Prod.fst e27).symm, (congrArg Prod.snd e27).symm⟩, hB⟩ dX7_append_38

def f_X7_figures (M : bM) (x1 : Int32) (x2 : Int32) (x3 : Int32) (x4 : Int32) : Int32 × bM := (if x2 = 2 then (if x1 = (-1) then (if x1 = (-1) then ((-1), M) else (0, M)) else (if (M 0 2) ≤ (M 0 11) then (let r41 : Int32 := f_X7_in (((-1) : Int32).toInt64) 0 9; ((-1), M)) else (let x44 : Int32 := ((M 1 (M 0 11).toNatClampNeg) - 48); (let x45 : Int32 := ((0 : Int32) + (x44 * 10)); (let r46 : Int32 := f_X7_in x44.toInt64 0 9; (if r46 = 0 then ((-1), M) else (if x4 < x45 then ((-1), M) else (if x3 ≤ ((x45 + 10) - 1) then (let M52 : bM := up2 M 0 11 ((M 0 11) + 1); (if x1 = (-1) then (if x1 = (-1) then ((-1), M52) else (x45, M52)) else (if (M52 0 2) ≤ (M52 0 11) then (let x59 : Int32 := (x45 + (-1)); (let r60 : Int32 := f_X7_in (((-1) : Int32).toInt64) 0 9; ((-1), M52))) else (let x63 : Int32 := ((M52 1 (M52 0 11).toNatClampNeg) - 48); (let x64 : Int32 := (x45 + (x63 * 1)); (let r65 : Int32 := f_X7_in x63.toInt64 0 9; (if r65 = 0 then ((-1), M52) else (if x4 < x64 then ((-1), M52) else (if x3 ≤ ((x64 + 1) - 1) then (let M71 : bM := up2 M52 0 11 ((M52 0 11) + 1); (if x1 = (-1) then ((-1), M71) else (x64, M71))) else ((-1), M52)))))))))) else ((-1), M))))))))) else (if x1 = (-1) then (if x1 = (-1) then ((-1), M) else (0, M)) else (if (M 0 2) ≤ (M 0 11) then (let r18 : Int32 := f_X7_in (((-1) : Int32).toInt64) 0 9; ((-1), M)) else (let x21 : Int32 := ((M 1 (M 0 11).toNatClampNeg) - 48); (let x22 : Int32 := ((0 : Int32) + (x21 * 1)); (let r23 : Int32 := f_X7_in x21.toInt64 0 9; (if r23 = 0 then ((-1), M) else (if x4 < x22 then ((-1), M) else (if x3 ≤ ((x22 + 1) - 1) then (let M29 : bM := up2 M 0 11 ((M 0 11) + 1); (if x1 = (-1) then ((-1), M29) else (x22, M29))) else ((-1), M))))))))))
theorem u_f_X7_figures (M : bM) (x1 : Int32) (x2 : Int32) (x3 : Int32) (x4 : Int32) : f_X7_figures M x1 x2 x3 x4 = (if x2 = 2 then (if x1 = (-1) then (if x1 = (-1) then ((-1), M) else (0, M)) else (if (M 0 2) ≤ (M 0 11) then (let r41 : Int32 := f_X7_in (((-1) : Int32).toInt64) 0 9; ((-1), M)) else (let x44 : Int32 := ((M 1 (M 0 11).toNatClampNeg) - 48); (let x45 : Int32 := ((0 : Int32) + (x44 * 10)); (let r46 : Int32 := f_X7_in x44.toInt64 0 9; (if r46 = 0 then ((-1), M) else (if x4 < x45 then ((-1), M) else (if x3 ≤ ((x45 + 10) - 1) then (let M52 : bM := up2 M 0 11 ((M 0 11) + 1); (if x1 = (-1) then (if x1 = (-1) then ((-1), M52) else (x45, M52)) else (if (M52 0 2) ≤ (M52 0 11) then (let x59 : Int32 := (x45 + (-1)); (let r60 : Int32 := f_X7_in (((-1) : Int32).toInt64) 0 9; ((-1), M52))) else (let x63 : Int32 := ((M52 1 (M52 0 11).toNatClampNeg) - 48); (let x64 : Int32 := (x45 + (x63 * 1)); (let r65 : Int32 := f_X7_in x63.toInt64 0 9; (if r65 = 0 then ((-1), M52) else (if x4 < x64 then ((-1), M52) else (if x3 ≤ ((x64 + 1) - 1) then (let M71 : bM := up2 M52 0 11 ((M52 0 11) + 1); (if x1 = (-1) then ((-1), M71) else (x64, M71))) else ((-1), M52)))))))))) else ((-1), M))))))))) else (if x1 = (-1) then (if x1 = (-1) then ((-1), M) else (0, M)) else (if (M 0 2) ≤ (M 0 11) then (let r18 : Int32 := f_X7_in (((-1) : Int32).toInt64) 0 9; ((-1), M)) else (let x21 : Int32 := ((M 1 (M 0 11).toNatClampNeg) - 48); (let x22 : Int32 := ((0 : Int32) + (x21 * 1)); (let r23 : Int32 := f_X7_in x21.toInt64 0 9; (if r23 = 0 then ((-1), M) else (if x4 < x22 then ((-1), M) else (if x3 ≤ ((x22 + 1) - 1) then (let M29 : bM := up2 M 0 11 ((M 0 11) + 1); (if x1 = (-1) then ((-1), M29) else (x22, M29))) else ((-1), M)))))))))) := rfl
theorem p_X7_figures_e15 (M : bM) (x1 : Int32) (x2 : Int32) (x3 : Int32) (x4 : Int32) (c11 : ¬ x2 = 2) (c13 : x1 = (-1)) (c14 : ¬ x1 = (-1)) : f_X7_figures M x1 x2 x3 x4 = (0, M) := by exact Eq.trans (u_f_X7_figures M x1 x2 x3 x4) (Eq.trans (if_neg c11) (Eq.trans (if_pos c13) (if_neg c14)))
theorem p_X7_figures_e16 (M : bM) (x1 : Int32) (x2 : Int32) (x3 : Int32) (x4 : Int32) (c11 : ¬ x2 = 2) (c13 : x1 = (-1)) (c14 : x1 = (-1)) : f_X7_figures M x1 x2 x3 x4 = ((-1), M) := by exact Eq.trans (u_f_X7_figures M x1 x2 x3 x4) (Eq.trans (if_neg c11) (Eq.trans (if_pos c13) (if_pos c14)))
theorem p_X7_figures_e20 (M : bM) (x1 : Int32) (x2 : Int32) (x3 : Int32) (x4 : Int32) (c11 : ¬ x2 = 2) (c13 : ¬ x1 = (-1)) (c17 : (M 0 2) ≤ (M 0 11)) (r18 : Int32) (hr18 : f_X7_in (((-1) : Int32).toInt64) 0 9 = r18) : f_X7_figures M x1 x2 x3 x4 = ((-1), M) := by subst hr18; exact Eq.trans (u_f_X7_figures M x1 x2 x3 x4) (Eq.trans (if_neg c11) (Eq.trans (if_neg c13) (if_pos c17)))
theorem p_X7_figures_e25 (M : bM) (x1 : Int32) (x2 : Int32) (x3 : Int32) (x4 : Int32) (c11 : ¬ x2 = 2) (c13 : ¬ x1 = (-1)) (c17 : ¬ (M 0 2) ≤ (M 0 11)) (x21 : Int32) (hx21 : ((M 1 (M 0 11).toNatClampNeg) - 48) = x21) (x22 : Int32) (hx22 : ((0 : Int32) + (x21 * 1)) = x22) (r23 : Int32) (hr23 : f_X7_in x21.toInt64 0 9 = r23) (c24 : r23 = 0) : f_X7_figures M x1 x2 x3 x4 = ((-1), M) := by subst hr23 hx22 hx21; exact Eq.trans (u_f_X7_figures M x1 x2 x3 x4) (Eq.trans (if_neg c11) (Eq.trans (if_neg c13) (Eq.trans (if_neg c17) (if_pos c24))))
theorem p_X7_figures_e27 (M : bM) (x1 : Int32) (x2 : Int32) (x3 : Int32) (x4 : Int32) (c11 : ¬ x2 = 2) (c13 : ¬ x1 = (-1)) (c17 : ¬ (M 0 2) ≤ (M 0 11)) (x21 : Int32) (hx21 : ((M 1 (M 0 11).toNatClampNeg) - 48) = x21) (x22 : Int32) (hx22 : ((0 : Int32) + (x21 * 1)) = x22) (r23 : Int32) (hr23 : f_X7_in x21.toInt64 0 9 = r23) (c24 : ¬ r23 = 0) (c26 : x4 < x22) : f_X7_figures M x1 x2 x3 x4 = ((-1), M) := by subst hr23 hx22 hx21; exact Eq.trans (u_f_X7_figures M x1 x2 x3 x4) (Eq.trans (if_neg c11) (Eq.trans (if_neg c13) (Eq.trans (if_neg c17) (Eq.trans (if_neg c24) (if_pos c26)))))
theorem p_X7_figures_e32 (M : bM) (x1 : Int32) (x2 : Int32) (x3 : Int32) (x4 : Int32) (c11 : ¬ x2 = 2) (c13 : ¬ x1 = (-1)) (c17 : ¬ (M 0 2) ≤ (M 0 11)) (x21 : Int32) (hx21 : ((M 1 (M 0 11).toNatClampNeg) - 48) = x21) (x22 : Int32) (hx22 : ((0 : Int32) + (x21 * 1)) = x22) (r23 : Int32) (hr23 : f_X7_in x21.toInt64 0 9 = r23) (c24 : ¬ r23 = 0) (c26 : ¬ x4 < x22) (c28 : x3 ≤ ((x22 + 1) - 1)) (M29 : bM) (hM29 : up2 M 0 11 ((M 0 11) + 1) = M29) (c31 : ¬ x1 = (-1)) : f_X7_figures M x1 x2 x3 x4 = (x22, M29) := by subst hM29 hr23 hx22 hx21; exact Eq.trans (u_f_X7_figures M x1 x2 x3 x4) (Eq.trans (if_neg c11) (Eq.trans (if_neg c13) (Eq.trans (if_neg c17) (Eq.trans (if_neg c24) (Eq.trans (if_neg c26) (Eq.trans (if_pos c28) (if_neg c31)))))))
theorem p_X7_figures_e33 (M : bM) (x1 : Int32) (x2 : Int32) (x3 : Int32) (x4 : Int32) (c11 : ¬ x2 = 2) (c13 : ¬ x1 = (-1)) (c17 : ¬ (M 0 2) ≤ (M 0 11)) (x21 : Int32) (hx21 : ((M 1 (M 0 11).toNatClampNeg) - 48) = x21) (x22 : Int32) (hx22 : ((0 : Int32) + (x21 * 1)) = x22) (r23 : Int32) (hr23 : f_X7_in x21.toInt64 0 9 = r23) (c24 : ¬ r23 = 0) (c26 : ¬ x4 < x22) (c28 : x3 ≤ ((x22 + 1) - 1)) (M29 : bM) (hM29 : up2 M 0 11 ((M 0 11) + 1) = M29) (c31 : x1 = (-1)) : f_X7_figures M x1 x2 x3 x4 = ((-1), M29) := by subst hM29 hr23 hx22 hx21; exact Eq.trans (u_f_X7_figures M x1 x2 x3 x4) (Eq.trans (if_neg c11) (Eq.trans (if_neg c13) (Eq.trans (if_neg c17) (Eq.trans (if_neg c24) (Eq.trans (if_neg c26) (Eq.trans (if_pos c28) (if_pos c31)))))))
theorem p_X7_figures_e34 (M : bM) (x1 : Int32) (x2 : Int32) (x3 : Int32) (x4 : Int32) (c11 : ¬ x2 = 2) (c13 : ¬ x1 = (-1)) (c17 : ¬ (M 0 2) ≤ (M 0 11)) (x21 : Int32) (hx21 : ((M 1 (M 0 11).toNatClampNeg) - 48) = x21) (x22 : Int32) (hx22 : ((0 : Int32) + (x21 * 1)) = x22) (r23 : Int32) (hr23 : f_X7_in x21.toInt64 0 9 = r23) (c24 : ¬ r23 = 0) (c26 : ¬ x4 < x22) (c28 : ¬ x3 ≤ ((x22 + 1) - 1)) : f_X7_figures M x1 x2 x3 x4 = ((-1), M) := by subst hr23 hx22 hx21; exact Eq.trans (u_f_X7_figures M x1 x2 x3 x4) (Eq.trans (if_neg c11) (Eq.trans (if_neg c13) (Eq.trans (if_neg c17) (Eq.trans (if_neg c24) (Eq.trans (if_neg c26) (if_neg c28))))))
theorem p_X7_figures_e38 (M : bM) (x1 : Int32) (x2 : Int32) (x3 : Int32) (x4 : Int32) (c11 : x2 = 2) (c36 : x1 = (-1)) (c37 : ¬ x1 = (-1)) : f_X7_figures M x1 x2 x3 x4 = (0, M) := by exact Eq.trans (u_f_X7_figures M x1 x2 x3 x4) (Eq.trans (if_pos c11) (Eq.trans (if_pos c36) (if_neg c37)))
theorem p_X7_figures_e39 (M : bM) (x1 : Int32) (x2 : Int32) (x3 : Int32) (x4 : Int32) (c11 : x2 = 2) (c36 : x1 = (-1)) (c37 : x1 = (-1)) : f_X7_figures M x1 x2 x3 x4 = ((-1), M) := by exact Eq.trans (u_f_X7_figures M x1 x2 x3 x4) (Eq.trans (if_pos c11) (Eq.trans (if_pos c36) (if_pos c37)))
theorem p_X7_figures_e43 (M : bM) (x1 : Int32) (x2 : Int32) (x3 : Int32) (x4 : Int32) (c11 : x2 = 2) (c36 : ¬ x1 = (-1)) (c40 : (M 0 2) ≤ (M 0 11)) (r41 : Int32) (hr41 : f_X7_in (((-1) : Int32).toInt64) 0 9 = r41) : f_X7_figures M x1 x2 x3 x4 = ((-1), M) := by subst hr41; exact Eq.trans (u_f_X7_figures M x1 x2 x3 x4) (Eq.trans (if_pos c11) (Eq.trans (if_neg c36) (if_pos c40)))
theorem p_X7_figures_e48 (M : bM) (x1 : Int32) (x2 : Int32) (x3 : Int32) (x4 : Int32) (c11 : x2 = 2) (c36 : ¬ x1 = (-1)) (c40 : ¬ (M 0 2) ≤ (M 0 11)) (x44 : Int32) (hx44 : ((M 1 (M 0 11).toNatClampNeg) - 48) = x44) (x45 : Int32) (hx45 : ((0 : Int32) + (x44 * 10)) = x45) (r46 : Int32) (hr46 : f_X7_in x44.toInt64 0 9 = r46) (c47 : r46 = 0) : f_X7_figures M x1 x2 x3 x4 = ((-1), M) := by subst hr46 hx45 hx44; exact Eq.trans (u_f_X7_figures M x1 x2 x3 x4) (Eq.trans (if_pos c11) (Eq.trans (if_neg c36) (Eq.trans (if_neg c40) (if_pos c47))))
theorem p_X7_figures_e50 (M : bM) (x1 : Int32) (x2 : Int32) (x3 : Int32) (x4 : Int32) (c11 : x2 = 2) (c36 : ¬ x1 = (-1)) (c40 : ¬ (M 0 2) ≤ (M 0 11)) (x44 : Int32) (hx44 : ((M 1 (M 0 11).toNatClampNeg) - 48) = x44) (x45 : Int32) (hx45 : ((0 : Int32) + (x44 * 10)) = x45) (r46 : Int32) (hr46 : f_X7_in x44.toInt64 0 9 = r46) (c47 : ¬ r46 = 0) (c49 : x4 < x45) : f_X7_figures M x1 x2 x3 x4 = ((-1), M) := by subst hr46 hx45 hx44; exact Eq.trans (u_f_X7_figures M x1 x2 x3 x4) (Eq.trans (if_pos c11) (Eq.trans (if_neg c36) (Eq.trans (if_neg c40) (Eq.trans (if_neg c47) (if_pos c49)))))
theorem p_X7_figures_e56 (M : bM) (x1 : Int32) (x2 : Int32) (x3 : Int32) (x4 : Int32) (c11 : x2 = 2) (c36 : ¬ x1 = (-1)) (c40 : ¬ (M 0 2) ≤ (M 0 11)) (x44 : Int32) (hx44 : ((M 1 (M 0 11).toNatClampNeg) - 48) = x44) (x45 : Int32) (hx45 : ((0 : Int32) + (x44 * 10)) = x45) (r46 : Int32) (hr46 : f_X7_in x44.toInt64 0 9 = r46) (c47 : ¬ r46 = 0) (c49 : ¬ x4 < x45) (c51 : x3 ≤ ((x45 + 10) - 1)) (M52 : bM) (hM52 : up2 M 0 11 ((M 0 11) + 1) = M52) (c54 : x1 = (-1)) (c55 : ¬ x1 = (-1)) : f_X7_figures M x1 x2 x3 x4 = (x45, M52) := by subst hM52 hr46 hx45 hx44; exact Eq.trans (u_f_X7_figures M x1 x2 x3 x4) (Eq.trans (if_pos c11) (Eq.trans (if_neg c36) (Eq.trans (if_neg c40) (Eq.trans (if_neg c47) (Eq.trans (if_neg c49) (Eq.trans (if_pos c51) (Eq.trans (if_pos c54) (if_neg c55))))))))
theorem p_X7_figures_e57 (M : bM) (x1 : Int32) (x2 : Int32) (x3 : Int32) (x4 : Int32) (c11 : x2 = 2) (c36 : ¬ x1 = (-1)) (c40 : ¬ (M 0 2) ≤ (M 0 11)) (x44 : Int32) (hx44 : ((M 1 (M 0 11).toNatClampNeg) - 48) = x44) (x45 : Int32) (hx45 : ((0 : Int32) + (x44 * 10)) = x45) (r46 : Int32) (hr46 : f_X7_in x44.toInt64 0 9 = r46) (c47 : ¬ r46 = 0) (c49 : ¬ x4 < x45) (c51 : x3 ≤ ((x45 + 10) - 1)) (M52 : bM) (hM52 : up2 M 0 11 ((M 0 11) + 1) = M52) (c54 : x1 = (-1)) (c55 : x1 = (-1)) : f_X7_figures M x1 x2 x3 x4 = ((-1), M52) := by subst hM52 hr46 hx45 hx44; exact Eq.trans (u_f_X7_figures M x1 x2 x3 x4) (Eq.trans (if_pos c11) (Eq.trans (if_neg c36) (Eq.trans (if_neg c40) (Eq.trans (if_neg c47) (Eq.trans (if_neg c49) (Eq.trans (if_pos c51) (Eq.trans (if_pos c54) (if_pos c55))))))))
theorem p_X7_figures_e62 (M : bM) (x1 : Int32) (x2 : Int32) (x3 : Int32) (x4 : Int32) (c11 : x2 = 2) (c36 : ¬ x1 = (-1)) (c40 : ¬ (M 0 2) ≤ (M 0 11)) (x44 : Int32) (hx44 : ((M 1 (M 0 11).toNatClampNeg) - 48) = x44) (x45 : Int32) (hx45 : ((0 : Int32) + (x44 * 10)) = x45) (r46 : Int32) (hr46 : f_X7_in x44.toInt64 0 9 = r46) (c47 : ¬ r46 = 0) (c49 : ¬ x4 < x45) (c51 : x3 ≤ ((x45 + 10) - 1)) (M52 : bM) (hM52 : up2 M 0 11 ((M 0 11) + 1) = M52) (c54 : ¬ x1 = (-1)) (c58 : (M52 0 2) ≤ (M52 0 11)) (x59 : Int32) (hx59 : (x45 + (-1)) = x59) (r60 : Int32) (hr60 : f_X7_in (((-1) : Int32).toInt64) 0 9 = r60) : f_X7_figures M x1 x2 x3 x4 = ((-1), M52) := by subst hr60 hx59 hM52 hr46 hx45 hx44; exact Eq.trans (u_f_X7_figures M x1 x2 x3 x4) (Eq.trans (if_pos c11) (Eq.trans (if_neg c36) (Eq.trans (if_neg c40) (Eq.trans (if_neg c47) (Eq.trans (if_neg c49) (Eq.trans (if_pos c51) (Eq.trans (if_neg c54) (if_pos c58))))))))
theorem p_X7_figures_e67 (M : bM) (x1 : Int32) (x2 : Int32) (x3 : Int32) (x4 : Int32) (c11 : x2 = 2) (c36 : ¬ x1 = (-1)) (c40 : ¬ (M 0 2) ≤ (M 0 11)) (x44 : Int32) (hx44 : ((M 1 (M 0 11).toNatClampNeg) - 48) = x44) (x45 : Int32) (hx45 : ((0 : Int32) + (x44 * 10)) = x45) (r46 : Int32) (hr46 : f_X7_in x44.toInt64 0 9 = r46) (c47 : ¬ r46 = 0) (c49 : ¬ x4 < x45) (c51 : x3 ≤ ((x45 + 10) - 1)) (M52 : bM) (hM52 : up2 M 0 11 ((M 0 11) + 1) = M52) (c54 : ¬ x1 = (-1)) (c58 : ¬ (M52 0 2) ≤ (M52 0 11)) (x63 : Int32) (hx63 : ((M52 1 (M52 0 11).toNatClampNeg) - 48) = x63) (x64 : Int32) (hx64 : (x45 + (x63 * 1)) = x64) (r65 : Int32) (hr65 : f_X7_in x63.toInt64 0 9 = r65) (c66 : r65 = 0) : f_X7_figures M x1 x2 x3 x4 = ((-1), M52) := by subst hr65 hx64 hx63 hM52 hr46 hx45 hx44; exact Eq.trans (u_f_X7_figures M x1 x2 x3 x4) (Eq.trans (if_pos c11) (Eq.trans (if_neg c36) (Eq.trans (if_neg c40) (Eq.trans (if_neg c47) (Eq.trans (if_neg c49) (Eq.trans (if_pos c51) (Eq.trans (if_neg c54) (Eq.trans (if_neg c58) (if_pos c66)))))))))
theorem p_X7_figures_e69 (M : bM) (x1 : Int32) (x2 : Int32) (x3 : Int32) (x4 : Int32) (c11 : x2 = 2) (c36 : ¬ x1 = (-1)) (c40 : ¬ (M 0 2) ≤ (M 0 11)) (x44 : Int32) (hx44 : ((M 1 (M 0 11).toNatClampNeg) - 48) = x44) (x45 : Int32) (hx45 : ((0 : Int32) + (x44 * 10)) = x45) (r46 : Int32) (hr46 : f_X7_in x44.toInt64 0 9 = r46) (c47 : ¬ r46 = 0) (c49 : ¬ x4 < x45) (c51 : x3 ≤ ((x45 + 10) - 1)) (M52 : bM) (hM52 : up2 M 0 11 ((M 0 11) + 1) = M52) (c54 : ¬ x1 = (-1)) (c58 : ¬ (M52 0 2) ≤ (M52 0 11)) (x63 : Int32) (hx63 : ((M52 1 (M52 0 11).toNatClampNeg) - 48) = x63) (x64 : Int32) (hx64 : (x45 + (x63 * 1)) = x64) (r65 : Int32) (hr65 : f_X7_in x63.toInt64 0 9 = r65) (c66 : ¬ r65 = 0) (c68 : x4 < x64) : f_X7_figures M x1 x2 x3 x4 = ((-1), M52) := by subst hr65 hx64 hx63 hM52 hr46 hx45 hx44; exact Eq.trans (u_f_X7_figures M x1 x2 x3 x4) (Eq.trans (if_pos c11) (Eq.trans (if_neg c36) (Eq.trans (if_neg c40) (Eq.trans (if_neg c47) (Eq.trans (if_neg c49) (Eq.trans (if_pos c51) (Eq.trans (if_neg c54) (Eq.trans (if_neg c58) (Eq.trans (if_neg c66) (if_pos c68))))))))))
theorem p_X7_figures_e74 (M : bM) (x1 : Int32) (x2 : Int32) (x3 : Int32) (x4 : Int32) (c11 : x2 = 2) (c36 : ¬ x1 = (-1)) (c40 : ¬ (M 0 2) ≤ (M 0 11)) (x44 : Int32) (hx44 : ((M 1 (M 0 11).toNatClampNeg) - 48) = x44) (x45 : Int32) (hx45 : ((0 : Int32) + (x44 * 10)) = x45) (r46 : Int32) (hr46 : f_X7_in x44.toInt64 0 9 = r46) (c47 : ¬ r46 = 0) (c49 : ¬ x4 < x45) (c51 : x3 ≤ ((x45 + 10) - 1)) (M52 : bM) (hM52 : up2 M 0 11 ((M 0 11) + 1) = M52) (c54 : ¬ x1 = (-1)) (c58 : ¬ (M52 0 2) ≤ (M52 0 11)) (x63 : Int32) (hx63 : ((M52 1 (M52 0 11).toNatClampNeg) - 48) = x63) (x64 : Int32) (hx64 : (x45 + (x63 * 1)) = x64) (r65 : Int32) (hr65 : f_X7_in x63.toInt64 0 9 = r65) (c66 : ¬ r65 = 0) (c68 : ¬ x4 < x64) (c70 : x3 ≤ ((x64 + 1) - 1)) (M71 : bM) (hM71 : up2 M52 0 11 ((M52 0 11) + 1) = M71) (c73 : ¬ x1 = (-1)) : f_X7_figures M x1 x2 x3 x4 = (x64, M71) := by subst hM71 hr65 hx64 hx63 hM52 hr46 hx45 hx44; exact Eq.trans (u_f_X7_figures M x1 x2 x3 x4) (Eq.trans (if_pos c11) (Eq.trans (if_neg c36) (Eq.trans (if_neg c40) (Eq.trans (if_neg c47) (Eq.trans (if_neg c49) (Eq.trans (if_pos c51) (Eq.trans (if_neg c54) (Eq.trans (if_neg c58) (Eq.trans (if_neg c66) (Eq.trans (if_neg c68) (Eq.trans (if_pos c70) (if_neg c73))))))))))))
theorem p_X7_figures_e75 (M : bM) (x1 : Int32) (x2 : Int32) (x3 : Int32) (x4 : Int32) (c11 : x2 = 2) (c36 : ¬ x1 = (-1)) (c40 : ¬ (M 0 2) ≤ (M 0 11)) (x44 : Int32) (hx44 : ((M 1 (M 0 11).toNatClampNeg) - 48) = x44) (x45 : Int32) (hx45 : ((0 : Int32) + (x44 * 10)) = x45) (r46 : Int32) (hr46 : f_X7_in x44.toInt64 0 9 = r46) (c47 : ¬ r46 = 0) (c49 : ¬ x4 < x45) (c51 : x3 ≤ ((x45 + 10) - 1)) (M52 : bM) (hM52 : up2 M 0 11 ((M 0 11) + 1) = M52) (c54 : ¬ x1 = (-1)) (c58 : ¬ (M52 0 2) ≤ (M52 0 11)) (x63 : Int32) (hx63 : ((M52 1 (M52 0 11).toNatClampNeg) - 48) = x63) (x64 : Int32) (hx64 : (x45 + (x63 * 1)) = x64) (r65 : Int32) (hr65 : f_X7_in x63.toInt64 0 9 = r65) (c66 : ¬ r65 = 0) (c68 : ¬ x4 < x64) (c70 : x3 ≤ ((x64 + 1) - 1)) (M71 : bM) (hM71 : up2 M52 0 11 ((M52 0 11) + 1) = M71) (c73 : x1 = (-1)) : f_X7_figures M x1 x2 x3 x4 = ((-1), M71) := by subst hM71 hr65 hx64 hx63 hM52 hr46 hx45 hx44; exact Eq.trans (u_f_X7_figures M x1 x2 x3 x4) (Eq.trans (if_pos c11) (Eq.trans (if_neg c36) (Eq.trans (if_neg c40) (Eq.trans (if_neg c47) (Eq.trans (if_neg c49) (Eq.trans (if_pos c51) (Eq.trans (if_neg c54) (Eq.trans (if_neg c58) (Eq.trans (if_neg c66) (Eq.trans (if_neg c68) (Eq.trans (if_pos c70) (if_pos c73))))))))))))
theorem p_X7_figures_e76 (M : bM) (x1 : Int32) (x2 : Int32) (x3 : Int32) (x4 : Int32) (c11 : x2 = 2) (c36 : ¬ x1 = (-1)) (c40 : ¬ (M 0 2) ≤ (M 0 11)) (x44 : Int32) (hx44 : ((M 1 (M 0 11).toNatClampNeg) - 48) = x44) (x45 : Int32) (hx45 : ((0 : Int32) + (x44 * 10)) = x45) (r46 : Int32) (hr46 : f_X7_in x44.toInt64 0 9 = r46) (c47 : ¬ r46 = 0) (c49 : ¬ x4 < x45) (c51 : x3 ≤ ((x45 + 10) - 1)) (M52 : bM) (hM52 : up2 M 0 11 ((M 0 11) + 1) = M52) (c54 : ¬ x1 = (-1)) (c58 : ¬ (M52 0 2) ≤ (M52 0 11)) (x63 : Int32) (hx63 : ((M52 1 (M52 0 11).toNatClampNeg) - 48) = x63) (x64 : Int32) (hx64 : (x45 + (x63 * 1)) = x64) (r65 : Int32) (hr65 : f_X7_in x63.toInt64 0 9 = r65) (c66 : ¬ r65 = 0) (c68 : ¬ x4 < x64) (c70 : ¬ x3 ≤ ((x64 + 1) - 1)) : f_X7_figures M x1 x2 x3 x4 = ((-1), M52) := by subst hr65 hx64 hx63 hM52 hr46 hx45 hx44; exact Eq.trans (u_f_X7_figures M x1 x2 x3 x4) (Eq.trans (if_pos c11) (Eq.trans (if_neg c36) (Eq.trans (if_neg c40) (Eq.trans (if_neg c47) (Eq.trans (if_neg c49) (Eq.trans (if_pos c51) (Eq.trans (if_neg c54) (Eq.trans (if_neg c58) (Eq.trans (if_neg c66) (Eq.trans (if_neg c68) (if_neg c70)))))))))))
theorem p_X7_figures_e77 (M : bM) (x1 : Int32) (x2 : Int32) (x3 : Int32) (x4 : Int32) (c11 : x2 = 2) (c36 : ¬ x1 = (-1)) (c40 : ¬ (M 0 2) ≤ (M 0 11)) (x44 : Int32) (hx44 : ((M 1 (M 0 11).toNatClampNeg) - 48) = x44) (x45 : Int32) (hx45 : ((0 : Int32) + (x44 * 10)) = x45) (r46 : Int32) (hr46 : f_X7_in x44.toInt64 0 9 = r46) (c47 : ¬ r46 = 0) (c49 : ¬ x4 < x45) (c51 : ¬ x3 ≤ ((x45 + 10) - 1)) : f_X7_figures M x1 x2 x3 x4 = ((-1), M) := by subst hr46 hx45 hx44; exact Eq.trans (u_f_X7_figures M x1 x2 x3 x4) (Eq.trans (if_pos c11) (Eq.trans (if_neg c36) (Eq.trans (if_neg c40) (Eq.trans (if_neg c47) (Eq.trans (if_neg c49) (if_neg c51))))))
theorem fr_X7_figures (M : bM) (x1 : Int32) (x2 : Int32) (x3 : Int32) (x4 : Int32) (k : Nat) (hk : k ≠ 0) : (f_X7_figures M x1 x2 x3 x4).2 k = M k := by
  by_cases c11 : x2 = 2
  · by_cases c36 : x1 = (-1)
    · by_cases c37 : x1 = (-1)
      · rw [p_X7_figures_e39 M x1 x2 x3 x4 c11 c36 c37]
      · rw [p_X7_figures_e38 M x1 x2 x3 x4 c11 c36 c37]
    · by_cases c40 : (M 0 2) ≤ (M 0 11)
      · obtain ⟨r41, hr41⟩ : ∃ y : Int32, y = f_X7_in (((-1) : Int32).toInt64) 0 9 := ⟨_, rfl⟩
        rw [p_X7_figures_e43 M x1 x2 x3 x4 c11 c36 c40 r41 hr41.symm]
      · obtain ⟨x44, hx44⟩ : ∃ y : Int32, y = ((M 1 (M 0 11).toNatClampNeg) - 48) := ⟨_, rfl⟩
        obtain ⟨x45, hx45⟩ : ∃ y : Int32, y = ((0 : Int32) + (x44 * 10)) := ⟨_, rfl⟩
        obtain ⟨r46, hr46⟩ : ∃ y : Int32, y = f_X7_in x44.toInt64 0 9 := ⟨_, rfl⟩
        by_cases c47 : r46 = 0
        · rw [p_X7_figures_e48 M x1 x2 x3 x4 c11 c36 c40 x44 hx44.symm x45 hx45.symm r46 hr46.symm c47]
        · by_cases c49 : x4 < x45
          · rw [p_X7_figures_e50 M x1 x2 x3 x4 c11 c36 c40 x44 hx44.symm x45 hx45.symm r46 hr46.symm c47 c49]
          · by_cases c51 : x3 ≤ ((x45 + 10) - 1)
            · obtain ⟨M52, hM52⟩ : ∃ y : bM, y = up2 M 0 11 ((M 0 11) + 1) := ⟨_, rfl⟩
              by_cases c54 : x1 = (-1)
              · by_cases c55 : x1 = (-1)
                · rw [p_X7_figures_e57 M x1 x2 x3 x4 c11 c36 c40 x44 hx44.symm x45 hx45.symm r46 hr46.symm c47 c49 c51 M52 hM52.symm c54 c55]
                  try dsimp only
                  rw [hM52, up2_row (by omega)]
                · rw [p_X7_figures_e56 M x1 x2 x3 x4 c11 c36 c40 x44 hx44.symm x45 hx45.symm r46 hr46.symm c47 c49 c51 M52 hM52.symm c54 c55]
                  try dsimp only
                  rw [hM52, up2_row (by omega)]
              · by_cases c58 : (M52 0 2) ≤ (M52 0 11)
                · obtain ⟨x59, hx59⟩ : ∃ y : Int32, y = (x45 + (-1)) := ⟨_, rfl⟩
                  obtain ⟨r60, hr60⟩ : ∃ y : Int32, y = f_X7_in (((-1) : Int32).toInt64) 0 9 := ⟨_, rfl⟩
                  rw [p_X7_figures_e62 M x1 x2 x3 x4 c11 c36 c40 x44 hx44.symm x45 hx45.symm r46 hr46.symm c47 c49 c51 M52 hM52.symm c54 c58 x59 hx59.symm r60 hr60.symm]
                  try dsimp only
                  rw [hM52, up2_row (by omega)]
                · obtain ⟨x63, hx63⟩ : ∃ y : Int32, y = ((M52 1 (M52 0 11).toNatClampNeg) - 48) := ⟨_, rfl⟩
                  obtain ⟨x64, hx64⟩ : ∃ y : Int32, y = (x45 + (x63 * 1)) := ⟨_, rfl⟩
                  obtain ⟨r65, hr65⟩ : ∃ y : Int32, y = f_X7_in x63.toInt64 0 9 := ⟨_, rfl⟩
                  by_cases c66 : r65 = 0
                  · rw [p_X7_figures_e67 M x1 x2 x3 x4 c11 c36 c40 x44 hx44.symm x45 hx45.symm r46 hr46.symm c47 c49 c51 M52 hM52.symm c54 c58 x63 hx63.symm x64 hx64.symm r65 hr65.symm c66]
                    try dsimp only
                    rw [hM52, up2_row (by omega)]
                  · by_cases c68 : x4 < x64
                    · rw [p_X7_figures_e69 M x1 x2 x3 x4 c11 c36 c40 x44 hx44.symm x45 hx45.symm r46 hr46.symm c47 c49 c51 M52 hM52.symm c54 c58 x63 hx63.symm x64 hx64.symm r65 hr65.symm c66 c68]
                      try dsimp only
                      rw [hM52, up2_row (by omega)]
                    · by_cases c70 : x3 ≤ ((x64 + 1) - 1)
                      · obtain ⟨M71, hM71⟩ : ∃ y : bM, y = up2 M52 0 11 ((M52 0 11) + 1) := ⟨_, rfl⟩
                        by_cases c73 : x1 = (-1)
                        · rw [p_X7_figures_e75 M x1 x2 x3 x4 c11 c36 c40 x44 hx44.symm x45 hx45.symm r46 hr46.symm c47 c49 c51 M52 hM52.symm c54 c58 x63 hx63.symm x64 hx64.symm r65 hr65.symm c66 c68 c70 M71 hM71.symm c73]
                          try dsimp only
                          rw [hM71, up2_row (by omega), hM52, up2_row (by omega)]
                        · rw [p_X7_figures_e74 M x1 x2 x3 x4 c11 c36 c40 x44 hx44.symm x45 hx45.symm r46 hr46.symm c47 c49 c51 M52 hM52.symm c54 c58 x63 hx63.symm x64 hx64.symm r65 hr65.symm c66 c68 c70 M71 hM71.symm c73]
                          try dsimp only
                          rw [hM71, up2_row (by omega), hM52, up2_row (by omega)]
                      · rw [p_X7_figures_e76 M x1 x2 x3 x4 c11 c36 c40 x44 hx44.symm x45 hx45.symm r46 hr46.symm c47 c49 c51 M52 hM52.symm c54 c58 x63 hx63.symm x64 hx64.symm r65 hr65.symm c66 c68 c70]
                        try dsimp only
                        rw [hM52, up2_row (by omega)]
            · rw [p_X7_figures_e77 M x1 x2 x3 x4 c11 c36 c40 x44 hx44.symm x45 hx45.symm r46 hr46.symm c47 c49 c51]
  · by_cases c13 : x1 = (-1)
    · by_cases c14 : x1 = (-1)
      · rw [p_X7_figures_e16 M x1 x2 x3 x4 c11 c13 c14]
      · rw [p_X7_figures_e15 M x1 x2 x3 x4 c11 c13 c14]
    · by_cases c17 : (M 0 2) ≤ (M 0 11)
      · obtain ⟨r18, hr18⟩ : ∃ y : Int32, y = f_X7_in (((-1) : Int32).toInt64) 0 9 := ⟨_, rfl⟩
        rw [p_X7_figures_e20 M x1 x2 x3 x4 c11 c13 c17 r18 hr18.symm]
      · obtain ⟨x21, hx21⟩ : ∃ y : Int32, y = ((M 1 (M 0 11).toNatClampNeg) - 48) := ⟨_, rfl⟩
        obtain ⟨x22, hx22⟩ : ∃ y : Int32, y = ((0 : Int32) + (x21 * 1)) := ⟨_, rfl⟩
        obtain ⟨r23, hr23⟩ : ∃ y : Int32, y = f_X7_in x21.toInt64 0 9 := ⟨_, rfl⟩
        by_cases c24 : r23 = 0
        · rw [p_X7_figures_e25 M x1 x2 x3 x4 c11 c13 c17 x21 hx21.symm x22 hx22.symm r23 hr23.symm c24]
        · by_cases c26 : x4 < x22
          · rw [p_X7_figures_e27 M x1 x2 x3 x4 c11 c13 c17 x21 hx21.symm x22 hx22.symm r23 hr23.symm c24 c26]
          · by_cases c28 : x3 ≤ ((x22 + 1) - 1)
            · obtain ⟨M29, hM29⟩ : ∃ y : bM, y = up2 M 0 11 ((M 0 11) + 1) := ⟨_, rfl⟩
              by_cases c31 : x1 = (-1)
              · rw [p_X7_figures_e33 M x1 x2 x3 x4 c11 c13 c17 x21 hx21.symm x22 hx22.symm r23 hr23.symm c24 c26 c28 M29 hM29.symm c31]
                try dsimp only
                rw [hM29, up2_row (by omega)]
              · rw [p_X7_figures_e32 M x1 x2 x3 x4 c11 c13 c17 x21 hx21.symm x22 hx22.symm r23 hr23.symm c24 c26 c28 M29 hM29.symm c31]
                try dsimp only
                rw [hM29, up2_row (by omega)]
            · rw [p_X7_figures_e34 M x1 x2 x3 x4 c11 c13 c17 x21 hx21.symm x22 hx22.symm r23 hr23.symm c24 c26 c28]
set_option maxHeartbeats 4000000 in
set_option maxRecDepth 100000 in
theorem c_X7_figures (l : Launch) (D : va_G) (E : Nat → ClassId) (o : Nat) (M : bM) (x1 : Int32) (x2 : Int32) (x3 : Int32) (x4 : Int32) (ht : txR M) : Met l yX7_figures wsX7_figures (rmF 1) (bPc D E [.ref (o + 0), .int x1, .int x2, .int x3, .int x4] (fun H => bk D E LRR o M H)) (bQ (aI fun r H => ∃ M1 : bM, (r = (f_X7_figures M x1 x2 x3 x4).1 ∧ M1 = (f_X7_figures M x1 x2 x3 x4).2) ∧ bk D E LRR o M1 H) (rB o)) 0 0 (rB o) := by
  refine Met.ofW (cc := cX7_figures) (maxL := 9) (ret := (some .int)) (by decide) rfl ?_
  intro p e s m args below meth c s₁ B hml hv
  obtain ⟨rfl, hB, hK⟩ := hv
  have hx := B.exec
  have hb := B.bytes
  have hr := B.returns
  have hts := atoms_spec (ws := wsX7_figures) B.pre
  have hown : s.vm.findClass RX7 = some m.cls := findClass_of_methodNamed B.named
  have hlocks := B.notSynchronized
  have hS : bS (rB o) s.heap s.heap [] := bS.rf
  have hl := lv_entry ([.ref (o + 0), .int x1, .int x2, .int x3, .int x4]) (n := 9) (Nat.le_of_ble_eq_true rfl)
  rw [lg_entry_eq]
  generalize (lg_sl ([.ref (o + 0), .int x1, .int x2, .int x3, .int x4]) ++ List.replicate (9 - (lg_sl ([.ref (o + 0), .int x1, .int x2, .int x3, .int x4])).length) Slot.unset).toArray = ls at hl ⊢
  have hl : lv_has ls 9 [(0, .ref (o + 0)), (1, .int x1), (2, .int x2), (3, .int x3), (4, .int x4)] := hl
  have hB : bk D E LRR o M s.heap := hB
  have hinX7 : ∀ w ∈ wsX70, w ∈ wsX7_figures := by decide +kernel
  refine lv_iconst (v := 0) hx hb dX7_figures_0 (by decide) ?_
  refine lv_istore (lv' := [(5, .int 0), (0, .ref (o + 0)), (1, .int x1), (2, .int x2), (3, .int x3), (4, .int x4)]) hx hb dX7_figures_1 hl (by decide) rfl (fun ls hl => ?_)
  refine lv_iload_n hx hb dX7_figures_3 rfl (lv_at hl 3 rfl) ?_
  refine lv_iconst (v := 2) hx hb dX7_figures_4 (by decide) ?_
  refine lv_icmp_ne (tgt := 13) hx hb dX7_figures_5 (by decide) (fun c11 => ?_) (fun c11 => ?_)
  · refine lv_iconst (v := 1) hx hb dX7_figures_13 (by decide) ?_
    refine lv_istore (lv' := [(6, .int 1), (5, .int 0), (0, .ref (o + 0)), (1, .int x1), (2, .int x2), (3, .int x3), (4, .int x4)]) hx hb dX7_figures_14 hl (by decide) rfl (fun ls hl => ?_)
    refine lv_iload hx hb dX7_figures_16 (lv_at hl 0 rfl) ?_
    refine lv_if_le (tgt := 122) hx hb dX7_figures_18 (by decide) (fun c12 => absurd c12 (by decide)) (fun c12 => ?_)
    refine lv_iload_n hx hb dX7_figures_21 rfl (lv_at hl 3 rfl) ?_
    refine lv_iconst (v := (-1)) hx hb dX7_figures_22 (by decide) ?_
    refine lv_icmp_eq (tgt := 122) hx hb dX7_figures_23 (by decide) (fun c13 => ?_) (fun c13 => ?_)
    · refine lv_iload_n hx hb dX7_figures_122 rfl (lv_at hl 3 rfl) ?_
      refine lv_iconst (v := (-1)) hx hb dX7_figures_123 (by decide) ?_
      refine lv_icmp_ne (tgt := 131) hx hb dX7_figures_124 (by decide) (fun c14 => ?_) (fun c14 => ?_)
      · refine lv_iload hx hb dX7_figures_131 (lv_at hl 1 rfl) ?_
        have e15 := p_X7_figures_e15 M x1 x2 x3 x4 c11 c13 c14
        exact b_iret hx hb hr hlocks hS ⟨_, rfl, _, ⟨(congrArg Prod.fst e15).symm, (congrArg Prod.snd e15).symm⟩, hB⟩ dX7_figures_133
      · refine lv_iconst (v := (-1)) hx hb dX7_figures_127 (by decide) ?_
        refine lv_goto (tgt := 133) hx hb dX7_figures_128 (by decide) ?_
        have e16 := p_X7_figures_e16 M x1 x2 x3 x4 c11 c13 c14
        exact b_iret hx hb hr hlocks hS ⟨_, rfl, _, ⟨(congrArg Prod.fst e16).symm, (congrArg Prod.snd e16).symm⟩, hB⟩ dX7_figures_133
    · refine lv_aload_n hx hb dX7_figures_26 rfl (lv_at hl 2 rfl) ?_
      refine b_get (D := D) (E := E) (L := LRR) (o := o) (M := M) (v := .int (M 0 11)) (C := RX7) (T := TX7) (N := 13) hx hb hts hinX7 hown hK.1 hB 0 lay_m0 rfl 11 (by decide) (hts (.fieldLink RX7 141 "RiverMeetingModel" "spot" "I") (List.mem_of_getElem? (i := 1) rfl)) (fun _ h9 => h9) rfl dX7_figures_27 ?_
      refine lv_aload_n hx hb dX7_figures_30 rfl (lv_at hl 2 rfl) ?_
      refine b_get (D := D) (E := E) (L := LRR) (o := o) (M := M) (v := .int (M 0 2)) (C := RX7) (T := TX7) (N := 13) hx hb hts hinX7 hown hK.1 hB 0 lay_m0 rfl 2 (by decide) (hts (.fieldLink RX7 134 "RiverMeetingModel" "size" "I") (List.mem_of_getElem? (i := 2) rfl)) (fun _ h9 => h9) rfl dX7_figures_31 ?_
      refine lv_icmp_ge (tgt := 52) hx hb dX7_figures_34 (by decide) (fun c17 => ?_) (fun c17 => ?_)
      · refine lv_iconst (v := (-1)) hx hb dX7_figures_52 (by decide) ?_
        refine lv_istore (lv' := [(7, .int (-1)), (6, .int 1), (5, .int 0), (0, .ref (o + 0)), (1, .int x1), (2, .int x2), (3, .int x3), (4, .int x4)]) hx hb dX7_figures_53 hl (by decide) rfl (fun ls hl => ?_)
        refine lv_iload hx hb dX7_figures_55 (lv_at hl 2 rfl) ?_
        refine lv_iload hx hb dX7_figures_57 (lv_at hl 0 rfl) ?_
        refine lv_iload hx hb dX7_figures_59 (lv_at hl 1 rfl) ?_
        refine lv_imul hx hb dX7_figures_61 ?_
        refine lv_const (y := (-1)) (by decide) ?_
        refine lv_iadd hx hb dX7_figures_62 ?_
        refine lv_const (y := (-1)) (by decide) ?_
        refine lv_istore (lv' := [(8, .int (-1)), (7, .int (-1)), (6, .int 1), (5, .int 0), (0, .ref (o + 0)), (1, .int x1), (2, .int x2), (3, .int x3), (4, .int x4)]) hx hb dX7_figures_63 hl (by decide) rfl (fun ls hl => ?_)
        refine lv_iload hx hb dX7_figures_65 (lv_at hl 1 rfl) ?_
        refine lv_i2l hx hb dX7_figures_67 rfl ?_
        refine lv_lconst (v := 0) hx hb dX7_figures_68 (by decide) ?_
        refine lv_ldc2 (v := 9) hx hb hown (hts (.constantLong RX7 63 (9)) (List.mem_of_getElem? (i := 4) rfl)) dX7_figures_69 ?_
        refine b_pI (b_runS (As := [.long (((-1) : Int32).toInt64), .long 0, .long 9]) (rest := []) ⟨hx, hb, hml, hown, hts⟩ (c_X7_in l D E (((-1) : Int32).toInt64) 0 9) (va_cwS 3 hts gX7_figures_X7_in rfl rfl rfl (by decide +kernel) ⟨Nat.le_of_ble_eq_true rfl, Nat.le_of_ble_eq_true rfl⟩) hK trivial rfl hl rfl (Nat.le_of_ble_eq_true rfl) dX7_figures_72 ⟨Nat.zero_le _, Nat.zero_le _⟩) hS (fun r18 hr18 locs hS => ?_)
        have hkr18 : r18 = 0 := by rw [hr18]; decide
        refine lv_const (y := 0) hkr18 ?_
        refine lv_if_eq (tgt := 96) hx hb dX7_figures_75 (by decide) (fun c19 => ?_) (fun c19 => absurd (by decide) c19)
        refine lv_iconst (v := (-1)) hx hb dX7_figures_96 (by decide) ?_
        have e20 := p_X7_figures_e20 M x1 x2 x3 x4 c11 c13 c17 r18 hr18.symm
        exact b_iret hx hb hr hlocks hS ⟨_, rfl, _, ⟨(congrArg Prod.fst e20).symm, (congrArg Prod.snd e20).symm⟩, hB⟩ dX7_figures_97
      · refine lv_aload_n hx hb dX7_figures_37 rfl (lv_at hl 2 rfl) ?_
        refine b_get (D := D) (E := E) (L := LRR) (o := o) (M := M) (v := .ref (o + 1)) (C := RX7) (T := TX7) (N := 13) hx hb hts hinX7 hown hK.1 hB 0 lay_m0 rfl 1 (by decide) (hts (.fieldLink RX7 7 "RiverMeetingModel" "text" "[I") (List.mem_of_getElem? (i := 3) rfl)) (fun _ h9 => h9) rfl dX7_figures_38 ?_
        refine lv_aload_n hx hb dX7_figures_41 rfl (lv_at hl 2 rfl) ?_
        refine b_get (D := D) (E := E) (L := LRR) (o := o) (M := M) (v := .int (M 0 11)) (C := RX7) (T := TX7) (N := 13) hx hb hts hinX7 hown hK.1 hB 0 lay_m0 rfl 11 (by decide) (hts (.fieldLink RX7 141 "RiverMeetingModel" "spot" "I") (List.mem_of_getElem? (i := 1) rfl)) (fun _ h9 => h9) rfl dX7_figures_42 ?_
        refine b_iald hx hb hK.1 hB 1 lay_m1 (tx_in ht c17) dX7_figures_45 ?_
        refine lv_bipush (v := 48) hx hb dX7_figures_46 (by decide) ?_
        refine lv_isub hx hb dX7_figures_48 ?_
        refine lv_goto (tgt := 53) hx hb dX7_figures_49 (by decide) ?_
        refine lv_topi (fun x21 hx21 => ?_)
        refine lv_istore (lv' := [(7, .int x21), (6, .int 1), (5, .int 0), (0, .ref (o + 0)), (1, .int x1), (2, .int x2), (3, .int x3), (4, .int x4)]) hx hb dX7_figures_53 hl (by decide) rfl (fun ls hl => ?_)
        refine lv_iload hx hb dX7_figures_55 (lv_at hl 2 rfl) ?_
        refine lv_iload hx hb dX7_figures_57 (lv_at hl 0 rfl) ?_
        refine lv_iload hx hb dX7_figures_59 (lv_at hl 1 rfl) ?_
        refine lv_imul hx hb dX7_figures_61 ?_
        refine lv_iadd hx hb dX7_figures_62 ?_
        refine lv_topi (fun x22 hx22 => ?_)
        refine lv_istore (lv' := [(8, .int x22), (7, .int x21), (6, .int 1), (5, .int 0), (0, .ref (o + 0)), (1, .int x1), (2, .int x2), (3, .int x3), (4, .int x4)]) hx hb dX7_figures_63 hl (by decide) rfl (fun ls hl => ?_)
        refine lv_iload hx hb dX7_figures_65 (lv_at hl 1 rfl) ?_
        refine lv_i2l hx hb dX7_figures_67 rfl ?_
        refine lv_lconst (v := 0) hx hb dX7_figures_68 (by decide) ?_
        refine lv_ldc2 (v := 9) hx hb hown (hts (.constantLong RX7 63 (9)) (List.mem_of_getElem? (i := 4) rfl)) dX7_figures_69 ?_
        refine b_pI (b_runS (As := [.long x21.toInt64, .long 0, .long 9]) (rest := []) ⟨hx, hb, hml, hown, hts⟩ (c_X7_in l D E x21.toInt64 0 9) (va_cwS 3 hts gX7_figures_X7_in rfl rfl rfl (by decide +kernel) ⟨Nat.le_of_ble_eq_true rfl, Nat.le_of_ble_eq_true rfl⟩) hK trivial rfl hl rfl (Nat.le_of_ble_eq_true rfl) dX7_figures_72 ⟨Nat.zero_le _, Nat.zero_le _⟩) hS (fun r23 hr23 locs hS => ?_)
        refine lv_if_eq (tgt := 96) hx hb dX7_figures_75 (by decide) (fun c24 => ?_) (fun c24 => ?_)
        · refine lv_iconst (v := (-1)) hx hb dX7_figures_96 (by decide) ?_
          have e25 := p_X7_figures_e25 M x1 x2 x3 x4 c11 c13 c17 x21 hx21.symm x22 hx22.symm r23 hr23.symm c24
          exact b_iret hx hb hr hlocks hS ⟨_, rfl, _, ⟨(congrArg Prod.fst e25).symm, (congrArg Prod.snd e25).symm⟩, hB⟩ dX7_figures_97
        · refine lv_iload hx hb dX7_figures_78 (lv_at hl 0 rfl) ?_
          refine lv_iload hx hb dX7_figures_80 (lv_at hl 8 rfl) ?_
          refine lv_icmp_gt (tgt := 96) hx hb dX7_figures_82 (by decide) (fun c26 => ?_) (fun c26 => ?_)
          · refine lv_iconst (v := (-1)) hx hb dX7_figures_96 (by decide) ?_
            have e27 := p_X7_figures_e27 M x1 x2 x3 x4 c11 c13 c17 x21 hx21.symm x22 hx22.symm r23 hr23.symm c24 c26
            exact b_iret hx hb hr hlocks hS ⟨_, rfl, _, ⟨(congrArg Prod.fst e27).symm, (congrArg Prod.snd e27).symm⟩, hB⟩ dX7_figures_97
          · refine lv_iload hx hb dX7_figures_85 (lv_at hl 0 rfl) ?_
            refine lv_iload hx hb dX7_figures_87 (lv_at hl 2 rfl) ?_
            refine lv_iadd hx hb dX7_figures_89 ?_
            refine lv_iconst (v := 1) hx hb dX7_figures_90 (by decide) ?_
            refine lv_isub hx hb dX7_figures_91 ?_
            refine lv_iload_n hx hb dX7_figures_92 rfl (lv_at hl 7 rfl) ?_
            refine lv_icmp_ge (tgt := 98) hx hb dX7_figures_93 (by decide) (fun c28 => ?_) (fun c28 => ?_)
            · refine lv_iload hx hb dX7_figures_98 (lv_at hl 0 rfl) ?_
              refine lv_istore (lv' := [(5, .int x22), (8, .int x22), (7, .int x21), (6, .int 1), (0, .ref (o + 0)), (1, .int x1), (2, .int x2), (3, .int x3), (4, .int x4)]) hx hb dX7_figures_100 hl (by decide) rfl (fun ls hl => ?_)
              refine lv_aload_n hx hb dX7_figures_102 rfl (lv_at hl 4 rfl) ?_
              refine lv_dup hx hb dX7_figures_103 rfl ?_
              refine b_get (D := D) (E := E) (L := LRR) (o := o) (M := M) (v := .int (M 0 11)) (C := RX7) (T := TX7) (N := 13) hx hb hts hinX7 hown hK.1 hB 0 lay_m0 rfl 11 (by decide) (hts (.fieldLink RX7 141 "RiverMeetingModel" "spot" "I") (List.mem_of_getElem? (i := 1) rfl)) (fun _ h9 => h9) rfl dX7_figures_104 ?_
              refine lv_iconst (v := 1) hx hb dX7_figures_107 (by decide) ?_
              refine lv_iadd hx hb dX7_figures_108 ?_
              refine b_put (D := D) (E := E) (L := LRR) (o := o) (M := M) (v := ((M 0 11) + 1)) (ty := .int) (C := RX7) (T := TX7) (N := 13) hx hb hts hinX7 tyX7 tyX7_ok nmX7 hown hK.1 hB hS 0 (rB_of lay_m0) lay_m0 rfl 11 (by decide) rfl (hts (.fieldLink RX7 141 "RiverMeetingModel" "spot" "I") (List.mem_of_getElem? (i := 1) rfl)) (fun _ h9 => h9) rfl (by decide +kernel) rfl rfl dX7_figures_109 (fun M29 hM29 H locs hB _ hS => ?_)
              refine lv_iload hx hb dX7_figures_112 (lv_at hl 3 rfl) ?_
              refine lv_bipush (v := 10) hx hb dX7_figures_114 (by decide) ?_
              refine lv_idiv hx hb dX7_figures_116 (by decide) ?_
              refine lv_const (y := 0) (by decide) ?_
              refine lv_istore (lv' := [(6, .int 0), (5, .int x22), (8, .int x22), (7, .int x21), (0, .ref (o + 0)), (1, .int x1), (2, .int x2), (3, .int x3), (4, .int x4)]) hx hb dX7_figures_117 hl (by decide) rfl (fun ls hl => ?_)
              refine lv_goto (tgt := 16) hx hb dX7_figures_119 (by decide) ?_
              refine lv_iload hx hb dX7_figures_16 (lv_at hl 0 rfl) ?_
              refine lv_if_le (tgt := 122) hx hb dX7_figures_18 (by decide) (fun c30 => ?_) (fun c30 => absurd (by decide) c30)
              refine lv_iload_n hx hb dX7_figures_122 rfl (lv_at hl 5 rfl) ?_
              refine lv_iconst (v := (-1)) hx hb dX7_figures_123 (by decide) ?_
              refine lv_icmp_ne (tgt := 131) hx hb dX7_figures_124 (by decide) (fun c31 => ?_) (fun c31 => ?_)
              · refine lv_iload hx hb dX7_figures_131 (lv_at hl 1 rfl) ?_
                have e32 := p_X7_figures_e32 M x1 x2 x3 x4 c11 c13 c17 x21 hx21.symm x22 hx22.symm r23 hr23.symm c24 c26 c28 M29 hM29.symm c31
                exact b_iret hx hb hr hlocks hS ⟨_, rfl, _, ⟨(congrArg Prod.fst e32).symm, (congrArg Prod.snd e32).symm⟩, hB⟩ dX7_figures_133
              · refine lv_iconst (v := (-1)) hx hb dX7_figures_127 (by decide) ?_
                refine lv_goto (tgt := 133) hx hb dX7_figures_128 (by decide) ?_
                have e33 := p_X7_figures_e33 M x1 x2 x3 x4 c11 c13 c17 x21 hx21.symm x22 hx22.symm r23 hr23.symm c24 c26 c28 M29 hM29.symm c31
                exact b_iret hx hb hr hlocks hS ⟨_, rfl, _, ⟨(congrArg Prod.fst e33).symm, (congrArg Prod.snd e33).symm⟩, hB⟩ dX7_figures_133
            · refine lv_iconst (v := (-1)) hx hb dX7_figures_96 (by decide) ?_
              have e34 := p_X7_figures_e34 M x1 x2 x3 x4 c11 c13 c17 x21 hx21.symm x22 hx22.symm r23 hr23.symm c24 c26 c28
              exact b_iret hx hb hr hlocks hS ⟨_, rfl, _, ⟨(congrArg Prod.fst e34).symm, (congrArg Prod.snd e34).symm⟩, hB⟩ dX7_figures_97
  · refine lv_bipush (v := 10) hx hb dX7_figures_8 (by decide) ?_
    refine lv_goto (tgt := 14) hx hb dX7_figures_10 (by decide) ?_
    refine lv_istore (lv' := [(6, .int 10), (5, .int 0), (0, .ref (o + 0)), (1, .int x1), (2, .int x2), (3, .int x3), (4, .int x4)]) hx hb dX7_figures_14 hl (by decide) rfl (fun ls hl => ?_)
    refine lv_iload hx hb dX7_figures_16 (lv_at hl 0 rfl) ?_
    refine lv_if_le (tgt := 122) hx hb dX7_figures_18 (by decide) (fun c35 => absurd c35 (by decide)) (fun c35 => ?_)
    refine lv_iload_n hx hb dX7_figures_21 rfl (lv_at hl 3 rfl) ?_
    refine lv_iconst (v := (-1)) hx hb dX7_figures_22 (by decide) ?_
    refine lv_icmp_eq (tgt := 122) hx hb dX7_figures_23 (by decide) (fun c36 => ?_) (fun c36 => ?_)
    · refine lv_iload_n hx hb dX7_figures_122 rfl (lv_at hl 3 rfl) ?_
      refine lv_iconst (v := (-1)) hx hb dX7_figures_123 (by decide) ?_
      refine lv_icmp_ne (tgt := 131) hx hb dX7_figures_124 (by decide) (fun c37 => ?_) (fun c37 => ?_)
      · refine lv_iload hx hb dX7_figures_131 (lv_at hl 1 rfl) ?_
        have e38 := p_X7_figures_e38 M x1 x2 x3 x4 c11 c36 c37
        exact b_iret hx hb hr hlocks hS ⟨_, rfl, _, ⟨(congrArg Prod.fst e38).symm, (congrArg Prod.snd e38).symm⟩, hB⟩ dX7_figures_133
      · refine lv_iconst (v := (-1)) hx hb dX7_figures_127 (by decide) ?_
        refine lv_goto (tgt := 133) hx hb dX7_figures_128 (by decide) ?_
        have e39 := p_X7_figures_e39 M x1 x2 x3 x4 c11 c36 c37
        exact b_iret hx hb hr hlocks hS ⟨_, rfl, _, ⟨(congrArg Prod.fst e39).symm, (congrArg Prod.snd e39).symm⟩, hB⟩ dX7_figures_133
    · refine lv_aload_n hx hb dX7_figures_26 rfl (lv_at hl 2 rfl) ?_
      refine b_get (D := D) (E := E) (L := LRR) (o := o) (M := M) (v := .int (M 0 11)) (C := RX7) (T := TX7) (N := 13) hx hb hts hinX7 hown hK.1 hB 0 lay_m0 rfl 11 (by decide) (hts (.fieldLink RX7 141 "RiverMeetingModel" "spot" "I") (List.mem_of_getElem? (i := 1) rfl)) (fun _ h9 => h9) rfl dX7_figures_27 ?_
      refine lv_aload_n hx hb dX7_figures_30 rfl (lv_at hl 2 rfl) ?_
      refine b_get (D := D) (E := E) (L := LRR) (o := o) (M := M) (v := .int (M 0 2)) (C := RX7) (T := TX7) (N := 13) hx hb hts hinX7 hown hK.1 hB 0 lay_m0 rfl 2 (by decide) (hts (.fieldLink RX7 134 "RiverMeetingModel" "size" "I") (List.mem_of_getElem? (i := 2) rfl)) (fun _ h9 => h9) rfl dX7_figures_31 ?_
      refine lv_icmp_ge (tgt := 52) hx hb dX7_figures_34 (by decide) (fun c40 => ?_) (fun c40 => ?_)
      · refine lv_iconst (v := (-1)) hx hb dX7_figures_52 (by decide) ?_
        refine lv_istore (lv' := [(7, .int (-1)), (6, .int 10), (5, .int 0), (0, .ref (o + 0)), (1, .int x1), (2, .int x2), (3, .int x3), (4, .int x4)]) hx hb dX7_figures_53 hl (by decide) rfl (fun ls hl => ?_)
        refine lv_iload hx hb dX7_figures_55 (lv_at hl 2 rfl) ?_
        refine lv_iload hx hb dX7_figures_57 (lv_at hl 0 rfl) ?_
        refine lv_iload hx hb dX7_figures_59 (lv_at hl 1 rfl) ?_
        refine lv_imul hx hb dX7_figures_61 ?_
        refine lv_const (y := (-10)) (by decide) ?_
        refine lv_iadd hx hb dX7_figures_62 ?_
        refine lv_const (y := (-10)) (by decide) ?_
        refine lv_istore (lv' := [(8, .int (-10)), (7, .int (-1)), (6, .int 10), (5, .int 0), (0, .ref (o + 0)), (1, .int x1), (2, .int x2), (3, .int x3), (4, .int x4)]) hx hb dX7_figures_63 hl (by decide) rfl (fun ls hl => ?_)
        refine lv_iload hx hb dX7_figures_65 (lv_at hl 1 rfl) ?_
        refine lv_i2l hx hb dX7_figures_67 rfl ?_
        refine lv_lconst (v := 0) hx hb dX7_figures_68 (by decide) ?_
        refine lv_ldc2 (v := 9) hx hb hown (hts (.constantLong RX7 63 (9)) (List.mem_of_getElem? (i := 4) rfl)) dX7_figures_69 ?_
        refine b_pI (b_runS (As := [.long (((-1) : Int32).toInt64), .long 0, .long 9]) (rest := []) ⟨hx, hb, hml, hown, hts⟩ (c_X7_in l D E (((-1) : Int32).toInt64) 0 9) (va_cwS 3 hts gX7_figures_X7_in rfl rfl rfl (by decide +kernel) ⟨Nat.le_of_ble_eq_true rfl, Nat.le_of_ble_eq_true rfl⟩) hK trivial rfl hl rfl (Nat.le_of_ble_eq_true rfl) dX7_figures_72 ⟨Nat.zero_le _, Nat.zero_le _⟩) hS (fun r41 hr41 locs hS => ?_)
        have hkr41 : r41 = 0 := by rw [hr41]; decide
        refine lv_const (y := 0) hkr41 ?_
        refine lv_if_eq (tgt := 96) hx hb dX7_figures_75 (by decide) (fun c42 => ?_) (fun c42 => absurd (by decide) c42)
        refine lv_iconst (v := (-1)) hx hb dX7_figures_96 (by decide) ?_
        have e43 := p_X7_figures_e43 M x1 x2 x3 x4 c11 c36 c40 r41 hr41.symm
        exact b_iret hx hb hr hlocks hS ⟨_, rfl, _, ⟨(congrArg Prod.fst e43).symm, (congrArg Prod.snd e43).symm⟩, hB⟩ dX7_figures_97
      · refine lv_aload_n hx hb dX7_figures_37 rfl (lv_at hl 2 rfl) ?_
        refine b_get (D := D) (E := E) (L := LRR) (o := o) (M := M) (v := .ref (o + 1)) (C := RX7) (T := TX7) (N := 13) hx hb hts hinX7 hown hK.1 hB 0 lay_m0 rfl 1 (by decide) (hts (.fieldLink RX7 7 "RiverMeetingModel" "text" "[I") (List.mem_of_getElem? (i := 3) rfl)) (fun _ h9 => h9) rfl dX7_figures_38 ?_
        refine lv_aload_n hx hb dX7_figures_41 rfl (lv_at hl 2 rfl) ?_
        refine b_get (D := D) (E := E) (L := LRR) (o := o) (M := M) (v := .int (M 0 11)) (C := RX7) (T := TX7) (N := 13) hx hb hts hinX7 hown hK.1 hB 0 lay_m0 rfl 11 (by decide) (hts (.fieldLink RX7 141 "RiverMeetingModel" "spot" "I") (List.mem_of_getElem? (i := 1) rfl)) (fun _ h9 => h9) rfl dX7_figures_42 ?_
        refine b_iald hx hb hK.1 hB 1 lay_m1 (tx_in ht c40) dX7_figures_45 ?_
        refine lv_bipush (v := 48) hx hb dX7_figures_46 (by decide) ?_
        refine lv_isub hx hb dX7_figures_48 ?_
        refine lv_goto (tgt := 53) hx hb dX7_figures_49 (by decide) ?_
        refine lv_topi (fun x44 hx44 => ?_)
        refine lv_istore (lv' := [(7, .int x44), (6, .int 10), (5, .int 0), (0, .ref (o + 0)), (1, .int x1), (2, .int x2), (3, .int x3), (4, .int x4)]) hx hb dX7_figures_53 hl (by decide) rfl (fun ls hl => ?_)
        refine lv_iload hx hb dX7_figures_55 (lv_at hl 2 rfl) ?_
        refine lv_iload hx hb dX7_figures_57 (lv_at hl 0 rfl) ?_
        refine lv_iload hx hb dX7_figures_59 (lv_at hl 1 rfl) ?_
        refine lv_imul hx hb dX7_figures_61 ?_
        refine lv_iadd hx hb dX7_figures_62 ?_
        refine lv_topi (fun x45 hx45 => ?_)
        refine lv_istore (lv' := [(8, .int x45), (7, .int x44), (6, .int 10), (5, .int 0), (0, .ref (o + 0)), (1, .int x1), (2, .int x2), (3, .int x3), (4, .int x4)]) hx hb dX7_figures_63 hl (by decide) rfl (fun ls hl => ?_)
        refine lv_iload hx hb dX7_figures_65 (lv_at hl 1 rfl) ?_
        refine lv_i2l hx hb dX7_figures_67 rfl ?_
        refine lv_lconst (v := 0) hx hb dX7_figures_68 (by decide) ?_
        refine lv_ldc2 (v := 9) hx hb hown (hts (.constantLong RX7 63 (9)) (List.mem_of_getElem? (i := 4) rfl)) dX7_figures_69 ?_
        refine b_pI (b_runS (As := [.long x44.toInt64, .long 0, .long 9]) (rest := []) ⟨hx, hb, hml, hown, hts⟩ (c_X7_in l D E x44.toInt64 0 9) (va_cwS 3 hts gX7_figures_X7_in rfl rfl rfl (by decide +kernel) ⟨Nat.le_of_ble_eq_true rfl, Nat.le_of_ble_eq_true rfl⟩) hK trivial rfl hl rfl (Nat.le_of_ble_eq_true rfl) dX7_figures_72 ⟨Nat.zero_le _, Nat.zero_le _⟩) hS (fun r46 hr46 locs hS => ?_)
        refine lv_if_eq (tgt := 96) hx hb dX7_figures_75 (by decide) (fun c47 => ?_) (fun c47 => ?_)
        · refine lv_iconst (v := (-1)) hx hb dX7_figures_96 (by decide) ?_
          have e48 := p_X7_figures_e48 M x1 x2 x3 x4 c11 c36 c40 x44 hx44.symm x45 hx45.symm r46 hr46.symm c47
          exact b_iret hx hb hr hlocks hS ⟨_, rfl, _, ⟨(congrArg Prod.fst e48).symm, (congrArg Prod.snd e48).symm⟩, hB⟩ dX7_figures_97
        · refine lv_iload hx hb dX7_figures_78 (lv_at hl 0 rfl) ?_
          refine lv_iload hx hb dX7_figures_80 (lv_at hl 8 rfl) ?_
          refine lv_icmp_gt (tgt := 96) hx hb dX7_figures_82 (by decide) (fun c49 => ?_) (fun c49 => ?_)
          · refine lv_iconst (v := (-1)) hx hb dX7_figures_96 (by decide) ?_
            have e50 := p_X7_figures_e50 M x1 x2 x3 x4 c11 c36 c40 x44 hx44.symm x45 hx45.symm r46 hr46.symm c47 c49
            exact b_iret hx hb hr hlocks hS ⟨_, rfl, _, ⟨(congrArg Prod.fst e50).symm, (congrArg Prod.snd e50).symm⟩, hB⟩ dX7_figures_97
          · refine lv_iload hx hb dX7_figures_85 (lv_at hl 0 rfl) ?_
            refine lv_iload hx hb dX7_figures_87 (lv_at hl 2 rfl) ?_
            refine lv_iadd hx hb dX7_figures_89 ?_
            refine lv_iconst (v := 1) hx hb dX7_figures_90 (by decide) ?_
            refine lv_isub hx hb dX7_figures_91 ?_
            refine lv_iload_n hx hb dX7_figures_92 rfl (lv_at hl 7 rfl) ?_
            refine lv_icmp_ge (tgt := 98) hx hb dX7_figures_93 (by decide) (fun c51 => ?_) (fun c51 => ?_)
            · refine lv_iload hx hb dX7_figures_98 (lv_at hl 0 rfl) ?_
              refine lv_istore (lv' := [(5, .int x45), (8, .int x45), (7, .int x44), (6, .int 10), (0, .ref (o + 0)), (1, .int x1), (2, .int x2), (3, .int x3), (4, .int x4)]) hx hb dX7_figures_100 hl (by decide) rfl (fun ls hl => ?_)
              refine lv_aload_n hx hb dX7_figures_102 rfl (lv_at hl 4 rfl) ?_
              refine lv_dup hx hb dX7_figures_103 rfl ?_
              refine b_get (D := D) (E := E) (L := LRR) (o := o) (M := M) (v := .int (M 0 11)) (C := RX7) (T := TX7) (N := 13) hx hb hts hinX7 hown hK.1 hB 0 lay_m0 rfl 11 (by decide) (hts (.fieldLink RX7 141 "RiverMeetingModel" "spot" "I") (List.mem_of_getElem? (i := 1) rfl)) (fun _ h9 => h9) rfl dX7_figures_104 ?_
              refine lv_iconst (v := 1) hx hb dX7_figures_107 (by decide) ?_
              refine lv_iadd hx hb dX7_figures_108 ?_
              refine b_put (D := D) (E := E) (L := LRR) (o := o) (M := M) (v := ((M 0 11) + 1)) (ty := .int) (C := RX7) (T := TX7) (N := 13) hx hb hts hinX7 tyX7 tyX7_ok nmX7 hown hK.1 hB hS 0 (rB_of lay_m0) lay_m0 rfl 11 (by decide) rfl (hts (.fieldLink RX7 141 "RiverMeetingModel" "spot" "I") (List.mem_of_getElem? (i := 1) rfl)) (fun _ h9 => h9) rfl (by decide +kernel) rfl rfl dX7_figures_109 (fun M52 hM52 H locs hB _ hS => ?_)
              refine lv_iload hx hb dX7_figures_112 (lv_at hl 3 rfl) ?_
              refine lv_bipush (v := 10) hx hb dX7_figures_114 (by decide) ?_
              refine lv_idiv hx hb dX7_figures_116 (by decide) ?_
              refine lv_const (y := 1) (by decide) ?_
              refine lv_istore (lv' := [(6, .int 1), (5, .int x45), (8, .int x45), (7, .int x44), (0, .ref (o + 0)), (1, .int x1), (2, .int x2), (3, .int x3), (4, .int x4)]) hx hb dX7_figures_117 hl (by decide) rfl (fun ls hl => ?_)
              refine lv_goto (tgt := 16) hx hb dX7_figures_119 (by decide) ?_
              refine lv_iload hx hb dX7_figures_16 (lv_at hl 0 rfl) ?_
              refine lv_if_le (tgt := 122) hx hb dX7_figures_18 (by decide) (fun c53 => absurd c53 (by decide)) (fun c53 => ?_)
              refine lv_iload_n hx hb dX7_figures_21 rfl (lv_at hl 5 rfl) ?_
              refine lv_iconst (v := (-1)) hx hb dX7_figures_22 (by decide) ?_
              refine lv_icmp_eq (tgt := 122) hx hb dX7_figures_23 (by decide) (fun c54 => ?_) (fun c54 => ?_)
              · refine lv_iload_n hx hb dX7_figures_122 rfl (lv_at hl 5 rfl) ?_
                refine lv_iconst (v := (-1)) hx hb dX7_figures_123 (by decide) ?_
                refine lv_icmp_ne (tgt := 131) hx hb dX7_figures_124 (by decide) (fun c55 => ?_) (fun c55 => ?_)
                · refine lv_iload hx hb dX7_figures_131 (lv_at hl 1 rfl) ?_
                  have e56 := p_X7_figures_e56 M x1 x2 x3 x4 c11 c36 c40 x44 hx44.symm x45 hx45.symm r46 hr46.symm c47 c49 c51 M52 hM52.symm c54 c55
                  exact b_iret hx hb hr hlocks hS ⟨_, rfl, _, ⟨(congrArg Prod.fst e56).symm, (congrArg Prod.snd e56).symm⟩, hB⟩ dX7_figures_133
                · refine lv_iconst (v := (-1)) hx hb dX7_figures_127 (by decide) ?_
                  refine lv_goto (tgt := 133) hx hb dX7_figures_128 (by decide) ?_
                  have e57 := p_X7_figures_e57 M x1 x2 x3 x4 c11 c36 c40 x44 hx44.symm x45 hx45.symm r46 hr46.symm c47 c49 c51 M52 hM52.symm c54 c55
                  exact b_iret hx hb hr hlocks hS ⟨_, rfl, _, ⟨(congrArg Prod.fst e57).symm, (congrArg Prod.snd e57).symm⟩, hB⟩ dX7_figures_133
              · refine lv_aload_n hx hb dX7_figures_26 rfl (lv_at hl 4 rfl) ?_
                refine b_get (D := D) (E := E) (L := LRR) (o := o) (M := M52) (v := .int (M52 0 11)) (C := RX7) (T := TX7) (N := 13) hx hb hts hinX7 hown hK.1 hB 0 lay_m0 rfl 11 (by decide) (hts (.fieldLink RX7 141 "RiverMeetingModel" "spot" "I") (List.mem_of_getElem? (i := 1) rfl)) (fun _ h9 => h9) rfl dX7_figures_27 ?_
                refine lv_aload_n hx hb dX7_figures_30 rfl (lv_at hl 4 rfl) ?_
                refine b_get (D := D) (E := E) (L := LRR) (o := o) (M := M52) (v := .int (M52 0 2)) (C := RX7) (T := TX7) (N := 13) hx hb hts hinX7 hown hK.1 hB 0 lay_m0 rfl 2 (by decide) (hts (.fieldLink RX7 134 "RiverMeetingModel" "size" "I") (List.mem_of_getElem? (i := 2) rfl)) (fun _ h9 => h9) rfl dX7_figures_31 ?_
                refine lv_icmp_ge (tgt := 52) hx hb dX7_figures_34 (by decide) (fun c58 => ?_) (fun c58 => ?_)
                · refine lv_iconst (v := (-1)) hx hb dX7_figures_52 (by decide) ?_
                  refine lv_istore (lv' := [(7, .int (-1)), (6, .int 1), (5, .int x45), (8, .int x45), (0, .ref (o + 0)), (1, .int x1), (2, .int x2), (3, .int x3), (4, .int x4)]) hx hb dX7_figures_53 hl (by decide) rfl (fun ls hl => ?_)
                  refine lv_iload hx hb dX7_figures_55 (lv_at hl 2 rfl) ?_
                  refine lv_iload hx hb dX7_figures_57 (lv_at hl 0 rfl) ?_
                  refine lv_iload hx hb dX7_figures_59 (lv_at hl 1 rfl) ?_
                  refine lv_imul hx hb dX7_figures_61 ?_
                  refine lv_const (y := (-1)) (by decide) ?_
                  refine lv_iadd hx hb dX7_figures_62 ?_
                  refine lv_topi (fun x59 hx59 => ?_)
                  refine lv_istore (lv' := [(8, .int x59), (7, .int (-1)), (6, .int 1), (5, .int x45), (0, .ref (o + 0)), (1, .int x1), (2, .int x2), (3, .int x3), (4, .int x4)]) hx hb dX7_figures_63 hl (by decide) rfl (fun ls hl => ?_)
                  refine lv_iload hx hb dX7_figures_65 (lv_at hl 1 rfl) ?_
                  refine lv_i2l hx hb dX7_figures_67 rfl ?_
                  refine lv_lconst (v := 0) hx hb dX7_figures_68 (by decide) ?_
                  refine lv_ldc2 (v := 9) hx hb hown (hts (.constantLong RX7 63 (9)) (List.mem_of_getElem? (i := 4) rfl)) dX7_figures_69 ?_
                  refine b_pI (b_runS (As := [.long (((-1) : Int32).toInt64), .long 0, .long 9]) (rest := []) ⟨hx, hb, hml, hown, hts⟩ (c_X7_in l D E (((-1) : Int32).toInt64) 0 9) (va_cwS 3 hts gX7_figures_X7_in rfl rfl rfl (by decide +kernel) ⟨Nat.le_of_ble_eq_true rfl, Nat.le_of_ble_eq_true rfl⟩) hK trivial rfl hl rfl (Nat.le_of_ble_eq_true rfl) dX7_figures_72 ⟨Nat.zero_le _, Nat.zero_le _⟩) hS (fun r60 hr60 locs hS => ?_)
                  have hkr60 : r60 = 0 := by rw [hr60]; decide
                  refine lv_const (y := 0) hkr60 ?_
                  refine lv_if_eq (tgt := 96) hx hb dX7_figures_75 (by decide) (fun c61 => ?_) (fun c61 => absurd (by decide) c61)
                  refine lv_iconst (v := (-1)) hx hb dX7_figures_96 (by decide) ?_
                  have e62 := p_X7_figures_e62 M x1 x2 x3 x4 c11 c36 c40 x44 hx44.symm x45 hx45.symm r46 hr46.symm c47 c49 c51 M52 hM52.symm c54 c58 x59 hx59.symm r60 hr60.symm
                  exact b_iret hx hb hr hlocks hS ⟨_, rfl, _, ⟨(congrArg Prod.fst e62).symm, (congrArg Prod.snd e62).symm⟩, hB⟩ dX7_figures_97
                · refine lv_aload_n hx hb dX7_figures_37 rfl (lv_at hl 4 rfl) ?_
                  refine b_get (D := D) (E := E) (L := LRR) (o := o) (M := M52) (v := .ref (o + 1)) (C := RX7) (T := TX7) (N := 13) hx hb hts hinX7 hown hK.1 hB 0 lay_m0 rfl 1 (by decide) (hts (.fieldLink RX7 7 "RiverMeetingModel" "text" "[I") (List.mem_of_getElem? (i := 3) rfl)) (fun _ h9 => h9) rfl dX7_figures_38 ?_
                  refine lv_aload_n hx hb dX7_figures_41 rfl (lv_at hl 4 rfl) ?_
                  refine b_get (D := D) (E := E) (L := LRR) (o := o) (M := M52) (v := .int (M52 0 11)) (C := RX7) (T := TX7) (N := 13) hx hb hts hinX7 hown hK.1 hB 0 lay_m0 rfl 11 (by decide) (hts (.fieldLink RX7 141 "RiverMeetingModel" "spot" "I") (List.mem_of_getElem? (i := 1) rfl)) (fun _ h9 => h9) rfl dX7_figures_42 ?_
                  refine b_iald hx hb hK.1 hB 1 lay_m1 (tx_in (by rw [hM52]; exact tx_up ht c40) c58) dX7_figures_45 ?_
                  refine lv_bipush (v := 48) hx hb dX7_figures_46 (by decide) ?_
                  refine lv_isub hx hb dX7_figures_48 ?_
                  refine lv_goto (tgt := 53) hx hb dX7_figures_49 (by decide) ?_
                  refine lv_topi (fun x63 hx63 => ?_)
                  refine lv_istore (lv' := [(7, .int x63), (6, .int 1), (5, .int x45), (8, .int x45), (0, .ref (o + 0)), (1, .int x1), (2, .int x2), (3, .int x3), (4, .int x4)]) hx hb dX7_figures_53 hl (by decide) rfl (fun ls hl => ?_)
                  refine lv_iload hx hb dX7_figures_55 (lv_at hl 2 rfl) ?_
                  refine lv_iload hx hb dX7_figures_57 (lv_at hl 0 rfl) ?_
                  refine lv_iload hx hb dX7_figures_59 (lv_at hl 1 rfl) ?_
                  refine lv_imul hx hb dX7_figures_61 ?_
                  refine lv_iadd hx hb dX7_figures_62 ?_
                  refine lv_topi (fun x64 hx64 => ?_)
                  refine lv_istore (lv' := [(8, .int x64), (7, .int x63), (6, .int 1), (5, .int x45), (0, .ref (o + 0)), (1, .int x1), (2, .int x2), (3, .int x3), (4, .int x4)]) hx hb dX7_figures_63 hl (by decide) rfl (fun ls hl => ?_)
                  refine lv_iload hx hb dX7_figures_65 (lv_at hl 1 rfl) ?_
                  refine lv_i2l hx hb dX7_figures_67 rfl ?_
                  refine lv_lconst (v := 0) hx hb dX7_figures_68 (by decide) ?_
                  refine lv_ldc2 (v := 9) hx hb hown (hts (.constantLong RX7 63 (9)) (List.mem_of_getElem? (i := 4) rfl)) dX7_figures_69 ?_
                  refine b_pI (b_runS (As := [.long x63.toInt64, .long 0, .long 9]) (rest := []) ⟨hx, hb, hml, hown, hts⟩ (c_X7_in l D E x63.toInt64 0 9) (va_cwS 3 hts gX7_figures_X7_in rfl rfl rfl (by decide +kernel) ⟨Nat.le_of_ble_eq_true rfl, Nat.le_of_ble_eq_true rfl⟩) hK trivial rfl hl rfl (Nat.le_of_ble_eq_true rfl) dX7_figures_72 ⟨Nat.zero_le _, Nat.zero_le _⟩) hS (fun r65 hr65 locs hS => ?_)
                  refine lv_if_eq (tgt := 96) hx hb dX7_figures_75 (by decide) (fun c66 => ?_) (fun c66 => ?_)
                  · refine lv_iconst (v := (-1)) hx hb dX7_figures_96 (by decide) ?_
                    have e67 := p_X7_figures_e67 M x1 x2 x3 x4 c11 c36 c40 x44 hx44.symm x45 hx45.symm r46 hr46.symm c47 c49 c51 M52 hM52.symm c54 c58 x63 hx63.symm x64 hx64.symm r65 hr65.symm c66
                    exact b_iret hx hb hr hlocks hS ⟨_, rfl, _, ⟨(congrArg Prod.fst e67).symm, (congrArg Prod.snd e67).symm⟩, hB⟩ dX7_figures_97
                  · refine lv_iload hx hb dX7_figures_78 (lv_at hl 0 rfl) ?_
                    refine lv_iload hx hb dX7_figures_80 (lv_at hl 8 rfl) ?_
                    refine lv_icmp_gt (tgt := 96) hx hb dX7_figures_82 (by decide) (fun c68 => ?_) (fun c68 => ?_)
                    · refine lv_iconst (v := (-1)) hx hb dX7_figures_96 (by decide) ?_
                      have e69 := p_X7_figures_e69 M x1 x2 x3 x4 c11 c36 c40 x44 hx44.symm x45 hx45.symm r46 hr46.symm c47 c49 c51 M52 hM52.symm c54 c58 x63 hx63.symm x64 hx64.symm r65 hr65.symm c66 c68
                      exact b_iret hx hb hr hlocks hS ⟨_, rfl, _, ⟨(congrArg Prod.fst e69).symm, (congrArg Prod.snd e69).symm⟩, hB⟩ dX7_figures_97
                    · refine lv_iload hx hb dX7_figures_85 (lv_at hl 0 rfl) ?_
                      refine lv_iload hx hb dX7_figures_87 (lv_at hl 2 rfl) ?_
                      refine lv_iadd hx hb dX7_figures_89 ?_
                      refine lv_iconst (v := 1) hx hb dX7_figures_90 (by decide) ?_
                      refine lv_isub hx hb dX7_figures_91 ?_
                      refine lv_iload_n hx hb dX7_figures_92 rfl (lv_at hl 7 rfl) ?_
                      refine lv_icmp_ge (tgt := 98) hx hb dX7_figures_93 (by decide) (fun c70 => ?_) (fun c70 => ?_)
                      · refine lv_iload hx hb dX7_figures_98 (lv_at hl 0 rfl) ?_
                        refine lv_istore (lv' := [(5, .int x64), (8, .int x64), (7, .int x63), (6, .int 1), (0, .ref (o + 0)), (1, .int x1), (2, .int x2), (3, .int x3), (4, .int x4)]) hx hb dX7_figures_100 hl (by decide) rfl (fun ls hl => ?_)
                        refine lv_aload_n hx hb dX7_figures_102 rfl (lv_at hl 4 rfl) ?_
                        refine lv_dup hx hb dX7_figures_103 rfl ?_
                        refine b_get (D := D) (E := E) (L := LRR) (o := o) (M := M52) (v := .int (M52 0 11)) (C := RX7) (T := TX7) (N := 13) hx hb hts hinX7 hown hK.1 hB 0 lay_m0 rfl 11 (by decide) (hts (.fieldLink RX7 141 "RiverMeetingModel" "spot" "I") (List.mem_of_getElem? (i := 1) rfl)) (fun _ h9 => h9) rfl dX7_figures_104 ?_
                        refine lv_iconst (v := 1) hx hb dX7_figures_107 (by decide) ?_
                        refine lv_iadd hx hb dX7_figures_108 ?_
                        refine b_put (D := D) (E := E) (L := LRR) (o := o) (M := M52) (v := ((M52 0 11) + 1)) (ty := .int) (C := RX7) (T := TX7) (N := 13) hx hb hts hinX7 tyX7 tyX7_ok nmX7 hown hK.1 hB hS 0 (rB_of lay_m0) lay_m0 rfl 11 (by decide) rfl (hts (.fieldLink RX7 141 "RiverMeetingModel" "spot" "I") (List.mem_of_getElem? (i := 1) rfl)) (fun _ h9 => h9) rfl (by decide +kernel) rfl rfl dX7_figures_109 (fun M71 hM71 H locs hB _ hS => ?_)
                        refine lv_iload hx hb dX7_figures_112 (lv_at hl 3 rfl) ?_
                        refine lv_bipush (v := 10) hx hb dX7_figures_114 (by decide) ?_
                        refine lv_idiv hx hb dX7_figures_116 (by decide) ?_
                        refine lv_const (y := 0) (by decide) ?_
                        refine lv_istore (lv' := [(6, .int 0), (5, .int x64), (8, .int x64), (7, .int x63), (0, .ref (o + 0)), (1, .int x1), (2, .int x2), (3, .int x3), (4, .int x4)]) hx hb dX7_figures_117 hl (by decide) rfl (fun ls hl => ?_)
                        refine lv_goto (tgt := 16) hx hb dX7_figures_119 (by decide) ?_
                        refine lv_iload hx hb dX7_figures_16 (lv_at hl 0 rfl) ?_
                        refine lv_if_le (tgt := 122) hx hb dX7_figures_18 (by decide) (fun c72 => ?_) (fun c72 => absurd (by decide) c72)
                        refine lv_iload_n hx hb dX7_figures_122 rfl (lv_at hl 5 rfl) ?_
                        refine lv_iconst (v := (-1)) hx hb dX7_figures_123 (by decide) ?_
                        refine lv_icmp_ne (tgt := 131) hx hb dX7_figures_124 (by decide) (fun c73 => ?_) (fun c73 => ?_)
                        · refine lv_iload hx hb dX7_figures_131 (lv_at hl 1 rfl) ?_
                          have e74 := p_X7_figures_e74 M x1 x2 x3 x4 c11 c36 c40 x44 hx44.symm x45 hx45.symm r46 hr46.symm c47 c49 c51 M52 hM52.symm c54 c58 x63 hx63.symm x64 hx64.symm r65 hr65.symm c66 c68 c70 M71 hM71.symm c73
                          exact b_iret hx hb hr hlocks hS ⟨_, rfl, _, ⟨(congrArg Prod.fst e74).symm, (congrArg Prod.snd e74).symm⟩, hB⟩ dX7_figures_133
                        · refine lv_iconst (v := (-1)) hx hb dX7_figures_127 (by decide) ?_
                          refine lv_goto (tgt := 133) hx hb dX7_figures_128 (by decide) ?_
                          have e75 := p_X7_figures_e75 M x1 x2 x3 x4 c11 c36 c40 x44 hx44.symm x45 hx45.symm r46 hr46.symm c47 c49 c51 M52 hM52.symm c54 c58 x63 hx63.symm x64 hx64.symm r65 hr65.symm c66 c68 c70 M71 hM71.symm c73
                          exact b_iret hx hb hr hlocks hS ⟨_, rfl, _, ⟨(congrArg Prod.fst e75).symm, (congrArg Prod.snd e75).symm⟩, hB⟩ dX7_figures_133
                      · refine lv_iconst (v := (-1)) hx hb dX7_figures_96 (by decide) ?_
                        have e76 := p_X7_figures_e76 M x1 x2 x3 x4 c11 c36 c40 x44 hx44.symm x45 hx45.symm r46 hr46.symm c47 c49 c51 M52 hM52.symm c54 c58 x63 hx63.symm x64 hx64.symm r65 hr65.symm c66 c68 c70
                        exact b_iret hx hb hr hlocks hS ⟨_, rfl, _, ⟨(congrArg Prod.fst e76).symm, (congrArg Prod.snd e76).symm⟩, hB⟩ dX7_figures_97
            · refine lv_iconst (v := (-1)) hx hb dX7_figures_96 (by decide) ?_
              have e77 := p_X7_figures_e77 M x1 x2 x3 x4 c11 c36 c40 x44 hx44.symm x45 hx45.symm r46 hr46.symm c47 c49 c51
              exact b_iret hx hb hr hlocks hS ⟨_, rfl, _, ⟨(congrArg Prod.fst e77).symm, (congrArg Prod.snd e77).symm⟩, hB⟩ dX7_figures_97

theorem txR_if {c : Prop} [Decidable c] {a b : Int32 × bM} (h1 : c → txR a.2) (h2 : ¬ c → txR b.2) : txR (if c then a else b).2 := by
  by_cases h : c
  · rw [if_pos h]; exact h1 h
  · rw [if_neg h]; exact h2 h
theorem figures_tx {M : bM} {a d lo hi : Int32} (h : txR M) : txR (f_X7_figures M a d lo hi).2 := by
  have key : ∀ (N : bM), txR N → (¬ N 0 2 ≤ N 0 11) → txR (up2 N 0 11 (N 0 11 + 1)) := fun N h c => tx_up h c
  rw [u_f_X7_figures]
  dsimp only
  repeat' (refine txR_if (fun _ => ?_) (fun _ => ?_))
  all_goals first | exact h | exact key _ h (by assumption) | exact key _ (key _ h (by assumption)) (by assumption)