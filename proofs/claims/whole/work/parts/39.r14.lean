theorem cs_loop {k1 k3 : Nat} (h : k1 ≠ k3) : ∀ (n i : Nat) (M : bM), i + n = 404 → (∀ j, lp_X7_copyState_3 k1 0 k3 0 n i M k3 j = if i ≤ j ∧ j < 404 then M k1 j else M k3 j) := by
  intro n
  induction n with
  | zero =>
    intro i M hi j
    rw [u0_lp_X7_copyState_3, if_neg (show ¬ (i ≤ j ∧ j < 404) by omega)]
  | succ n ih =>
    intro i M hi j
    rw [u1_lp_X7_copyState_3]
    dsimp only
    have e0 : ((0 : Int32) + nI i).toNatClampNeg = i := by rw [show (0 : Int32) = nI 0 from rfl, nI_add, Nat.zero_add, nI_clamp (by omega)]
    rw [e0, ih (i + 1) _ (by omega) j, up2_row h, up2_at]
    by_cases e : j = i
    · rw [if_neg (show ¬ (i + 1 ≤ j ∧ j < 404) by omega), if_pos e, if_pos (show i ≤ j ∧ j < 404 by omega), e]
    · rw [if_neg e]
      by_cases q : i ≤ j ∧ j < 404
      · rw [if_pos q, if_pos (show i + 1 ≤ j ∧ j < 404 by omega)]
      · rw [if_neg q, if_neg (show ¬ (i + 1 ≤ j ∧ j < 404) by omega)]
theorem gR_ext {r r' : Nat → Int32} (h : gR r) (e : ∀ j, j < 404 → r' j = r j) : gR r' := by
  obtain ⟨m, hm, hX⟩ := h
  obtain ⟨x, y, n10, n15, nx, ny⟩ := gR_paid (r' := r) (by omega) hX
  have hX' := hX
  obtain ⟨s8, s9⟩ := gX_set hX
  obtain ⟨a, b, x0, y0, ⟨⟨n3, n2, n1, n4⟩, ⟨n14, n19, na, nb'⟩, _⟩, ⟨c1, c2, c3, c8, c9⟩, ⟨m1, m2, m3⟩, l⟩ := hX'
  have hmk : ∀ c v, c < 64 → (mkIs r' c v ↔ mkIs r c v) := fun c v hc => by
    unfold mkIs; rw [e (212 + c) (by omega)]
  refine ⟨m, hm, a, b, x, y, ⟨⟨?_, ?_, ?_, ?_⟩, ⟨?_, ?_, na, nb'⟩, ⟨?_, ?_, nx, ny⟩⟩, ⟨fun i hi' => ?_, fun i hi' => ?_, fun i hi' => ?_, ?_, ?_⟩, ⟨fun c hc => ?_, ?_, ?_⟩, ?_⟩
  · rw [e _ (by omega)]; exact n3
  · rw [e _ (by omega)]; exact n2
  · unfold phI at n1 ⊢
    rw [e 1 (by omega), e 4 (by omega)]; exact n1
  · rw [e 4 (by omega)]; exact n4
  · rw [e _ (by omega)]; exact n14
  · rw [e _ (by omega)]; exact n19
  · rw [e _ (by omega)]; exact n10
  · rw [e _ (by omega)]; exact n15
  · rw [e _ (by omega)]; exact c1 i hi'
  · rw [e _ (by omega)]; exact c2 i hi'
  · rw [e _ (by omega)]; exact c3 i hi'
  · rw [e _ (by omega)]; exact s8
  · rw [e _ (by omega)]; exact s9
  · obtain ⟨v, hv⟩ := m1 c hc
    exact ⟨v, (hmk c v hc).mpr hv⟩
  · obtain ⟨h', v, hh, e1, e2, e3⟩ := m2
    exact ⟨h', v, hh, by rw [e _ (by omega)]; exact e1, (hmk h' v hh).mpr e2, e3⟩
  · obtain ⟨h', v, hh, e1, e2, e3⟩ := m3
    exact ⟨h', v, hh, by rw [e _ (by omega)]; exact e1, (hmk h' v hh).mpr e2, e3⟩
  · intro e4 c v hc hv
    rw [e 4 (by omega)] at e4
    exact l e4 c v hc ((hmk c v hc).mp hv)
theorem gR_copy {M : bM} {k1 k3 : Nat} (hk : k1 ≠ k3) (h : gR (M k1)) : gR (f_X7_copyState M k1 404 0 k3 404 0 k3) := by
  rw [u_f_X7_copyState]
  dsimp only
  refine gR_ext h (fun j hj => ?_)
  rw [cs_loop hk 404 0 M rfl j, if_pos (show 0 ≤ j ∧ j < 404 by omega)]
def f_X7_errorPosition (M : bM) : Int32 × bM := (let M11 : bM := up2 M 0 0 0; (let r13 : Int32 := (f_X7_readText M11 3).1; (let M12 : bM := (f_X7_readText M11 3).2; (r13, M12))))
theorem u_f_X7_errorPosition (M : bM) : f_X7_errorPosition M = (let M11 : bM := up2 M 0 0 0; (let r13 : Int32 := (f_X7_readText M11 3).1; (let M12 : bM := (f_X7_readText M11 3).2; (r13, M12)))) := rfl
theorem p_X7_errorPosition_e14 (M : bM) (M11 : bM) (hM11 : up2 M 0 0 0 = M11) (r13 : Int32) (hr13 : (f_X7_readText M11 3).1 = r13) (M12 : bM) (hM12 : (f_X7_readText M11 3).2 = M12) : f_X7_errorPosition M = (r13, M12) := by subst hM12 hr13 hM11; exact u_f_X7_errorPosition M
theorem fr_X7_errorPosition (M : bM) (k : Nat) (hk3 : k ≠ 3) (hf : k ≠ 7) (hk0 : k ≠ 0) : (f_X7_errorPosition M).2 k = M k := by
  obtain ⟨M11, hM11⟩ : ∃ y : bM, y = up2 M 0 0 0 := ⟨_, rfl⟩
  obtain ⟨r13, hr13⟩ : ∃ y : Int32, y = (f_X7_readText M11 3).1 := ⟨_, rfl⟩
  obtain ⟨M12, hM12⟩ : ∃ y : bM, y = (f_X7_readText M11 3).2 := ⟨_, rfl⟩
  rw [p_X7_errorPosition_e14 M M11 hM11.symm r13 hr13.symm M12 hM12.symm]
  try dsimp only
  rw [hM12, fr_X7_readText M11 3 k (by omega) (by omega) (by omega), hM11, up2_row (by omega)]
set_option maxHeartbeats 4000000 in
set_option maxRecDepth 100000 in
theorem c_X7_errorPosition (l : Launch) (D : va_G) (E : Nat → ClassId) (o : Nat) (M : bM) (hz : vp_in (M 0 2) 121) : Met l yX7_errorPosition wsX7_errorPosition (rmF 10) (bPc D E [.ref (o + 0)] (fun H => bk D E LRR o M H)) (bQ (aI fun r H => ∃ M1 : bM, (r = (f_X7_errorPosition M).1 ∧ M1 = (f_X7_errorPosition M).2) ∧ bk D E LRR o M1 H) (rB o)) 0 0 (rB o) := by
  refine Met.ofW (cc := cX7_errorPosition) (maxL := 1) (ret := (some .int)) (by decide) rfl ?_
  intro p e s m args below meth c s₁ B hml hv
  obtain ⟨rfl, hB, hK⟩ := hv
  have hx := B.exec
  have hb := B.bytes
  have hr := B.returns
  have hts := atoms_spec (ws := wsX7_errorPosition) B.pre
  have hown : s.vm.findClass RX7 = some m.cls := findClass_of_methodNamed B.named
  have hlocks := B.notSynchronized
  have hS : bS (rB o) s.heap s.heap [] := bS.rf
  have hl := lv_entry ([.ref (o + 0)]) (n := 1) (Nat.le_of_ble_eq_true rfl)
  rw [lg_entry_eq]
  generalize (lg_sl ([.ref (o + 0)]) ++ List.replicate (1 - (lg_sl ([.ref (o + 0)])).length) Slot.unset).toArray = ls at hl ⊢
  have hl : lv_has ls 1 [(0, .ref (o + 0))] := hl
  have hB : bk D E LRR o M s.heap := hB
  have hinX7 : ∀ w ∈ wsX70, w ∈ wsX7_errorPosition := by decide +kernel
  refine lv_aload_n hx hb dX7_errorPosition_0 rfl (lv_at hl 0 rfl) ?_
  refine lv_iconst (v := 0) hx hb dX7_errorPosition_1 (by decide) ?_
  refine b_put (D := D) (E := E) (L := LRR) (o := o) (M := M) (v := 0) (ty := .int) (C := RX7) (T := TX7) (N := 13) hx hb hts hinX7 tyX7 tyX7_ok nmX7 hown hK.1 hB hS 0 (rB_of lay_m0) lay_m0 rfl 0 (by decide) rfl (hts (.fieldLink RX7 39 "RiverMeetingModel" "refusal" "I") (List.mem_of_getElem? (i := 1) rfl)) (fun _ h9 => h9) rfl (by decide +kernel) rfl rfl dX7_errorPosition_2 (fun M11 hM11 H locs hB _ hS => ?_)
  refine lv_aload_n hx hb dX7_errorPosition_5 rfl (lv_at hl 0 rfl) ?_
  refine lv_aload_n hx hb dX7_errorPosition_6 rfl (lv_at hl 0 rfl) ?_
  refine b_get (D := D) (E := E) (L := LRR) (o := o) (M := M11) (v := .ref (o + 3)) (C := RX7) (T := TX7) (N := 13) hx hb hts hinX7 hown hK.1 hB 0 lay_m0 rfl 4 (by decide) (hts (.fieldLink RX7 16 "RiverMeetingModel" "trial" "[I") (List.mem_of_getElem? (i := 2) rfl)) (fun _ h9 => h9) rfl dX7_errorPosition_7 ?_
  refine b_mI (b_runV (As := [.ref (o + 3)]) (rest := []) ⟨hx, hb, hml, hown, hts⟩ (c_X7_readText l D E o M11 3 lay_m3 (by decide) (by decide) (by rw [hM11, up2_at, if_neg (by decide)]; exact hz) rt_end) (cwV 1 hts gX7_errorPosition_X7_readText rfl rfl rfl (by decide +kernel) ⟨Nat.le_of_ble_eq_true rfl, Nat.le_of_ble_eq_true rfl⟩) hK (bk_recv hK.1 hB lay_m0 rfl) hB rfl hl rfl (Nat.le_of_ble_eq_true rfl) dX7_errorPosition_10 ⟨Nat.zero_le _, Nat.zero_le _⟩) hS (fun q h => h) (fun r13 M12 hM12 H locs hB _ hS => ?_)
  obtain ⟨hr13, hM12⟩ := hM12
  have e14 := p_X7_errorPosition_e14 M M11 hM11.symm r13 hr13.symm M12 hM12.symm
  exact b_iret hx hb hr hlocks hS ⟨_, rfl, _, ⟨(congrArg Prod.fst e14).symm, (congrArg Prod.snd e14).symm⟩, hB⟩ dX7_errorPosition_13

def f_X7_load (M : bM) : Int32 × bM := (let r12 : Int32 := (f_X7_readText M 3).1; (let M11 : bM := (f_X7_readText M 3).2; (if r12 = (-1) then (let r19 : Int32 := (f_X7_refused M11 0).1; (let M18 : bM := (f_X7_refused M11 0).2; (let M21 : bM := f_X7_copyState M18 3 404 0 2 404 0; (let M22 : bM := up2 M21 0 6 0; (let M23 : bM := up2 M22 6 0 0; (let M24 : bM := up2 M23 6 1 0; ((M24 0 12), M24))))))) else (let r15 : Int32 := (f_X7_refused M11 1).1; (let M14 : bM := (f_X7_refused M11 1).2; (0, M14))))))
theorem u_f_X7_load (M : bM) : f_X7_load M = (let r12 : Int32 := (f_X7_readText M 3).1; (let M11 : bM := (f_X7_readText M 3).2; (if r12 = (-1) then (let r19 : Int32 := (f_X7_refused M11 0).1; (let M18 : bM := (f_X7_refused M11 0).2; (let M21 : bM := f_X7_copyState M18 3 404 0 2 404 0; (let M22 : bM := up2 M21 0 6 0; (let M23 : bM := up2 M22 6 0 0; (let M24 : bM := up2 M23 6 1 0; ((M24 0 12), M24))))))) else (let r15 : Int32 := (f_X7_refused M11 1).1; (let M14 : bM := (f_X7_refused M11 1).2; (0, M14)))))) := rfl
theorem p_X7_load_e17 (M : bM) (r12 : Int32) (hr12 : (f_X7_readText M 3).1 = r12) (M11 : bM) (hM11 : (f_X7_readText M 3).2 = M11) (c13 : ¬ r12 = (-1)) (r15 : Int32) (hr15 : (f_X7_refused M11 1).1 = r15) (M14 : bM) (hM14 : (f_X7_refused M11 1).2 = M14) : f_X7_load M = (0, M14) := by subst hM14 hr15 hM11 hr12; exact Eq.trans (u_f_X7_load M) (if_neg c13)
theorem p_X7_load_e25 (M : bM) (r12 : Int32) (hr12 : (f_X7_readText M 3).1 = r12) (M11 : bM) (hM11 : (f_X7_readText M 3).2 = M11) (c13 : r12 = (-1)) (r19 : Int32) (hr19 : (f_X7_refused M11 0).1 = r19) (M18 : bM) (hM18 : (f_X7_refused M11 0).2 = M18) (M21 : bM) (hM21 : f_X7_copyState M18 3 404 0 2 404 0 = M21) (M22 : bM) (hM22 : up2 M21 0 6 0 = M22) (M23 : bM) (hM23 : up2 M22 6 0 0 = M23) (M24 : bM) (hM24 : up2 M23 6 1 0 = M24) : f_X7_load M = ((M24 0 12), M24) := by subst hM24 hM23 hM22 hM21 hM18 hr19 hM11 hr12; exact Eq.trans (u_f_X7_load M) (if_pos c13)
theorem fr_X7_load (M : bM) (k : Nat) (hk3 : k ≠ 3) (hf : k ≠ 7) (hk0 : k ≠ 0) (hk2 : k ≠ 2) (hk6 : k ≠ 6) : (f_X7_load M).2 k = M k := by
  obtain ⟨r12, hr12⟩ : ∃ y : Int32, y = (f_X7_readText M 3).1 := ⟨_, rfl⟩
  obtain ⟨M11, hM11⟩ : ∃ y : bM, y = (f_X7_readText M 3).2 := ⟨_, rfl⟩
  by_cases c13 : r12 = (-1)
  · obtain ⟨r19, hr19⟩ : ∃ y : Int32, y = (f_X7_refused M11 0).1 := ⟨_, rfl⟩
    obtain ⟨M18, hM18⟩ : ∃ y : bM, y = (f_X7_refused M11 0).2 := ⟨_, rfl⟩
    obtain ⟨M21, hM21⟩ : ∃ y : bM, y = f_X7_copyState M18 3 404 0 2 404 0 := ⟨_, rfl⟩
    obtain ⟨M22, hM22⟩ : ∃ y : bM, y = up2 M21 0 6 0 := ⟨_, rfl⟩
    obtain ⟨M23, hM23⟩ : ∃ y : bM, y = up2 M22 6 0 0 := ⟨_, rfl⟩
    obtain ⟨M24, hM24⟩ : ∃ y : bM, y = up2 M23 6 1 0 := ⟨_, rfl⟩
    rw [p_X7_load_e25 M r12 hr12.symm M11 hM11.symm c13 r19 hr19.symm M18 hM18.symm M21 hM21.symm M22 hM22.symm M23 hM23.symm M24 hM24.symm]
    try dsimp only
    rw [hM24, up2_row (by omega), hM23, up2_row (by omega), hM22, up2_row (by omega), hM21, fr_X7_copyState M18 3 404 0 2 404 0 k (by omega), hM18, fr_X7_refused M11 0 k (by omega), hM11, fr_X7_readText M 3 k (by omega) (by omega) (by omega)]
  · obtain ⟨r15, hr15⟩ : ∃ y : Int32, y = (f_X7_refused M11 1).1 := ⟨_, rfl⟩
    obtain ⟨M14, hM14⟩ : ∃ y : bM, y = (f_X7_refused M11 1).2 := ⟨_, rfl⟩
    rw [p_X7_load_e17 M r12 hr12.symm M11 hM11.symm c13 r15 hr15.symm M14 hM14.symm]
    try dsimp only
    rw [hM14, fr_X7_refused M11 1 k (by omega), hM11, fr_X7_readText M 3 k (by omega) (by omega) (by omega)]
set_option maxHeartbeats 4000000 in
set_option maxRecDepth 100000 in
theorem c_X7_load (l : Launch) (D : va_G) (E : Nat → ClassId) (o : Nat) (M : bM) (hz : vp_in (M 0 2) 121) : Met l yX7_load wsX7_load (rmF 10) (bPc D E [.ref (o + 0)] (fun H => bk D E LRR o M H)) (bQ (aI fun r H => ∃ M1 : bM, (r = (f_X7_load M).1 ∧ M1 = (f_X7_load M).2) ∧ bk D E LRR o M1 H) (rB o)) 0 0 (rB o) := by
  refine Met.ofW (cc := cX7_load) (maxL := 1) (ret := (some .int)) (by decide) rfl ?_
  intro p e s m args below meth c s₁ B hml hv
  obtain ⟨rfl, hB, hK⟩ := hv
  have hx := B.exec
  have hb := B.bytes
  have hr := B.returns
  have hts := atoms_spec (ws := wsX7_load) B.pre
  have hown : s.vm.findClass RX7 = some m.cls := findClass_of_methodNamed B.named
  have hlocks := B.notSynchronized
  have hS : bS (rB o) s.heap s.heap [] := bS.rf
  have hl := lv_entry ([.ref (o + 0)]) (n := 1) (Nat.le_of_ble_eq_true rfl)
  rw [lg_entry_eq]
  generalize (lg_sl ([.ref (o + 0)]) ++ List.replicate (1 - (lg_sl ([.ref (o + 0)])).length) Slot.unset).toArray = ls at hl ⊢
  have hl : lv_has ls 1 [(0, .ref (o + 0))] := hl
  have hB : bk D E LRR o M s.heap := hB
  have hinX7 : ∀ w ∈ wsX70, w ∈ wsX7_load := by decide +kernel
  refine lv_aload_n hx hb dX7_load_0 rfl (lv_at hl 0 rfl) ?_
  refine lv_aload_n hx hb dX7_load_1 rfl (lv_at hl 0 rfl) ?_
  refine lv_aload_n hx hb dX7_load_2 rfl (lv_at hl 0 rfl) ?_
  refine b_get (D := D) (E := E) (L := LRR) (o := o) (M := M) (v := .ref (o + 3)) (C := RX7) (T := TX7) (N := 13) hx hb hts hinX7 hown hK.1 hB 0 lay_m0 rfl 4 (by decide) (hts (.fieldLink RX7 16 "RiverMeetingModel" "trial" "[I") (List.mem_of_getElem? (i := 1) rfl)) (fun _ h9 => h9) rfl dX7_load_3 ?_
  refine b_mI (b_runV (As := [.ref (o + 3)]) (rest := [.ref (o + 0)]) ⟨hx, hb, hml, hown, hts⟩ (c_X7_readText l D E o M 3 lay_m3 (by decide) (by decide) hz rt_end) (cwV 1 hts gX7_load_X7_readText rfl rfl rfl (by decide +kernel) ⟨Nat.le_of_ble_eq_true rfl, Nat.le_of_ble_eq_true rfl⟩) hK (bk_recv hK.1 hB lay_m0 rfl) hB rfl hl rfl (Nat.le_of_ble_eq_true rfl) dX7_load_6 ⟨Nat.zero_le _, Nat.zero_le _⟩) hS (fun q h => h) (fun r12 M11 hM11 H locs hB _ hS => ?_)
  obtain ⟨hr12, hM11⟩ := hM11
  refine lv_iconst (v := (-1)) hx hb dX7_load_9 (by decide) ?_
  refine lv_icmp_ne (tgt := 17) hx hb dX7_load_10 (by decide) (fun c13 => ?_) (fun c13 => ?_)
  · refine lv_iconst (v := 1) hx hb dX7_load_17 (by decide) ?_
    refine b_mI (b_runV (As := [.int 1]) (rest := []) ⟨hx, hb, hml, hown, hts⟩ (c_X7_refused l D E o M11 1) (cwV 1 hts gX7_load_X7_refused rfl rfl rfl (by decide +kernel) ⟨Nat.le_of_ble_eq_true rfl, Nat.le_of_ble_eq_true rfl⟩) hK (bk_recv hK.1 hB lay_m0 rfl) hB rfl hl rfl (Nat.le_of_ble_eq_true rfl) dX7_load_18 ⟨Nat.zero_le _, Nat.zero_le _⟩) hS (fun q h => h) (fun r15 M14 hM14 H locs hB _ hS => ?_)
    obtain ⟨hr15, hM14⟩ := hM14
    have hkr15 : r15 = 1 := by rw [hr15]; rfl
    refine lv_const (y := 1) hkr15 ?_
    refine lv_if_eq (tgt := 26) hx hb dX7_load_21 (by decide) (fun c16 => absurd c16 (by decide)) (fun c16 => ?_)
    refine lv_iconst (v := 0) hx hb dX7_load_24 (by decide) ?_
    have e17 := p_X7_load_e17 M r12 hr12.symm M11 hM11.symm c13 r15 hr15.symm M14 hM14.symm
    exact b_iret hx hb hr hlocks hS ⟨_, rfl, _, ⟨(congrArg Prod.fst e17).symm, (congrArg Prod.snd e17).symm⟩, hB⟩ dX7_load_25
  · refine lv_iconst (v := 0) hx hb dX7_load_13 (by decide) ?_
    refine lv_goto (tgt := 18) hx hb dX7_load_14 (by decide) ?_
    refine b_mI (b_runV (As := [.int 0]) (rest := []) ⟨hx, hb, hml, hown, hts⟩ (c_X7_refused l D E o M11 0) (cwV 1 hts gX7_load_X7_refused rfl rfl rfl (by decide +kernel) ⟨Nat.le_of_ble_eq_true rfl, Nat.le_of_ble_eq_true rfl⟩) hK (bk_recv hK.1 hB lay_m0 rfl) hB rfl hl rfl (Nat.le_of_ble_eq_true rfl) dX7_load_18 ⟨Nat.zero_le _, Nat.zero_le _⟩) hS (fun q h => h) (fun r19 M18 hM18 H locs hB _ hS => ?_)
    obtain ⟨hr19, hM18⟩ := hM18
    have hkr19 : r19 = 0 := by rw [hr19]; rfl
    refine lv_const (y := 0) hkr19 ?_
    refine lv_if_eq (tgt := 26) hx hb dX7_load_21 (by decide) (fun c20 => ?_) (fun c20 => absurd (by decide) c20)
    refine lv_aload_n hx hb dX7_load_26 rfl (lv_at hl 0 rfl) ?_
    refine b_get (D := D) (E := E) (L := LRR) (o := o) (M := M18) (v := .ref (o + 3)) (C := RX7) (T := TX7) (N := 13) hx hb hts hinX7 hown hK.1 hB 0 lay_m0 rfl 4 (by decide) (hts (.fieldLink RX7 16 "RiverMeetingModel" "trial" "[I") (List.mem_of_getElem? (i := 1) rfl)) (fun _ h9 => h9) rfl dX7_load_27 ?_
    refine lv_iconst (v := 0) hx hb dX7_load_30 (by decide) ?_
    refine lv_aload_n hx hb dX7_load_31 rfl (lv_at hl 0 rfl) ?_
    refine b_get (D := D) (E := E) (L := LRR) (o := o) (M := M18) (v := .ref (o + 2)) (C := RX7) (T := TX7) (N := 13) hx hb hts hinX7 hown hK.1 hB 0 lay_m0 rfl 3 (by decide) (hts (.fieldLink RX7 13 "RiverMeetingModel" "now" "[I") (List.mem_of_getElem? (i := 2) rfl)) (fun _ h9 => h9) rfl dX7_load_32 ?_
    refine lv_iconst (v := 0) hx hb dX7_load_35 (by decide) ?_
    refine b_mV (b_runS (As := [.ref (o + 3), .int 0, .ref (o + 2), .int 0]) (rest := []) ⟨hx, hb, hml, hown, hts⟩ (c_X7_copyState l D E o M18 3 404 0 2 404 0 lay_m3 lay_m2 cs_0 cs_0) (va_cwS 4 hts gX7_load_X7_copyState rfl rfl rfl (by decide +kernel) ⟨Nat.le_of_ble_eq_true rfl, Nat.le_of_ble_eq_true rfl⟩) hK hB rfl hl rfl (Nat.le_of_ble_eq_true rfl) dX7_load_36 ⟨Nat.zero_le _, Nat.zero_le _⟩) hS (fun q h => h) (fun M21 hM21 H locs hB _ hS => ?_)
    refine lv_aload_n hx hb dX7_load_39 rfl (lv_at hl 0 rfl) ?_
    refine lv_iconst (v := 0) hx hb dX7_load_40 (by decide) ?_
    refine b_put (D := D) (E := E) (L := LRR) (o := o) (M := M21) (v := 0) (ty := .int) (C := RX7) (T := TX7) (N := 13) hx hb hts hinX7 tyX7 tyX7_ok nmX7 hown hK.1 hB hS 0 (rB_of lay_m0) lay_m0 rfl 6 (by decide) rfl (hts (.fieldLink RX7 196 "RiverMeetingModel" "acts" "I") (List.mem_of_getElem? (i := 3) rfl)) (fun _ h9 => h9) rfl (by decide +kernel) rfl rfl dX7_load_41 (fun M22 hM22 H locs hB _ hS => ?_)
    refine lv_aload_n hx hb dX7_load_44 rfl (lv_at hl 0 rfl) ?_
    refine b_get (D := D) (E := E) (L := LRR) (o := o) (M := M22) (v := .ref (o + 6)) (C := RX7) (T := TX7) (N := 13) hx hb hts hinX7 hown hK.1 hB 0 lay_m0 rfl 8 (by decide) (hts (.fieldLink RX7 25 "RiverMeetingModel" "isKept" "[Z") (List.mem_of_getElem? (i := 4) rfl)) (fun _ h9 => h9) rfl dX7_load_45 ?_
    refine lv_iconst (v := 0) hx hb dX7_load_48 (by decide) ?_
    refine lv_iconst (v := 0) hx hb dX7_load_49 (by decide) ?_
    refine b_zast hx hb hK.1 hB hS 6 (rB_of lay_m6) lay_m6 (vp_in_nI (n := 0) (by decide) (by decide)) dX7_load_50 (fun M23 hM23 H locs hB _ hS => ?_)
    rw [show vp_nar .boolean 0 = 0 from rfl] at hM23
    rw [show (0 : Int32).toNatClampNeg = 0 from rfl] at hM23
    refine lv_aload_n hx hb dX7_load_51 rfl (lv_at hl 0 rfl) ?_
    refine b_get (D := D) (E := E) (L := LRR) (o := o) (M := M23) (v := .ref (o + 6)) (C := RX7) (T := TX7) (N := 13) hx hb hts hinX7 hown hK.1 hB 0 lay_m0 rfl 8 (by decide) (hts (.fieldLink RX7 25 "RiverMeetingModel" "isKept" "[Z") (List.mem_of_getElem? (i := 4) rfl)) (fun _ h9 => h9) rfl dX7_load_52 ?_
    refine lv_iconst (v := 1) hx hb dX7_load_55 (by decide) ?_
    refine lv_iconst (v := 0) hx hb dX7_load_56 (by decide) ?_
    refine b_zast hx hb hK.1 hB hS 6 (rB_of lay_m6) lay_m6 (vp_in_nI (n := 1) (by decide) (by decide)) dX7_load_57 (fun M24 hM24 H locs hB _ hS => ?_)
    rw [show vp_nar .boolean 0 = 0 from rfl] at hM24
    rw [show (1 : Int32).toNatClampNeg = 1 from rfl] at hM24
    refine lv_aload_n hx hb dX7_load_58 rfl (lv_at hl 0 rfl) ?_
    refine b_get (D := D) (E := E) (L := LRR) (o := o) (M := M24) (v := .int (M24 0 12)) (C := RX7) (T := TX7) (N := 13) hx hb hts hinX7 hown hK.1 hB 0 lay_m0 rfl 12 (by decide) (hts (.fieldLink RX7 144 "RiverMeetingModel" "out" "I") (List.mem_of_getElem? (i := 5) rfl)) (fun _ h9 => h9) rfl dX7_load_59 ?_
    have e25 := p_X7_load_e25 M r12 hr12.symm M11 hM11.symm c13 r19 hr19.symm M18 hM18.symm M21 hM21.symm M22 hM22.symm M23 hM23.symm M24 hM24.symm
    exact b_iret hx hb hr hlocks hS ⟨_, rfl, _, ⟨(congrArg Prod.fst e25).symm, (congrArg Prod.snd e25).symm⟩, hB⟩ dX7_load_62

def lp_X7_simulate_48  : Nat → Nat → Int32 → Int64 → bM → (Int32 × Int64 × bM)
  | 0, i21, x22, x23, M24 => (x22, x23, M24)
  | n21 + 1, i21, x22, x23, M24 => (let r28 : Int32 := f_X7_isUnderWay M24 3; (let x29 : Int64 := ((x23 * 6364136223846793005) + 1442695040888963407); (let x30 : Int32 := ((x29.toUInt64 >>> ((33 : Int32).toInt64.toUInt64 &&& Int64.toUInt64 63)).toInt64).toInt32; (let M31 : bM := f_X7_turnOf M24 3 (x30 - x30 / 8 * 8) (x30 / 8); (if r28 = 0 then (let x33 : Int32 := (x22 + 0); lp_X7_simulate_48 n21 (i21 + 1) x33 x29 M31) else (if (M31 3 1) = 2 then (let x38 : Int32 := (x22 + 1); lp_X7_simulate_48 n21 (i21 + 1) x38 x29 M31) else (let x36 : Int32 := (x22 + 0); lp_X7_simulate_48 n21 (i21 + 1) x36 x29 M31)))))))
theorem u0_lp_X7_simulate_48  (i21 : Nat) (x22 : Int32) (x23 : Int64) (M24 : bM) : lp_X7_simulate_48 0 i21 x22 x23 M24 = (x22, x23, M24) := rfl
theorem u1_lp_X7_simulate_48  (n21 i21 : Nat) (x22 : Int32) (x23 : Int64) (M24 : bM) : lp_X7_simulate_48 (n21 + 1) i21 x22 x23 M24 = (let r28 : Int32 := f_X7_isUnderWay M24 3; (let x29 : Int64 := ((x23 * 6364136223846793005) + 1442695040888963407); (let x30 : Int32 := ((x29.toUInt64 >>> ((33 : Int32).toInt64.toUInt64 &&& Int64.toUInt64 63)).toInt64).toInt32; (let M31 : bM := f_X7_turnOf M24 3 (x30 - x30 / 8 * 8) (x30 / 8); (if r28 = 0 then (let x33 : Int32 := (x22 + 0); lp_X7_simulate_48 n21 (i21 + 1) x33 x29 M31) else (if (M31 3 1) = 2 then (let x38 : Int32 := (x22 + 1); lp_X7_simulate_48 n21 (i21 + 1) x38 x29 M31) else (let x36 : Int32 := (x22 + 0); lp_X7_simulate_48 n21 (i21 + 1) x36 x29 M31))))))) := rfl
def f_X7_simulate (M : bM) (x1 : Int64) (x2 : Int32) : Int32 × bM := (let r11 : Int32 := f_X7_in x2.toInt64 1 200; (if r11 = 0 then (let r14 : Int32 := (f_X7_refused M 1).1; (let M13 : bM := (f_X7_refused M 1).2; (0, M13))) else (let r18 : Int32 := (f_X7_refused M 0).1; (let M17 : bM := (f_X7_refused M 0).2; (let M20 : bM := f_X7_copyState M17 2 404 0 3 404 0; (let x40 : Int32 := (lp_X7_simulate_48 x2.toNatClampNeg 0 0 x1 M20).1; (let x41 : Int64 := (lp_X7_simulate_48 x2.toNatClampNeg 0 0 x1 M20).2.1; (let M42 : bM := (lp_X7_simulate_48 x2.toNatClampNeg 0 0 x1 M20).2.2; (let r43 : Int32 := f_X7_of M42 3 0 4; (let r44 : Int32 := f_X7_of M42 3 1 4; ((((((10000 : Int32) * ((M42 3 0) - (M42 2 0))) + ((100 : Int32) * x40)) + r43) + r44), M42)))))))))))
theorem u_f_X7_simulate (M : bM) (x1 : Int64) (x2 : Int32) : f_X7_simulate M x1 x2 = (let r11 : Int32 := f_X7_in x2.toInt64 1 200; (if r11 = 0 then (let r14 : Int32 := (f_X7_refused M 1).1; (let M13 : bM := (f_X7_refused M 1).2; (0, M13))) else (let r18 : Int32 := (f_X7_refused M 0).1; (let M17 : bM := (f_X7_refused M 0).2; (let M20 : bM := f_X7_copyState M17 2 404 0 3 404 0; (let x40 : Int32 := (lp_X7_simulate_48 x2.toNatClampNeg 0 0 x1 M20).1; (let x41 : Int64 := (lp_X7_simulate_48 x2.toNatClampNeg 0 0 x1 M20).2.1; (let M42 : bM := (lp_X7_simulate_48 x2.toNatClampNeg 0 0 x1 M20).2.2; (let r43 : Int32 := f_X7_of M42 3 0 4; (let r44 : Int32 := f_X7_of M42 3 1 4; ((((((10000 : Int32) * ((M42 3 0) - (M42 2 0))) + ((100 : Int32) * x40)) + r43) + r44), M42))))))))))) := rfl
theorem p_X7_simulate_e16 (M : bM) (x1 : Int64) (x2 : Int32) (r11 : Int32) (hr11 : f_X7_in x2.toInt64 1 200 = r11) (c12 : r11 = 0) (r14 : Int32) (hr14 : (f_X7_refused M 1).1 = r14) (M13 : bM) (hM13 : (f_X7_refused M 1).2 = M13) : f_X7_simulate M x1 x2 = (0, M13) := by subst hM13 hr14 hr11; exact Eq.trans (u_f_X7_simulate M x1 x2) (if_pos c12)
theorem p_X7_simulate_e26 (M : bM) (x1 : Int64) (x2 : Int32) (r11 : Int32) (r18 : Int32) (M17 : bM) (M20 : bM) (x22 : Int32) (x23 : Int64) (M24 : bM) (i21 : Nat)  : lp_X7_simulate_48 0 i21 x22 x23 M24 = (x22, x23, M24) := by exact u0_lp_X7_simulate_48 i21 x22 x23 M24
theorem p_X7_simulate_e34 (M : bM) (x1 : Int64) (x2 : Int32) (r11 : Int32) (r18 : Int32) (M17 : bM) (M20 : bM) (x22 : Int32) (x23 : Int64) (M24 : bM) (i21 : Nat) (n21 : Nat) (r28 : Int32) (hr28 : f_X7_isUnderWay M24 3 = r28) (x29 : Int64) (hx29 : ((x23 * 6364136223846793005) + 1442695040888963407) = x29) (x30 : Int32) (hx30 : ((x29.toUInt64 >>> ((33 : Int32).toInt64.toUInt64 &&& Int64.toUInt64 63)).toInt64).toInt32 = x30) (M31 : bM) (hM31 : f_X7_turnOf M24 3 (x30 - x30 / 8 * 8) (x30 / 8) = M31) (c32 : r28 = 0) (x33 : Int32) (hx33 : (x22 + 0) = x33) : lp_X7_simulate_48 (n21 + 1) i21 x22 x23 M24 = lp_X7_simulate_48 n21 (i21 + 1) x33 x29 M31 := by subst hx33 hM31 hx30 hx29 hr28; exact Eq.trans (u1_lp_X7_simulate_48 n21 i21 x22 x23 M24) (if_pos c32)
theorem p_X7_simulate_e37 (M : bM) (x1 : Int64) (x2 : Int32) (r11 : Int32) (r18 : Int32) (M17 : bM) (M20 : bM) (x22 : Int32) (x23 : Int64) (M24 : bM) (i21 : Nat) (n21 : Nat) (r28 : Int32) (hr28 : f_X7_isUnderWay M24 3 = r28) (x29 : Int64) (hx29 : ((x23 * 6364136223846793005) + 1442695040888963407) = x29) (x30 : Int32) (hx30 : ((x29.toUInt64 >>> ((33 : Int32).toInt64.toUInt64 &&& Int64.toUInt64 63)).toInt64).toInt32 = x30) (M31 : bM) (hM31 : f_X7_turnOf M24 3 (x30 - x30 / 8 * 8) (x30 / 8) = M31) (c32 : ¬ r28 = 0) (c35 : ¬ (M31 3 1) = 2) (x36 : Int32) (hx36 : (x22 + 0) = x36) : lp_X7_simulate_48 (n21 + 1) i21 x22 x23 M24 = lp_X7_simulate_48 n21 (i21 + 1) x36 x29 M31 := by subst hx36 hM31 hx30 hx29 hr28; exact Eq.trans (u1_lp_X7_simulate_48 n21 i21 x22 x23 M24) (Eq.trans (if_neg c32) (if_neg c35))
theorem p_X7_simulate_e39 (M : bM) (x1 : Int64) (x2 : Int32) (r11 : Int32) (r18 : Int32) (M17 : bM) (M20 : bM) (x22 : Int32) (x23 : Int64) (M24 : bM) (i21 : Nat) (n21 : Nat) (r28 : Int32) (hr28 : f_X7_isUnderWay M24 3 = r28) (x29 : Int64) (hx29 : ((x23 * 6364136223846793005) + 1442695040888963407) = x29) (x30 : Int32) (hx30 : ((x29.toUInt64 >>> ((33 : Int32).toInt64.toUInt64 &&& Int64.toUInt64 63)).toInt64).toInt32 = x30) (M31 : bM) (hM31 : f_X7_turnOf M24 3 (x30 - x30 / 8 * 8) (x30 / 8) = M31) (c32 : ¬ r28 = 0) (c35 : (M31 3 1) = 2) (x38 : Int32) (hx38 : (x22 + 1) = x38) : lp_X7_simulate_48 (n21 + 1) i21 x22 x23 M24 = lp_X7_simulate_48 n21 (i21 + 1) x38 x29 M31 := by subst hx38 hM31 hx30 hx29 hr28; exact Eq.trans (u1_lp_X7_simulate_48 n21 i21 x22 x23 M24) (Eq.trans (if_neg c32) (if_pos c35))
theorem p_X7_simulate_e45 (M : bM) (x1 : Int64) (x2 : Int32) (r11 : Int32) (hr11 : f_X7_in x2.toInt64 1 200 = r11) (c12 : ¬ r11 = 0) (r18 : Int32) (hr18 : (f_X7_refused M 0).1 = r18) (M17 : bM) (hM17 : (f_X7_refused M 0).2 = M17) (M20 : bM) (hM20 : f_X7_copyState M17 2 404 0 3 404 0 = M20) (x40 : Int32) (hx40 : (lp_X7_simulate_48 x2.toNatClampNeg 0 0 x1 M20).1 = x40) (x41 : Int64) (hx41 : (lp_X7_simulate_48 x2.toNatClampNeg 0 0 x1 M20).2.1 = x41) (M42 : bM) (hM42 : (lp_X7_simulate_48 x2.toNatClampNeg 0 0 x1 M20).2.2 = M42) (r43 : Int32) (hr43 : f_X7_of M42 3 0 4 = r43) (r44 : Int32) (hr44 : f_X7_of M42 3 1 4 = r44) : f_X7_simulate M x1 x2 = ((((((10000 : Int32) * ((M42 3 0) - (M42 2 0))) + ((100 : Int32) * x40)) + r43) + r44), M42) := by subst hr44 hr43 hM42 hx41 hx40 hM20 hM17 hr18 hr11; exact Eq.trans (u_f_X7_simulate M x1 x2) (if_neg c12)
theorem fr_lp_X7_simulate_48 (M : bM) (x1 : Int64) (x2 : Int32) (r11 : Int32) (r18 : Int32) (M17 : bM) (M20 : bM) (k : Nat) (hk3 : k ≠ 3) (hf : k ≠ 7) (hk0 : k ≠ 0) : ∀ (n21 i21 : Nat) (x22 : Int32) (x23 : Int64) (M24 : bM), (lp_X7_simulate_48 n21 i21 x22 x23 M24).2.2 k = M24 k := by
  intro n21
  induction n21 with
  | zero =>
    intro i21 x22 x23 M24
    rw [p_X7_simulate_e26 M x1 x2 r11 r18 M17 M20 x22 x23 M24 i21 ]
  | succ n21 ih21 =>
    intro i21 x22 x23 M24
    obtain ⟨r28, hr28⟩ : ∃ y : Int32, y = f_X7_isUnderWay M24 3 := ⟨_, rfl⟩
    obtain ⟨x29, hx29⟩ : ∃ y : Int64, y = ((x23 * 6364136223846793005) + 1442695040888963407) := ⟨_, rfl⟩
    obtain ⟨x30, hx30⟩ : ∃ y : Int32, y = ((x29.toUInt64 >>> ((33 : Int32).toInt64.toUInt64 &&& Int64.toUInt64 63)).toInt64).toInt32 := ⟨_, rfl⟩
    obtain ⟨M31, hM31⟩ : ∃ y : bM, y = f_X7_turnOf M24 3 (x30 - x30 / 8 * 8) (x30 / 8) := ⟨_, rfl⟩
    by_cases c32 : r28 = 0
    · obtain ⟨x33, hx33⟩ : ∃ y : Int32, y = (x22 + 0) := ⟨_, rfl⟩
      rw [p_X7_simulate_e34 M x1 x2 r11 r18 M17 M20 x22 x23 M24 i21 n21 r28 hr28.symm x29 hx29.symm x30 hx30.symm M31 hM31.symm c32 x33 hx33.symm, ih21]
      try dsimp only
      rw [hM31, fr_X7_turnOf M24 3 (x30 - x30 / 8 * 8) (x30 / 8) k (by omega) (by omega)]
    · by_cases c35 : (M31 3 1) = 2
      · obtain ⟨x38, hx38⟩ : ∃ y : Int32, y = (x22 + 1) := ⟨_, rfl⟩
        rw [p_X7_simulate_e39 M x1 x2 r11 r18 M17 M20 x22 x23 M24 i21 n21 r28 hr28.symm x29 hx29.symm x30 hx30.symm M31 hM31.symm c32 c35 x38 hx38.symm, ih21]
        try dsimp only
        rw [hM31, fr_X7_turnOf M24 3 (x30 - x30 / 8 * 8) (x30 / 8) k (by omega) (by omega)]
      · obtain ⟨x36, hx36⟩ : ∃ y : Int32, y = (x22 + 0) := ⟨_, rfl⟩
        rw [p_X7_simulate_e37 M x1 x2 r11 r18 M17 M20 x22 x23 M24 i21 n21 r28 hr28.symm x29 hx29.symm x30 hx30.symm M31 hM31.symm c32 c35 x36 hx36.symm, ih21]
        try dsimp only
        rw [hM31, fr_X7_turnOf M24 3 (x30 - x30 / 8 * 8) (x30 / 8) k (by omega) (by omega)]
theorem fr_X7_simulate (M : bM) (x1 : Int64) (x2 : Int32) (k : Nat) (hk3 : k ≠ 3) (hf : k ≠ 7) (hk0 : k ≠ 0) : (f_X7_simulate M x1 x2).2 k = M k := by
  obtain ⟨r11, hr11⟩ : ∃ y : Int32, y = f_X7_in x2.toInt64 1 200 := ⟨_, rfl⟩
  by_cases c12 : r11 = 0
  · obtain ⟨r14, hr14⟩ : ∃ y : Int32, y = (f_X7_refused M 1).1 := ⟨_, rfl⟩
    obtain ⟨M13, hM13⟩ : ∃ y : bM, y = (f_X7_refused M 1).2 := ⟨_, rfl⟩
    rw [p_X7_simulate_e16 M x1 x2 r11 hr11.symm c12 r14 hr14.symm M13 hM13.symm]
    try dsimp only
    rw [hM13, fr_X7_refused M 1 k (by omega)]
  · obtain ⟨r18, hr18⟩ : ∃ y : Int32, y = (f_X7_refused M 0).1 := ⟨_, rfl⟩
    obtain ⟨M17, hM17⟩ : ∃ y : bM, y = (f_X7_refused M 0).2 := ⟨_, rfl⟩
    obtain ⟨M20, hM20⟩ : ∃ y : bM, y = f_X7_copyState M17 2 404 0 3 404 0 := ⟨_, rfl⟩
    obtain ⟨x40, hx40⟩ : ∃ y : Int32, y = (lp_X7_simulate_48 x2.toNatClampNeg 0 0 x1 M20).1 := ⟨_, rfl⟩
    obtain ⟨x41, hx41⟩ : ∃ y : Int64, y = (lp_X7_simulate_48 x2.toNatClampNeg 0 0 x1 M20).2.1 := ⟨_, rfl⟩
    obtain ⟨M42, hM42⟩ : ∃ y : bM, y = (lp_X7_simulate_48 x2.toNatClampNeg 0 0 x1 M20).2.2 := ⟨_, rfl⟩
    obtain ⟨r43, hr43⟩ : ∃ y : Int32, y = f_X7_of M42 3 0 4 := ⟨_, rfl⟩
    obtain ⟨r44, hr44⟩ : ∃ y : Int32, y = f_X7_of M42 3 1 4 := ⟨_, rfl⟩
    rw [p_X7_simulate_e45 M x1 x2 r11 hr11.symm c12 r18 hr18.symm M17 hM17.symm M20 hM20.symm x40 hx40.symm x41 hx41.symm M42 hM42.symm r43 hr43.symm r44 hr44.symm]
    try dsimp only
    rw [hM42, fr_lp_X7_simulate_48 M x1 x2 r11 r18 M17 M20 k hk3 hf hk0 x2.toNatClampNeg 0 0 x1 M20, hM20, fr_X7_copyState M17 2 404 0 3 404 0 k (by omega), hM17, fr_X7_refused M 0 k (by omega)]
set_option maxHeartbeats 4000000 in
set_option maxRecDepth 100000 in
theorem c_X7_simulate (l : Launch) (D : va_G) (E : Nat → ClassId) (o : Nat) (M : bM) (x1 : Int64) (x2 : Int32) (hg : gR (M 2)) : Met l yX7_simulate wsX7_simulate (rmF 8) (bPc D E [.ref (o + 0), .long x1, .int x2] (fun H => bk D E LRR o M H)) (bQ (aI fun r H => ∃ M1 : bM, (r = (f_X7_simulate M x1 x2).1 ∧ M1 = (f_X7_simulate M x1 x2).2) ∧ bk D E LRR o M1 H) (rB o)) 0 0 (rB o) := by
  refine Met.ofW (cc := cX7_simulate) (maxL := 10) (ret := (some .int)) (by decide) rfl ?_
  intro p e s m args below meth c s₁ B hml hv
  obtain ⟨rfl, hB, hK⟩ := hv
  have hx := B.exec
  have hb := B.bytes
  have hr := B.returns
  have hts := atoms_spec (ws := wsX7_simulate) B.pre
  have hown : s.vm.findClass RX7 = some m.cls := findClass_of_methodNamed B.named
  have hlocks := B.notSynchronized
  have hS : bS (rB o) s.heap s.heap [] := bS.rf
  have hl := lv_entry ([.ref (o + 0), .long x1, .int x2]) (n := 10) (Nat.le_of_ble_eq_true rfl)
  rw [lg_entry_eq]
  generalize (lg_sl ([.ref (o + 0), .long x1, .int x2]) ++ List.replicate (10 - (lg_sl ([.ref (o + 0), .long x1, .int x2])).length) Slot.unset).toArray = ls at hl ⊢
  have hl : lv_has ls 10 [(0, .ref (o + 0)), (1, .long x1), (3, .int x2)] := hl
  have hB : bk D E LRR o M s.heap := hB
  have hinX7 : ∀ w ∈ wsX70, w ∈ wsX7_simulate := by decide +kernel
  refine lv_aload_n hx hb dX7_simulate_0 rfl (lv_at hl 0 rfl) ?_
  refine lv_iload_n hx hb dX7_simulate_1 rfl (lv_at hl 2 rfl) ?_
  refine lv_i2l hx hb dX7_simulate_2 rfl ?_
  refine lv_lconst (v := 1) hx hb dX7_simulate_3 (by decide) ?_
  refine lv_ldc2 (v := 200) hx hb hown (hts (.constantLong RX7 220 (200)) (List.mem_of_getElem? (i := 1) rfl)) dX7_simulate_4 ?_
  refine b_pI (b_runS (As := [.long x2.toInt64, .long 1, .long 200]) (rest := [.ref (o + 0)]) ⟨hx, hb, hml, hown, hts⟩ (c_X7_in l D E x2.toInt64 1 200) (va_cwS 3 hts gX7_simulate_X7_in rfl rfl rfl (by decide +kernel) ⟨Nat.le_of_ble_eq_true rfl, Nat.le_of_ble_eq_true rfl⟩) hK trivial rfl hl rfl (Nat.le_of_ble_eq_true rfl) dX7_simulate_7 ⟨Nat.zero_le _, Nat.zero_le _⟩) hS (fun r11 hr11 locs hS => ?_)
  refine lv_if_eq (tgt := 17) hx hb dX7_simulate_10 (by decide) (fun c12 => ?_) (fun c12 => ?_)
  · refine lv_iconst (v := 1) hx hb dX7_simulate_17 (by decide) ?_
    refine b_mI (b_runV (As := [.int 1]) (rest := []) ⟨hx, hb, hml, hown, hts⟩ (c_X7_refused l D E o M 1) (cwV 1 hts gX7_simulate_X7_refused rfl rfl rfl (by decide +kernel) ⟨Nat.le_of_ble_eq_true rfl, Nat.le_of_ble_eq_true rfl⟩) hK (bk_recv hK.1 hB lay_m0 rfl) hB rfl hl rfl (Nat.le_of_ble_eq_true rfl) dX7_simulate_18 ⟨Nat.zero_le _, Nat.zero_le _⟩) hS (fun q h => h) (fun r14 M13 hM13 H locs hB _ hS => ?_)
    obtain ⟨hr14, hM13⟩ := hM13
    have hkr14 : r14 = 1 := by rw [hr14]; rfl
    refine lv_const (y := 1) hkr14 ?_
    refine lv_if_eq (tgt := 26) hx hb dX7_simulate_21 (by decide) (fun c15 => absurd c15 (by decide)) (fun c15 => ?_)
    refine lv_iconst (v := 0) hx hb dX7_simulate_24 (by decide) ?_
    have e16 := p_X7_simulate_e16 M x1 x2 r11 hr11.symm c12 r14 hr14.symm M13 hM13.symm
    exact b_iret hx hb hr hlocks hS ⟨_, rfl, _, ⟨(congrArg Prod.fst e16).symm, (congrArg Prod.snd e16).symm⟩, hB⟩ dX7_simulate_25
  · refine lv_iconst (v := 0) hx hb dX7_simulate_13 (by decide) ?_
    refine lv_goto (tgt := 18) hx hb dX7_simulate_14 (by decide) ?_
    refine b_mI (b_runV (As := [.int 0]) (rest := []) ⟨hx, hb, hml, hown, hts⟩ (c_X7_refused l D E o M 0) (cwV 1 hts gX7_simulate_X7_refused rfl rfl rfl (by decide +kernel) ⟨Nat.le_of_ble_eq_true rfl, Nat.le_of_ble_eq_true rfl⟩) hK (bk_recv hK.1 hB lay_m0 rfl) hB rfl hl rfl (Nat.le_of_ble_eq_true rfl) dX7_simulate_18 ⟨Nat.zero_le _, Nat.zero_le _⟩) hS (fun q h => h) (fun r18 M17 hM17 H locs hB _ hS => ?_)
    obtain ⟨hr18, hM17⟩ := hM17
    have hkr18 : r18 = 0 := by rw [hr18]; rfl
    refine lv_const (y := 0) hkr18 ?_
    refine lv_if_eq (tgt := 26) hx hb dX7_simulate_21 (by decide) (fun c19 => ?_) (fun c19 => absurd (by decide) c19)
    refine lv_aload_n hx hb dX7_simulate_26 rfl (lv_at hl 0 rfl) ?_
    refine b_get (D := D) (E := E) (L := LRR) (o := o) (M := M17) (v := .ref (o + 2)) (C := RX7) (T := TX7) (N := 13) hx hb hts hinX7 hown hK.1 hB 0 lay_m0 rfl 3 (by decide) (hts (.fieldLink RX7 13 "RiverMeetingModel" "now" "[I") (List.mem_of_getElem? (i := 2) rfl)) (fun _ h9 => h9) rfl dX7_simulate_27 ?_
    refine lv_iconst (v := 0) hx hb dX7_simulate_30 (by decide) ?_
    refine lv_aload_n hx hb dX7_simulate_31 rfl (lv_at hl 0 rfl) ?_
    refine b_get (D := D) (E := E) (L := LRR) (o := o) (M := M17) (v := .ref (o + 3)) (C := RX7) (T := TX7) (N := 13) hx hb hts hinX7 hown hK.1 hB 0 lay_m0 rfl 4 (by decide) (hts (.fieldLink RX7 16 "RiverMeetingModel" "trial" "[I") (List.mem_of_getElem? (i := 3) rfl)) (fun _ h9 => h9) rfl dX7_simulate_32 ?_
    refine lv_iconst (v := 0) hx hb dX7_simulate_35 (by decide) ?_
    refine b_mV (b_runS (As := [.ref (o + 2), .int 0, .ref (o + 3), .int 0]) (rest := []) ⟨hx, hb, hml, hown, hts⟩ (c_X7_copyState l D E o M17 2 404 0 3 404 0 lay_m2 lay_m3 cs_0 cs_0) (va_cwS 4 hts gX7_simulate_X7_copyState rfl rfl rfl (by decide +kernel) ⟨Nat.le_of_ble_eq_true rfl, Nat.le_of_ble_eq_true rfl⟩) hK hB rfl hl rfl (Nat.le_of_ble_eq_true rfl) dX7_simulate_36 ⟨Nat.zero_le _, Nat.zero_le _⟩) hS (fun q h => h) (fun M20 hM20 H locs hB _ hS => ?_)
    refine lv_lload_n hx hb dX7_simulate_39 rfl (lv_at hl 1 rfl) ?_
    refine lv_lstore (lv' := [(4, .long x1), (0, .ref (o + 0)), (1, .long x1), (3, .int x2)]) hx hb dX7_simulate_40 hl (by decide) rfl (fun ls hl => ?_)
    refine lv_iconst (v := 0) hx hb dX7_simulate_42 (by decide) ?_
    refine lv_istore (lv' := [(6, .int 0), (4, .long x1), (0, .ref (o + 0)), (1, .long x1), (3, .int x2)]) hx hb dX7_simulate_43 hl (by decide) rfl (fun ls hl => ?_)
    refine lv_iconst (v := 0) hx hb dX7_simulate_45 (by decide) ?_
    refine lv_istore (lv' := [(7, .int 0), (6, .int 0), (4, .long x1), (0, .ref (o + 0)), (1, .long x1), (3, .int x2)]) hx hb dX7_simulate_46 hl (by decide) rfl (fun ls hl => ?_)
    have lp21 : ∀ (n21 i21 : Nat) (x22 : Int32) (x23 : Int64) (M24 : bM), i21 + n21 = x2.toNatClampNeg → (gR (M24 3)) → ∀ (H : Heap) (locs : List Loc), bk D E LRR o M24 H → bS (rB o) s.heap H locs → ∀ ls : Array Slot, lv_has ls 10 [(7, .int (nI i21)), (6, .int x22), (4, .long x23), (0, .ref (o + 0)), (1, .long x1), (3, .int x2)] → (∀ (H : Heap) (locs : List Loc), (gR (((lp_X7_simulate_48 n21 i21 x22 x23 M24).2.2) 3)) → bk D E LRR o ((lp_X7_simulate_48 n21 i21 x22 x23 M24).2.2) H → bS (rB o) s.heap H locs → ∀ ls : Array Slot, lv_has ls 10 [(6, .int ((lp_X7_simulate_48 n21 i21 x22 x23 M24).1)), (4, .long ((lp_X7_simulate_48 n21 i21 x22 x23 M24).2.1)), (0, .ref (o + 0)), (1, .long x1), (3, .int x2)] → W p l e (headSpec wsX7_simulate (rmF 8)).room s m ([.ref (o + 0), .long x1, .int x2] : List Value).toArray below meth c H locs 0 0 (MQ below (bQ (aI fun r H => ∃ M1 : bM, (r = (f_X7_simulate M x1 x2).1 ∧ M1 = (f_X7_simulate M x1 x2).2) ∧ bk D E LRR o M1 H) (rB o)) ([.ref (o + 0), .long x1, .int x2] : List Value).toArray s 0 0 (rB o)) (F0 m 132 ls [])) → W p l e (headSpec wsX7_simulate (rmF 8)).room s m ([.ref (o + 0), .long x1, .int x2] : List Value).toArray below meth c H locs 0 0 (MQ below (bQ (aI fun r H => ∃ M1 : bM, (r = (f_X7_simulate M x1 x2).1 ∧ M1 = (f_X7_simulate M x1 x2).2) ∧ bk D E LRR o M1 H) (rB o)) ([.ref (o + 0), .long x1, .int x2] : List Value).toArray s 0 0 (rB o)) (F0 m 48 ls []) := by
      intro n21
      induction n21 with
      | zero =>
        intro i21 x22 x23 M24 hi21 hv0_21 H locs hB hS ls hl hexit21
        have hz21 : i21 = x2.toNatClampNeg := by omega
        refine lv_iload hx hb dX7_simulate_48 (lv_at hl 0 rfl) ?_
        refine lv_iload_n hx hb dX7_simulate_50 rfl (lv_at hl 5 rfl) ?_
        refine lv_icmp_ge (tgt := 132) hx hb dX7_simulate_51 (by decide) (fun c25 => ?_) (fun c25 => absurd (by rw [hz21]; exact b_le_N _) c25)
        have e26 := p_X7_simulate_e26 M x1 x2 r11 r18 M17 M20 x22 x23 M24 i21 
        rw [e26] at hexit21
        exact hexit21 _ _  hv0_21 hB hS ls (lv_sub hl [1, 2, 3, 4, 5] rfl)
      | succ n21 ih21 =>
        intro i21 x22 x23 M24 hi21 hv0_21 H locs hB hS ls hl hexit21
        refine lv_iload hx hb dX7_simulate_48 (lv_at hl 0 rfl) ?_
        refine lv_iload_n hx hb dX7_simulate_50 rfl (lv_at hl 5 rfl) ?_
        refine lv_icmp_ge (tgt := 132) hx hb dX7_simulate_51 (by decide) (fun c27 => absurd c27 (b_nle_N (i := i21) (by omega))) (fun c27 => ?_)
        refine lv_aload_n hx hb dX7_simulate_54 rfl (lv_at hl 3 rfl) ?_
        refine b_get (D := D) (E := E) (L := LRR) (o := o) (M := M24) (v := .ref (o + 3)) (C := RX7) (T := TX7) (N := 13) hx hb hts hinX7 hown hK.1 hB 0 lay_m0 rfl 4 (by decide) (hts (.fieldLink RX7 16 "RiverMeetingModel" "trial" "[I") (List.mem_of_getElem? (i := 3) rfl)) (fun _ h9 => h9) rfl dX7_simulate_55 ?_
        refine b_pI (b_runS (As := [.ref (o + 3)]) (rest := []) ⟨hx, hb, hml, hown, hts⟩ (c_X7_isUnderWay l D E o M24 3 lay_m3) (va_cwS 1 hts gX7_simulate_X7_isUnderWay rfl rfl rfl (by decide +kernel) ⟨Nat.le_of_ble_eq_true rfl, Nat.le_of_ble_eq_true rfl⟩) hK hB rfl hl rfl (Nat.le_of_ble_eq_true rfl) dX7_simulate_58 ⟨Nat.zero_le _, Nat.zero_le _⟩) hS (fun r28 hr28 locs hS => ?_)
        refine lv_istore (lv' := [(8, .int r28), (7, .int (nI i21)), (6, .int x22), (4, .long x23), (0, .ref (o + 0)), (1, .long x1), (3, .int x2)]) hx hb dX7_simulate_61 hl (by decide) rfl (fun ls hl => ?_)
        refine lv_lload hx hb dX7_simulate_63 (lv_at hl 3 rfl) ?_
        refine lv_ldc2 (v := 6364136223846793005) hx hb hown (hts (.constantLong RX7 73 (6364136223846793005)) (List.mem_of_getElem? (i := 4) rfl)) dX7_simulate_65 ?_
        refine lv_lmul hx hb dX7_simulate_68 ?_
        refine lv_ldc2 (v := 1442695040888963407) hx hb hown (hts (.constantLong RX7 75 (1442695040888963407)) (List.mem_of_getElem? (i := 5) rfl)) dX7_simulate_69 ?_
        refine lv_ladd hx hb dX7_simulate_72 ?_
        refine lv_topl (fun x29 hx29 => ?_)
        refine lv_lstore (lv' := [(4, .long x29), (8, .int r28), (7, .int (nI i21)), (6, .int x22), (0, .ref (o + 0)), (1, .long x1), (3, .int x2)]) hx hb dX7_simulate_73 hl (by decide) rfl (fun ls hl => ?_)
        refine lv_lload hx hb dX7_simulate_75 (lv_at hl 0 rfl) ?_
        refine lv_bipush (v := 33) hx hb dX7_simulate_77 (by decide) ?_
        refine lv_lushr hx hb dX7_simulate_79 rfl ?_
        refine lv_l2i hx hb dX7_simulate_80 rfl ?_
        refine lv_topi (fun x30 hx30 => ?_)
        refine lv_istore (lv' := [(9, .int x30), (4, .long x29), (8, .int r28), (7, .int (nI i21)), (6, .int x22), (0, .ref (o + 0)), (1, .long x1), (3, .int x2)]) hx hb dX7_simulate_81 hl (by decide) rfl (fun ls hl => ?_)
        refine lv_aload_n hx hb dX7_simulate_83 rfl (lv_at hl 5 rfl) ?_
        refine lv_aload_n hx hb dX7_simulate_84 rfl (lv_at hl 5 rfl) ?_
        refine b_get (D := D) (E := E) (L := LRR) (o := o) (M := M24) (v := .ref (o + 3)) (C := RX7) (T := TX7) (N := 13) hx hb hts hinX7 hown hK.1 hB 0 lay_m0 rfl 4 (by decide) (hts (.fieldLink RX7 16 "RiverMeetingModel" "trial" "[I") (List.mem_of_getElem? (i := 3) rfl)) (fun _ h9 => h9) rfl dX7_simulate_85 ?_
        refine lv_iload hx hb dX7_simulate_88 (lv_at hl 0 rfl) ?_
        refine lv_bipush (v := 8) hx hb dX7_simulate_90 (by decide) ?_
        refine lv_irem hx hb dX7_simulate_92 (by decide) ?_
        refine lv_iload hx hb dX7_simulate_93 (lv_at hl 0 rfl) ?_
        refine lv_bipush (v := 8) hx hb dX7_simulate_95 (by decide) ?_
        refine lv_idiv hx hb dX7_simulate_97 (by decide) ?_
        refine b_mV (b_runV (As := [.ref (o + 3), .int (x30 - x30 / 8 * 8), .int (x30 / 8)]) (rest := []) ⟨hx, hb, hml, hown, hts⟩ (c_X7_turnOf l D E o M24 3 (x30 - x30 / 8 * 8) (x30 / 8) lay_m3 hv0_21 (by decide) (dr8 (x := x29) (by rw [hx30]))) (cwV 3 hts gX7_simulate_X7_turnOf rfl rfl rfl (by decide +kernel) ⟨Nat.le_of_ble_eq_true rfl, Nat.le_of_ble_eq_true rfl⟩) hK (bk_recv hK.1 hB lay_m0 rfl) hB rfl hl rfl (Nat.le_of_ble_eq_true rfl) dX7_simulate_98 ⟨Nat.zero_le _, Nat.zero_le _⟩) hS (fun q h => h) (fun M31 hM31 H locs hB _ hS => ?_)
        refine lv_iload hx hb dX7_simulate_101 (lv_at hl 4 rfl) ?_
        refine lv_iload hx hb dX7_simulate_103 (lv_at hl 2 rfl) ?_
        refine lv_if_eq (tgt := 122) hx hb dX7_simulate_105 (by decide) (fun c32 => ?_) (fun c32 => ?_)
        · refine lv_iconst (v := 0) hx hb dX7_simulate_122 (by decide) ?_
          refine lv_iadd hx hb dX7_simulate_123 ?_
          refine lv_topi (fun x33 hx33 => ?_)
          refine lv_istore (lv' := [(6, .int x33), (9, .int x30), (4, .long x29), (8, .int r28), (7, .int (nI i21)), (0, .ref (o + 0)), (1, .long x1), (3, .int x2)]) hx hb dX7_simulate_124 hl (by decide) rfl (fun ls hl => ?_)
          refine lv_iinc (v := nI (i21 + 1)) (lv' := [(7, .int (nI (i21 + 1))), (6, .int x33), (9, .int x30), (4, .long x29), (8, .int r28), (0, .ref (o + 0)), (1, .long x1), (3, .int x2)]) hx hb dX7_simulate_126 hl (k := 4) rfl (nI_1 i21) (by decide) rfl (fun ls hl => ?_)
          refine lv_goto (tgt := 48) hx hb dX7_simulate_129 (by decide) ?_
          have e34 := p_X7_simulate_e34 M x1 x2 r11 r18 M17 M20 x22 x23 M24 i21 n21 r28 hr28.symm x29 hx29.symm x30 hx30.symm M31 hM31.symm c32 x33 hx33.symm
          rw [e34] at hexit21
          exact ih21 (i21 + 1) x33 x29 M31 (by omega) (by rw [hM31]; exact gR_turnOf (by decide) (dr8 (x := x29) (by rw [hx30])) hv0_21) _ _ hB hS ls (lv_sub hl [0, 1, 3, 5, 6, 7] rfl) hexit21
        · refine lv_aload_n hx hb dX7_simulate_108 rfl (lv_at hl 5 rfl) ?_
          refine b_get (D := D) (E := E) (L := LRR) (o := o) (M := M31) (v := .ref (o + 3)) (C := RX7) (T := TX7) (N := 13) hx hb hts hinX7 hown hK.1 hB 0 lay_m0 rfl 4 (by decide) (hts (.fieldLink RX7 16 "RiverMeetingModel" "trial" "[I") (List.mem_of_getElem? (i := 3) rfl)) (fun _ h9 => h9) rfl dX7_simulate_109 ?_
          refine lv_iconst (v := 1) hx hb dX7_simulate_112 (by decide) ?_
          refine b_iald hx hb hK.1 hB 3 lay_m3 (vp_in_nI (n := 1) (by decide) (by decide)) dX7_simulate_113 ?_
          refine lv_const (y := M31 3 1) (by rfl) ?_
          refine lv_iconst (v := 2) hx hb dX7_simulate_114 (by decide) ?_
          refine lv_icmp_ne (tgt := 122) hx hb dX7_simulate_115 (by decide) (fun c35 => ?_) (fun c35 => ?_)
          · refine lv_iconst (v := 0) hx hb dX7_simulate_122 (by decide) ?_
            refine lv_iadd hx hb dX7_simulate_123 ?_
            refine lv_topi (fun x36 hx36 => ?_)
            refine lv_istore (lv' := [(6, .int x36), (9, .int x30), (4, .long x29), (8, .int r28), (7, .int (nI i21)), (0, .ref (o + 0)), (1, .long x1), (3, .int x2)]) hx hb dX7_simulate_124 hl (by decide) rfl (fun ls hl => ?_)
            refine lv_iinc (v := nI (i21 + 1)) (lv' := [(7, .int (nI (i21 + 1))), (6, .int x36), (9, .int x30), (4, .long x29), (8, .int r28), (0, .ref (o + 0)), (1, .long x1), (3, .int x2)]) hx hb dX7_simulate_126 hl (k := 4) rfl (nI_1 i21) (by decide) rfl (fun ls hl => ?_)
            refine lv_goto (tgt := 48) hx hb dX7_simulate_129 (by decide) ?_
            have e37 := p_X7_simulate_e37 M x1 x2 r11 r18 M17 M20 x22 x23 M24 i21 n21 r28 hr28.symm x29 hx29.symm x30 hx30.symm M31 hM31.symm c32 c35 x36 hx36.symm
            rw [e37] at hexit21
            exact ih21 (i21 + 1) x36 x29 M31 (by omega) (by rw [hM31]; exact gR_turnOf (by decide) (dr8 (x := x29) (by rw [hx30])) hv0_21) _ _ hB hS ls (lv_sub hl [0, 1, 3, 5, 6, 7] rfl) hexit21
          · refine lv_iconst (v := 1) hx hb dX7_simulate_118 (by decide) ?_
            refine lv_goto (tgt := 123) hx hb dX7_simulate_119 (by decide) ?_
            refine lv_iadd hx hb dX7_simulate_123 ?_
            refine lv_topi (fun x38 hx38 => ?_)
            refine lv_istore (lv' := [(6, .int x38), (9, .int x30), (4, .long x29), (8, .int r28), (7, .int (nI i21)), (0, .ref (o + 0)), (1, .long x1), (3, .int x2)]) hx hb dX7_simulate_124 hl (by decide) rfl (fun ls hl => ?_)
            refine lv_iinc (v := nI (i21 + 1)) (lv' := [(7, .int (nI (i21 + 1))), (6, .int x38), (9, .int x30), (4, .long x29), (8, .int r28), (0, .ref (o + 0)), (1, .long x1), (3, .int x2)]) hx hb dX7_simulate_126 hl (k := 4) rfl (nI_1 i21) (by decide) rfl (fun ls hl => ?_)
            refine lv_goto (tgt := 48) hx hb dX7_simulate_129 (by decide) ?_
            have e39 := p_X7_simulate_e39 M x1 x2 r11 r18 M17 M20 x22 x23 M24 i21 n21 r28 hr28.symm x29 hx29.symm x30 hx30.symm M31 hM31.symm c32 c35 x38 hx38.symm
            rw [e39] at hexit21
            exact ih21 (i21 + 1) x38 x29 M31 (by omega) (by rw [hM31]; exact gR_turnOf (by decide) (dr8 (x := x29) (by rw [hx30])) hv0_21) _ _ hB hS ls (lv_sub hl [0, 1, 3, 5, 6, 7] rfl) hexit21
    refine lp21 x2.toNatClampNeg 0 0 x1 M20 (by omega) (by rw [hM20]; exact gR_copy (by decide) (gR_of (M := M) (by rw [hM17]; exact fr_X7_refused M 0 2 (by decide)) hg)) _ _ hB hS ls (lv_sub hl [0, 1, 2, 3, 4, 5] rfl) ?_
    intro H locs hw0_21 hB hS ls hl
    obtain ⟨x40, hx40⟩ : ∃ y : Int32, y = (lp_X7_simulate_48 x2.toNatClampNeg 0 0 x1 M20).1 := ⟨_, rfl⟩
    rw [← hx40] at hl
    obtain ⟨x41, hx41⟩ : ∃ y : Int64, y = (lp_X7_simulate_48 x2.toNatClampNeg 0 0 x1 M20).2.1 := ⟨_, rfl⟩
    rw [← hx41] at hl
    obtain ⟨M42, hM42⟩ : ∃ y : bM, y = (lp_X7_simulate_48 x2.toNatClampNeg 0 0 x1 M20).2.2 := ⟨_, rfl⟩
    rw [← hM42] at hB hw0_21
    have hl : lv_has ls 10 [(6, .int x40), (4, .long x41), (0, .ref (o + 0)), (1, .long x1), (3, .int x2)] := hl
    refine lv_sipush (v := 10000) hx hb dX7_simulate_132 (by decide) ?_
    refine lv_aload_n hx hb dX7_simulate_135 rfl (lv_at hl 2 rfl) ?_
    refine b_get (D := D) (E := E) (L := LRR) (o := o) (M := M42) (v := .ref (o + 3)) (C := RX7) (T := TX7) (N := 13) hx hb hts hinX7 hown hK.1 hB 0 lay_m0 rfl 4 (by decide) (hts (.fieldLink RX7 16 "RiverMeetingModel" "trial" "[I") (List.mem_of_getElem? (i := 3) rfl)) (fun _ h9 => h9) rfl dX7_simulate_136 ?_
    refine lv_iconst (v := 0) hx hb dX7_simulate_139 (by decide) ?_
    refine b_iald hx hb hK.1 hB 3 lay_m3 (vp_in_nI (n := 0) (by decide) (by decide)) dX7_simulate_140 ?_
    refine lv_const (y := M42 3 0) (by rfl) ?_
    refine lv_aload_n hx hb dX7_simulate_141 rfl (lv_at hl 2 rfl) ?_
    refine b_get (D := D) (E := E) (L := LRR) (o := o) (M := M42) (v := .ref (o + 2)) (C := RX7) (T := TX7) (N := 13) hx hb hts hinX7 hown hK.1 hB 0 lay_m0 rfl 3 (by decide) (hts (.fieldLink RX7 13 "RiverMeetingModel" "now" "[I") (List.mem_of_getElem? (i := 2) rfl)) (fun _ h9 => h9) rfl dX7_simulate_142 ?_
    refine lv_iconst (v := 0) hx hb dX7_simulate_145 (by decide) ?_
    refine b_iald hx hb hK.1 hB 2 lay_m2 (vp_in_nI (n := 0) (by decide) (by decide)) dX7_simulate_146 ?_
    refine lv_const (y := M42 2 0) (by rfl) ?_
    refine lv_isub hx hb dX7_simulate_147 ?_
    refine lv_imul hx hb dX7_simulate_148 ?_
    refine lv_bipush (v := 100) hx hb dX7_simulate_149 (by decide) ?_
    refine lv_iload hx hb dX7_simulate_151 (lv_at hl 0 rfl) ?_
    refine lv_imul hx hb dX7_simulate_153 ?_
    refine lv_iadd hx hb dX7_simulate_154 ?_
    refine lv_aload_n hx hb dX7_simulate_155 rfl (lv_at hl 2 rfl) ?_
    refine b_get (D := D) (E := E) (L := LRR) (o := o) (M := M42) (v := .ref (o + 3)) (C := RX7) (T := TX7) (N := 13) hx hb hts hinX7 hown hK.1 hB 0 lay_m0 rfl 4 (by decide) (hts (.fieldLink RX7 16 "RiverMeetingModel" "trial" "[I") (List.mem_of_getElem? (i := 3) rfl)) (fun _ h9 => h9) rfl dX7_simulate_156 ?_
    refine lv_iconst (v := 0) hx hb dX7_simulate_159 (by decide) ?_
    refine lv_iconst (v := 4) hx hb dX7_simulate_160 (by decide) ?_
    refine b_pI (b_runS (As := [.ref (o + 3), .int 0, .int 4]) (rest := [.int (((10000 : Int32) * ((M42 3 0) - (M42 2 0))) + ((100 : Int32) * x40))]) ⟨hx, hb, hml, hown, hts⟩ (c_X7_of l D E o M42 3 0 4 lay_m3 (Or.inl rfl) (vp_in_nI (n := 4) (by decide) (by decide))) (va_cwS 3 hts gX7_simulate_X7_of rfl rfl rfl (by decide +kernel) ⟨Nat.le_of_ble_eq_true rfl, Nat.le_of_ble_eq_true rfl⟩) hK hB rfl hl rfl (Nat.le_of_ble_eq_true rfl) dX7_simulate_161 ⟨Nat.zero_le _, Nat.zero_le _⟩) hS (fun r43 hr43 locs hS => ?_)
    refine lv_iadd hx hb dX7_simulate_164 ?_
    refine lv_aload_n hx hb dX7_simulate_165 rfl (lv_at hl 2 rfl) ?_
    refine b_get (D := D) (E := E) (L := LRR) (o := o) (M := M42) (v := .ref (o + 3)) (C := RX7) (T := TX7) (N := 13) hx hb hts hinX7 hown hK.1 hB 0 lay_m0 rfl 4 (by decide) (hts (.fieldLink RX7 16 "RiverMeetingModel" "trial" "[I") (List.mem_of_getElem? (i := 3) rfl)) (fun _ h9 => h9) rfl dX7_simulate_166 ?_
    refine lv_iconst (v := 1) hx hb dX7_simulate_169 (by decide) ?_
    refine lv_iconst (v := 4) hx hb dX7_simulate_170 (by decide) ?_
    refine b_pI (b_runS (As := [.ref (o + 3), .int 1, .int 4]) (rest := [.int ((((10000 : Int32) * ((M42 3 0) - (M42 2 0))) + ((100 : Int32) * x40)) + r43)]) ⟨hx, hb, hml, hown, hts⟩ (c_X7_of l D E o M42 3 1 4 lay_m3 (Or.inr rfl) (vp_in_nI (n := 4) (by decide) (by decide))) (va_cwS 3 hts gX7_simulate_X7_of rfl rfl rfl (by decide +kernel) ⟨Nat.le_of_ble_eq_true rfl, Nat.le_of_ble_eq_true rfl⟩) hK hB rfl hl rfl (Nat.le_of_ble_eq_true rfl) dX7_simulate_171 ⟨Nat.zero_le _, Nat.zero_le _⟩) hS (fun r44 hr44 locs hS => ?_)
    refine lv_iadd hx hb dX7_simulate_174 ?_
    have e45 := p_X7_simulate_e45 M x1 x2 r11 hr11.symm c12 r18 hr18.symm M17 hM17.symm M20 hM20.symm x40 hx40.symm x41 hx41.symm M42 hM42.symm r43 hr43.symm r44 hr44.symm
    exact b_iret hx hb hr hlocks hS ⟨_, rfl, _, ⟨(congrArg Prod.fst e45).symm, (congrArg Prod.snd e45).symm⟩, hB⟩ dX7_simulate_175

def lp_X7_runScript_6  : Nat → Nat → Int64 → (Int64)
  | 0, i11, x12 => x12
  | n11 + 1, i11, x12 => (if 4 ≤ nI i11 then x12 else (let x18 : Int64 := (x12 * 10000); lp_X7_runScript_6 n11 (i11 + 1) x18))
theorem u0_lp_X7_runScript_6  (i11 : Nat) (x12 : Int64) : lp_X7_runScript_6 0 i11 x12 = x12 := rfl
theorem u1_lp_X7_runScript_6  (n11 i11 : Nat) (x12 : Int64) : lp_X7_runScript_6 (n11 + 1) i11 x12 = (if 4 ≤ nI i11 then x12 else (let x18 : Int64 := (x12 * 10000); lp_X7_runScript_6 n11 (i11 + 1) x18)) := rfl
def lp_X7_runScript_86 (x2 : Int64) : Nat → Nat → Int64 → bM → (Bool × Int32 × Int64 × bM)
  | 0, i37, x38, M39 => (false, 0, x38, M39)
  | n37 + 1, i37, x38, M39 => (let x43 : Int64 := (x38 / 10000); (let x44 : Int32 := ((x2 / x43) - (x2 / x43) / 10000 * 10000).toInt32; (let r46 : Int32 := (f_X7_command M39 (x44 / 1000) (x44 - x44 / 1000 * 1000)).1; (let M45 : bM := (f_X7_command M39 (x44 / 1000) (x44 - x44 / 1000 * 1000)).2; (if r46 = 0 then (true, nI i37, x43, M45) else lp_X7_runScript_86 x2 n37 (i37 + 1) x43 M45)))))
theorem u0_lp_X7_runScript_86 (x2 : Int64) (i37 : Nat) (x38 : Int64) (M39 : bM) : lp_X7_runScript_86 x2 0 i37 x38 M39 = (false, 0, x38, M39) := rfl
theorem u1_lp_X7_runScript_86 (x2 : Int64) (n37 i37 : Nat) (x38 : Int64) (M39 : bM) : lp_X7_runScript_86 x2 (n37 + 1) i37 x38 M39 = (let x43 : Int64 := (x38 / 10000); (let x44 : Int32 := ((x2 / x43) - (x2 / x43) / 10000 * 10000).toInt32; (let r46 : Int32 := (f_X7_command M39 (x44 / 1000) (x44 - x44 / 1000 * 1000)).1; (let M45 : bM := (f_X7_command M39 (x44 / 1000) (x44 - x44 / 1000 * 1000)).2; (if r46 = 0 then (true, nI i37, x43, M45) else lp_X7_runScript_86 x2 n37 (i37 + 1) x43 M45))))) := rfl
theorem rs_pw : ∀ N : Nat, N ≤ 4 → lp_X7_runScript_6 N 0 1 = pw N := by
  intro N hN
  have hc : ∀ i : Nat, i < 4 → ¬ (4 : Int32) ≤ nI i := fun i hi => nI_ge (b := 4) hi (by decide)
  rcases (by omega : N = 0 ∨ N = 1 ∨ N = 2 ∨ N = 3 ∨ N = 4) with rfl | rfl | rfl | rfl | rfl
  · rw [u0_lp_X7_runScript_6]; rfl
  · rw [u1_lp_X7_runScript_6, if_neg (hc 0 (by decide))]; dsimp only; rw [u0_lp_X7_runScript_6]; rfl
  · rw [u1_lp_X7_runScript_6, if_neg (hc 0 (by decide))]; dsimp only; rw [u1_lp_X7_runScript_6, if_neg (hc 1 (by decide))]; dsimp only; rw [u0_lp_X7_runScript_6]; rfl
  · rw [u1_lp_X7_runScript_6, if_neg (hc 0 (by decide))]; dsimp only; rw [u1_lp_X7_runScript_6, if_neg (hc 1 (by decide))]; dsimp only; rw [u1_lp_X7_runScript_6, if_neg (hc 2 (by decide))]; dsimp only; rw [u0_lp_X7_runScript_6]; rfl
  · rw [u1_lp_X7_runScript_6, if_neg (hc 0 (by decide))]; dsimp only; rw [u1_lp_X7_runScript_6, if_neg (hc 1 (by decide))]; dsimp only; rw [u1_lp_X7_runScript_6, if_neg (hc 2 (by decide))]; dsimp only; rw [u1_lp_X7_runScript_6, if_neg (hc 3 (by decide))]; dsimp only; rw [u0_lp_X7_runScript_6]; rfl
def f_X7_runScript (M : bM) (x1 : Int32) (x2 : Int64) : Int32 × bM := (let x20 : Int64 := (lp_X7_runScript_6 x1.toNatClampNeg 0 1); (let r21 : Int32 := f_X7_in x1.toInt64 1 4; (if r21 = 0 then (let r24 : Int32 := (f_X7_refused M 1).1; (let M23 : bM := (f_X7_refused M 1).2; (0, M23))) else (let r27 : Int32 := f_X7_in x2 0 (x20 - 1); (if r27 = 0 then (let r30 : Int32 := (f_X7_refused M 1).1; (let M29 : bM := (f_X7_refused M 1).2; (0, M29))) else (let r34 : Int32 := (f_X7_refused M 0).1; (let M33 : bM := (f_X7_refused M 0).2; (let M36 : bM := f_X7_copyState M33 2 404 0 3 404 0; (if (lp_X7_runScript_86 x2 x1.toNatClampNeg 0 x20 M36).1 = true then ((lp_X7_runScript_86 x2 x1.toNatClampNeg 0 x20 M36).2.1, (lp_X7_runScript_86 x2 x1.toNatClampNeg 0 x20 M36).2.2.2) else (let x51 : Int64 := (lp_X7_runScript_86 x2 x1.toNatClampNeg 0 x20 M36).2.2.1; (let M52 : bM := (lp_X7_runScript_86 x2 x1.toNatClampNeg 0 x20 M36).2.2.2; ((-1), M52))))))))))))
theorem u_f_X7_runScript (M : bM) (x1 : Int32) (x2 : Int64) : f_X7_runScript M x1 x2 = (let x20 : Int64 := (lp_X7_runScript_6 x1.toNatClampNeg 0 1); (let r21 : Int32 := f_X7_in x1.toInt64 1 4; (if r21 = 0 then (let r24 : Int32 := (f_X7_refused M 1).1; (let M23 : bM := (f_X7_refused M 1).2; (0, M23))) else (let r27 : Int32 := f_X7_in x2 0 (x20 - 1); (if r27 = 0 then (let r30 : Int32 := (f_X7_refused M 1).1; (let M29 : bM := (f_X7_refused M 1).2; (0, M29))) else (let r34 : Int32 := (f_X7_refused M 0).1; (let M33 : bM := (f_X7_refused M 0).2; (let M36 : bM := f_X7_copyState M33 2 404 0 3 404 0; (if (lp_X7_runScript_86 x2 x1.toNatClampNeg 0 x20 M36).1 = true then ((lp_X7_runScript_86 x2 x1.toNatClampNeg 0 x20 M36).2.1, (lp_X7_runScript_86 x2 x1.toNatClampNeg 0 x20 M36).2.2.2) else (let x51 : Int64 := (lp_X7_runScript_86 x2 x1.toNatClampNeg 0 x20 M36).2.2.1; (let M52 : bM := (lp_X7_runScript_86 x2 x1.toNatClampNeg 0 x20 M36).2.2.2; ((-1), M52)))))))))))) := rfl
theorem p_X7_runScript_e14 (M : bM) (x1 : Int32) (x2 : Int64) (x12 : Int64) (i11 : Nat)  : lp_X7_runScript_6 0 i11 x12 = x12 := by exact u0_lp_X7_runScript_6 i11 x12
theorem p_X7_runScript_e17 (M : bM) (x1 : Int32) (x2 : Int64) (x12 : Int64) (i11 : Nat) (n11 : Nat) (c16 : 4 ≤ nI i11) : lp_X7_runScript_6 (n11 + 1) i11 x12 = x12 := by exact Eq.trans (u1_lp_X7_runScript_6 n11 i11 x12) (if_pos c16)
theorem p_X7_runScript_e19 (M : bM) (x1 : Int32) (x2 : Int64) (x12 : Int64) (i11 : Nat) (n11 : Nat) (c16 : ¬ 4 ≤ nI i11) (x18 : Int64) (hx18 : (x12 * 10000) = x18) : lp_X7_runScript_6 (n11 + 1) i11 x12 = lp_X7_runScript_6 n11 (i11 + 1) x18 := by subst hx18; exact Eq.trans (u1_lp_X7_runScript_6 n11 i11 x12) (if_neg c16)
theorem p_X7_runScript_e26 (M : bM) (x1 : Int32) (x2 : Int64) (x20 : Int64) (hx20 : (lp_X7_runScript_6 x1.toNatClampNeg 0 1) = x20) (r21 : Int32) (hr21 : f_X7_in x1.toInt64 1 4 = r21) (c22 : r21 = 0) (r24 : Int32) (hr24 : (f_X7_refused M 1).1 = r24) (M23 : bM) (hM23 : (f_X7_refused M 1).2 = M23) : f_X7_runScript M x1 x2 = (0, M23) := by subst hM23 hr24 hr21 hx20; exact Eq.trans (u_f_X7_runScript M x1 x2) (if_pos c22)
theorem p_X7_runScript_e32 (M : bM) (x1 : Int32) (x2 : Int64) (x20 : Int64) (hx20 : (lp_X7_runScript_6 x1.toNatClampNeg 0 1) = x20) (r21 : Int32) (hr21 : f_X7_in x1.toInt64 1 4 = r21) (c22 : ¬ r21 = 0) (r27 : Int32) (hr27 : f_X7_in x2 0 (x20 - 1) = r27) (c28 : r27 = 0) (r30 : Int32) (hr30 : (f_X7_refused M 1).1 = r30) (M29 : bM) (hM29 : (f_X7_refused M 1).2 = M29) : f_X7_runScript M x1 x2 = (0, M29) := by subst hM29 hr30 hr27 hr21 hx20; exact Eq.trans (u_f_X7_runScript M x1 x2) (Eq.trans (if_neg c22) (if_pos c28))
theorem p_X7_runScript_e41 (M : bM) (x1 : Int32) (x2 : Int64) (x20 : Int64) (r21 : Int32) (r27 : Int32) (r34 : Int32) (M33 : bM) (M36 : bM) (x38 : Int64) (M39 : bM) (i37 : Nat)  : lp_X7_runScript_86 x2 0 i37 x38 M39 = (false, 0, x38, M39) := by exact u0_lp_X7_runScript_86 x2 i37 x38 M39
theorem p_X7_runScript_e48 (M : bM) (x1 : Int32) (x2 : Int64) (x20 : Int64) (r21 : Int32) (r27 : Int32) (r34 : Int32) (M33 : bM) (M36 : bM) (x38 : Int64) (M39 : bM) (i37 : Nat) (n37 : Nat) (x43 : Int64) (hx43 : (x38 / 10000) = x43) (x44 : Int32) (hx44 : ((x2 / x43) - (x2 / x43) / 10000 * 10000).toInt32 = x44) (r46 : Int32) (hr46 : (f_X7_command M39 (x44 / 1000) (x44 - x44 / 1000 * 1000)).1 = r46) (M45 : bM) (hM45 : (f_X7_command M39 (x44 / 1000) (x44 - x44 / 1000 * 1000)).2 = M45) (c47 : ¬ r46 = 0) : lp_X7_runScript_86 x2 (n37 + 1) i37 x38 M39 = lp_X7_runScript_86 x2 n37 (i37 + 1) x43 M45 := by subst hM45 hr46 hx44 hx43; exact Eq.trans (u1_lp_X7_runScript_86 x2 n37 i37 x38 M39) (if_neg c47)
theorem p_X7_runScript_e49 (M : bM) (x1 : Int32) (x2 : Int64) (x20 : Int64) (r21 : Int32) (r27 : Int32) (r34 : Int32) (M33 : bM) (M36 : bM) (x38 : Int64) (M39 : bM) (i37 : Nat) (n37 : Nat) (x43 : Int64) (hx43 : (x38 / 10000) = x43) (x44 : Int32) (hx44 : ((x2 / x43) - (x2 / x43) / 10000 * 10000).toInt32 = x44) (r46 : Int32) (hr46 : (f_X7_command M39 (x44 / 1000) (x44 - x44 / 1000 * 1000)).1 = r46) (M45 : bM) (hM45 : (f_X7_command M39 (x44 / 1000) (x44 - x44 / 1000 * 1000)).2 = M45) (c47 : r46 = 0) : lp_X7_runScript_86 x2 (n37 + 1) i37 x38 M39 = (true, nI i37, x43, M45) := by subst hM45 hr46 hx44 hx43; exact Eq.trans (u1_lp_X7_runScript_86 x2 n37 i37 x38 M39) (if_pos c47)
theorem p_X7_runScript_e50 (M : bM) (x1 : Int32) (x2 : Int64) (x20 : Int64) (hx20 : (lp_X7_runScript_6 x1.toNatClampNeg 0 1) = x20) (r21 : Int32) (hr21 : f_X7_in x1.toInt64 1 4 = r21) (c22 : ¬ r21 = 0) (r27 : Int32) (hr27 : f_X7_in x2 0 (x20 - 1) = r27) (c28 : ¬ r27 = 0) (r34 : Int32) (hr34 : (f_X7_refused M 0).1 = r34) (M33 : bM) (hM33 : (f_X7_refused M 0).2 = M33) (M36 : bM) (hM36 : f_X7_copyState M33 2 404 0 3 404 0 = M36) (hfl37 : (lp_X7_runScript_86 x2 x1.toNatClampNeg 0 x20 M36).1 = true) : f_X7_runScript M x1 x2 = ((lp_X7_runScript_86 x2 x1.toNatClampNeg 0 x20 M36).2.1, (lp_X7_runScript_86 x2 x1.toNatClampNeg 0 x20 M36).2.2.2) := by subst hM36 hM33 hr34 hr27 hr21 hx20; exact Eq.trans (u_f_X7_runScript M x1 x2) (Eq.trans (if_neg c22) (Eq.trans (if_neg c28) (if_pos hfl37)))
theorem p_X7_runScript_e53 (M : bM) (x1 : Int32) (x2 : Int64) (x20 : Int64) (hx20 : (lp_X7_runScript_6 x1.toNatClampNeg 0 1) = x20) (r21 : Int32) (hr21 : f_X7_in x1.toInt64 1 4 = r21) (c22 : ¬ r21 = 0) (r27 : Int32) (hr27 : f_X7_in x2 0 (x20 - 1) = r27) (c28 : ¬ r27 = 0) (r34 : Int32) (hr34 : (f_X7_refused M 0).1 = r34) (M33 : bM) (hM33 : (f_X7_refused M 0).2 = M33) (M36 : bM) (hM36 : f_X7_copyState M33 2 404 0 3 404 0 = M36) (hfl37 : (lp_X7_runScript_86 x2 x1.toNatClampNeg 0 x20 M36).1 = false) (x51 : Int64) (hx51 : (lp_X7_runScript_86 x2 x1.toNatClampNeg 0 x20 M36).2.2.1 = x51) (M52 : bM) (hM52 : (lp_X7_runScript_86 x2 x1.toNatClampNeg 0 x20 M36).2.2.2 = M52) : f_X7_runScript M x1 x2 = ((-1), M52) := by subst hM52 hx51 hM36 hM33 hr34 hr27 hr21 hx20; exact Eq.trans (u_f_X7_runScript M x1 x2) (Eq.trans (if_neg c22) (Eq.trans (if_neg c28) (if_neg (fun h9 => Bool.noConfusion (h9.symm.trans hfl37)))))
theorem fr_lp_X7_runScript_86 (M : bM) (x1 : Int32) (x2 : Int64) (x20 : Int64) (r21 : Int32) (r27 : Int32) (r34 : Int32) (M33 : bM) (M36 : bM) (k : Nat) (hk3 : k ≠ 3) (hf : k ≠ 7) (hk0 : k ≠ 0) : ∀ (n37 i37 : Nat) (x38 : Int64) (M39 : bM), (lp_X7_runScript_86 x2 n37 i37 x38 M39).2.2.2 k = M39 k := by
  intro n37
  induction n37 with
  | zero =>
    intro i37 x38 M39
    rw [p_X7_runScript_e41 M x1 x2 x20 r21 r27 r34 M33 M36 x38 M39 i37 ]
  | succ n37 ih37 =>
    intro i37 x38 M39
    obtain ⟨x43, hx43⟩ : ∃ y : Int64, y = (x38 / 10000) := ⟨_, rfl⟩
    obtain ⟨x44, hx44⟩ : ∃ y : Int32, y = ((x2 / x43) - (x2 / x43) / 10000 * 10000).toInt32 := ⟨_, rfl⟩
    obtain ⟨r46, hr46⟩ : ∃ y : Int32, y = (f_X7_command M39 (x44 / 1000) (x44 - x44 / 1000 * 1000)).1 := ⟨_, rfl⟩
    obtain ⟨M45, hM45⟩ : ∃ y : bM, y = (f_X7_command M39 (x44 / 1000) (x44 - x44 / 1000 * 1000)).2 := ⟨_, rfl⟩
    by_cases c47 : r46 = 0
    · rw [p_X7_runScript_e49 M x1 x2 x20 r21 r27 r34 M33 M36 x38 M39 i37 n37 x43 hx43.symm x44 hx44.symm r46 hr46.symm M45 hM45.symm c47]
      try dsimp only
      rw [hM45, fr_X7_command M39 (x44 / 1000) (x44 - x44 / 1000 * 1000) k (by omega) (by omega)]
    · rw [p_X7_runScript_e48 M x1 x2 x20 r21 r27 r34 M33 M36 x38 M39 i37 n37 x43 hx43.symm x44 hx44.symm r46 hr46.symm M45 hM45.symm c47, ih37]
      try dsimp only
      rw [hM45, fr_X7_command M39 (x44 / 1000) (x44 - x44 / 1000 * 1000) k (by omega) (by omega)]
theorem fr_X7_runScript (M : bM) (x1 : Int32) (x2 : Int64) (k : Nat) (hk3 : k ≠ 3) (hf : k ≠ 7) (hk0 : k ≠ 0) : (f_X7_runScript M x1 x2).2 k = M k := by
  obtain ⟨x20, hx20⟩ : ∃ y : Int64, y = (lp_X7_runScript_6 x1.toNatClampNeg 0 1) := ⟨_, rfl⟩
  obtain ⟨r21, hr21⟩ : ∃ y : Int32, y = f_X7_in x1.toInt64 1 4 := ⟨_, rfl⟩
  by_cases c22 : r21 = 0
  · obtain ⟨r24, hr24⟩ : ∃ y : Int32, y = (f_X7_refused M 1).1 := ⟨_, rfl⟩
    obtain ⟨M23, hM23⟩ : ∃ y : bM, y = (f_X7_refused M 1).2 := ⟨_, rfl⟩
    rw [p_X7_runScript_e26 M x1 x2 x20 hx20.symm r21 hr21.symm c22 r24 hr24.symm M23 hM23.symm]
    try dsimp only
    rw [hM23, fr_X7_refused M 1 k (by omega)]
  · obtain ⟨r27, hr27⟩ : ∃ y : Int32, y = f_X7_in x2 0 (x20 - 1) := ⟨_, rfl⟩
    by_cases c28 : r27 = 0
    · obtain ⟨r30, hr30⟩ : ∃ y : Int32, y = (f_X7_refused M 1).1 := ⟨_, rfl⟩
      obtain ⟨M29, hM29⟩ : ∃ y : bM, y = (f_X7_refused M 1).2 := ⟨_, rfl⟩
      rw [p_X7_runScript_e32 M x1 x2 x20 hx20.symm r21 hr21.symm c22 r27 hr27.symm c28 r30 hr30.symm M29 hM29.symm]
      try dsimp only
      rw [hM29, fr_X7_refused M 1 k (by omega)]
    · obtain ⟨r34, hr34⟩ : ∃ y : Int32, y = (f_X7_refused M 0).1 := ⟨_, rfl⟩
      obtain ⟨M33, hM33⟩ : ∃ y : bM, y = (f_X7_refused M 0).2 := ⟨_, rfl⟩
      obtain ⟨M36, hM36⟩ : ∃ y : bM, y = f_X7_copyState M33 2 404 0 3 404 0 := ⟨_, rfl⟩
      rcases (by cases (lp_X7_runScript_86 x2 x1.toNatClampNeg 0 x20 M36).1 <;> simp : (lp_X7_runScript_86 x2 x1.toNatClampNeg 0 x20 M36).1 = true ∨ (lp_X7_runScript_86 x2 x1.toNatClampNeg 0 x20 M36).1 = false) with hfl37 | hfl37
      · rw [p_X7_runScript_e50 M x1 x2 x20 hx20.symm r21 hr21.symm c22 r27 hr27.symm c28 r34 hr34.symm M33 hM33.symm M36 hM36.symm hfl37]
        try dsimp only
        rw [fr_lp_X7_runScript_86 M x1 x2 x20 r21 r27 r34 M33 M36 k hk3 hf hk0 x1.toNatClampNeg 0 x20 M36, hM36, fr_X7_copyState M33 2 404 0 3 404 0 k (by omega), hM33, fr_X7_refused M 0 k (by omega)]
      · obtain ⟨x51, hx51⟩ : ∃ y : Int64, y = (lp_X7_runScript_86 x2 x1.toNatClampNeg 0 x20 M36).2.2.1 := ⟨_, rfl⟩
        obtain ⟨M52, hM52⟩ : ∃ y : bM, y = (lp_X7_runScript_86 x2 x1.toNatClampNeg 0 x20 M36).2.2.2 := ⟨_, rfl⟩
        rw [p_X7_runScript_e53 M x1 x2 x20 hx20.symm r21 hr21.symm c22 r27 hr27.symm c28 r34 hr34.symm M33 hM33.symm M36 hM36.symm hfl37 x51 hx51.symm M52 hM52.symm]
        try dsimp only
        rw [hM52, fr_lp_X7_runScript_86 M x1 x2 x20 r21 r27 r34 M33 M36 k hk3 hf hk0 x1.toNatClampNeg 0 x20 M36, hM36, fr_X7_copyState M33 2 404 0 3 404 0 k (by omega), hM33, fr_X7_refused M 0 k (by omega)]
set_option maxHeartbeats 4000000 in
set_option maxRecDepth 100000 in
theorem c_X7_runScript (l : Launch) (D : va_G) (E : Nat → ClassId) (o : Nat) (M : bM) (x1 : Int32) (x2 : Int64) (hg : gR (M 2)) : Met l yX7_runScript wsX7_runScript (rmF 9) (bPc D E [.ref (o + 0), .int x1, .long x2] (fun H => bk D E LRR o M H)) (bQ (aI fun r H => ∃ M1 : bM, (r = (f_X7_runScript M x1 x2).1 ∧ M1 = (f_X7_runScript M x1 x2).2) ∧ bk D E LRR o M1 H) (rB o)) 0 0 (rB o) := by
  refine Met.ofW (cc := cX7_runScript) (maxL := 8) (ret := (some .int)) (by decide) rfl ?_
  intro p e s m args below meth c s₁ B hml hv
  obtain ⟨rfl, hB, hK⟩ := hv
  have hx := B.exec
  have hb := B.bytes
  have hr := B.returns
  have hts := atoms_spec (ws := wsX7_runScript) B.pre
  have hown : s.vm.findClass RX7 = some m.cls := findClass_of_methodNamed B.named
  have hlocks := B.notSynchronized
  have hS : bS (rB o) s.heap s.heap [] := bS.rf
  have hl := lv_entry ([.ref (o + 0), .int x1, .long x2]) (n := 8) (Nat.le_of_ble_eq_true rfl)
  rw [lg_entry_eq]
  generalize (lg_sl ([.ref (o + 0), .int x1, .long x2]) ++ List.replicate (8 - (lg_sl ([.ref (o + 0), .int x1, .long x2])).length) Slot.unset).toArray = ls at hl ⊢
  have hl : lv_has ls 8 [(0, .ref (o + 0)), (1, .int x1), (2, .long x2)] := hl
  have hB : bk D E LRR o M s.heap := hB
  have hinX7 : ∀ w ∈ wsX70, w ∈ wsX7_runScript := by decide +kernel
  refine lv_lconst (v := 1) hx hb dX7_runScript_0 (by decide) ?_
  refine lv_lstore (lv' := [(4, .long 1), (0, .ref (o + 0)), (1, .int x1), (2, .long x2)]) hx hb dX7_runScript_1 hl (by decide) rfl (fun ls hl => ?_)
  refine lv_iconst (v := 0) hx hb dX7_runScript_3 (by decide) ?_
  refine lv_istore (lv' := [(6, .int 0), (4, .long 1), (0, .ref (o + 0)), (1, .int x1), (2, .long x2)]) hx hb dX7_runScript_4 hl (by decide) rfl (fun ls hl => ?_)
  have lp11 : ∀ (n11 i11 : Nat) (x12 : Int64), i11 + n11 = x1.toNatClampNeg → ∀ (H : Heap) (locs : List Loc), bk D E LRR o M H → bS (rB o) s.heap H locs → ∀ ls : Array Slot, lv_has ls 8 [(6, .int (nI i11)), (4, .long x12), (0, .ref (o + 0)), (1, .int x1), (2, .long x2)] → (∀ (H : Heap) (locs : List Loc), bk D E LRR o M H → bS (rB o) s.heap H locs → ∀ ls : Array Slot, lv_has ls 8 [(4, .long (lp_X7_runScript_6 n11 i11 x12)), (0, .ref (o + 0)), (1, .int x1), (2, .long x2)] → W p l e (headSpec wsX7_runScript (rmF 9)).room s m ([.ref (o + 0), .int x1, .long x2] : List Value).toArray below meth c H locs 0 0 (MQ below (bQ (aI fun r H => ∃ M1 : bM, (r = (f_X7_runScript M x1 x2).1 ∧ M1 = (f_X7_runScript M x1 x2).2) ∧ bk D E LRR o M1 H) (rB o)) ([.ref (o + 0), .int x1, .long x2] : List Value).toArray s 0 0 (rB o)) (F0 m 32 ls [])) → W p l e (headSpec wsX7_runScript (rmF 9)).room s m ([.ref (o + 0), .int x1, .long x2] : List Value).toArray below meth c H locs 0 0 (MQ below (bQ (aI fun r H => ∃ M1 : bM, (r = (f_X7_runScript M x1 x2).1 ∧ M1 = (f_X7_runScript M x1 x2).2) ∧ bk D E LRR o M1 H) (rB o)) ([.ref (o + 0), .int x1, .long x2] : List Value).toArray s 0 0 (rB o)) (F0 m 6 ls []) := by
    intro n11
    induction n11 with
    | zero =>
      intro i11 x12 hi11 H locs hB hS ls hl hexit11
      have hz11 : i11 = x1.toNatClampNeg := by omega
      refine lv_iload hx hb dX7_runScript_6 (lv_at hl 0 rfl) ?_
      refine lv_iload_n hx hb dX7_runScript_8 rfl (lv_at hl 3 rfl) ?_
      refine lv_icmp_ge (tgt := 32) hx hb dX7_runScript_9 (by decide) (fun c13 => ?_) (fun c13 => absurd (by rw [hz11]; exact b_le_N _) c13)
      have e14 := p_X7_runScript_e14 M x1 x2 x12 i11 
      rw [e14] at hexit11
      exact hexit11 _ _  hB hS ls (lv_sub hl [1, 2, 3, 4] rfl)
    | succ n11 ih11 =>
      intro i11 x12 hi11 H locs hB hS ls hl hexit11
      refine lv_iload hx hb dX7_runScript_6 (lv_at hl 0 rfl) ?_
      refine lv_iload_n hx hb dX7_runScript_8 rfl (lv_at hl 3 rfl) ?_
      refine lv_icmp_ge (tgt := 32) hx hb dX7_runScript_9 (by decide) (fun c15 => absurd c15 (b_nle_N (i := i11) (by omega))) (fun c15 => ?_)
      refine lv_iload hx hb dX7_runScript_12 (lv_at hl 0 rfl) ?_
      refine lv_iconst (v := 4) hx hb dX7_runScript_14 (by decide) ?_
      refine lv_icmp_ge (tgt := 32) hx hb dX7_runScript_15 (by decide) (fun c16 => ?_) (fun c16 => ?_)
      · have e17 := p_X7_runScript_e17 M x1 x2 x12 i11 n11 c16
        rw [e17] at hexit11
        exact hexit11 _ _  hB hS ls (lv_sub hl [1, 2, 3, 4] rfl)
      · refine lv_lload hx hb dX7_runScript_18 (lv_at hl 1 rfl) ?_
        refine lv_ldc2 (v := 10000) hx hb hown (hts (.constantLong RX7 213 (10000)) (List.mem_of_getElem? (i := 1) rfl)) dX7_runScript_20 ?_
        refine lv_lmul hx hb dX7_runScript_23 ?_
        refine lv_topl (fun x18 hx18 => ?_)
        refine lv_lstore (lv' := [(4, .long x18), (6, .int (nI i11)), (0, .ref (o + 0)), (1, .int x1), (2, .long x2)]) hx hb dX7_runScript_24 hl (by decide) rfl (fun ls hl => ?_)
        refine lv_iinc (v := nI (i11 + 1)) (lv' := [(6, .int (nI (i11 + 1))), (4, .long x18), (0, .ref (o + 0)), (1, .int x1), (2, .long x2)]) hx hb dX7_runScript_26 hl (k := 1) rfl (nI_1 i11) (by decide) rfl (fun ls hl => ?_)
        refine lv_goto (tgt := 6) hx hb dX7_runScript_29 (by decide) ?_
        have e19 := p_X7_runScript_e19 M x1 x2 x12 i11 n11 c16 x18 hx18.symm
        rw [e19] at hexit11
        exact ih11 (i11 + 1) x18 (by omega) _ _ hB hS ls (lv_sub hl [0, 1, 2, 3, 4] rfl) hexit11
  refine lp11 x1.toNatClampNeg 0 1 (by omega) _ _ hB hS ls (lv_sub hl [0, 1, 2, 3, 4] rfl) ?_
  intro H locs hB hS ls hl
  obtain ⟨x20, hx20⟩ : ∃ y : Int64, y = (lp_X7_runScript_6 x1.toNatClampNeg 0 1) := ⟨_, rfl⟩
  rw [← hx20] at hl
  have hl : lv_has ls 8 [(4, .long x20), (0, .ref (o + 0)), (1, .int x1), (2, .long x2)] := hl
  refine lv_aload_n hx hb dX7_runScript_32 rfl (lv_at hl 1 rfl) ?_
  refine lv_iload_n hx hb dX7_runScript_33 rfl (lv_at hl 2 rfl) ?_
  refine lv_i2l hx hb dX7_runScript_34 rfl ?_
  refine lv_lconst (v := 1) hx hb dX7_runScript_35 (by decide) ?_
  refine lv_ldc2 (v := 4) hx hb hown (hts (.constantLong RX7 215 (4)) (List.mem_of_getElem? (i := 2) rfl)) dX7_runScript_36 ?_
  refine b_pI (b_runS (As := [.long x1.toInt64, .long 1, .long 4]) (rest := [.ref (o + 0)]) ⟨hx, hb, hml, hown, hts⟩ (c_X7_in l D E x1.toInt64 1 4) (va_cwS 3 hts gX7_runScript_X7_in rfl rfl rfl (by decide +kernel) ⟨Nat.le_of_ble_eq_true rfl, Nat.le_of_ble_eq_true rfl⟩) hK trivial rfl hl rfl (Nat.le_of_ble_eq_true rfl) dX7_runScript_39 ⟨Nat.zero_le _, Nat.zero_le _⟩) hS (fun r21 hr21 locs hS => ?_)
  refine lv_if_eq (tgt := 61) hx hb dX7_runScript_42 (by decide) (fun c22 => ?_) (fun c22 => ?_)
  · refine lv_iconst (v := 1) hx hb dX7_runScript_61 (by decide) ?_
    refine b_mI (b_runV (As := [.int 1]) (rest := []) ⟨hx, hb, hml, hown, hts⟩ (c_X7_refused l D E o M 1) (cwV 1 hts gX7_runScript_X7_refused rfl rfl rfl (by decide +kernel) ⟨Nat.le_of_ble_eq_true rfl, Nat.le_of_ble_eq_true rfl⟩) hK (bk_recv hK.1 hB lay_m0 rfl) hB rfl hl rfl (Nat.le_of_ble_eq_true rfl) dX7_runScript_62 ⟨Nat.zero_le _, Nat.zero_le _⟩) hS (fun q h => h) (fun r24 M23 hM23 H locs hB _ hS => ?_)
    obtain ⟨hr24, hM23⟩ := hM23
    have hkr24 : r24 = 1 := by rw [hr24]; rfl
    refine lv_const (y := 1) hkr24 ?_
    refine lv_if_eq (tgt := 70) hx hb dX7_runScript_65 (by decide) (fun c25 => absurd c25 (by decide)) (fun c25 => ?_)
    refine lv_iconst (v := 0) hx hb dX7_runScript_68 (by decide) ?_
    have e26 := p_X7_runScript_e26 M x1 x2 x20 hx20.symm r21 hr21.symm c22 r24 hr24.symm M23 hM23.symm
    exact b_iret hx hb hr hlocks hS ⟨_, rfl, _, ⟨(congrArg Prod.fst e26).symm, (congrArg Prod.snd e26).symm⟩, hB⟩ dX7_runScript_69
  · refine lv_lload_n hx hb dX7_runScript_45 rfl (lv_at hl 3 rfl) ?_
    refine lv_lconst (v := 0) hx hb dX7_runScript_46 (by decide) ?_
    refine lv_lload hx hb dX7_runScript_47 (lv_at hl 0 rfl) ?_
    refine lv_lconst (v := 1) hx hb dX7_runScript_49 (by decide) ?_
    refine lv_lsub hx hb dX7_runScript_50 ?_
    refine b_pI (b_runS (As := [.long x2, .long 0, .long (x20 - 1)]) (rest := [.ref (o + 0)]) ⟨hx, hb, hml, hown, hts⟩ (c_X7_in l D E x2 0 (x20 - 1)) (va_cwS 3 hts gX7_runScript_X7_in rfl rfl rfl (by decide +kernel) ⟨Nat.le_of_ble_eq_true rfl, Nat.le_of_ble_eq_true rfl⟩) hK trivial rfl hl rfl (Nat.le_of_ble_eq_true rfl) dX7_runScript_51 ⟨Nat.zero_le _, Nat.zero_le _⟩) hS (fun r27 hr27 locs hS => ?_)
    refine lv_if_eq (tgt := 61) hx hb dX7_runScript_54 (by decide) (fun c28 => ?_) (fun c28 => ?_)
    · refine lv_iconst (v := 1) hx hb dX7_runScript_61 (by decide) ?_
      refine b_mI (b_runV (As := [.int 1]) (rest := []) ⟨hx, hb, hml, hown, hts⟩ (c_X7_refused l D E o M 1) (cwV 1 hts gX7_runScript_X7_refused rfl rfl rfl (by decide +kernel) ⟨Nat.le_of_ble_eq_true rfl, Nat.le_of_ble_eq_true rfl⟩) hK (bk_recv hK.1 hB lay_m0 rfl) hB rfl hl rfl (Nat.le_of_ble_eq_true rfl) dX7_runScript_62 ⟨Nat.zero_le _, Nat.zero_le _⟩) hS (fun q h => h) (fun r30 M29 hM29 H locs hB _ hS => ?_)
      obtain ⟨hr30, hM29⟩ := hM29
      have hkr30 : r30 = 1 := by rw [hr30]; rfl
      refine lv_const (y := 1) hkr30 ?_
      refine lv_if_eq (tgt := 70) hx hb dX7_runScript_65 (by decide) (fun c31 => absurd c31 (by decide)) (fun c31 => ?_)
      refine lv_iconst (v := 0) hx hb dX7_runScript_68 (by decide) ?_
      have e32 := p_X7_runScript_e32 M x1 x2 x20 hx20.symm r21 hr21.symm c22 r27 hr27.symm c28 r30 hr30.symm M29 hM29.symm
      exact b_iret hx hb hr hlocks hS ⟨_, rfl, _, ⟨(congrArg Prod.fst e32).symm, (congrArg Prod.snd e32).symm⟩, hB⟩ dX7_runScript_69
    · refine lv_iconst (v := 0) hx hb dX7_runScript_57 (by decide) ?_
      refine lv_goto (tgt := 62) hx hb dX7_runScript_58 (by decide) ?_
      refine b_mI (b_runV (As := [.int 0]) (rest := []) ⟨hx, hb, hml, hown, hts⟩ (c_X7_refused l D E o M 0) (cwV 1 hts gX7_runScript_X7_refused rfl rfl rfl (by decide +kernel) ⟨Nat.le_of_ble_eq_true rfl, Nat.le_of_ble_eq_true rfl⟩) hK (bk_recv hK.1 hB lay_m0 rfl) hB rfl hl rfl (Nat.le_of_ble_eq_true rfl) dX7_runScript_62 ⟨Nat.zero_le _, Nat.zero_le _⟩) hS (fun q h => h) (fun r34 M33 hM33 H locs hB _ hS => ?_)
      obtain ⟨hr34, hM33⟩ := hM33
      have hkr34 : r34 = 0 := by rw [hr34]; rfl
      refine lv_const (y := 0) hkr34 ?_
      refine lv_if_eq (tgt := 70) hx hb dX7_runScript_65 (by decide) (fun c35 => ?_) (fun c35 => absurd (by decide) c35)
      refine lv_aload_n hx hb dX7_runScript_70 rfl (lv_at hl 1 rfl) ?_
      refine b_get (D := D) (E := E) (L := LRR) (o := o) (M := M33) (v := .ref (o + 2)) (C := RX7) (T := TX7) (N := 13) hx hb hts hinX7 hown hK.1 hB 0 lay_m0 rfl 3 (by decide) (hts (.fieldLink RX7 13 "RiverMeetingModel" "now" "[I") (List.mem_of_getElem? (i := 3) rfl)) (fun _ h9 => h9) rfl dX7_runScript_71 ?_
      refine lv_iconst (v := 0) hx hb dX7_runScript_74 (by decide) ?_
      refine lv_aload_n hx hb dX7_runScript_75 rfl (lv_at hl 1 rfl) ?_
      refine b_get (D := D) (E := E) (L := LRR) (o := o) (M := M33) (v := .ref (o + 3)) (C := RX7) (T := TX7) (N := 13) hx hb hts hinX7 hown hK.1 hB 0 lay_m0 rfl 4 (by decide) (hts (.fieldLink RX7 16 "RiverMeetingModel" "trial" "[I") (List.mem_of_getElem? (i := 4) rfl)) (fun _ h9 => h9) rfl dX7_runScript_76 ?_
      refine lv_iconst (v := 0) hx hb dX7_runScript_79 (by decide) ?_
      refine b_mV (b_runS (As := [.ref (o + 2), .int 0, .ref (o + 3), .int 0]) (rest := []) ⟨hx, hb, hml, hown, hts⟩ (c_X7_copyState l D E o M33 2 404 0 3 404 0 lay_m2 lay_m3 cs_0 cs_0) (va_cwS 4 hts gX7_runScript_X7_copyState rfl rfl rfl (by decide +kernel) ⟨Nat.le_of_ble_eq_true rfl, Nat.le_of_ble_eq_true rfl⟩) hK hB rfl hl rfl (Nat.le_of_ble_eq_true rfl) dX7_runScript_80 ⟨Nat.zero_le _, Nat.zero_le _⟩) hS (fun q h => h) (fun M36 hM36 H locs hB _ hS => ?_)
      refine lv_iconst (v := 0) hx hb dX7_runScript_83 (by decide) ?_
      refine lv_istore (lv' := [(6, .int 0), (4, .long x20), (0, .ref (o + 0)), (1, .int x1), (2, .long x2)]) hx hb dX7_runScript_84 hl (by decide) rfl (fun ls hl => ?_)
      have lp37 : ∀ (n37 i37 : Nat) (x38 : Int64) (M39 : bM), i37 + n37 = x1.toNatClampNeg → (x38 = pw (x1.toNatClampNeg - i37)) → (gR (M39 3)) → ∀ (H : Heap) (locs : List Loc), bk D E LRR o M39 H → bS (rB o) s.heap H locs → ∀ ls : Array Slot, lv_has ls 8 [(6, .int (nI i37)), (4, .long x38), (0, .ref (o + 0)), (1, .int x1), (2, .long x2)] → (∀ H : Heap, (lp_X7_runScript_86 x2 n37 i37 x38 M39).1 = true → bk D E LRR o ((lp_X7_runScript_86 x2 n37 i37 x38 M39).2.2.2) H → (aI fun r H => ∃ M1 : bM, (r = (f_X7_runScript M x1 x2).1 ∧ M1 = (f_X7_runScript M x1 x2).2) ∧ bk D E LRR o M1 H) (some (.int (lp_X7_runScript_86 x2 n37 i37 x38 M39).2.1)) H) → (∀ (H : Heap) (locs : List Loc), (lp_X7_runScript_86 x2 n37 i37 x38 M39).1 = false → (gR (((lp_X7_runScript_86 x2 n37 i37 x38 M39).2.2.2) 3)) → bk D E LRR o ((lp_X7_runScript_86 x2 n37 i37 x38 M39).2.2.2) H → bS (rB o) s.heap H locs → ∀ ls : Array Slot, lv_has ls 8 [(4, .long ((lp_X7_runScript_86 x2 n37 i37 x38 M39).2.2.1)), (0, .ref (o + 0)), (1, .int x1), (2, .long x2)] → W p l e (headSpec wsX7_runScript (rmF 9)).room s m ([.ref (o + 0), .int x1, .long x2] : List Value).toArray below meth c H locs 0 0 (MQ below (bQ (aI fun r H => ∃ M1 : bM, (r = (f_X7_runScript M x1 x2).1 ∧ M1 = (f_X7_runScript M x1 x2).2) ∧ bk D E LRR o M1 H) (rB o)) ([.ref (o + 0), .int x1, .long x2] : List Value).toArray s 0 0 (rB o)) (F0 m 139 ls [])) → W p l e (headSpec wsX7_runScript (rmF 9)).room s m ([.ref (o + 0), .int x1, .long x2] : List Value).toArray below meth c H locs 0 0 (MQ below (bQ (aI fun r H => ∃ M1 : bM, (r = (f_X7_runScript M x1 x2).1 ∧ M1 = (f_X7_runScript M x1 x2).2) ∧ bk D E LRR o M1 H) (rB o)) ([.ref (o + 0), .int x1, .long x2] : List Value).toArray s 0 0 (rB o)) (F0 m 86 ls []) := by
        intro n37
        induction n37 with
        | zero =>
          intro i37 x38 M39 hi37 hv0_37 hv1_37 H locs hB hS ls hl hret37 hexit37
          have hz37 : i37 = x1.toNatClampNeg := by omega
          refine lv_iload hx hb dX7_runScript_86 (lv_at hl 0 rfl) ?_
          refine lv_iload_n hx hb dX7_runScript_88 rfl (lv_at hl 3 rfl) ?_
          refine lv_icmp_ge (tgt := 139) hx hb dX7_runScript_89 (by decide) (fun c40 => ?_) (fun c40 => absurd (by rw [hz37]; exact b_le_N _) c40)
          have e41 := p_X7_runScript_e41 M x1 x2 x20 r21 r27 r34 M33 M36 x38 M39 i37 
          rw [e41] at hexit37
          exact hexit37 _ _ rfl hv1_37 hB hS ls (lv_sub hl [1, 2, 3, 4] rfl)
        | succ n37 ih37 =>
          intro i37 x38 M39 hi37 hv0_37 hv1_37 H locs hB hS ls hl hret37 hexit37
          refine lv_iload hx hb dX7_runScript_86 (lv_at hl 0 rfl) ?_
          refine lv_iload_n hx hb dX7_runScript_88 rfl (lv_at hl 3 rfl) ?_
          refine lv_icmp_ge (tgt := 139) hx hb dX7_runScript_89 (by decide) (fun c42 => absurd c42 (b_nle_N (i := i37) (by omega))) (fun c42 => ?_)
          refine lv_lload hx hb dX7_runScript_92 (lv_at hl 1 rfl) ?_
          refine lv_ldc2 (v := 10000) hx hb hown (hts (.constantLong RX7 213 (10000)) (List.mem_of_getElem? (i := 1) rfl)) dX7_runScript_94 ?_
          refine lv_ldiv hx hb dX7_runScript_97 (by decide) ?_
          refine lv_topl (fun x43 hx43 => ?_)
          refine lv_lstore (lv' := [(4, .long x43), (6, .int (nI i37)), (0, .ref (o + 0)), (1, .int x1), (2, .long x2)]) hx hb dX7_runScript_98 hl (by decide) rfl (fun ls hl => ?_)
          refine lv_lload_n hx hb dX7_runScript_100 rfl (lv_at hl 4 rfl) ?_
          refine lv_lload hx hb dX7_runScript_101 (lv_at hl 0 rfl) ?_
          refine lv_ldiv hx hb dX7_runScript_103 (by rw [hx43, hv0_37]; exact pw_dz (by omega) (in_le4 (by rw [← hr21]; exact c22)).1) ?_
          refine lv_ldc2 (v := 10000) hx hb hown (hts (.constantLong RX7 213 (10000)) (List.mem_of_getElem? (i := 1) rfl)) dX7_runScript_104 ?_
          refine lv_lrem hx hb dX7_runScript_107 (by decide) ?_
          refine lv_l2i hx hb dX7_runScript_108 rfl ?_
          refine lv_topi (fun x44 hx44 => ?_)
          refine lv_istore (lv' := [(7, .int x44), (4, .long x43), (6, .int (nI i37)), (0, .ref (o + 0)), (1, .int x1), (2, .long x2)]) hx hb dX7_runScript_109 hl (by decide) rfl (fun ls hl => ?_)
          refine lv_aload_n hx hb dX7_runScript_111 rfl (lv_at hl 3 rfl) ?_
          refine lv_iload hx hb dX7_runScript_112 (lv_at hl 0 rfl) ?_
          refine lv_sipush (v := 1000) hx hb dX7_runScript_114 (by decide) ?_
          refine lv_idiv hx hb dX7_runScript_117 (by decide) ?_
          refine lv_iload hx hb dX7_runScript_118 (lv_at hl 0 rfl) ?_
          refine lv_sipush (v := 1000) hx hb dX7_runScript_120 (by decide) ?_
          refine lv_irem hx hb dX7_runScript_123 (by decide) ?_
          refine b_mI (b_runV (As := [.int (x44 / 1000), .int (x44 - x44 / 1000 * 1000)]) (rest := []) ⟨hx, hb, hml, hown, hts⟩ (c_X7_command l D E o M39 (x44 / 1000) (x44 - x44 / 1000 * 1000) hv1_37 (by rw [hx44, hx43, hv0_37, pw_st (by omega) (in_le4 (by rw [← hr21]; exact c22)).1]; exact grp_in (Nat.le_trans (Nat.sub_le _ _) (in_le4 (by rw [← hr21]; exact c22)).1) (in_nn (by rw [← hr27]; exact c28)))) (cwV 2 hts gX7_runScript_X7_command rfl rfl rfl (by decide +kernel) ⟨Nat.le_of_ble_eq_true rfl, Nat.le_of_ble_eq_true rfl⟩) hK (bk_recv hK.1 hB lay_m0 rfl) hB rfl hl rfl (Nat.le_of_ble_eq_true rfl) dX7_runScript_124 ⟨Nat.zero_le _, Nat.zero_le _⟩) hS (fun q h => h) (fun r46 M45 hM45 H locs hB _ hS => ?_)
          obtain ⟨hr46, hM45⟩ := hM45
          refine lv_if_ne (tgt := 133) hx hb dX7_runScript_127 (by decide) (fun c47 => ?_) (fun c47 => ?_)
          · refine lv_iinc (v := nI (i37 + 1)) (lv' := [(6, .int (nI (i37 + 1))), (7, .int x44), (4, .long x43), (0, .ref (o + 0)), (1, .int x1), (2, .long x2)]) hx hb dX7_runScript_133 hl (k := 2) rfl (nI_1 i37) (by decide) rfl (fun ls hl => ?_)
            refine lv_goto (tgt := 86) hx hb dX7_runScript_136 (by decide) ?_
            have e48 := p_X7_runScript_e48 M x1 x2 x20 r21 r27 r34 M33 M36 x38 M39 i37 n37 x43 hx43.symm x44 hx44.symm r46 hr46.symm M45 hM45.symm c47
            rw [e48] at hexit37 hret37
            exact ih37 (i37 + 1) x43 M45 (by omega) (by rw [hx43, hv0_37]; exact pw_st (by omega) (in_le4 (by rw [← hr21]; exact c22)).1) (by rw [hM45]; exact gR_command hv1_37) _ _ hB hS ls (lv_sub hl [0, 2, 3, 4, 5] rfl) hret37 hexit37
          · refine lv_iload hx hb dX7_runScript_130 (lv_at hl 2 rfl) ?_
            have e49 := p_X7_runScript_e49 M x1 x2 x20 r21 r27 r34 M33 M36 x38 M39 i37 n37 x43 hx43.symm x44 hx44.symm r46 hr46.symm M45 hM45.symm c47
            rw [e49] at hret37
            exact b_iret hx hb hr hlocks hS (hret37 _ rfl hB) dX7_runScript_132
      refine lp37 x1.toNatClampNeg 0 x20 M36 (by omega) (by rw [hx20]; exact rs_pw _ (in_le4 (by rw [← hr21]; exact c22)).1) (by rw [hM36]; exact gR_copy (by decide) (gR_of (M := M) (by rw [hM33]; exact fr_X7_refused M 0 2 (by decide)) hg)) _ _ hB hS ls (lv_sub hl [0, 1, 2, 3, 4] rfl) (fun H hfl37 hB => ?_) ?_
      · have e50 := p_X7_runScript_e50 M x1 x2 x20 hx20.symm r21 hr21.symm c22 r27 hr27.symm c28 r34 hr34.symm M33 hM33.symm M36 hM36.symm hfl37
        exact ⟨_, rfl, _, ⟨(congrArg Prod.fst e50).symm, (congrArg Prod.snd e50).symm⟩, hB⟩
      intro H locs hfl37 hw0_37 hB hS ls hl
      obtain ⟨x51, hx51⟩ : ∃ y : Int64, y = (lp_X7_runScript_86 x2 x1.toNatClampNeg 0 x20 M36).2.2.1 := ⟨_, rfl⟩
      rw [← hx51] at hl
      obtain ⟨M52, hM52⟩ : ∃ y : bM, y = (lp_X7_runScript_86 x2 x1.toNatClampNeg 0 x20 M36).2.2.2 := ⟨_, rfl⟩
      rw [← hM52] at hB hw0_37
      have hl : lv_has ls 8 [(4, .long x51), (0, .ref (o + 0)), (1, .int x1), (2, .long x2)] := hl
      refine lv_iconst (v := (-1)) hx hb dX7_runScript_139 (by decide) ?_
      have e53 := p_X7_runScript_e53 M x1 x2 x20 hx20.symm r21 hr21.symm c22 r27 hr27.symm c28 r34 hr34.symm M33 hM33.symm M36 hM36.symm hfl37 x51 hx51.symm M52 hM52.symm
      exact b_iret hx hb hr hlocks hS ⟨_, rfl, _, ⟨(congrArg Prod.fst e53).symm, (congrArg Prod.snd e53).symm⟩, hB⟩ dX7_runScript_140
