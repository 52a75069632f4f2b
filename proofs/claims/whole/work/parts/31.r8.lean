theorem done_1 {M : bM} {x : Int32} : (f_X7_done M x).1 = 1 := by
  rw [u_f_X7_done]
  split <;> rfl
theorem z_X7_done (M : bM) (x : Int32) : (f_X7_done M x).1 = 0 ∨ (f_X7_done M x).1 = 1 := Or.inr done_1
theorem figures_1 {M : bM} {a hi : Int32} {n : Nat} (hn : n < 1000) (e : hi.toInt + 1 = n) (h : ¬ (f_X7_figures M a 1 0 hi).1 = -1) : ¬ a = -1 ∧ vp_in (f_X7_figures M a 1 0 hi).1 n := by
  rw [u_f_X7_figures] at h ⊢
  rw [if_neg (show ¬ (1 : Int32) = 2 by decide)] at h ⊢
  by_cases c1 : a = -1
  · rw [if_pos c1, if_pos c1] at h; exact absurd rfl h
  rw [if_neg c1] at h ⊢
  refine ⟨c1, ?_⟩
  by_cases c2 : M 0 2 ≤ M 0 11
  · rw [if_pos c2] at h; exact absurd rfl h
  rw [if_neg c2] at h ⊢
  dsimp only at h ⊢
  generalize M 1 (M 0 11).toNatClampNeg - 48 = x at *
  by_cases c3 : f_X7_in x.toInt64 0 9 = 0
  · rw [if_pos c3] at h; exact absurd rfl h
  rw [if_neg c3] at h ⊢
  have hx := in_rng 10 (by decide) c3
  obtain ⟨i, hi', rfl⟩ := vp_in_of hx (by decide)
  have e1 : (0 : Int32) + nI i * 1 = nI i := by rw [show (1 : Int32) = nI 1 from rfl, pk_mul, show (0 : Int32) = nI 0 from rfl, nI_add]; rw [Nat.mul_one, Nat.zero_add]
  rw [e1] at h ⊢
  by_cases c4 : hi < nI i
  · rw [if_pos c4] at h; exact absurd rfl h
  rw [if_neg c4] at h ⊢
  have h4 : nI i ≤ hi := i32_nlt.mp c4
  rw [Int32.le_iff_toInt_le, nI_toInt (by omega)] at h4
  have e2 : nI i + 1 - 1 = nI i := by rw [show (1 : Int32) = nI 1 from rfl, nI_add, pk_sub (by omega)]; rfl
  rw [e2, if_pos (show (0 : Int32) ≤ nI i from nI_le (a := 0) (Nat.zero_le _) (by omega)), if_neg c1]
  exact vp_in_nI (by omega) (by omega)
theorem isSet_pb {w v : Int32} (h : ¬ f_X7_isSetting w v = 0) : w = 0 ∨ w = 1 := (isSet_in h).elim (fun q => Or.inl q.1) (fun q => Or.inr q.1)
theorem gR_damReason {M : bM} {k : Nat} {c : Int32} (h7 : 7 ≠ k) (hc : vp_in c 64) (h : gR (M k)) : gR ((f_X7_damReason M k c).2 k) := by
  obtain ⟨i, hi, rfl⟩ := vp_in_of hc (by decide)
  rw [(damReason_row (Ne.symm h7) hi).1]
  exact h
theorem gR_damOn' {M : bM} {k : Nat} {c : Int32} (h7 : 7 ≠ k) (hc : vp_in c 64) (h1 : M k 1 = 1) (h : gR (M k)) : gR ((f_X7_damOn M k c).2 k) := by
  obtain ⟨i, hi, rfl⟩ := vp_in_of hc (by decide)
  exact gR_damOn (Ne.symm h7) hi h h1
def f_X7_readStep (M : bM) (k1 : Nat) (x2 : Int32) : Int32 × bM := (let r11 : Int32 := f_X7_isUnderWay M k1; (if r11 = 0 then (let r14 : Int32 := (f_X7_done M 0).1; (let M13 : bM := (f_X7_done M 0).2; (r14, M13))) else (let r16 : Int32 := f_X7_reason M k1 x2; (if r16 = 0 then (let r22 : Int32 := (f_X7_stepOn M k1 x2).1; (let M21 : bM := (f_X7_stepOn M k1 x2).2; (if r22 = 0 then (let r28 : Int32 := (f_X7_done M21 1).1; (let M27 : bM := (f_X7_done M21 1).2; (r28, M27))) else (let r25 : Int32 := (f_X7_done M21 0).1; (let M24 : bM := (f_X7_done M21 0).2; (r25, M24)))))) else (let r19 : Int32 := (f_X7_done M 0).1; (let M18 : bM := (f_X7_done M 0).2; (r19, M18)))))))
theorem u_f_X7_readStep (M : bM) (k1 : Nat) (x2 : Int32) : f_X7_readStep M k1 x2 = (let r11 : Int32 := f_X7_isUnderWay M k1; (if r11 = 0 then (let r14 : Int32 := (f_X7_done M 0).1; (let M13 : bM := (f_X7_done M 0).2; (r14, M13))) else (let r16 : Int32 := f_X7_reason M k1 x2; (if r16 = 0 then (let r22 : Int32 := (f_X7_stepOn M k1 x2).1; (let M21 : bM := (f_X7_stepOn M k1 x2).2; (if r22 = 0 then (let r28 : Int32 := (f_X7_done M21 1).1; (let M27 : bM := (f_X7_done M21 1).2; (r28, M27))) else (let r25 : Int32 := (f_X7_done M21 0).1; (let M24 : bM := (f_X7_done M21 0).2; (r25, M24)))))) else (let r19 : Int32 := (f_X7_done M 0).1; (let M18 : bM := (f_X7_done M 0).2; (r19, M18))))))) := rfl
theorem z_X7_readStep (M : bM) (k1 : Nat) (x2 : Int32) : (f_X7_readStep M k1 x2).1 = 0 ∨ (f_X7_readStep M k1 x2).1 = 1 := by
  rw [u_f_X7_readStep M k1 x2]
  try dsimp only
  repeat' first | with_reducible exact z_X7_done .. | with_reducible apply zz_if | with_reducible apply zz_if0 | exact Or.inl rfl | exact Or.inr rfl
theorem p_X7_readStep_e15 (M : bM) (k1 : Nat) (x2 : Int32) (r11 : Int32) (hr11 : f_X7_isUnderWay M k1 = r11) (c12 : r11 = 0) (r14 : Int32) (hr14 : (f_X7_done M 0).1 = r14) (M13 : bM) (hM13 : (f_X7_done M 0).2 = M13) : f_X7_readStep M k1 x2 = (r14, M13) := by subst hM13 hr14 hr11; exact Eq.trans (u_f_X7_readStep M k1 x2) (if_pos c12)
theorem p_X7_readStep_e20 (M : bM) (k1 : Nat) (x2 : Int32) (r11 : Int32) (hr11 : f_X7_isUnderWay M k1 = r11) (c12 : ¬ r11 = 0) (r16 : Int32) (hr16 : f_X7_reason M k1 x2 = r16) (c17 : ¬ r16 = 0) (r19 : Int32) (hr19 : (f_X7_done M 0).1 = r19) (M18 : bM) (hM18 : (f_X7_done M 0).2 = M18) : f_X7_readStep M k1 x2 = (r19, M18) := by subst hM18 hr19 hr16 hr11; exact Eq.trans (u_f_X7_readStep M k1 x2) (Eq.trans (if_neg c12) (if_neg c17))
theorem p_X7_readStep_e26 (M : bM) (k1 : Nat) (x2 : Int32) (r11 : Int32) (hr11 : f_X7_isUnderWay M k1 = r11) (c12 : ¬ r11 = 0) (r16 : Int32) (hr16 : f_X7_reason M k1 x2 = r16) (c17 : r16 = 0) (r22 : Int32) (hr22 : (f_X7_stepOn M k1 x2).1 = r22) (M21 : bM) (hM21 : (f_X7_stepOn M k1 x2).2 = M21) (c23 : ¬ r22 = 0) (r25 : Int32) (hr25 : (f_X7_done M21 0).1 = r25) (M24 : bM) (hM24 : (f_X7_done M21 0).2 = M24) : f_X7_readStep M k1 x2 = (r25, M24) := by subst hM24 hr25 hM21 hr22 hr16 hr11; exact Eq.trans (u_f_X7_readStep M k1 x2) (Eq.trans (if_neg c12) (Eq.trans (if_pos c17) (if_neg c23)))
theorem p_X7_readStep_e29 (M : bM) (k1 : Nat) (x2 : Int32) (r11 : Int32) (hr11 : f_X7_isUnderWay M k1 = r11) (c12 : ¬ r11 = 0) (r16 : Int32) (hr16 : f_X7_reason M k1 x2 = r16) (c17 : r16 = 0) (r22 : Int32) (hr22 : (f_X7_stepOn M k1 x2).1 = r22) (M21 : bM) (hM21 : (f_X7_stepOn M k1 x2).2 = M21) (c23 : r22 = 0) (r28 : Int32) (hr28 : (f_X7_done M21 1).1 = r28) (M27 : bM) (hM27 : (f_X7_done M21 1).2 = M27) : f_X7_readStep M k1 x2 = (r28, M27) := by subst hM27 hr28 hM21 hr22 hr16 hr11; exact Eq.trans (u_f_X7_readStep M k1 x2) (Eq.trans (if_neg c12) (Eq.trans (if_pos c17) (if_pos c23)))
theorem fr_X7_readStep (M : bM) (k1 : Nat) (x2 : Int32) (k : Nat) (hk : k ≠ k1) (h0k : k ≠ 0) : (f_X7_readStep M k1 x2).2 k = M k := by
  obtain ⟨r11, hr11⟩ : ∃ y : Int32, y = f_X7_isUnderWay M k1 := ⟨_, rfl⟩
  by_cases c12 : r11 = 0
  · obtain ⟨r14, hr14⟩ : ∃ y : Int32, y = (f_X7_done M 0).1 := ⟨_, rfl⟩
    obtain ⟨M13, hM13⟩ : ∃ y : bM, y = (f_X7_done M 0).2 := ⟨_, rfl⟩
    rw [p_X7_readStep_e15 M k1 x2 r11 hr11.symm c12 r14 hr14.symm M13 hM13.symm]
    try dsimp only
    rw [hM13, fr_X7_done M 0 k (by omega)]
  · obtain ⟨r16, hr16⟩ : ∃ y : Int32, y = f_X7_reason M k1 x2 := ⟨_, rfl⟩
    by_cases c17 : r16 = 0
    · obtain ⟨r22, hr22⟩ : ∃ y : Int32, y = (f_X7_stepOn M k1 x2).1 := ⟨_, rfl⟩
      obtain ⟨M21, hM21⟩ : ∃ y : bM, y = (f_X7_stepOn M k1 x2).2 := ⟨_, rfl⟩
      by_cases c23 : r22 = 0
      · obtain ⟨r28, hr28⟩ : ∃ y : Int32, y = (f_X7_done M21 1).1 := ⟨_, rfl⟩
        obtain ⟨M27, hM27⟩ : ∃ y : bM, y = (f_X7_done M21 1).2 := ⟨_, rfl⟩
        rw [p_X7_readStep_e29 M k1 x2 r11 hr11.symm c12 r16 hr16.symm c17 r22 hr22.symm M21 hM21.symm c23 r28 hr28.symm M27 hM27.symm]
        try dsimp only
        rw [hM27, fr_X7_done M21 1 k (by omega), hM21, fr_X7_stepOn M k1 x2 k (by omega)]
      · obtain ⟨r25, hr25⟩ : ∃ y : Int32, y = (f_X7_done M21 0).1 := ⟨_, rfl⟩
        obtain ⟨M24, hM24⟩ : ∃ y : bM, y = (f_X7_done M21 0).2 := ⟨_, rfl⟩
        rw [p_X7_readStep_e26 M k1 x2 r11 hr11.symm c12 r16 hr16.symm c17 r22 hr22.symm M21 hM21.symm c23 r25 hr25.symm M24 hM24.symm]
        try dsimp only
        rw [hM24, fr_X7_done M21 0 k (by omega), hM21, fr_X7_stepOn M k1 x2 k (by omega)]
    · obtain ⟨r19, hr19⟩ : ∃ y : Int32, y = (f_X7_done M 0).1 := ⟨_, rfl⟩
      obtain ⟨M18, hM18⟩ : ∃ y : bM, y = (f_X7_done M 0).2 := ⟨_, rfl⟩
      rw [p_X7_readStep_e20 M k1 x2 r11 hr11.symm c12 r16 hr16.symm c17 r19 hr19.symm M18 hM18.symm]
      try dsimp only
      rw [hM18, fr_X7_done M 0 k (by omega)]
set_option maxHeartbeats 4000000 in
set_option maxRecDepth 100000 in
theorem c_X7_readStep (l : Launch) (D : va_G) (E : Nat → ClassId) (o : Nat) (M : bM) (k1 : Nat) (x2 : Int32) (hk1 : LRR[k1]? = some (.inl (0, 404))) (hg : gR (M k1)) : Met l yX7_readStep wsX7_readStep (rmF 5) (bPc D E [.ref (o + 0), .ref (o + k1), .int x2] (fun H => bk D E LRR o M H)) (bQ (aI fun r H => ∃ M1 : bM, (r = (f_X7_readStep M k1 x2).1 ∧ M1 = (f_X7_readStep M k1 x2).2) ∧ bk D E LRR o M1 H) (rB o)) 0 0 (rB o) := by
  refine Met.ofW (cc := cX7_readStep) (maxL := 3) (ret := (some .boolean)) (by decide) rfl ?_
  intro p e s m args below meth c s₁ B hml hv
  obtain ⟨rfl, hB, hK⟩ := hv
  have hx := B.exec
  have hb := B.bytes
  have hr := B.returns
  have hts := atoms_spec (ws := wsX7_readStep) B.pre
  have hown : s.vm.findClass RX7 = some m.cls := findClass_of_methodNamed B.named
  have hlocks := B.notSynchronized
  have hS : bS (rB o) s.heap s.heap [] := bS.rf
  have hl := lv_entry ([.ref (o + 0), .ref (o + k1), .int x2]) (n := 3) (Nat.le_of_ble_eq_true rfl)
  rw [lg_entry_eq]
  generalize (lg_sl ([.ref (o + 0), .ref (o + k1), .int x2]) ++ List.replicate (3 - (lg_sl ([.ref (o + 0), .ref (o + k1), .int x2])).length) Slot.unset).toArray = ls at hl ⊢
  have hl : lv_has ls 3 [(0, .ref (o + 0)), (1, .ref (o + k1)), (2, .int x2)] := hl
  have hB : bk D E LRR o M s.heap := hB
  refine lv_aload_n hx hb dX7_readStep_0 rfl (lv_at hl 0 rfl) ?_
  refine lv_aload_n hx hb dX7_readStep_1 rfl (lv_at hl 1 rfl) ?_
  refine b_pI (b_runS (As := [.ref (o + k1)]) (rest := [.ref (o + 0)]) ⟨hx, hb, hml, hown, hts⟩ (c_X7_isUnderWay l D E o M k1 hk1) (va_cwS 1 hts gX7_readStep_X7_isUnderWay rfl rfl rfl (by decide +kernel) ⟨Nat.le_of_ble_eq_true rfl, Nat.le_of_ble_eq_true rfl⟩) hK hB rfl hl rfl (Nat.le_of_ble_eq_true rfl) dX7_readStep_2 ⟨Nat.zero_le _, Nat.zero_le _⟩) hS (fun r11 hr11 locs hS => ?_)
  refine lv_if_eq (tgt := 28) hx hb dX7_readStep_5 (by decide) (fun c12 => ?_) (fun c12 => ?_)
  · refine lv_iconst (v := 0) hx hb dX7_readStep_28 (by decide) ?_
    refine b_mI (b_runV (As := [.int 0]) (rest := []) ⟨hx, hb, hml, hown, hts⟩ (c_X7_done l D E o M 0) (cwV 1 hts gX7_readStep_X7_done rfl rfl rfl (by decide +kernel) ⟨Nat.le_of_ble_eq_true rfl, Nat.le_of_ble_eq_true rfl⟩) hK (bk_recv hK.1 hB lay_m0 rfl) hB rfl hl rfl (Nat.le_of_ble_eq_true rfl) dX7_readStep_29 ⟨Nat.zero_le _, Nat.zero_le _⟩) hS (fun q h => h) (fun r14 M13 hM13 H locs hB _ hS => ?_)
    obtain ⟨hr14, hM13⟩ := hM13
    have e15 := p_X7_readStep_e15 M k1 x2 r11 hr11.symm c12 r14 hr14.symm M13 hM13.symm
    exact b_zret hx hb hr (nar_z (by rw [hr14]; exact z_X7_done M 0)) hlocks hS ⟨_, rfl, _, ⟨(congrArg Prod.fst e15).symm, (congrArg Prod.snd e15).symm⟩, hB⟩ dX7_readStep_32
  · refine lv_aload_n hx hb dX7_readStep_8 rfl (lv_at hl 1 rfl) ?_
    refine lv_iload_n hx hb dX7_readStep_9 rfl (lv_at hl 2 rfl) ?_
    refine b_pI (b_runS (As := [.ref (o + k1), .int x2]) (rest := [.ref (o + 0)]) ⟨hx, hb, hml, hown, hts⟩ (c_X7_reason l D E o M k1 x2 hk1 (gR_wf hg)) (va_cwS 2 hts gX7_readStep_X7_reason rfl rfl rfl (by decide +kernel) ⟨Nat.le_of_ble_eq_true rfl, Nat.le_of_ble_eq_true rfl⟩) hK hB rfl hl rfl (Nat.le_of_ble_eq_true rfl) dX7_readStep_10 ⟨Nat.zero_le _, Nat.zero_le _⟩) hS (fun r16 hr16 locs hS => ?_)
    refine lv_if_ne (tgt := 28) hx hb dX7_readStep_13 (by decide) (fun c17 => ?_) (fun c17 => ?_)
    · refine lv_iconst (v := 0) hx hb dX7_readStep_28 (by decide) ?_
      refine b_mI (b_runV (As := [.int 0]) (rest := []) ⟨hx, hb, hml, hown, hts⟩ (c_X7_done l D E o M 0) (cwV 1 hts gX7_readStep_X7_done rfl rfl rfl (by decide +kernel) ⟨Nat.le_of_ble_eq_true rfl, Nat.le_of_ble_eq_true rfl⟩) hK (bk_recv hK.1 hB lay_m0 rfl) hB rfl hl rfl (Nat.le_of_ble_eq_true rfl) dX7_readStep_29 ⟨Nat.zero_le _, Nat.zero_le _⟩) hS (fun q h => h) (fun r19 M18 hM18 H locs hB _ hS => ?_)
      obtain ⟨hr19, hM18⟩ := hM18
      have e20 := p_X7_readStep_e20 M k1 x2 r11 hr11.symm c12 r16 hr16.symm c17 r19 hr19.symm M18 hM18.symm
      exact b_zret hx hb hr (nar_z (by rw [hr19]; exact z_X7_done M 0)) hlocks hS ⟨_, rfl, _, ⟨(congrArg Prod.fst e20).symm, (congrArg Prod.snd e20).symm⟩, hB⟩ dX7_readStep_32
    · refine lv_aload_n hx hb dX7_readStep_16 rfl (lv_at hl 1 rfl) ?_
      refine lv_iload_n hx hb dX7_readStep_17 rfl (lv_at hl 2 rfl) ?_
      refine b_mI (b_runS (As := [.ref (o + k1), .int x2]) (rest := [.ref (o + 0)]) ⟨hx, hb, hml, hown, hts⟩ (c_X7_stepOn l D E o M k1 x2 hk1 (gR_wf hg) (gR_room hg)) (va_cwS 2 hts gX7_readStep_X7_stepOn rfl rfl rfl (by decide +kernel) ⟨Nat.le_of_ble_eq_true rfl, Nat.le_of_ble_eq_true rfl⟩) hK hB rfl hl rfl (Nat.le_of_ble_eq_true rfl) dX7_readStep_18 ⟨Nat.zero_le _, Nat.zero_le _⟩) hS (fun q h => h) (fun r22 M21 hM21 H locs hB _ hS => ?_)
      obtain ⟨hr22, hM21⟩ := hM21
      refine lv_if_ne (tgt := 28) hx hb dX7_readStep_21 (by decide) (fun c23 => ?_) (fun c23 => ?_)
      · refine lv_iconst (v := 0) hx hb dX7_readStep_28 (by decide) ?_
        refine b_mI (b_runV (As := [.int 0]) (rest := []) ⟨hx, hb, hml, hown, hts⟩ (c_X7_done l D E o M21 0) (cwV 1 hts gX7_readStep_X7_done rfl rfl rfl (by decide +kernel) ⟨Nat.le_of_ble_eq_true rfl, Nat.le_of_ble_eq_true rfl⟩) hK (bk_recv hK.1 hB lay_m0 rfl) hB rfl hl rfl (Nat.le_of_ble_eq_true rfl) dX7_readStep_29 ⟨Nat.zero_le _, Nat.zero_le _⟩) hS (fun q h => h) (fun r25 M24 hM24 H locs hB _ hS => ?_)
        obtain ⟨hr25, hM24⟩ := hM24
        have e26 := p_X7_readStep_e26 M k1 x2 r11 hr11.symm c12 r16 hr16.symm c17 r22 hr22.symm M21 hM21.symm c23 r25 hr25.symm M24 hM24.symm
        exact b_zret hx hb hr (nar_z (by rw [hr25]; exact z_X7_done M21 0)) hlocks hS ⟨_, rfl, _, ⟨(congrArg Prod.fst e26).symm, (congrArg Prod.snd e26).symm⟩, hB⟩ dX7_readStep_32
      · refine lv_iconst (v := 1) hx hb dX7_readStep_24 (by decide) ?_
        refine lv_goto (tgt := 29) hx hb dX7_readStep_25 (by decide) ?_
        refine b_mI (b_runV (As := [.int 1]) (rest := []) ⟨hx, hb, hml, hown, hts⟩ (c_X7_done l D E o M21 1) (cwV 1 hts gX7_readStep_X7_done rfl rfl rfl (by decide +kernel) ⟨Nat.le_of_ble_eq_true rfl, Nat.le_of_ble_eq_true rfl⟩) hK (bk_recv hK.1 hB lay_m0 rfl) hB rfl hl rfl (Nat.le_of_ble_eq_true rfl) dX7_readStep_29 ⟨Nat.zero_le _, Nat.zero_le _⟩) hS (fun q h => h) (fun r28 M27 hM27 H locs hB _ hS => ?_)
        obtain ⟨hr28, hM27⟩ := hM27
        have e29 := p_X7_readStep_e29 M k1 x2 r11 hr11.symm c12 r16 hr16.symm c17 r22 hr22.symm M21 hM21.symm c23 r28 hr28.symm M27 hM27.symm
        exact b_zret hx hb hr (nar_z (by rw [hr28]; exact z_X7_done M21 1)) hlocks hS ⟨_, rfl, _, ⟨(congrArg Prod.fst e29).symm, (congrArg Prod.snd e29).symm⟩, hB⟩ dX7_readStep_32

def f_X7_readBest (M : bM) (k1 : Nat) : Int32 × bM := (let r12 : Int32 := (f_X7_bestOf M k1).1; (let M11 : bM := (f_X7_bestOf M k1).2; (if r12 = (-1) then (1, M11) else (let r16 : Int32 := (f_X7_stepOn M11 k1 r12).1; (let M15 : bM := (f_X7_stepOn M11 k1 r12).2; (1, M15))))))
theorem u_f_X7_readBest (M : bM) (k1 : Nat) : f_X7_readBest M k1 = (let r12 : Int32 := (f_X7_bestOf M k1).1; (let M11 : bM := (f_X7_bestOf M k1).2; (if r12 = (-1) then (1, M11) else (let r16 : Int32 := (f_X7_stepOn M11 k1 r12).1; (let M15 : bM := (f_X7_stepOn M11 k1 r12).2; (1, M15)))))) := rfl
theorem z_X7_readBest (M : bM) (k1 : Nat) : (f_X7_readBest M k1).1 = 0 ∨ (f_X7_readBest M k1).1 = 1 := by
  rw [u_f_X7_readBest M k1]
  try dsimp only
  repeat' first | with_reducible apply zz_if | with_reducible apply zz_if0 | exact Or.inl rfl | exact Or.inr rfl
theorem p_X7_readBest_e14 (M : bM) (k1 : Nat) (r12 : Int32) (hr12 : (f_X7_bestOf M k1).1 = r12) (M11 : bM) (hM11 : (f_X7_bestOf M k1).2 = M11) (c13 : r12 = (-1)) : f_X7_readBest M k1 = (1, M11) := by subst hM11 hr12; exact Eq.trans (u_f_X7_readBest M k1) (if_pos c13)
theorem p_X7_readBest_e17 (M : bM) (k1 : Nat) (r12 : Int32) (hr12 : (f_X7_bestOf M k1).1 = r12) (M11 : bM) (hM11 : (f_X7_bestOf M k1).2 = M11) (c13 : ¬ r12 = (-1)) (r16 : Int32) (hr16 : (f_X7_stepOn M11 k1 r12).1 = r16) (M15 : bM) (hM15 : (f_X7_stepOn M11 k1 r12).2 = M15) : f_X7_readBest M k1 = (1, M15) := by subst hM15 hr16 hM11 hr12; exact Eq.trans (u_f_X7_readBest M k1) (if_neg c13)
theorem fr_X7_readBest (M : bM) (k1 : Nat) (k : Nat) (hk : k ≠ k1) (hf : k ≠ 7) : (f_X7_readBest M k1).2 k = M k := by
  obtain ⟨r12, hr12⟩ : ∃ y : Int32, y = (f_X7_bestOf M k1).1 := ⟨_, rfl⟩
  obtain ⟨M11, hM11⟩ : ∃ y : bM, y = (f_X7_bestOf M k1).2 := ⟨_, rfl⟩
  by_cases c13 : r12 = (-1)
  · rw [p_X7_readBest_e14 M k1 r12 hr12.symm M11 hM11.symm c13]
    try dsimp only
    rw [hM11, fr_X7_bestOf M k1 k (by omega)]
  · obtain ⟨r16, hr16⟩ : ∃ y : Int32, y = (f_X7_stepOn M11 k1 r12).1 := ⟨_, rfl⟩
    obtain ⟨M15, hM15⟩ : ∃ y : bM, y = (f_X7_stepOn M11 k1 r12).2 := ⟨_, rfl⟩
    rw [p_X7_readBest_e17 M k1 r12 hr12.symm M11 hM11.symm c13 r16 hr16.symm M15 hM15.symm]
    try dsimp only
    rw [hM15, fr_X7_stepOn M11 k1 r12 k (by omega), hM11, fr_X7_bestOf M k1 k (by omega)]
set_option maxHeartbeats 4000000 in
set_option maxRecDepth 100000 in
theorem c_X7_readBest (l : Launch) (D : va_G) (E : Nat → ClassId) (o : Nat) (M : bM) (k1 : Nat) (hk1 : LRR[k1]? = some (.inl (0, 404))) (hg : gR (M k1)) (h7 : 7 ≠ k1) : Met l yX7_readBest wsX7_readBest (rmF 7) (bPc D E [.ref (o + 0), .ref (o + k1)] (fun H => bk D E LRR o M H)) (bQ (aI fun r H => ∃ M1 : bM, (r = (f_X7_readBest M k1).1 ∧ M1 = (f_X7_readBest M k1).2) ∧ bk D E LRR o M1 H) (rB o)) 0 0 (rB o) := by
  refine Met.ofW (cc := cX7_readBest) (maxL := 3) (ret := (some .boolean)) (by decide) rfl ?_
  intro p e s m args below meth c s₁ B hml hv
  obtain ⟨rfl, hB, hK⟩ := hv
  have hx := B.exec
  have hb := B.bytes
  have hr := B.returns
  have hts := atoms_spec (ws := wsX7_readBest) B.pre
  have hown : s.vm.findClass RX7 = some m.cls := findClass_of_methodNamed B.named
  have hlocks := B.notSynchronized
  have hS : bS (rB o) s.heap s.heap [] := bS.rf
  have hl := lv_entry ([.ref (o + 0), .ref (o + k1)]) (n := 3) (Nat.le_of_ble_eq_true rfl)
  rw [lg_entry_eq]
  generalize (lg_sl ([.ref (o + 0), .ref (o + k1)]) ++ List.replicate (3 - (lg_sl ([.ref (o + 0), .ref (o + k1)])).length) Slot.unset).toArray = ls at hl ⊢
  have hl : lv_has ls 3 [(0, .ref (o + 0)), (1, .ref (o + k1))] := hl
  have hB : bk D E LRR o M s.heap := hB
  refine lv_aload_n hx hb dX7_readBest_0 rfl (lv_at hl 0 rfl) ?_
  refine lv_aload_n hx hb dX7_readBest_1 rfl (lv_at hl 1 rfl) ?_
  refine b_mI (b_runV (As := [.ref (o + k1)]) (rest := []) ⟨hx, hb, hml, hown, hts⟩ (c_X7_bestOf l D E o M k1 hk1 (gR_wf hg) h7 (gR_best (Ne.symm h7) hg)) (cwV 1 hts gX7_readBest_X7_bestOf rfl rfl rfl (by decide +kernel) ⟨Nat.le_of_ble_eq_true rfl, Nat.le_of_ble_eq_true rfl⟩) hK (bk_recv hK.1 hB lay_m0 rfl) hB rfl hl rfl (Nat.le_of_ble_eq_true rfl) dX7_readBest_2 ⟨Nat.zero_le _, Nat.zero_le _⟩) hS (fun q h => h) (fun r12 M11 hM11 H locs hB _ hS => ?_)
  obtain ⟨hr12, hM11⟩ := hM11
  refine lv_istore_n (lv' := [(2, .int r12), (0, .ref (o + 0)), (1, .ref (o + k1))]) hx hb dX7_readBest_5 rfl hl (by decide) rfl (fun ls hl => ?_)
  refine lv_iload_n hx hb dX7_readBest_6 rfl (lv_at hl 0 rfl) ?_
  refine lv_iconst (v := (-1)) hx hb dX7_readBest_7 (by decide) ?_
  refine lv_icmp_eq (tgt := 17) hx hb dX7_readBest_8 (by decide) (fun c13 => ?_) (fun c13 => ?_)
  · refine lv_iconst (v := 1) hx hb dX7_readBest_17 (by decide) ?_
    have e14 := p_X7_readBest_e14 M k1 r12 hr12.symm M11 hM11.symm c13
    exact b_zret hx hb hr rfl hlocks hS ⟨_, rfl, _, ⟨(congrArg Prod.fst e14).symm, (congrArg Prod.snd e14).symm⟩, hB⟩ dX7_readBest_18
  · refine lv_aload_n hx hb dX7_readBest_11 rfl (lv_at hl 2 rfl) ?_
    refine lv_iload_n hx hb dX7_readBest_12 rfl (lv_at hl 0 rfl) ?_
    refine b_mI (b_runS (As := [.ref (o + k1), .int r12]) (rest := []) ⟨hx, hb, hml, hown, hts⟩ (c_X7_stepOn l D E o M11 k1 r12 hk1 (gR_wf (gR_of (M := M) (by rw [hM11]; exact fr_X7_bestOf M k1 k1 (Ne.symm h7)) hg)) (gR_room (gR_of (M := M) (by rw [hM11]; exact fr_X7_bestOf M k1 k1 (Ne.symm h7)) hg))) (va_cwS 2 hts gX7_readBest_X7_stepOn rfl rfl rfl (by decide +kernel) ⟨Nat.le_of_ble_eq_true rfl, Nat.le_of_ble_eq_true rfl⟩) hK hB rfl hl rfl (Nat.le_of_ble_eq_true rfl) dX7_readBest_13 ⟨Nat.zero_le _, Nat.zero_le _⟩) hS (fun q h => h) (fun r16 M15 hM15 H locs hB _ hS => ?_)
    obtain ⟨hr16, hM15⟩ := hM15
    refine lv_pop hx hb dX7_readBest_16 rfl ?_
    refine lv_iconst (v := 1) hx hb dX7_readBest_17 (by decide) ?_
    have e17 := p_X7_readBest_e17 M k1 r12 hr12.symm M11 hM11.symm c13 r16 hr16.symm M15 hM15.symm
    exact b_zret hx hb hr rfl hlocks hS ⟨_, rfl, _, ⟨(congrArg Prod.fst e17).symm, (congrArg Prod.snd e17).symm⟩, hB⟩ dX7_readBest_18

def f_X7_readDam (M : bM) (k1 : Nat) : Int32 × bM := (let r12 : Int32 := (f_X7_figures M 0 1 0 7).1; (let M11 : bM := (f_X7_figures M 0 1 0 7).2; (let r14 : Int32 := (f_X7_figures M11 r12 1 0 7).1; (let M13 : bM := (f_X7_figures M11 r12 1 0 7).2; (if r14 = (-1) then (0, M13) else (let r17 : Int32 := f_X7_isUnderWay M13 k1; (if r17 = 0 then (let r20 : Int32 := (f_X7_done M13 0).1; (let M19 : bM := (f_X7_done M13 0).2; (if r20 = 0 then (0, M19) else (1, M19)))) else (let r25 : Int32 := (f_X7_damReason M13 k1 (((8 : Int32) * r14) + r12)).1; (let M24 : bM := (f_X7_damReason M13 k1 (((8 : Int32) * r14) + r12)).2; (if r25 = 0 then (let r33 : Int32 := (f_X7_damOn M24 k1 (((8 : Int32) * r14) + r12)).1; (let M32 : bM := (f_X7_damOn M24 k1 (((8 : Int32) * r14) + r12)).2; (if r33 = 0 then (let r41 : Int32 := (f_X7_done M32 1).1; (let M40 : bM := (f_X7_done M32 1).2; (if r41 = 0 then (0, M40) else (1, M40)))) else (let r36 : Int32 := (f_X7_done M32 0).1; (let M35 : bM := (f_X7_done M32 0).2; (if r36 = 0 then (0, M35) else (1, M35))))))) else (let r28 : Int32 := (f_X7_done M24 0).1; (let M27 : bM := (f_X7_done M24 0).2; (if r28 = 0 then (0, M27) else (1, M27))))))))))))))
theorem u_f_X7_readDam (M : bM) (k1 : Nat) : f_X7_readDam M k1 = (let r12 : Int32 := (f_X7_figures M 0 1 0 7).1; (let M11 : bM := (f_X7_figures M 0 1 0 7).2; (let r14 : Int32 := (f_X7_figures M11 r12 1 0 7).1; (let M13 : bM := (f_X7_figures M11 r12 1 0 7).2; (if r14 = (-1) then (0, M13) else (let r17 : Int32 := f_X7_isUnderWay M13 k1; (if r17 = 0 then (let r20 : Int32 := (f_X7_done M13 0).1; (let M19 : bM := (f_X7_done M13 0).2; (if r20 = 0 then (0, M19) else (1, M19)))) else (let r25 : Int32 := (f_X7_damReason M13 k1 (((8 : Int32) * r14) + r12)).1; (let M24 : bM := (f_X7_damReason M13 k1 (((8 : Int32) * r14) + r12)).2; (if r25 = 0 then (let r33 : Int32 := (f_X7_damOn M24 k1 (((8 : Int32) * r14) + r12)).1; (let M32 : bM := (f_X7_damOn M24 k1 (((8 : Int32) * r14) + r12)).2; (if r33 = 0 then (let r41 : Int32 := (f_X7_done M32 1).1; (let M40 : bM := (f_X7_done M32 1).2; (if r41 = 0 then (0, M40) else (1, M40)))) else (let r36 : Int32 := (f_X7_done M32 0).1; (let M35 : bM := (f_X7_done M32 0).2; (if r36 = 0 then (0, M35) else (1, M35))))))) else (let r28 : Int32 := (f_X7_done M24 0).1; (let M27 : bM := (f_X7_done M24 0).2; (if r28 = 0 then (0, M27) else (1, M27)))))))))))))) := rfl
theorem z_X7_readDam (M : bM) (k1 : Nat) : (f_X7_readDam M k1).1 = 0 ∨ (f_X7_readDam M k1).1 = 1 := by
  rw [u_f_X7_readDam M k1]
  try dsimp only
  repeat' first | with_reducible apply zz_if | with_reducible apply zz_if0 | exact Or.inl rfl | exact Or.inr rfl
theorem p_X7_readDam_e16 (M : bM) (k1 : Nat) (r12 : Int32) (hr12 : (f_X7_figures M 0 1 0 7).1 = r12) (M11 : bM) (hM11 : (f_X7_figures M 0 1 0 7).2 = M11) (r14 : Int32) (hr14 : (f_X7_figures M11 r12 1 0 7).1 = r14) (M13 : bM) (hM13 : (f_X7_figures M11 r12 1 0 7).2 = M13) (c15 : r14 = (-1)) : f_X7_readDam M k1 = (0, M13) := by subst hM13 hr14 hM11 hr12; exact Eq.trans (u_f_X7_readDam M k1) (if_pos c15)
theorem p_X7_readDam_e22 (M : bM) (k1 : Nat) (r12 : Int32) (hr12 : (f_X7_figures M 0 1 0 7).1 = r12) (M11 : bM) (hM11 : (f_X7_figures M 0 1 0 7).2 = M11) (r14 : Int32) (hr14 : (f_X7_figures M11 r12 1 0 7).1 = r14) (M13 : bM) (hM13 : (f_X7_figures M11 r12 1 0 7).2 = M13) (c15 : ¬ r14 = (-1)) (r17 : Int32) (hr17 : f_X7_isUnderWay M13 k1 = r17) (c18 : r17 = 0) (r20 : Int32) (hr20 : (f_X7_done M13 0).1 = r20) (M19 : bM) (hM19 : (f_X7_done M13 0).2 = M19) (c21 : r20 = 0) : f_X7_readDam M k1 = (0, M19) := by subst hM19 hr20 hr17 hM13 hr14 hM11 hr12; exact Eq.trans (u_f_X7_readDam M k1) (Eq.trans (if_neg c15) (Eq.trans (if_pos c18) (if_pos c21)))
theorem p_X7_readDam_e23 (M : bM) (k1 : Nat) (r12 : Int32) (hr12 : (f_X7_figures M 0 1 0 7).1 = r12) (M11 : bM) (hM11 : (f_X7_figures M 0 1 0 7).2 = M11) (r14 : Int32) (hr14 : (f_X7_figures M11 r12 1 0 7).1 = r14) (M13 : bM) (hM13 : (f_X7_figures M11 r12 1 0 7).2 = M13) (c15 : ¬ r14 = (-1)) (r17 : Int32) (hr17 : f_X7_isUnderWay M13 k1 = r17) (c18 : r17 = 0) (r20 : Int32) (hr20 : (f_X7_done M13 0).1 = r20) (M19 : bM) (hM19 : (f_X7_done M13 0).2 = M19) (c21 : ¬ r20 = 0) : f_X7_readDam M k1 = (1, M19) := by subst hM19 hr20 hr17 hM13 hr14 hM11 hr12; exact Eq.trans (u_f_X7_readDam M k1) (Eq.trans (if_neg c15) (Eq.trans (if_pos c18) (if_neg c21)))
theorem p_X7_readDam_e30 (M : bM) (k1 : Nat) (r12 : Int32) (hr12 : (f_X7_figures M 0 1 0 7).1 = r12) (M11 : bM) (hM11 : (f_X7_figures M 0 1 0 7).2 = M11) (r14 : Int32) (hr14 : (f_X7_figures M11 r12 1 0 7).1 = r14) (M13 : bM) (hM13 : (f_X7_figures M11 r12 1 0 7).2 = M13) (c15 : ¬ r14 = (-1)) (r17 : Int32) (hr17 : f_X7_isUnderWay M13 k1 = r17) (c18 : ¬ r17 = 0) (r25 : Int32) (hr25 : (f_X7_damReason M13 k1 (((8 : Int32) * r14) + r12)).1 = r25) (M24 : bM) (hM24 : (f_X7_damReason M13 k1 (((8 : Int32) * r14) + r12)).2 = M24) (c26 : ¬ r25 = 0) (r28 : Int32) (hr28 : (f_X7_done M24 0).1 = r28) (M27 : bM) (hM27 : (f_X7_done M24 0).2 = M27) (c29 : r28 = 0) : f_X7_readDam M k1 = (0, M27) := by subst hM27 hr28 hM24 hr25 hr17 hM13 hr14 hM11 hr12; exact Eq.trans (u_f_X7_readDam M k1) (Eq.trans (if_neg c15) (Eq.trans (if_neg c18) (Eq.trans (if_neg c26) (if_pos c29))))
theorem p_X7_readDam_e31 (M : bM) (k1 : Nat) (r12 : Int32) (hr12 : (f_X7_figures M 0 1 0 7).1 = r12) (M11 : bM) (hM11 : (f_X7_figures M 0 1 0 7).2 = M11) (r14 : Int32) (hr14 : (f_X7_figures M11 r12 1 0 7).1 = r14) (M13 : bM) (hM13 : (f_X7_figures M11 r12 1 0 7).2 = M13) (c15 : ¬ r14 = (-1)) (r17 : Int32) (hr17 : f_X7_isUnderWay M13 k1 = r17) (c18 : ¬ r17 = 0) (r25 : Int32) (hr25 : (f_X7_damReason M13 k1 (((8 : Int32) * r14) + r12)).1 = r25) (M24 : bM) (hM24 : (f_X7_damReason M13 k1 (((8 : Int32) * r14) + r12)).2 = M24) (c26 : ¬ r25 = 0) (r28 : Int32) (hr28 : (f_X7_done M24 0).1 = r28) (M27 : bM) (hM27 : (f_X7_done M24 0).2 = M27) (c29 : ¬ r28 = 0) : f_X7_readDam M k1 = (1, M27) := by subst hM27 hr28 hM24 hr25 hr17 hM13 hr14 hM11 hr12; exact Eq.trans (u_f_X7_readDam M k1) (Eq.trans (if_neg c15) (Eq.trans (if_neg c18) (Eq.trans (if_neg c26) (if_neg c29))))
theorem p_X7_readDam_e38 (M : bM) (k1 : Nat) (r12 : Int32) (hr12 : (f_X7_figures M 0 1 0 7).1 = r12) (M11 : bM) (hM11 : (f_X7_figures M 0 1 0 7).2 = M11) (r14 : Int32) (hr14 : (f_X7_figures M11 r12 1 0 7).1 = r14) (M13 : bM) (hM13 : (f_X7_figures M11 r12 1 0 7).2 = M13) (c15 : ¬ r14 = (-1)) (r17 : Int32) (hr17 : f_X7_isUnderWay M13 k1 = r17) (c18 : ¬ r17 = 0) (r25 : Int32) (hr25 : (f_X7_damReason M13 k1 (((8 : Int32) * r14) + r12)).1 = r25) (M24 : bM) (hM24 : (f_X7_damReason M13 k1 (((8 : Int32) * r14) + r12)).2 = M24) (c26 : r25 = 0) (r33 : Int32) (hr33 : (f_X7_damOn M24 k1 (((8 : Int32) * r14) + r12)).1 = r33) (M32 : bM) (hM32 : (f_X7_damOn M24 k1 (((8 : Int32) * r14) + r12)).2 = M32) (c34 : ¬ r33 = 0) (r36 : Int32) (hr36 : (f_X7_done M32 0).1 = r36) (M35 : bM) (hM35 : (f_X7_done M32 0).2 = M35) (c37 : r36 = 0) : f_X7_readDam M k1 = (0, M35) := by subst hM35 hr36 hM32 hr33 hM24 hr25 hr17 hM13 hr14 hM11 hr12; exact Eq.trans (u_f_X7_readDam M k1) (Eq.trans (if_neg c15) (Eq.trans (if_neg c18) (Eq.trans (if_pos c26) (Eq.trans (if_neg c34) (if_pos c37)))))
theorem p_X7_readDam_e39 (M : bM) (k1 : Nat) (r12 : Int32) (hr12 : (f_X7_figures M 0 1 0 7).1 = r12) (M11 : bM) (hM11 : (f_X7_figures M 0 1 0 7).2 = M11) (r14 : Int32) (hr14 : (f_X7_figures M11 r12 1 0 7).1 = r14) (M13 : bM) (hM13 : (f_X7_figures M11 r12 1 0 7).2 = M13) (c15 : ¬ r14 = (-1)) (r17 : Int32) (hr17 : f_X7_isUnderWay M13 k1 = r17) (c18 : ¬ r17 = 0) (r25 : Int32) (hr25 : (f_X7_damReason M13 k1 (((8 : Int32) * r14) + r12)).1 = r25) (M24 : bM) (hM24 : (f_X7_damReason M13 k1 (((8 : Int32) * r14) + r12)).2 = M24) (c26 : r25 = 0) (r33 : Int32) (hr33 : (f_X7_damOn M24 k1 (((8 : Int32) * r14) + r12)).1 = r33) (M32 : bM) (hM32 : (f_X7_damOn M24 k1 (((8 : Int32) * r14) + r12)).2 = M32) (c34 : ¬ r33 = 0) (r36 : Int32) (hr36 : (f_X7_done M32 0).1 = r36) (M35 : bM) (hM35 : (f_X7_done M32 0).2 = M35) (c37 : ¬ r36 = 0) : f_X7_readDam M k1 = (1, M35) := by subst hM35 hr36 hM32 hr33 hM24 hr25 hr17 hM13 hr14 hM11 hr12; exact Eq.trans (u_f_X7_readDam M k1) (Eq.trans (if_neg c15) (Eq.trans (if_neg c18) (Eq.trans (if_pos c26) (Eq.trans (if_neg c34) (if_neg c37)))))
theorem p_X7_readDam_e43 (M : bM) (k1 : Nat) (r12 : Int32) (hr12 : (f_X7_figures M 0 1 0 7).1 = r12) (M11 : bM) (hM11 : (f_X7_figures M 0 1 0 7).2 = M11) (r14 : Int32) (hr14 : (f_X7_figures M11 r12 1 0 7).1 = r14) (M13 : bM) (hM13 : (f_X7_figures M11 r12 1 0 7).2 = M13) (c15 : ¬ r14 = (-1)) (r17 : Int32) (hr17 : f_X7_isUnderWay M13 k1 = r17) (c18 : ¬ r17 = 0) (r25 : Int32) (hr25 : (f_X7_damReason M13 k1 (((8 : Int32) * r14) + r12)).1 = r25) (M24 : bM) (hM24 : (f_X7_damReason M13 k1 (((8 : Int32) * r14) + r12)).2 = M24) (c26 : r25 = 0) (r33 : Int32) (hr33 : (f_X7_damOn M24 k1 (((8 : Int32) * r14) + r12)).1 = r33) (M32 : bM) (hM32 : (f_X7_damOn M24 k1 (((8 : Int32) * r14) + r12)).2 = M32) (c34 : r33 = 0) (r41 : Int32) (hr41 : (f_X7_done M32 1).1 = r41) (M40 : bM) (hM40 : (f_X7_done M32 1).2 = M40) (c42 : r41 = 0) : f_X7_readDam M k1 = (0, M40) := by subst hM40 hr41 hM32 hr33 hM24 hr25 hr17 hM13 hr14 hM11 hr12; exact Eq.trans (u_f_X7_readDam M k1) (Eq.trans (if_neg c15) (Eq.trans (if_neg c18) (Eq.trans (if_pos c26) (Eq.trans (if_pos c34) (if_pos c42)))))
theorem p_X7_readDam_e44 (M : bM) (k1 : Nat) (r12 : Int32) (hr12 : (f_X7_figures M 0 1 0 7).1 = r12) (M11 : bM) (hM11 : (f_X7_figures M 0 1 0 7).2 = M11) (r14 : Int32) (hr14 : (f_X7_figures M11 r12 1 0 7).1 = r14) (M13 : bM) (hM13 : (f_X7_figures M11 r12 1 0 7).2 = M13) (c15 : ¬ r14 = (-1)) (r17 : Int32) (hr17 : f_X7_isUnderWay M13 k1 = r17) (c18 : ¬ r17 = 0) (r25 : Int32) (hr25 : (f_X7_damReason M13 k1 (((8 : Int32) * r14) + r12)).1 = r25) (M24 : bM) (hM24 : (f_X7_damReason M13 k1 (((8 : Int32) * r14) + r12)).2 = M24) (c26 : r25 = 0) (r33 : Int32) (hr33 : (f_X7_damOn M24 k1 (((8 : Int32) * r14) + r12)).1 = r33) (M32 : bM) (hM32 : (f_X7_damOn M24 k1 (((8 : Int32) * r14) + r12)).2 = M32) (c34 : r33 = 0) (r41 : Int32) (hr41 : (f_X7_done M32 1).1 = r41) (M40 : bM) (hM40 : (f_X7_done M32 1).2 = M40) (c42 : ¬ r41 = 0) : f_X7_readDam M k1 = (1, M40) := by subst hM40 hr41 hM32 hr33 hM24 hr25 hr17 hM13 hr14 hM11 hr12; exact Eq.trans (u_f_X7_readDam M k1) (Eq.trans (if_neg c15) (Eq.trans (if_neg c18) (Eq.trans (if_pos c26) (Eq.trans (if_pos c34) (if_neg c42)))))
theorem fr_X7_readDam (M : bM) (k1 : Nat) (k : Nat) (hk : k ≠ k1) (hf : k ≠ 7) (h0k : k ≠ 0) : (f_X7_readDam M k1).2 k = M k := by
  obtain ⟨r12, hr12⟩ : ∃ y : Int32, y = (f_X7_figures M 0 1 0 7).1 := ⟨_, rfl⟩
  obtain ⟨M11, hM11⟩ : ∃ y : bM, y = (f_X7_figures M 0 1 0 7).2 := ⟨_, rfl⟩
  obtain ⟨r14, hr14⟩ : ∃ y : Int32, y = (f_X7_figures M11 r12 1 0 7).1 := ⟨_, rfl⟩
  obtain ⟨M13, hM13⟩ : ∃ y : bM, y = (f_X7_figures M11 r12 1 0 7).2 := ⟨_, rfl⟩
  by_cases c15 : r14 = (-1)
  · rw [p_X7_readDam_e16 M k1 r12 hr12.symm M11 hM11.symm r14 hr14.symm M13 hM13.symm c15]
    try dsimp only
    rw [hM13, fr_X7_figures M11 r12 1 0 7 k (by omega), hM11, fr_X7_figures M 0 1 0 7 k (by omega)]
  · obtain ⟨r17, hr17⟩ : ∃ y : Int32, y = f_X7_isUnderWay M13 k1 := ⟨_, rfl⟩
    by_cases c18 : r17 = 0
    · obtain ⟨r20, hr20⟩ : ∃ y : Int32, y = (f_X7_done M13 0).1 := ⟨_, rfl⟩
      obtain ⟨M19, hM19⟩ : ∃ y : bM, y = (f_X7_done M13 0).2 := ⟨_, rfl⟩
      by_cases c21 : r20 = 0
      · rw [p_X7_readDam_e22 M k1 r12 hr12.symm M11 hM11.symm r14 hr14.symm M13 hM13.symm c15 r17 hr17.symm c18 r20 hr20.symm M19 hM19.symm c21]
        try dsimp only
        rw [hM19, fr_X7_done M13 0 k (by omega), hM13, fr_X7_figures M11 r12 1 0 7 k (by omega), hM11, fr_X7_figures M 0 1 0 7 k (by omega)]
      · rw [p_X7_readDam_e23 M k1 r12 hr12.symm M11 hM11.symm r14 hr14.symm M13 hM13.symm c15 r17 hr17.symm c18 r20 hr20.symm M19 hM19.symm c21]
        try dsimp only
        rw [hM19, fr_X7_done M13 0 k (by omega), hM13, fr_X7_figures M11 r12 1 0 7 k (by omega), hM11, fr_X7_figures M 0 1 0 7 k (by omega)]
    · obtain ⟨r25, hr25⟩ : ∃ y : Int32, y = (f_X7_damReason M13 k1 (((8 : Int32) * r14) + r12)).1 := ⟨_, rfl⟩
      obtain ⟨M24, hM24⟩ : ∃ y : bM, y = (f_X7_damReason M13 k1 (((8 : Int32) * r14) + r12)).2 := ⟨_, rfl⟩
      by_cases c26 : r25 = 0
      · obtain ⟨r33, hr33⟩ : ∃ y : Int32, y = (f_X7_damOn M24 k1 (((8 : Int32) * r14) + r12)).1 := ⟨_, rfl⟩
        obtain ⟨M32, hM32⟩ : ∃ y : bM, y = (f_X7_damOn M24 k1 (((8 : Int32) * r14) + r12)).2 := ⟨_, rfl⟩
        by_cases c34 : r33 = 0
        · obtain ⟨r41, hr41⟩ : ∃ y : Int32, y = (f_X7_done M32 1).1 := ⟨_, rfl⟩
          obtain ⟨M40, hM40⟩ : ∃ y : bM, y = (f_X7_done M32 1).2 := ⟨_, rfl⟩
          by_cases c42 : r41 = 0
          · rw [p_X7_readDam_e43 M k1 r12 hr12.symm M11 hM11.symm r14 hr14.symm M13 hM13.symm c15 r17 hr17.symm c18 r25 hr25.symm M24 hM24.symm c26 r33 hr33.symm M32 hM32.symm c34 r41 hr41.symm M40 hM40.symm c42]
            try dsimp only
            rw [hM40, fr_X7_done M32 1 k (by omega), hM32, fr_X7_damOn M24 k1 (((8 : Int32) * r14) + r12) k (by omega) (by omega), hM24, fr_X7_damReason M13 k1 (((8 : Int32) * r14) + r12) k (by omega) (by omega), hM13, fr_X7_figures M11 r12 1 0 7 k (by omega), hM11, fr_X7_figures M 0 1 0 7 k (by omega)]
          · rw [p_X7_readDam_e44 M k1 r12 hr12.symm M11 hM11.symm r14 hr14.symm M13 hM13.symm c15 r17 hr17.symm c18 r25 hr25.symm M24 hM24.symm c26 r33 hr33.symm M32 hM32.symm c34 r41 hr41.symm M40 hM40.symm c42]
            try dsimp only
            rw [hM40, fr_X7_done M32 1 k (by omega), hM32, fr_X7_damOn M24 k1 (((8 : Int32) * r14) + r12) k (by omega) (by omega), hM24, fr_X7_damReason M13 k1 (((8 : Int32) * r14) + r12) k (by omega) (by omega), hM13, fr_X7_figures M11 r12 1 0 7 k (by omega), hM11, fr_X7_figures M 0 1 0 7 k (by omega)]
        · obtain ⟨r36, hr36⟩ : ∃ y : Int32, y = (f_X7_done M32 0).1 := ⟨_, rfl⟩
          obtain ⟨M35, hM35⟩ : ∃ y : bM, y = (f_X7_done M32 0).2 := ⟨_, rfl⟩
          by_cases c37 : r36 = 0
          · rw [p_X7_readDam_e38 M k1 r12 hr12.symm M11 hM11.symm r14 hr14.symm M13 hM13.symm c15 r17 hr17.symm c18 r25 hr25.symm M24 hM24.symm c26 r33 hr33.symm M32 hM32.symm c34 r36 hr36.symm M35 hM35.symm c37]
            try dsimp only
            rw [hM35, fr_X7_done M32 0 k (by omega), hM32, fr_X7_damOn M24 k1 (((8 : Int32) * r14) + r12) k (by omega) (by omega), hM24, fr_X7_damReason M13 k1 (((8 : Int32) * r14) + r12) k (by omega) (by omega), hM13, fr_X7_figures M11 r12 1 0 7 k (by omega), hM11, fr_X7_figures M 0 1 0 7 k (by omega)]
          · rw [p_X7_readDam_e39 M k1 r12 hr12.symm M11 hM11.symm r14 hr14.symm M13 hM13.symm c15 r17 hr17.symm c18 r25 hr25.symm M24 hM24.symm c26 r33 hr33.symm M32 hM32.symm c34 r36 hr36.symm M35 hM35.symm c37]
            try dsimp only
            rw [hM35, fr_X7_done M32 0 k (by omega), hM32, fr_X7_damOn M24 k1 (((8 : Int32) * r14) + r12) k (by omega) (by omega), hM24, fr_X7_damReason M13 k1 (((8 : Int32) * r14) + r12) k (by omega) (by omega), hM13, fr_X7_figures M11 r12 1 0 7 k (by omega), hM11, fr_X7_figures M 0 1 0 7 k (by omega)]
      · obtain ⟨r28, hr28⟩ : ∃ y : Int32, y = (f_X7_done M24 0).1 := ⟨_, rfl⟩
        obtain ⟨M27, hM27⟩ : ∃ y : bM, y = (f_X7_done M24 0).2 := ⟨_, rfl⟩
        by_cases c29 : r28 = 0
        · rw [p_X7_readDam_e30 M k1 r12 hr12.symm M11 hM11.symm r14 hr14.symm M13 hM13.symm c15 r17 hr17.symm c18 r25 hr25.symm M24 hM24.symm c26 r28 hr28.symm M27 hM27.symm c29]
          try dsimp only
          rw [hM27, fr_X7_done M24 0 k (by omega), hM24, fr_X7_damReason M13 k1 (((8 : Int32) * r14) + r12) k (by omega) (by omega), hM13, fr_X7_figures M11 r12 1 0 7 k (by omega), hM11, fr_X7_figures M 0 1 0 7 k (by omega)]
        · rw [p_X7_readDam_e31 M k1 r12 hr12.symm M11 hM11.symm r14 hr14.symm M13 hM13.symm c15 r17 hr17.symm c18 r25 hr25.symm M24 hM24.symm c26 r28 hr28.symm M27 hM27.symm c29]
          try dsimp only
          rw [hM27, fr_X7_done M24 0 k (by omega), hM24, fr_X7_damReason M13 k1 (((8 : Int32) * r14) + r12) k (by omega) (by omega), hM13, fr_X7_figures M11 r12 1 0 7 k (by omega), hM11, fr_X7_figures M 0 1 0 7 k (by omega)]
set_option maxHeartbeats 4000000 in
set_option maxRecDepth 100000 in
theorem c_X7_readDam (l : Launch) (D : va_G) (E : Nat → ClassId) (o : Nat) (M : bM) (k1 : Nat) (hk1 : LRR[k1]? = some (.inl (0, 404))) (hg : gR (M k1)) (h7 : 7 ≠ k1) (h0 : 0 ≠ k1) (ht : txR M) : Met l yX7_readDam wsX7_readDam (rmF 6) (bPc D E [.ref (o + 0), .ref (o + k1)] (fun H => bk D E LRR o M H)) (bQ (aI fun r H => ∃ M1 : bM, (r = (f_X7_readDam M k1).1 ∧ M1 = (f_X7_readDam M k1).2) ∧ bk D E LRR o M1 H) (rB o)) 0 0 (rB o) := by
  refine Met.ofW (cc := cX7_readDam) (maxL := 4) (ret := (some .boolean)) (by decide) rfl ?_
  intro p e s m args below meth c s₁ B hml hv
  obtain ⟨rfl, hB, hK⟩ := hv
  have hx := B.exec
  have hb := B.bytes
  have hr := B.returns
  have hts := atoms_spec (ws := wsX7_readDam) B.pre
  have hown : s.vm.findClass RX7 = some m.cls := findClass_of_methodNamed B.named
  have hlocks := B.notSynchronized
  have hS : bS (rB o) s.heap s.heap [] := bS.rf
  have hl := lv_entry ([.ref (o + 0), .ref (o + k1)]) (n := 4) (Nat.le_of_ble_eq_true rfl)
  rw [lg_entry_eq]
  generalize (lg_sl ([.ref (o + 0), .ref (o + k1)]) ++ List.replicate (4 - (lg_sl ([.ref (o + 0), .ref (o + k1)])).length) Slot.unset).toArray = ls at hl ⊢
  have hl : lv_has ls 4 [(0, .ref (o + 0)), (1, .ref (o + k1))] := hl
  have hB : bk D E LRR o M s.heap := hB
  refine lv_aload_n hx hb dX7_readDam_0 rfl (lv_at hl 0 rfl) ?_
  refine lv_iconst (v := 0) hx hb dX7_readDam_1 (by decide) ?_
  refine lv_iconst (v := 1) hx hb dX7_readDam_2 (by decide) ?_
  refine lv_iconst (v := 0) hx hb dX7_readDam_3 (by decide) ?_
  refine lv_bipush (v := 7) hx hb dX7_readDam_4 (by decide) ?_
  refine b_mI (b_runV (As := [.int 0, .int 1, .int 0, .int 7]) (rest := []) ⟨hx, hb, hml, hown, hts⟩ (c_X7_figures l D E o M 0 1 0 7 ht) (cwV 4 hts gX7_readDam_X7_figures rfl rfl rfl (by decide +kernel) ⟨Nat.le_of_ble_eq_true rfl, Nat.le_of_ble_eq_true rfl⟩) hK (bk_recv hK.1 hB lay_m0 rfl) hB rfl hl rfl (Nat.le_of_ble_eq_true rfl) dX7_readDam_6 ⟨Nat.zero_le _, Nat.zero_le _⟩) hS (fun q h => h) (fun r12 M11 hM11 H locs hB _ hS => ?_)
  obtain ⟨hr12, hM11⟩ := hM11
  refine lv_istore_n (lv' := [(2, .int r12), (0, .ref (o + 0)), (1, .ref (o + k1))]) hx hb dX7_readDam_9 rfl hl (by decide) rfl (fun ls hl => ?_)
  refine lv_aload_n hx hb dX7_readDam_10 rfl (lv_at hl 1 rfl) ?_
  refine lv_iload_n hx hb dX7_readDam_11 rfl (lv_at hl 0 rfl) ?_
  refine lv_iconst (v := 1) hx hb dX7_readDam_12 (by decide) ?_
  refine lv_iconst (v := 0) hx hb dX7_readDam_13 (by decide) ?_
  refine lv_bipush (v := 7) hx hb dX7_readDam_14 (by decide) ?_
  refine b_mI (b_runV (As := [.int r12, .int 1, .int 0, .int 7]) (rest := []) ⟨hx, hb, hml, hown, hts⟩ (c_X7_figures l D E o M11 r12 1 0 7 (by rw [hM11]; exact figures_tx ht)) (cwV 4 hts gX7_readDam_X7_figures rfl rfl rfl (by decide +kernel) ⟨Nat.le_of_ble_eq_true rfl, Nat.le_of_ble_eq_true rfl⟩) hK (bk_recv hK.1 hB lay_m0 rfl) hB rfl hl rfl (Nat.le_of_ble_eq_true rfl) dX7_readDam_16 ⟨Nat.zero_le _, Nat.zero_le _⟩) hS (fun q h => h) (fun r14 M13 hM13 H locs hB _ hS => ?_)
  obtain ⟨hr14, hM13⟩ := hM13
  refine lv_istore_n (lv' := [(3, .int r14), (2, .int r12), (0, .ref (o + 0)), (1, .ref (o + k1))]) hx hb dX7_readDam_19 rfl hl (by decide) rfl (fun ls hl => ?_)
  refine lv_iload_n hx hb dX7_readDam_20 rfl (lv_at hl 0 rfl) ?_
  refine lv_iconst (v := (-1)) hx hb dX7_readDam_21 (by decide) ?_
  refine lv_icmp_eq (tgt := 76) hx hb dX7_readDam_22 (by decide) (fun c15 => ?_) (fun c15 => ?_)
  · refine lv_iconst (v := 0) hx hb dX7_readDam_76 (by decide) ?_
    have e16 := p_X7_readDam_e16 M k1 r12 hr12.symm M11 hM11.symm r14 hr14.symm M13 hM13.symm c15
    exact b_zret hx hb hr rfl hlocks hS ⟨_, rfl, _, ⟨(congrArg Prod.fst e16).symm, (congrArg Prod.snd e16).symm⟩, hB⟩ dX7_readDam_77
  · refine lv_aload_n hx hb dX7_readDam_25 rfl (lv_at hl 2 rfl) ?_
    refine lv_aload_n hx hb dX7_readDam_26 rfl (lv_at hl 3 rfl) ?_
    refine b_pI (b_runS (As := [.ref (o + k1)]) (rest := [.ref (o + 0)]) ⟨hx, hb, hml, hown, hts⟩ (c_X7_isUnderWay l D E o M13 k1 hk1) (va_cwS 1 hts gX7_readDam_X7_isUnderWay rfl rfl rfl (by decide +kernel) ⟨Nat.le_of_ble_eq_true rfl, Nat.le_of_ble_eq_true rfl⟩) hK hB rfl hl rfl (Nat.le_of_ble_eq_true rfl) dX7_readDam_27 ⟨Nat.zero_le _, Nat.zero_le _⟩) hS (fun r17 hr17 locs hS => ?_)
    refine lv_if_eq (tgt := 65) hx hb dX7_readDam_30 (by decide) (fun c18 => ?_) (fun c18 => ?_)
    · refine lv_iconst (v := 0) hx hb dX7_readDam_65 (by decide) ?_
      refine b_mI (b_runV (As := [.int 0]) (rest := []) ⟨hx, hb, hml, hown, hts⟩ (c_X7_done l D E o M13 0) (cwV 1 hts gX7_readDam_X7_done rfl rfl rfl (by decide +kernel) ⟨Nat.le_of_ble_eq_true rfl, Nat.le_of_ble_eq_true rfl⟩) hK (bk_recv hK.1 hB lay_m0 rfl) hB rfl hl rfl (Nat.le_of_ble_eq_true rfl) dX7_readDam_66 ⟨Nat.zero_le _, Nat.zero_le _⟩) hS (fun q h => h) (fun r20 M19 hM19 H locs hB _ hS => ?_)
      obtain ⟨hr20, hM19⟩ := hM19
      refine lv_if_eq (tgt := 76) hx hb dX7_readDam_69 (by decide) (fun c21 => ?_) (fun c21 => ?_)
      · refine lv_iconst (v := 0) hx hb dX7_readDam_76 (by decide) ?_
        have e22 := p_X7_readDam_e22 M k1 r12 hr12.symm M11 hM11.symm r14 hr14.symm M13 hM13.symm c15 r17 hr17.symm c18 r20 hr20.symm M19 hM19.symm c21
        exact b_zret hx hb hr rfl hlocks hS ⟨_, rfl, _, ⟨(congrArg Prod.fst e22).symm, (congrArg Prod.snd e22).symm⟩, hB⟩ dX7_readDam_77
      · refine lv_iconst (v := 1) hx hb dX7_readDam_72 (by decide) ?_
        refine lv_goto (tgt := 77) hx hb dX7_readDam_73 (by decide) ?_
        have e23 := p_X7_readDam_e23 M k1 r12 hr12.symm M11 hM11.symm r14 hr14.symm M13 hM13.symm c15 r17 hr17.symm c18 r20 hr20.symm M19 hM19.symm c21
        exact b_zret hx hb hr rfl hlocks hS ⟨_, rfl, _, ⟨(congrArg Prod.fst e23).symm, (congrArg Prod.snd e23).symm⟩, hB⟩ dX7_readDam_77
    · refine lv_aload_n hx hb dX7_readDam_33 rfl (lv_at hl 2 rfl) ?_
      refine lv_aload_n hx hb dX7_readDam_34 rfl (lv_at hl 3 rfl) ?_
      refine lv_bipush (v := 8) hx hb dX7_readDam_35 (by decide) ?_
      refine lv_iload_n hx hb dX7_readDam_37 rfl (lv_at hl 0 rfl) ?_
      refine lv_imul hx hb dX7_readDam_38 ?_
      refine lv_iload_n hx hb dX7_readDam_39 rfl (lv_at hl 1 rfl) ?_
      refine lv_iadd hx hb dX7_readDam_40 ?_
      refine b_mI (b_runV (As := [.ref (o + k1), .int (((8 : Int32) * r14) + r12)]) (rest := [.ref (o + 0)]) ⟨hx, hb, hml, hown, hts⟩ (c_X7_damReason l D E o M13 k1 (((8 : Int32) * r14) + r12) hk1 (cell64 (by rw [hr12]; exact (figures_1 (M := M) (a := 0) (hi := 7) (n := 8) (by decide) (by decide) (by rw [← hr12]; exact (figures_1 (M := M11) (a := r12) (hi := 7) (n := 8) (by decide) (by decide) (by rw [← hr14]; exact c15)).1)).2) (by rw [hr14]; exact (figures_1 (M := M11) (a := r12) (hi := 7) (n := 8) (by decide) (by decide) (by rw [← hr14]; exact c15)).2)) (gR_wf (gR_of (M := M11) (by rw [hM13]; exact fr_X7_figures M11 r12 1 0 7 k1 (Ne.symm h0)) (gR_of (M := M) (by rw [hM11]; exact fr_X7_figures M 0 1 0 7 k1 (Ne.symm h0)) hg))) h7 (gR_cell (gR_of (M := M11) (by rw [hM13]; exact fr_X7_figures M11 r12 1 0 7 k1 (Ne.symm h0)) (gR_of (M := M) (by rw [hM11]; exact fr_X7_figures M 0 1 0 7 k1 (Ne.symm h0)) hg)))) (cwV 2 hts gX7_readDam_X7_damReason rfl rfl rfl (by decide +kernel) ⟨Nat.le_of_ble_eq_true rfl, Nat.le_of_ble_eq_true rfl⟩) hK (bk_recv hK.1 hB lay_m0 rfl) hB rfl hl rfl (Nat.le_of_ble_eq_true rfl) dX7_readDam_41 ⟨Nat.zero_le _, Nat.zero_le _⟩) hS (fun q h => h) (fun r25 M24 hM24 H locs hB _ hS => ?_)
      obtain ⟨hr25, hM24⟩ := hM24
      refine lv_if_ne (tgt := 65) hx hb dX7_readDam_44 (by decide) (fun c26 => ?_) (fun c26 => ?_)
      · refine lv_iconst (v := 0) hx hb dX7_readDam_65 (by decide) ?_
        refine b_mI (b_runV (As := [.int 0]) (rest := []) ⟨hx, hb, hml, hown, hts⟩ (c_X7_done l D E o M24 0) (cwV 1 hts gX7_readDam_X7_done rfl rfl rfl (by decide +kernel) ⟨Nat.le_of_ble_eq_true rfl, Nat.le_of_ble_eq_true rfl⟩) hK (bk_recv hK.1 hB lay_m0 rfl) hB rfl hl rfl (Nat.le_of_ble_eq_true rfl) dX7_readDam_66 ⟨Nat.zero_le _, Nat.zero_le _⟩) hS (fun q h => h) (fun r28 M27 hM27 H locs hB _ hS => ?_)
        obtain ⟨hr28, hM27⟩ := hM27
        refine lv_if_eq (tgt := 76) hx hb dX7_readDam_69 (by decide) (fun c29 => ?_) (fun c29 => ?_)
        · refine lv_iconst (v := 0) hx hb dX7_readDam_76 (by decide) ?_
          have e30 := p_X7_readDam_e30 M k1 r12 hr12.symm M11 hM11.symm r14 hr14.symm M13 hM13.symm c15 r17 hr17.symm c18 r25 hr25.symm M24 hM24.symm c26 r28 hr28.symm M27 hM27.symm c29
          exact b_zret hx hb hr rfl hlocks hS ⟨_, rfl, _, ⟨(congrArg Prod.fst e30).symm, (congrArg Prod.snd e30).symm⟩, hB⟩ dX7_readDam_77
        · refine lv_iconst (v := 1) hx hb dX7_readDam_72 (by decide) ?_
          refine lv_goto (tgt := 77) hx hb dX7_readDam_73 (by decide) ?_
          have e31 := p_X7_readDam_e31 M k1 r12 hr12.symm M11 hM11.symm r14 hr14.symm M13 hM13.symm c15 r17 hr17.symm c18 r25 hr25.symm M24 hM24.symm c26 r28 hr28.symm M27 hM27.symm c29
          exact b_zret hx hb hr rfl hlocks hS ⟨_, rfl, _, ⟨(congrArg Prod.fst e31).symm, (congrArg Prod.snd e31).symm⟩, hB⟩ dX7_readDam_77
      · refine lv_aload_n hx hb dX7_readDam_47 rfl (lv_at hl 2 rfl) ?_
        refine lv_aload_n hx hb dX7_readDam_48 rfl (lv_at hl 3 rfl) ?_
        refine lv_bipush (v := 8) hx hb dX7_readDam_49 (by decide) ?_
        refine lv_iload_n hx hb dX7_readDam_51 rfl (lv_at hl 0 rfl) ?_
        refine lv_imul hx hb dX7_readDam_52 ?_
        refine lv_iload_n hx hb dX7_readDam_53 rfl (lv_at hl 1 rfl) ?_
        refine lv_iadd hx hb dX7_readDam_54 ?_
        refine b_mI (b_runV (As := [.ref (o + k1), .int (((8 : Int32) * r14) + r12)]) (rest := [.ref (o + 0)]) ⟨hx, hb, hml, hown, hts⟩ (c_X7_damOn l D E o M24 k1 (((8 : Int32) * r14) + r12) hk1 (cell64 (by rw [hr12]; exact (figures_1 (M := M) (a := 0) (hi := 7) (n := 8) (by decide) (by decide) (by rw [← hr12]; exact (figures_1 (M := M11) (a := r12) (hi := 7) (n := 8) (by decide) (by decide) (by rw [← hr14]; exact c15)).1)).2) (by rw [hr14]; exact (figures_1 (M := M11) (a := r12) (hi := 7) (n := 8) (by decide) (by decide) (by rw [← hr14]; exact c15)).2)) (gR_wf (by rw [hM24]; exact gR_damReason h7 (cell64 (by rw [hr12]; exact (figures_1 (M := M) (a := 0) (hi := 7) (n := 8) (by decide) (by decide) (by rw [← hr12]; exact (figures_1 (M := M11) (a := r12) (hi := 7) (n := 8) (by decide) (by decide) (by rw [← hr14]; exact c15)).1)).2) (by rw [hr14]; exact (figures_1 (M := M11) (a := r12) (hi := 7) (n := 8) (by decide) (by decide) (by rw [← hr14]; exact c15)).2)) (gR_of (M := M11) (by rw [hM13]; exact fr_X7_figures M11 r12 1 0 7 k1 (Ne.symm h0)) (gR_of (M := M) (by rw [hM11]; exact fr_X7_figures M 0 1 0 7 k1 (Ne.symm h0)) hg)))) h7 (gR_cell (by rw [hM24]; exact gR_damReason h7 (cell64 (by rw [hr12]; exact (figures_1 (M := M) (a := 0) (hi := 7) (n := 8) (by decide) (by decide) (by rw [← hr12]; exact (figures_1 (M := M11) (a := r12) (hi := 7) (n := 8) (by decide) (by decide) (by rw [← hr14]; exact c15)).1)).2) (by rw [hr14]; exact (figures_1 (M := M11) (a := r12) (hi := 7) (n := 8) (by decide) (by decide) (by rw [← hr14]; exact c15)).2)) (gR_of (M := M11) (by rw [hM13]; exact fr_X7_figures M11 r12 1 0 7 k1 (Ne.symm h0)) (gR_of (M := M) (by rw [hM11]; exact fr_X7_figures M 0 1 0 7 k1 (Ne.symm h0)) hg))))) (cwV 2 hts gX7_readDam_X7_damOn rfl rfl rfl (by decide +kernel) ⟨Nat.le_of_ble_eq_true rfl, Nat.le_of_ble_eq_true rfl⟩) hK (bk_recv hK.1 hB lay_m0 rfl) hB rfl hl rfl (Nat.le_of_ble_eq_true rfl) dX7_readDam_55 ⟨Nat.zero_le _, Nat.zero_le _⟩) hS (fun q h => h) (fun r33 M32 hM32 H locs hB _ hS => ?_)
        obtain ⟨hr33, hM32⟩ := hM32
        refine lv_if_ne (tgt := 65) hx hb dX7_readDam_58 (by decide) (fun c34 => ?_) (fun c34 => ?_)
        · refine lv_iconst (v := 0) hx hb dX7_readDam_65 (by decide) ?_
          refine b_mI (b_runV (As := [.int 0]) (rest := []) ⟨hx, hb, hml, hown, hts⟩ (c_X7_done l D E o M32 0) (cwV 1 hts gX7_readDam_X7_done rfl rfl rfl (by decide +kernel) ⟨Nat.le_of_ble_eq_true rfl, Nat.le_of_ble_eq_true rfl⟩) hK (bk_recv hK.1 hB lay_m0 rfl) hB rfl hl rfl (Nat.le_of_ble_eq_true rfl) dX7_readDam_66 ⟨Nat.zero_le _, Nat.zero_le _⟩) hS (fun q h => h) (fun r36 M35 hM35 H locs hB _ hS => ?_)
          obtain ⟨hr36, hM35⟩ := hM35
          refine lv_if_eq (tgt := 76) hx hb dX7_readDam_69 (by decide) (fun c37 => ?_) (fun c37 => ?_)
          · refine lv_iconst (v := 0) hx hb dX7_readDam_76 (by decide) ?_
            have e38 := p_X7_readDam_e38 M k1 r12 hr12.symm M11 hM11.symm r14 hr14.symm M13 hM13.symm c15 r17 hr17.symm c18 r25 hr25.symm M24 hM24.symm c26 r33 hr33.symm M32 hM32.symm c34 r36 hr36.symm M35 hM35.symm c37
            exact b_zret hx hb hr rfl hlocks hS ⟨_, rfl, _, ⟨(congrArg Prod.fst e38).symm, (congrArg Prod.snd e38).symm⟩, hB⟩ dX7_readDam_77
          · refine lv_iconst (v := 1) hx hb dX7_readDam_72 (by decide) ?_
            refine lv_goto (tgt := 77) hx hb dX7_readDam_73 (by decide) ?_
            have e39 := p_X7_readDam_e39 M k1 r12 hr12.symm M11 hM11.symm r14 hr14.symm M13 hM13.symm c15 r17 hr17.symm c18 r25 hr25.symm M24 hM24.symm c26 r33 hr33.symm M32 hM32.symm c34 r36 hr36.symm M35 hM35.symm c37
            exact b_zret hx hb hr rfl hlocks hS ⟨_, rfl, _, ⟨(congrArg Prod.fst e39).symm, (congrArg Prod.snd e39).symm⟩, hB⟩ dX7_readDam_77
        · refine lv_iconst (v := 1) hx hb dX7_readDam_61 (by decide) ?_
          refine lv_goto (tgt := 66) hx hb dX7_readDam_62 (by decide) ?_
          refine b_mI (b_runV (As := [.int 1]) (rest := []) ⟨hx, hb, hml, hown, hts⟩ (c_X7_done l D E o M32 1) (cwV 1 hts gX7_readDam_X7_done rfl rfl rfl (by decide +kernel) ⟨Nat.le_of_ble_eq_true rfl, Nat.le_of_ble_eq_true rfl⟩) hK (bk_recv hK.1 hB lay_m0 rfl) hB rfl hl rfl (Nat.le_of_ble_eq_true rfl) dX7_readDam_66 ⟨Nat.zero_le _, Nat.zero_le _⟩) hS (fun q h => h) (fun r41 M40 hM40 H locs hB _ hS => ?_)
          obtain ⟨hr41, hM40⟩ := hM40
          refine lv_if_eq (tgt := 76) hx hb dX7_readDam_69 (by decide) (fun c42 => ?_) (fun c42 => ?_)
          · refine lv_iconst (v := 0) hx hb dX7_readDam_76 (by decide) ?_
            have e43 := p_X7_readDam_e43 M k1 r12 hr12.symm M11 hM11.symm r14 hr14.symm M13 hM13.symm c15 r17 hr17.symm c18 r25 hr25.symm M24 hM24.symm c26 r33 hr33.symm M32 hM32.symm c34 r41 hr41.symm M40 hM40.symm c42
            exact b_zret hx hb hr rfl hlocks hS ⟨_, rfl, _, ⟨(congrArg Prod.fst e43).symm, (congrArg Prod.snd e43).symm⟩, hB⟩ dX7_readDam_77
          · refine lv_iconst (v := 1) hx hb dX7_readDam_72 (by decide) ?_
            refine lv_goto (tgt := 77) hx hb dX7_readDam_73 (by decide) ?_
            have e44 := p_X7_readDam_e44 M k1 r12 hr12.symm M11 hM11.symm r14 hr14.symm M13 hM13.symm c15 r17 hr17.symm c18 r25 hr25.symm M24 hM24.symm c26 r33 hr33.symm M32 hM32.symm c34 r41 hr41.symm M40 hM40.symm c42
            exact b_zret hx hb hr rfl hlocks hS ⟨_, rfl, _, ⟨(congrArg Prod.fst e44).symm, (congrArg Prod.snd e44).symm⟩, hB⟩ dX7_readDam_77
