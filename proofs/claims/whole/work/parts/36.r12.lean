theorem gR_stepOn' {M : bM} {k : Nat} {d : Int32} (h1 : M k 1 = 1) (h : gR (M k)) : gR ((f_X7_stepOn M k d).2 k) := gR_stepOn h h1
theorem dq_in {q : Int32} (h : ¬ q < 0) : vp_in ((q - q / 8 * 8) + ((8 : Int32) * ((q / 8) - (q / 8) / 8 * 8))) 64 := by
  obtain ⟨j, hj, rfl⟩ := nI_of h
  rw [show (8 : Int32) = nI 8 from rfl, pk_rem hj (by decide) (by decide), pk_div hj (by decide) (by decide), pk_rem (by omega) (by decide) (by decide), pk_mul, nI_add]
  exact vp_in_nI (by omega) (by decide)
theorem dr8 {x : Int64} {y : Int32} (h : y = ((x.toUInt64 >>> ((33 : Int32).toInt64.toUInt64 &&& Int64.toUInt64 63)).toInt64).toInt32) : ¬ y / 8 < 0 := by
  obtain ⟨n, hn, e⟩ := drw_nI x
  have e2 : y = nI n := h.trans e
  rw [e2, show (8 : Int32) = nI 8 from rfl, pk_div hn (by decide) (by decide)]
  exact in_nneg (vp_in_nI (n := n / 8) (N := 2 ^ 31 - 1) (by omega) (by decide))
theorem in_100 {x : Int32} (h : vp_in x 1000) : vp_in (x / 100) 10 := by
  obtain ⟨j, hj, rfl⟩ := vp_in_of h (by decide)
  rw [show (100 : Int32) = nI 100 from rfl, pk_div (by omega) (by decide) (by decide)]
  exact vp_in_nI (by omega) (by decide)
def lp_X7_stepsBest_4  : Nat → Nat → Int32 → bM → (Int32 × bM)
  | 0, i11, x12, M13 => (x12, M13)
  | n11 + 1, i11, x12, M13 => (if x12 = 0 then (x12, M13) else (let r20 : Int32 := (f_X7_bestOf M13 3).1; (let M19 : bM := (f_X7_bestOf M13 3).2; (if r20 = (-1) then lp_X7_stepsBest_4 n11 (i11 + 1) 0 M19 else (let r24 : Int32 := (f_X7_stepOn M19 3 r20).1; (let M23 : bM := (f_X7_stepOn M19 3 r20).2; (if r24 = 0 then lp_X7_stepsBest_4 n11 (i11 + 1) 1 M23 else lp_X7_stepsBest_4 n11 (i11 + 1) 0 M23)))))))
theorem u0_lp_X7_stepsBest_4  (i11 : Nat) (x12 : Int32) (M13 : bM) : lp_X7_stepsBest_4 0 i11 x12 M13 = (x12, M13) := rfl
theorem u1_lp_X7_stepsBest_4  (n11 i11 : Nat) (x12 : Int32) (M13 : bM) : lp_X7_stepsBest_4 (n11 + 1) i11 x12 M13 = (if x12 = 0 then (x12, M13) else (let r20 : Int32 := (f_X7_bestOf M13 3).1; (let M19 : bM := (f_X7_bestOf M13 3).2; (if r20 = (-1) then lp_X7_stepsBest_4 n11 (i11 + 1) 0 M19 else (let r24 : Int32 := (f_X7_stepOn M19 3 r20).1; (let M23 : bM := (f_X7_stepOn M19 3 r20).2; (if r24 = 0 then lp_X7_stepsBest_4 n11 (i11 + 1) 1 M23 else lp_X7_stepsBest_4 n11 (i11 + 1) 0 M23))))))) := rfl
def f_X7_stepsBest (M : bM) (x1 : Int32) : Int32 × bM := (let x28 : Int32 := (lp_X7_stepsBest_4 x1.toNatClampNeg 0 1 M).1; (let M29 : bM := (lp_X7_stepsBest_4 x1.toNatClampNeg 0 1 M).2; (x28, M29)))
theorem u_f_X7_stepsBest (M : bM) (x1 : Int32) : f_X7_stepsBest M x1 = (let x28 : Int32 := (lp_X7_stepsBest_4 x1.toNatClampNeg 0 1 M).1; (let M29 : bM := (lp_X7_stepsBest_4 x1.toNatClampNeg 0 1 M).2; (x28, M29))) := rfl
theorem p_X7_stepsBest_e15 (M : bM) (x1 : Int32) (x12 : Int32) (M13 : bM) (i11 : Nat)  : lp_X7_stepsBest_4 0 i11 x12 M13 = (x12, M13) := by exact u0_lp_X7_stepsBest_4 i11 x12 M13
theorem p_X7_stepsBest_e18 (M : bM) (x1 : Int32) (x12 : Int32) (M13 : bM) (i11 : Nat) (n11 : Nat) (c17 : x12 = 0) : lp_X7_stepsBest_4 (n11 + 1) i11 x12 M13 = (x12, M13) := by exact Eq.trans (u1_lp_X7_stepsBest_4 n11 i11 x12 M13) (if_pos c17)
theorem p_X7_stepsBest_e22 (M : bM) (x1 : Int32) (x12 : Int32) (M13 : bM) (i11 : Nat) (n11 : Nat) (c17 : ¬ x12 = 0) (r20 : Int32) (hr20 : (f_X7_bestOf M13 3).1 = r20) (M19 : bM) (hM19 : (f_X7_bestOf M13 3).2 = M19) (c21 : r20 = (-1)) : lp_X7_stepsBest_4 (n11 + 1) i11 x12 M13 = lp_X7_stepsBest_4 n11 (i11 + 1) 0 M19 := by subst hM19 hr20; exact Eq.trans (u1_lp_X7_stepsBest_4 n11 i11 x12 M13) (Eq.trans (if_neg c17) (if_pos c21))
theorem p_X7_stepsBest_e26 (M : bM) (x1 : Int32) (x12 : Int32) (M13 : bM) (i11 : Nat) (n11 : Nat) (c17 : ¬ x12 = 0) (r20 : Int32) (hr20 : (f_X7_bestOf M13 3).1 = r20) (M19 : bM) (hM19 : (f_X7_bestOf M13 3).2 = M19) (c21 : ¬ r20 = (-1)) (r24 : Int32) (hr24 : (f_X7_stepOn M19 3 r20).1 = r24) (M23 : bM) (hM23 : (f_X7_stepOn M19 3 r20).2 = M23) (c25 : ¬ r24 = 0) : lp_X7_stepsBest_4 (n11 + 1) i11 x12 M13 = lp_X7_stepsBest_4 n11 (i11 + 1) 0 M23 := by subst hM23 hr24 hM19 hr20; exact Eq.trans (u1_lp_X7_stepsBest_4 n11 i11 x12 M13) (Eq.trans (if_neg c17) (Eq.trans (if_neg c21) (if_neg c25)))
theorem p_X7_stepsBest_e27 (M : bM) (x1 : Int32) (x12 : Int32) (M13 : bM) (i11 : Nat) (n11 : Nat) (c17 : ¬ x12 = 0) (r20 : Int32) (hr20 : (f_X7_bestOf M13 3).1 = r20) (M19 : bM) (hM19 : (f_X7_bestOf M13 3).2 = M19) (c21 : ¬ r20 = (-1)) (r24 : Int32) (hr24 : (f_X7_stepOn M19 3 r20).1 = r24) (M23 : bM) (hM23 : (f_X7_stepOn M19 3 r20).2 = M23) (c25 : r24 = 0) : lp_X7_stepsBest_4 (n11 + 1) i11 x12 M13 = lp_X7_stepsBest_4 n11 (i11 + 1) 1 M23 := by subst hM23 hr24 hM19 hr20; exact Eq.trans (u1_lp_X7_stepsBest_4 n11 i11 x12 M13) (Eq.trans (if_neg c17) (Eq.trans (if_neg c21) (if_pos c25)))
theorem p_X7_stepsBest_e30 (M : bM) (x1 : Int32) (x28 : Int32) (hx28 : (lp_X7_stepsBest_4 x1.toNatClampNeg 0 1 M).1 = x28) (M29 : bM) (hM29 : (lp_X7_stepsBest_4 x1.toNatClampNeg 0 1 M).2 = M29) : f_X7_stepsBest M x1 = (x28, M29) := by subst hM29 hx28; exact u_f_X7_stepsBest M x1
theorem fr_lp_X7_stepsBest_4 (M : bM) (x1 : Int32) (k : Nat) (hk3 : k ≠ 3) (hf : k ≠ 7) : ∀ (n11 i11 : Nat) (x12 : Int32) (M13 : bM), (lp_X7_stepsBest_4 n11 i11 x12 M13).2 k = M13 k := by
  intro n11
  induction n11 with
  | zero =>
    intro i11 x12 M13
    rw [p_X7_stepsBest_e15 M x1 x12 M13 i11 ]
  | succ n11 ih11 =>
    intro i11 x12 M13
    by_cases c17 : x12 = 0
    · rw [p_X7_stepsBest_e18 M x1 x12 M13 i11 n11 c17]
    · obtain ⟨r20, hr20⟩ : ∃ y : Int32, y = (f_X7_bestOf M13 3).1 := ⟨_, rfl⟩
      obtain ⟨M19, hM19⟩ : ∃ y : bM, y = (f_X7_bestOf M13 3).2 := ⟨_, rfl⟩
      by_cases c21 : r20 = (-1)
      · rw [p_X7_stepsBest_e22 M x1 x12 M13 i11 n11 c17 r20 hr20.symm M19 hM19.symm c21, ih11]
        try dsimp only
        rw [hM19, fr_X7_bestOf M13 3 k (by omega)]
      · obtain ⟨r24, hr24⟩ : ∃ y : Int32, y = (f_X7_stepOn M19 3 r20).1 := ⟨_, rfl⟩
        obtain ⟨M23, hM23⟩ : ∃ y : bM, y = (f_X7_stepOn M19 3 r20).2 := ⟨_, rfl⟩
        by_cases c25 : r24 = 0
        · rw [p_X7_stepsBest_e27 M x1 x12 M13 i11 n11 c17 r20 hr20.symm M19 hM19.symm c21 r24 hr24.symm M23 hM23.symm c25, ih11]
          try dsimp only
          rw [hM23, fr_X7_stepOn M19 3 r20 k (by omega), hM19, fr_X7_bestOf M13 3 k (by omega)]
        · rw [p_X7_stepsBest_e26 M x1 x12 M13 i11 n11 c17 r20 hr20.symm M19 hM19.symm c21 r24 hr24.symm M23 hM23.symm c25, ih11]
          try dsimp only
          rw [hM23, fr_X7_stepOn M19 3 r20 k (by omega), hM19, fr_X7_bestOf M13 3 k (by omega)]
theorem fr_X7_stepsBest (M : bM) (x1 : Int32) (k : Nat) (hk3 : k ≠ 3) (hf : k ≠ 7) : (f_X7_stepsBest M x1).2 k = M k := by
  obtain ⟨x28, hx28⟩ : ∃ y : Int32, y = (lp_X7_stepsBest_4 x1.toNatClampNeg 0 1 M).1 := ⟨_, rfl⟩
  obtain ⟨M29, hM29⟩ : ∃ y : bM, y = (lp_X7_stepsBest_4 x1.toNatClampNeg 0 1 M).2 := ⟨_, rfl⟩
  rw [p_X7_stepsBest_e30 M x1 x28 hx28.symm M29 hM29.symm]
  try dsimp only
  rw [hM29, fr_lp_X7_stepsBest_4 M x1 k hk3 hf x1.toNatClampNeg 0 1 M]
set_option maxHeartbeats 4000000 in
set_option maxRecDepth 100000 in
theorem c_X7_stepsBest (l : Launch) (D : va_G) (E : Nat → ClassId) (o : Nat) (M : bM) (x1 : Int32) (hg : gR (M 3)) : Met l yX7_stepsBest wsX7_stepsBest (rmF 7) (bPc D E [.ref (o + 0), .int x1] (fun H => bk D E LRR o M H)) (bQ (aI fun r H => ∃ M1 : bM, (r = (f_X7_stepsBest M x1).1 ∧ M1 = (f_X7_stepsBest M x1).2) ∧ bk D E LRR o M1 H) (rB o)) 0 0 (rB o) := by
  refine Met.ofW (cc := cX7_stepsBest) (maxL := 5) (ret := (some .boolean)) (by decide) rfl ?_
  intro p e s m args below meth c s₁ B hml hv
  obtain ⟨rfl, hB, hK⟩ := hv
  have hx := B.exec
  have hb := B.bytes
  have hr := B.returns
  have hts := atoms_spec (ws := wsX7_stepsBest) B.pre
  have hown : s.vm.findClass RX7 = some m.cls := findClass_of_methodNamed B.named
  have hlocks := B.notSynchronized
  have hS : bS (rB o) s.heap s.heap [] := bS.rf
  have hl := lv_entry ([.ref (o + 0), .int x1]) (n := 5) (Nat.le_of_ble_eq_true rfl)
  rw [lg_entry_eq]
  generalize (lg_sl ([.ref (o + 0), .int x1]) ++ List.replicate (5 - (lg_sl ([.ref (o + 0), .int x1])).length) Slot.unset).toArray = ls at hl ⊢
  have hl : lv_has ls 5 [(0, .ref (o + 0)), (1, .int x1)] := hl
  have hB : bk D E LRR o M s.heap := hB
  have hinX7 : ∀ w ∈ wsX70, w ∈ wsX7_stepsBest := by decide +kernel
  refine lv_iconst (v := 1) hx hb dX7_stepsBest_0 (by decide) ?_
  refine lv_istore_n (lv' := [(2, .int 1), (0, .ref (o + 0)), (1, .int x1)]) hx hb dX7_stepsBest_1 rfl hl (by decide) rfl (fun ls hl => ?_)
  refine lv_iconst (v := 0) hx hb dX7_stepsBest_2 (by decide) ?_
  refine lv_istore_n (lv' := [(3, .int 0), (2, .int 1), (0, .ref (o + 0)), (1, .int x1)]) hx hb dX7_stepsBest_3 rfl hl (by decide) rfl (fun ls hl => ?_)
  have lp11 : ∀ (n11 i11 : Nat) (x12 : Int32) (M13 : bM), i11 + n11 = x1.toNatClampNeg → (x12 = 0 ∨ x12 = 1) → (gR (M13 3)) → ∀ (H : Heap) (locs : List Loc), bk D E LRR o M13 H → bS (rB o) s.heap H locs → ∀ ls : Array Slot, lv_has ls 5 [(3, .int (nI i11)), (2, .int x12), (0, .ref (o + 0)), (1, .int x1)] → (∀ (H : Heap) (locs : List Loc), ((lp_X7_stepsBest_4 n11 i11 x12 M13).1 = 0 ∨ (lp_X7_stepsBest_4 n11 i11 x12 M13).1 = 1) → (gR (((lp_X7_stepsBest_4 n11 i11 x12 M13).2) 3)) → bk D E LRR o ((lp_X7_stepsBest_4 n11 i11 x12 M13).2) H → bS (rB o) s.heap H locs → ∀ ls : Array Slot, lv_has ls 5 [(2, .int ((lp_X7_stepsBest_4 n11 i11 x12 M13).1)), (0, .ref (o + 0)), (1, .int x1)] → W p l e (headSpec wsX7_stepsBest (rmF 7)).room s m ([.ref (o + 0), .int x1] : List Value).toArray below meth c H locs 0 0 (MQ below (bQ (aI fun r H => ∃ M1 : bM, (r = (f_X7_stepsBest M x1).1 ∧ M1 = (f_X7_stepsBest M x1).2) ∧ bk D E LRR o M1 H) (rB o)) ([.ref (o + 0), .int x1] : List Value).toArray s 0 0 (rB o)) (F0 m 53 ls [])) → W p l e (headSpec wsX7_stepsBest (rmF 7)).room s m ([.ref (o + 0), .int x1] : List Value).toArray below meth c H locs 0 0 (MQ below (bQ (aI fun r H => ∃ M1 : bM, (r = (f_X7_stepsBest M x1).1 ∧ M1 = (f_X7_stepsBest M x1).2) ∧ bk D E LRR o M1 H) (rB o)) ([.ref (o + 0), .int x1] : List Value).toArray s 0 0 (rB o)) (F0 m 4 ls []) := by
    intro n11
    induction n11 with
    | zero =>
      intro i11 x12 M13 hi11 hv0_11 hv1_11 H locs hB hS ls hl hexit11
      have hz11 : i11 = x1.toNatClampNeg := by omega
      refine lv_iload_n hx hb dX7_stepsBest_4 rfl (lv_at hl 0 rfl) ?_
      refine lv_iload_n hx hb dX7_stepsBest_5 rfl (lv_at hl 3 rfl) ?_
      refine lv_icmp_ge (tgt := 53) hx hb dX7_stepsBest_6 (by decide) (fun c14 => ?_) (fun c14 => absurd (by rw [hz11]; exact b_le_N _) c14)
      have e15 := p_X7_stepsBest_e15 M x1 x12 M13 i11 
      rw [e15] at hexit11
      exact hexit11 _ _  hv0_11 hv1_11 hB hS ls (lv_sub hl [1, 2, 3] rfl)
    | succ n11 ih11 =>
      intro i11 x12 M13 hi11 hv0_11 hv1_11 H locs hB hS ls hl hexit11
      refine lv_iload_n hx hb dX7_stepsBest_4 rfl (lv_at hl 0 rfl) ?_
      refine lv_iload_n hx hb dX7_stepsBest_5 rfl (lv_at hl 3 rfl) ?_
      refine lv_icmp_ge (tgt := 53) hx hb dX7_stepsBest_6 (by decide) (fun c16 => absurd c16 (b_nle_N (i := i11) (by omega))) (fun c16 => ?_)
      refine lv_iload_n hx hb dX7_stepsBest_9 rfl (lv_at hl 1 rfl) ?_
      refine lv_if_eq (tgt := 53) hx hb dX7_stepsBest_10 (by decide) (fun c17 => ?_) (fun c17 => ?_)
      · have e18 := p_X7_stepsBest_e18 M x1 x12 M13 i11 n11 c17
        rw [e18] at hexit11
        exact hexit11 _ _  hv0_11 hv1_11 hB hS ls (lv_sub hl [1, 2, 3] rfl)
      · refine lv_aload_n hx hb dX7_stepsBest_13 rfl (lv_at hl 2 rfl) ?_
        refine lv_aload_n hx hb dX7_stepsBest_14 rfl (lv_at hl 2 rfl) ?_
        refine b_get (D := D) (E := E) (L := LRR) (o := o) (M := M13) (v := .ref (o + 3)) (C := RX7) (T := TX7) (N := 13) hx hb hts hinX7 hown hK.1 hB 0 lay_m0 rfl 4 (by decide) (hts (.fieldLink RX7 16 "RiverMeetingModel" "trial" "[I") (List.mem_of_getElem? (i := 1) rfl)) (fun _ h9 => h9) rfl dX7_stepsBest_15 ?_
        refine b_mI (b_runV (As := [.ref (o + 3)]) (rest := []) ⟨hx, hb, hml, hown, hts⟩ (c_X7_bestOf l D E o M13 3 lay_m3 (gR_wf hv1_11) (by decide) (gR_best (by decide) hv1_11)) (cwV 1 hts gX7_stepsBest_X7_bestOf rfl rfl rfl (by decide +kernel) ⟨Nat.le_of_ble_eq_true rfl, Nat.le_of_ble_eq_true rfl⟩) hK (bk_recv hK.1 hB lay_m0 rfl) hB rfl hl rfl (Nat.le_of_ble_eq_true rfl) dX7_stepsBest_18 ⟨Nat.zero_le _, Nat.zero_le _⟩) hS (fun q h => h) (fun r20 M19 hM19 H locs hB _ hS => ?_)
        obtain ⟨hr20, hM19⟩ := hM19
        refine lv_istore (lv' := [(4, .int r20), (3, .int (nI i11)), (2, .int x12), (0, .ref (o + 0)), (1, .int x1)]) hx hb dX7_stepsBest_21 hl (by decide) rfl (fun ls hl => ?_)
        refine lv_iload hx hb dX7_stepsBest_23 (lv_at hl 0 rfl) ?_
        refine lv_iconst (v := (-1)) hx hb dX7_stepsBest_25 (by decide) ?_
        refine lv_icmp_eq (tgt := 45) hx hb dX7_stepsBest_26 (by decide) (fun c21 => ?_) (fun c21 => ?_)
        · refine lv_iconst (v := 0) hx hb dX7_stepsBest_45 (by decide) ?_
          refine lv_istore_n (lv' := [(2, .int 0), (4, .int r20), (3, .int (nI i11)), (0, .ref (o + 0)), (1, .int x1)]) hx hb dX7_stepsBest_46 rfl hl (by decide) rfl (fun ls hl => ?_)
          refine lv_iinc (v := nI (i11 + 1)) (lv' := [(3, .int (nI (i11 + 1))), (2, .int 0), (4, .int r20), (0, .ref (o + 0)), (1, .int x1)]) hx hb dX7_stepsBest_47 hl (k := 2) rfl (nI_1 i11) (by decide) rfl (fun ls hl => ?_)
          refine lv_goto (tgt := 4) hx hb dX7_stepsBest_50 (by decide) ?_
          have e22 := p_X7_stepsBest_e22 M x1 x12 M13 i11 n11 c17 r20 hr20.symm M19 hM19.symm c21
          rw [e22] at hexit11
          exact ih11 (i11 + 1) 0 M19 (by omega) (Or.inl rfl) (gR_of (M := M13) (by rw [hM19]; exact fr_X7_bestOf M13 3 3 (by decide)) hv1_11) _ _ hB hS ls (lv_sub hl [0, 1, 3, 4] rfl) hexit11
        · refine lv_aload_n hx hb dX7_stepsBest_29 rfl (lv_at hl 3 rfl) ?_
          refine b_get (D := D) (E := E) (L := LRR) (o := o) (M := M19) (v := .ref (o + 3)) (C := RX7) (T := TX7) (N := 13) hx hb hts hinX7 hown hK.1 hB 0 lay_m0 rfl 4 (by decide) (hts (.fieldLink RX7 16 "RiverMeetingModel" "trial" "[I") (List.mem_of_getElem? (i := 1) rfl)) (fun _ h9 => h9) rfl dX7_stepsBest_30 ?_
          refine lv_iload hx hb dX7_stepsBest_33 (lv_at hl 0 rfl) ?_
          refine b_mI (b_runS (As := [.ref (o + 3), .int r20]) (rest := []) ⟨hx, hb, hml, hown, hts⟩ (c_X7_stepOn l D E o M19 3 r20 lay_m3 (gR_wf (gR_of (M := M13) (by rw [hM19]; exact fr_X7_bestOf M13 3 3 (by decide)) hv1_11)) (gR_room (gR_of (M := M13) (by rw [hM19]; exact fr_X7_bestOf M13 3 3 (by decide)) hv1_11))) (va_cwS 2 hts gX7_stepsBest_X7_stepOn rfl rfl rfl (by decide +kernel) ⟨Nat.le_of_ble_eq_true rfl, Nat.le_of_ble_eq_true rfl⟩) hK hB rfl hl rfl (Nat.le_of_ble_eq_true rfl) dX7_stepsBest_35 ⟨Nat.zero_le _, Nat.zero_le _⟩) hS (fun q h => h) (fun r24 M23 hM23 H locs hB _ hS => ?_)
          obtain ⟨hr24, hM23⟩ := hM23
          refine lv_if_ne (tgt := 45) hx hb dX7_stepsBest_38 (by decide) (fun c25 => ?_) (fun c25 => ?_)
          · refine lv_iconst (v := 0) hx hb dX7_stepsBest_45 (by decide) ?_
            refine lv_istore_n (lv' := [(2, .int 0), (4, .int r20), (3, .int (nI i11)), (0, .ref (o + 0)), (1, .int x1)]) hx hb dX7_stepsBest_46 rfl hl (by decide) rfl (fun ls hl => ?_)
            refine lv_iinc (v := nI (i11 + 1)) (lv' := [(3, .int (nI (i11 + 1))), (2, .int 0), (4, .int r20), (0, .ref (o + 0)), (1, .int x1)]) hx hb dX7_stepsBest_47 hl (k := 2) rfl (nI_1 i11) (by decide) rfl (fun ls hl => ?_)
            refine lv_goto (tgt := 4) hx hb dX7_stepsBest_50 (by decide) ?_
            have e26 := p_X7_stepsBest_e26 M x1 x12 M13 i11 n11 c17 r20 hr20.symm M19 hM19.symm c21 r24 hr24.symm M23 hM23.symm c25
            rw [e26] at hexit11
            exact ih11 (i11 + 1) 0 M23 (by omega) (Or.inl rfl) (by rw [hM23]; exact gR_stepOn' (by rw [hM19, fr_X7_bestOf M13 3 3 (by decide)]; exact best_under (M := M13) (k := 3) (by rw [← hr20]; exact c21)) (gR_of (M := M13) (by rw [hM19]; exact fr_X7_bestOf M13 3 3 (by decide)) hv1_11)) _ _ hB hS ls (lv_sub hl [0, 1, 3, 4] rfl) hexit11
          · refine lv_iconst (v := 1) hx hb dX7_stepsBest_41 (by decide) ?_
            refine lv_goto (tgt := 46) hx hb dX7_stepsBest_42 (by decide) ?_
            refine lv_istore_n (lv' := [(2, .int 1), (4, .int r20), (3, .int (nI i11)), (0, .ref (o + 0)), (1, .int x1)]) hx hb dX7_stepsBest_46 rfl hl (by decide) rfl (fun ls hl => ?_)
            refine lv_iinc (v := nI (i11 + 1)) (lv' := [(3, .int (nI (i11 + 1))), (2, .int 1), (4, .int r20), (0, .ref (o + 0)), (1, .int x1)]) hx hb dX7_stepsBest_47 hl (k := 2) rfl (nI_1 i11) (by decide) rfl (fun ls hl => ?_)
            refine lv_goto (tgt := 4) hx hb dX7_stepsBest_50 (by decide) ?_
            have e27 := p_X7_stepsBest_e27 M x1 x12 M13 i11 n11 c17 r20 hr20.symm M19 hM19.symm c21 r24 hr24.symm M23 hM23.symm c25
            rw [e27] at hexit11
            exact ih11 (i11 + 1) 1 M23 (by omega) (Or.inr rfl) (by rw [hM23]; exact gR_stepOn' (by rw [hM19, fr_X7_bestOf M13 3 3 (by decide)]; exact best_under (M := M13) (k := 3) (by rw [← hr20]; exact c21)) (gR_of (M := M13) (by rw [hM19]; exact fr_X7_bestOf M13 3 3 (by decide)) hv1_11)) _ _ hB hS ls (lv_sub hl [0, 1, 3, 4] rfl) hexit11
  refine lp11 x1.toNatClampNeg 0 1 M (by omega) (Or.inr rfl) hg _ _ hB hS ls (lv_sub hl [0, 1, 2, 3] rfl) ?_
  intro H locs hw0_11 hw1_11 hB hS ls hl
  obtain ⟨x28, hx28⟩ : ∃ y : Int32, y = (lp_X7_stepsBest_4 x1.toNatClampNeg 0 1 M).1 := ⟨_, rfl⟩
  rw [← hx28] at hl hw0_11
  obtain ⟨M29, hM29⟩ : ∃ y : bM, y = (lp_X7_stepsBest_4 x1.toNatClampNeg 0 1 M).2 := ⟨_, rfl⟩
  rw [← hM29] at hB hw1_11
  have hl : lv_has ls 5 [(2, .int x28), (0, .ref (o + 0)), (1, .int x1)] := hl
  refine lv_iload_n hx hb dX7_stepsBest_53 rfl (lv_at hl 0 rfl) ?_
  have e30 := p_X7_stepsBest_e30 M x1 x28 hx28.symm M29 hM29.symm
  exact b_zret hx hb hr (nar_z hw0_11) hlocks hS ⟨_, rfl, _, ⟨(congrArg Prod.fst e30).symm, (congrArg Prod.snd e30).symm⟩, hB⟩ dX7_stepsBest_54

def f_X7_turnOf (M : bM) (k1 : Nat) (x2 : Int32) (x3 : Int32) : bM := (let r11 : Int32 := f_X7_isUnderWay M k1; (if r11 = 0 then (let r32 : Int32 := (f_X7_gameOn M k1 x3.toInt64).1; (let M31 : bM := (f_X7_gameOn M k1 x3.toInt64).2; M31)) else (let r13 : Int32 := f_X7_canStep M k1; (if r13 = 0 then (let r29 : Int32 := (f_X7_floodOn M k1).1; (let M28 : bM := (f_X7_floodOn M k1).2; M28)) else (if x2 = 0 then (let r26 : Int32 := (f_X7_damOn M k1 ((x3 - x3 / 8 * 8) + ((8 : Int32) * ((x3 / 8) - (x3 / 8) / 8 * 8)))).1; (let M25 : bM := (f_X7_damOn M k1 ((x3 - x3 / 8 * 8) + ((8 : Int32) * ((x3 / 8) - (x3 / 8) / 8 * 8)))).2; M25)) else (if 5 ≤ x2 then (let r18 : Int32 := (f_X7_bestOf M k1).1; (let M17 : bM := (f_X7_bestOf M k1).2; (let r20 : Int32 := (f_X7_stepOn M17 k1 r18).1; (let M19 : bM := (f_X7_stepOn M17 k1 r18).2; M19)))) else (let r23 : Int32 := (f_X7_stepOn M k1 (x3 - x3 / 3 * 3)).1; (let M22 : bM := (f_X7_stepOn M k1 (x3 - x3 / 3 * 3)).2; M22))))))))
theorem u_f_X7_turnOf (M : bM) (k1 : Nat) (x2 : Int32) (x3 : Int32) : f_X7_turnOf M k1 x2 x3 = (let r11 : Int32 := f_X7_isUnderWay M k1; (if r11 = 0 then (let r32 : Int32 := (f_X7_gameOn M k1 x3.toInt64).1; (let M31 : bM := (f_X7_gameOn M k1 x3.toInt64).2; M31)) else (let r13 : Int32 := f_X7_canStep M k1; (if r13 = 0 then (let r29 : Int32 := (f_X7_floodOn M k1).1; (let M28 : bM := (f_X7_floodOn M k1).2; M28)) else (if x2 = 0 then (let r26 : Int32 := (f_X7_damOn M k1 ((x3 - x3 / 8 * 8) + ((8 : Int32) * ((x3 / 8) - (x3 / 8) / 8 * 8)))).1; (let M25 : bM := (f_X7_damOn M k1 ((x3 - x3 / 8 * 8) + ((8 : Int32) * ((x3 / 8) - (x3 / 8) / 8 * 8)))).2; M25)) else (if 5 ≤ x2 then (let r18 : Int32 := (f_X7_bestOf M k1).1; (let M17 : bM := (f_X7_bestOf M k1).2; (let r20 : Int32 := (f_X7_stepOn M17 k1 r18).1; (let M19 : bM := (f_X7_stepOn M17 k1 r18).2; M19)))) else (let r23 : Int32 := (f_X7_stepOn M k1 (x3 - x3 / 3 * 3)).1; (let M22 : bM := (f_X7_stepOn M k1 (x3 - x3 / 3 * 3)).2; M22)))))))) := rfl
theorem p_X7_turnOf_e21 (M : bM) (k1 : Nat) (x2 : Int32) (x3 : Int32) (r11 : Int32) (hr11 : f_X7_isUnderWay M k1 = r11) (c12 : ¬ r11 = 0) (r13 : Int32) (hr13 : f_X7_canStep M k1 = r13) (c14 : ¬ r13 = 0) (c15 : ¬ x2 = 0) (c16 : 5 ≤ x2) (r18 : Int32) (hr18 : (f_X7_bestOf M k1).1 = r18) (M17 : bM) (hM17 : (f_X7_bestOf M k1).2 = M17) (r20 : Int32) (hr20 : (f_X7_stepOn M17 k1 r18).1 = r20) (M19 : bM) (hM19 : (f_X7_stepOn M17 k1 r18).2 = M19) : f_X7_turnOf M k1 x2 x3 = M19 := by subst hM19 hr20 hM17 hr18 hr13 hr11; exact Eq.trans (u_f_X7_turnOf M k1 x2 x3) (Eq.trans (if_neg c12) (Eq.trans (if_neg c14) (Eq.trans (if_neg c15) (if_pos c16))))
theorem p_X7_turnOf_e24 (M : bM) (k1 : Nat) (x2 : Int32) (x3 : Int32) (r11 : Int32) (hr11 : f_X7_isUnderWay M k1 = r11) (c12 : ¬ r11 = 0) (r13 : Int32) (hr13 : f_X7_canStep M k1 = r13) (c14 : ¬ r13 = 0) (c15 : ¬ x2 = 0) (c16 : ¬ 5 ≤ x2) (r23 : Int32) (hr23 : (f_X7_stepOn M k1 (x3 - x3 / 3 * 3)).1 = r23) (M22 : bM) (hM22 : (f_X7_stepOn M k1 (x3 - x3 / 3 * 3)).2 = M22) : f_X7_turnOf M k1 x2 x3 = M22 := by subst hM22 hr23 hr13 hr11; exact Eq.trans (u_f_X7_turnOf M k1 x2 x3) (Eq.trans (if_neg c12) (Eq.trans (if_neg c14) (Eq.trans (if_neg c15) (if_neg c16))))
theorem p_X7_turnOf_e27 (M : bM) (k1 : Nat) (x2 : Int32) (x3 : Int32) (r11 : Int32) (hr11 : f_X7_isUnderWay M k1 = r11) (c12 : ¬ r11 = 0) (r13 : Int32) (hr13 : f_X7_canStep M k1 = r13) (c14 : ¬ r13 = 0) (c15 : x2 = 0) (r26 : Int32) (hr26 : (f_X7_damOn M k1 ((x3 - x3 / 8 * 8) + ((8 : Int32) * ((x3 / 8) - (x3 / 8) / 8 * 8)))).1 = r26) (M25 : bM) (hM25 : (f_X7_damOn M k1 ((x3 - x3 / 8 * 8) + ((8 : Int32) * ((x3 / 8) - (x3 / 8) / 8 * 8)))).2 = M25) : f_X7_turnOf M k1 x2 x3 = M25 := by subst hM25 hr26 hr13 hr11; exact Eq.trans (u_f_X7_turnOf M k1 x2 x3) (Eq.trans (if_neg c12) (Eq.trans (if_neg c14) (if_pos c15)))
theorem p_X7_turnOf_e30 (M : bM) (k1 : Nat) (x2 : Int32) (x3 : Int32) (r11 : Int32) (hr11 : f_X7_isUnderWay M k1 = r11) (c12 : ¬ r11 = 0) (r13 : Int32) (hr13 : f_X7_canStep M k1 = r13) (c14 : r13 = 0) (r29 : Int32) (hr29 : (f_X7_floodOn M k1).1 = r29) (M28 : bM) (hM28 : (f_X7_floodOn M k1).2 = M28) : f_X7_turnOf M k1 x2 x3 = M28 := by subst hM28 hr29 hr13 hr11; exact Eq.trans (u_f_X7_turnOf M k1 x2 x3) (Eq.trans (if_neg c12) (if_pos c14))
theorem p_X7_turnOf_e33 (M : bM) (k1 : Nat) (x2 : Int32) (x3 : Int32) (r11 : Int32) (hr11 : f_X7_isUnderWay M k1 = r11) (c12 : r11 = 0) (r32 : Int32) (hr32 : (f_X7_gameOn M k1 x3.toInt64).1 = r32) (M31 : bM) (hM31 : (f_X7_gameOn M k1 x3.toInt64).2 = M31) : f_X7_turnOf M k1 x2 x3 = M31 := by subst hM31 hr32 hr11; exact Eq.trans (u_f_X7_turnOf M k1 x2 x3) (if_pos c12)
theorem fr_X7_turnOf (M : bM) (k1 : Nat) (x2 : Int32) (x3 : Int32) (k : Nat) (hk : k ≠ k1) (hf : k ≠ 7) : f_X7_turnOf M k1 x2 x3 k = M k := by
  obtain ⟨r11, hr11⟩ : ∃ y : Int32, y = f_X7_isUnderWay M k1 := ⟨_, rfl⟩
  by_cases c12 : r11 = 0
  · obtain ⟨r32, hr32⟩ : ∃ y : Int32, y = (f_X7_gameOn M k1 x3.toInt64).1 := ⟨_, rfl⟩
    obtain ⟨M31, hM31⟩ : ∃ y : bM, y = (f_X7_gameOn M k1 x3.toInt64).2 := ⟨_, rfl⟩
    rw [p_X7_turnOf_e33 M k1 x2 x3 r11 hr11.symm c12 r32 hr32.symm M31 hM31.symm]
    try dsimp only
    rw [hM31, fr_X7_gameOn M k1 x3.toInt64 k (by omega)]
  · obtain ⟨r13, hr13⟩ : ∃ y : Int32, y = f_X7_canStep M k1 := ⟨_, rfl⟩
    by_cases c14 : r13 = 0
    · obtain ⟨r29, hr29⟩ : ∃ y : Int32, y = (f_X7_floodOn M k1).1 := ⟨_, rfl⟩
      obtain ⟨M28, hM28⟩ : ∃ y : bM, y = (f_X7_floodOn M k1).2 := ⟨_, rfl⟩
      rw [p_X7_turnOf_e30 M k1 x2 x3 r11 hr11.symm c12 r13 hr13.symm c14 r29 hr29.symm M28 hM28.symm]
      try dsimp only
      rw [hM28, fr_X7_floodOn M k1 k (by omega)]
    · by_cases c15 : x2 = 0
      · obtain ⟨r26, hr26⟩ : ∃ y : Int32, y = (f_X7_damOn M k1 ((x3 - x3 / 8 * 8) + ((8 : Int32) * ((x3 / 8) - (x3 / 8) / 8 * 8)))).1 := ⟨_, rfl⟩
        obtain ⟨M25, hM25⟩ : ∃ y : bM, y = (f_X7_damOn M k1 ((x3 - x3 / 8 * 8) + ((8 : Int32) * ((x3 / 8) - (x3 / 8) / 8 * 8)))).2 := ⟨_, rfl⟩
        rw [p_X7_turnOf_e27 M k1 x2 x3 r11 hr11.symm c12 r13 hr13.symm c14 c15 r26 hr26.symm M25 hM25.symm]
        try dsimp only
        rw [hM25, fr_X7_damOn M k1 ((x3 - x3 / 8 * 8) + ((8 : Int32) * ((x3 / 8) - (x3 / 8) / 8 * 8))) k (by omega) (by omega)]
      · by_cases c16 : 5 ≤ x2
        · obtain ⟨r18, hr18⟩ : ∃ y : Int32, y = (f_X7_bestOf M k1).1 := ⟨_, rfl⟩
          obtain ⟨M17, hM17⟩ : ∃ y : bM, y = (f_X7_bestOf M k1).2 := ⟨_, rfl⟩
          obtain ⟨r20, hr20⟩ : ∃ y : Int32, y = (f_X7_stepOn M17 k1 r18).1 := ⟨_, rfl⟩
          obtain ⟨M19, hM19⟩ : ∃ y : bM, y = (f_X7_stepOn M17 k1 r18).2 := ⟨_, rfl⟩
          rw [p_X7_turnOf_e21 M k1 x2 x3 r11 hr11.symm c12 r13 hr13.symm c14 c15 c16 r18 hr18.symm M17 hM17.symm r20 hr20.symm M19 hM19.symm]
          try dsimp only
          rw [hM19, fr_X7_stepOn M17 k1 r18 k (by omega), hM17, fr_X7_bestOf M k1 k (by omega)]
        · obtain ⟨r23, hr23⟩ : ∃ y : Int32, y = (f_X7_stepOn M k1 (x3 - x3 / 3 * 3)).1 := ⟨_, rfl⟩
          obtain ⟨M22, hM22⟩ : ∃ y : bM, y = (f_X7_stepOn M k1 (x3 - x3 / 3 * 3)).2 := ⟨_, rfl⟩
          rw [p_X7_turnOf_e24 M k1 x2 x3 r11 hr11.symm c12 r13 hr13.symm c14 c15 c16 r23 hr23.symm M22 hM22.symm]
          try dsimp only
          rw [hM22, fr_X7_stepOn M k1 (x3 - x3 / 3 * 3) k (by omega)]
set_option maxHeartbeats 4000000 in
set_option maxRecDepth 100000 in
theorem c_X7_turnOf (l : Launch) (D : va_G) (E : Nat → ClassId) (o : Nat) (M : bM) (k1 : Nat) (x2 : Int32) (x3 : Int32) (hk1 : LRR[k1]? = some (.inl (0, 404))) (hg : gR (M k1)) (h7 : 7 ≠ k1) (hq : ¬ x3 < 0) : Met l yX7_turnOf wsX7_turnOf (rmF 7) (bPc D E [.ref (o + 0), .ref (o + k1), .int x2, .int x3] (fun H => bk D E LRR o M H)) (bQ (aV fun H => ∃ M1 : bM, M1 = f_X7_turnOf M k1 x2 x3 ∧ bk D E LRR o M1 H) (rB o)) 0 0 (rB o) := by
  refine Met.ofW (cc := cX7_turnOf) (maxL := 4) (ret := none) (by decide) rfl ?_
  intro p e s m args below meth c s₁ B hml hv
  obtain ⟨rfl, hB, hK⟩ := hv
  have hx := B.exec
  have hb := B.bytes
  have hr := B.returns
  have hts := atoms_spec (ws := wsX7_turnOf) B.pre
  have hown : s.vm.findClass RX7 = some m.cls := findClass_of_methodNamed B.named
  have hlocks := B.notSynchronized
  have hS : bS (rB o) s.heap s.heap [] := bS.rf
  have hl := lv_entry ([.ref (o + 0), .ref (o + k1), .int x2, .int x3]) (n := 4) (Nat.le_of_ble_eq_true rfl)
  rw [lg_entry_eq]
  generalize (lg_sl ([.ref (o + 0), .ref (o + k1), .int x2, .int x3]) ++ List.replicate (4 - (lg_sl ([.ref (o + 0), .ref (o + k1), .int x2, .int x3])).length) Slot.unset).toArray = ls at hl ⊢
  have hl : lv_has ls 4 [(0, .ref (o + 0)), (1, .ref (o + k1)), (2, .int x2), (3, .int x3)] := hl
  have hB : bk D E LRR o M s.heap := hB
  refine lv_aload_n hx hb dX7_turnOf_0 rfl (lv_at hl 1 rfl) ?_
  refine b_pI (b_runS (As := [.ref (o + k1)]) (rest := []) ⟨hx, hb, hml, hown, hts⟩ (c_X7_isUnderWay l D E o M k1 hk1) (va_cwS 1 hts gX7_turnOf_X7_isUnderWay rfl rfl rfl (by decide +kernel) ⟨Nat.le_of_ble_eq_true rfl, Nat.le_of_ble_eq_true rfl⟩) hK hB rfl hl rfl (Nat.le_of_ble_eq_true rfl) dX7_turnOf_1 ⟨Nat.zero_le _, Nat.zero_le _⟩) hS (fun r11 hr11 locs hS => ?_)
  refine lv_if_ne (tgt := 17) hx hb dX7_turnOf_4 (by decide) (fun c12 => ?_) (fun c12 => ?_)
  · refine lv_aload_n hx hb dX7_turnOf_17 rfl (lv_at hl 1 rfl) ?_
    refine b_pI (b_runS (As := [.ref (o + k1)]) (rest := []) ⟨hx, hb, hml, hown, hts⟩ (c_X7_canStep l D E o M k1 hk1 (gR_wf hg)) (va_cwS 1 hts gX7_turnOf_X7_canStep rfl rfl rfl (by decide +kernel) ⟨Nat.le_of_ble_eq_true rfl, Nat.le_of_ble_eq_true rfl⟩) hK hB rfl hl rfl (Nat.le_of_ble_eq_true rfl) dX7_turnOf_18 ⟨Nat.zero_le _, Nat.zero_le _⟩) hS (fun r13 hr13 locs hS => ?_)
    refine lv_if_ne (tgt := 32) hx hb dX7_turnOf_21 (by decide) (fun c14 => ?_) (fun c14 => ?_)
    · refine lv_iload_n hx hb dX7_turnOf_32 rfl (lv_at hl 2 rfl) ?_
      refine lv_if_ne (tgt := 60) hx hb dX7_turnOf_33 (by decide) (fun c15 => ?_) (fun c15 => ?_)
      · refine lv_iload_n hx hb dX7_turnOf_60 rfl (lv_at hl 2 rfl) ?_
        refine lv_iconst (v := 5) hx hb dX7_turnOf_61 (by decide) ?_
        refine lv_icmp_ge (tgt := 76) hx hb dX7_turnOf_62 (by decide) (fun c16 => ?_) (fun c16 => ?_)
        · refine lv_aload_n hx hb dX7_turnOf_76 rfl (lv_at hl 1 rfl) ?_
          refine lv_aload_n hx hb dX7_turnOf_77 rfl (lv_at hl 0 rfl) ?_
          refine lv_aload_n hx hb dX7_turnOf_78 rfl (lv_at hl 1 rfl) ?_
          refine b_mI (b_runV (As := [.ref (o + k1)]) (rest := [.ref (o + k1)]) ⟨hx, hb, hml, hown, hts⟩ (c_X7_bestOf l D E o M k1 hk1 (gR_wf hg) h7 (gR_best (Ne.symm h7) hg)) (cwV 1 hts gX7_turnOf_X7_bestOf rfl rfl rfl (by decide +kernel) ⟨Nat.le_of_ble_eq_true rfl, Nat.le_of_ble_eq_true rfl⟩) hK (bk_recv hK.1 hB lay_m0 rfl) hB rfl hl rfl (Nat.le_of_ble_eq_true rfl) dX7_turnOf_79 ⟨Nat.zero_le _, Nat.zero_le _⟩) hS (fun q h => h) (fun r18 M17 hM17 H locs hB _ hS => ?_)
          obtain ⟨hr18, hM17⟩ := hM17
          refine b_mI (b_runS (As := [.ref (o + k1), .int r18]) (rest := []) ⟨hx, hb, hml, hown, hts⟩ (c_X7_stepOn l D E o M17 k1 r18 hk1 (gR_wf (gR_of (M := M) (by rw [hM17]; exact fr_X7_bestOf M k1 k1 (Ne.symm h7)) hg)) (gR_room (gR_of (M := M) (by rw [hM17]; exact fr_X7_bestOf M k1 k1 (Ne.symm h7)) hg))) (va_cwS 2 hts gX7_turnOf_X7_stepOn rfl rfl rfl (by decide +kernel) ⟨Nat.le_of_ble_eq_true rfl, Nat.le_of_ble_eq_true rfl⟩) hK hB rfl hl rfl (Nat.le_of_ble_eq_true rfl) dX7_turnOf_82 ⟨Nat.zero_le _, Nat.zero_le _⟩) hS (fun q h => h) (fun r20 M19 hM19 H locs hB _ hS => ?_)
          obtain ⟨hr20, hM19⟩ := hM19
          refine lv_pop hx hb dX7_turnOf_85 rfl ?_
          have e21 := p_X7_turnOf_e21 M k1 x2 x3 r11 hr11.symm c12 r13 hr13.symm c14 c15 c16 r18 hr18.symm M17 hM17.symm r20 hr20.symm M19 hM19.symm
          exact b_vret hx hb hr hlocks hS ⟨rfl, _, e21.symm, hB⟩ dX7_turnOf_86
        · refine lv_aload_n hx hb dX7_turnOf_65 rfl (lv_at hl 1 rfl) ?_
          refine lv_iload_n hx hb dX7_turnOf_66 rfl (lv_at hl 3 rfl) ?_
          refine lv_iconst (v := 3) hx hb dX7_turnOf_67 (by decide) ?_
          refine lv_irem hx hb dX7_turnOf_68 (by decide) ?_
          refine b_mI (b_runS (As := [.ref (o + k1), .int (x3 - x3 / 3 * 3)]) (rest := []) ⟨hx, hb, hml, hown, hts⟩ (c_X7_stepOn l D E o M k1 (x3 - x3 / 3 * 3) hk1 (gR_wf hg) (gR_room hg)) (va_cwS 2 hts gX7_turnOf_X7_stepOn rfl rfl rfl (by decide +kernel) ⟨Nat.le_of_ble_eq_true rfl, Nat.le_of_ble_eq_true rfl⟩) hK hB rfl hl rfl (Nat.le_of_ble_eq_true rfl) dX7_turnOf_69 ⟨Nat.zero_le _, Nat.zero_le _⟩) hS (fun q h => h) (fun r23 M22 hM22 H locs hB _ hS => ?_)
          obtain ⟨hr23, hM22⟩ := hM22
          refine lv_pop hx hb dX7_turnOf_72 rfl ?_
          refine lv_goto (tgt := 86) hx hb dX7_turnOf_73 (by decide) ?_
          have e24 := p_X7_turnOf_e24 M k1 x2 x3 r11 hr11.symm c12 r13 hr13.symm c14 c15 c16 r23 hr23.symm M22 hM22.symm
          exact b_vret hx hb hr hlocks hS ⟨rfl, _, e24.symm, hB⟩ dX7_turnOf_86
      · refine lv_aload_n hx hb dX7_turnOf_36 rfl (lv_at hl 0 rfl) ?_
        refine lv_aload_n hx hb dX7_turnOf_37 rfl (lv_at hl 1 rfl) ?_
        refine lv_iload_n hx hb dX7_turnOf_38 rfl (lv_at hl 3 rfl) ?_
        refine lv_bipush (v := 8) hx hb dX7_turnOf_39 (by decide) ?_
        refine lv_irem hx hb dX7_turnOf_41 (by decide) ?_
        refine lv_bipush (v := 8) hx hb dX7_turnOf_42 (by decide) ?_
        refine lv_iload_n hx hb dX7_turnOf_44 rfl (lv_at hl 3 rfl) ?_
        refine lv_bipush (v := 8) hx hb dX7_turnOf_45 (by decide) ?_
        refine lv_idiv hx hb dX7_turnOf_47 (by decide) ?_
        refine lv_bipush (v := 8) hx hb dX7_turnOf_48 (by decide) ?_
        refine lv_irem hx hb dX7_turnOf_50 (by decide) ?_
        refine lv_imul hx hb dX7_turnOf_51 ?_
        refine lv_iadd hx hb dX7_turnOf_52 ?_
        refine b_mI (b_runV (As := [.ref (o + k1), .int ((x3 - x3 / 8 * 8) + ((8 : Int32) * ((x3 / 8) - (x3 / 8) / 8 * 8)))]) (rest := []) ⟨hx, hb, hml, hown, hts⟩ (c_X7_damOn l D E o M k1 ((x3 - x3 / 8 * 8) + ((8 : Int32) * ((x3 / 8) - (x3 / 8) / 8 * 8))) hk1 (dq_in hq) (gR_wf hg) h7 (gR_cell hg)) (cwV 2 hts gX7_turnOf_X7_damOn rfl rfl rfl (by decide +kernel) ⟨Nat.le_of_ble_eq_true rfl, Nat.le_of_ble_eq_true rfl⟩) hK (bk_recv hK.1 hB lay_m0 rfl) hB rfl hl rfl (Nat.le_of_ble_eq_true rfl) dX7_turnOf_53 ⟨Nat.zero_le _, Nat.zero_le _⟩) hS (fun q h => h) (fun r26 M25 hM25 H locs hB _ hS => ?_)
        obtain ⟨hr26, hM25⟩ := hM25
        refine lv_pop hx hb dX7_turnOf_56 rfl ?_
        refine lv_goto (tgt := 86) hx hb dX7_turnOf_57 (by decide) ?_
        have e27 := p_X7_turnOf_e27 M k1 x2 x3 r11 hr11.symm c12 r13 hr13.symm c14 c15 r26 hr26.symm M25 hM25.symm
        exact b_vret hx hb hr hlocks hS ⟨rfl, _, e27.symm, hB⟩ dX7_turnOf_86
    · refine lv_aload_n hx hb dX7_turnOf_24 rfl (lv_at hl 1 rfl) ?_
      refine b_mI (b_runS (As := [.ref (o + k1)]) (rest := []) ⟨hx, hb, hml, hown, hts⟩ (c_X7_floodOn l D E o M k1 hk1 (gR_wf hg)) (va_cwS 1 hts gX7_turnOf_X7_floodOn rfl rfl rfl (by decide +kernel) ⟨Nat.le_of_ble_eq_true rfl, Nat.le_of_ble_eq_true rfl⟩) hK hB rfl hl rfl (Nat.le_of_ble_eq_true rfl) dX7_turnOf_25 ⟨Nat.zero_le _, Nat.zero_le _⟩) hS (fun q h => h) (fun r29 M28 hM28 H locs hB _ hS => ?_)
      obtain ⟨hr29, hM28⟩ := hM28
      refine lv_pop hx hb dX7_turnOf_28 rfl ?_
      refine lv_goto (tgt := 86) hx hb dX7_turnOf_29 (by decide) ?_
      have e30 := p_X7_turnOf_e30 M k1 x2 x3 r11 hr11.symm c12 r13 hr13.symm c14 r29 hr29.symm M28 hM28.symm
      exact b_vret hx hb hr hlocks hS ⟨rfl, _, e30.symm, hB⟩ dX7_turnOf_86
  · refine lv_aload_n hx hb dX7_turnOf_7 rfl (lv_at hl 1 rfl) ?_
    refine lv_iload_n hx hb dX7_turnOf_8 rfl (lv_at hl 3 rfl) ?_
    refine lv_i2l hx hb dX7_turnOf_9 rfl ?_
    refine b_mI (b_runS (As := [.ref (o + k1), .long x3.toInt64]) (rest := []) ⟨hx, hb, hml, hown, hts⟩ (c_X7_gameOn l D E o M k1 x3.toInt64 hk1) (va_cwS 2 hts gX7_turnOf_X7_gameOn rfl rfl rfl (by decide +kernel) ⟨Nat.le_of_ble_eq_true rfl, Nat.le_of_ble_eq_true rfl⟩) hK hB rfl hl rfl (Nat.le_of_ble_eq_true rfl) dX7_turnOf_10 ⟨Nat.zero_le _, Nat.zero_le _⟩) hS (fun q h => h) (fun r32 M31 hM31 H locs hB _ hS => ?_)
    obtain ⟨hr32, hM31⟩ := hM31
    refine lv_pop hx hb dX7_turnOf_13 rfl ?_
    refine lv_goto (tgt := 86) hx hb dX7_turnOf_14 (by decide) ?_
    have e33 := p_X7_turnOf_e33 M k1 x2 x3 r11 hr11.symm c12 r32 hr32.symm M31 hM31.symm
    exact b_vret hx hb hr hlocks hS ⟨rfl, _, e33.symm, hB⟩ dX7_turnOf_86
