theorem cs_0 : ∀ j : Nat, j < 404 → vp_in ((0 : Int32) + nI j) 404 := by
  intro j hj
  rw [show (0 : Int32) = nI 0 from rfl, nI_add]
  exact vp_in_nI (by omega) (by decide)
theorem slot_ok {x : Int32} (h : x = 0 ∨ x = 1) : ∀ j : Nat, j < 404 → vp_in ((404 : Int32) * x + nI j) 808 := by
  intro j hj
  rcases h with rfl | rfl
  · rw [show (404 : Int32) * 0 = nI 0 from rfl, nI_add]; exact vp_in_nI (by omega) (by decide)
  · rw [show (404 : Int32) * 1 = nI 404 from rfl, nI_add]; exact vp_in_nI (by omega) (by decide)
theorem acts_14 {x : Int32} (h : vp_in x 15) (c : ¬ x = 14) : vp_in x 14 := by
  obtain ⟨i, hi, rfl⟩ := vp_in_of h (by decide)
  refine vp_in_nI ?_ (by decide)
  rcases Nat.lt_or_ge i 14 with q | q
  · exact q
  · exact absurd (by rw [show i = 14 by omega]; rfl) c
theorem acts_13 {x : Int32} (c : x = 14) : vp_in (x - 1) 14 := by rw [c]; exact vp_in_nI (n := 13) (by decide) (by decide)
theorem acts_dn {x : Int32} (h : vp_in x 15) (c : ¬ x = 0) : vp_in (x - 1) 14 := by
  obtain ⟨i, hi, rfl⟩ := vp_in_of h (by decide)
  have : i ≠ 0 := fun q => c (by rw [q]; rfl)
  rw [show (1 : Int32) = nI 1 from rfl, pk_sub (by omega)]
  exact vp_in_nI (by omega) (by decide)
theorem crs_in {k l : Int32} (c : ¬ f_X7_in k.toInt64 0 (l - 1).toInt64 = 0) (h : vp_in (l - 1) 64) : vp_in k 64 := by
  have h1 := (in_iff _ _ _).mp c
  rw [Int32.toInt_toInt64, Int32.toInt_toInt64] at h1
  have h2 := vp_in_iff.mp h
  have e0 : (0 : Int64).toInt = 0 := by decide
  exact vp_in_iff.mpr ⟨by omega, by omega⟩
theorem ms_head {M : bM} {p : Int32} (hp : p = 0 ∨ p = 1) (h : gR (M 2)) : msF M 2 p (f_X7_head M 2 p) := by
  obtain ⟨h0, h1, g0, g1, e0, e1⟩ := gR_head h
  rcases hp with rfl | rfl
  · rw [e0]; exact (measure_ok (M := M) (k := 2) (p := 0) (s := h0) (by decide) (by decide) g0 (gR_cost h)).1
  · rw [e1]; exact (measure_ok (M := M) (k := 2) (p := 1) (s := h1) (by decide) (by decide) g1 (gR_cost h)).1
def f_X7_course (M : bM) (x1 : Int32) (x2 : Int32) : Int32 × bM := (let r11 : Int32 := f_X7_in x1.toInt64 0 1; (if r11 = 0 then (let r14 : Int32 := (f_X7_refused M 1).1; (let M13 : bM := (f_X7_refused M 1).2; (0, M13))) else (let r17 : Int32 := f_X7_of M 2 (x1 &&& 1) 4; (let r18 : Int32 := f_X7_in x2.toInt64 0 ((r17 - 1).toInt64); (if r18 = 0 then (let r21 : Int32 := (f_X7_refused M 1).1; (let M20 : bM := (f_X7_refused M 1).2; (0, M20))) else (let r25 : Int32 := (f_X7_refused M 0).1; (let M24 : bM := (f_X7_refused M 0).2; ((M24 2 (((276 : Int32) + ((64 : Int32) * x1)) + x2).toNatClampNeg), M24))))))))
theorem u_f_X7_course (M : bM) (x1 : Int32) (x2 : Int32) : f_X7_course M x1 x2 = (let r11 : Int32 := f_X7_in x1.toInt64 0 1; (if r11 = 0 then (let r14 : Int32 := (f_X7_refused M 1).1; (let M13 : bM := (f_X7_refused M 1).2; (0, M13))) else (let r17 : Int32 := f_X7_of M 2 (x1 &&& 1) 4; (let r18 : Int32 := f_X7_in x2.toInt64 0 ((r17 - 1).toInt64); (if r18 = 0 then (let r21 : Int32 := (f_X7_refused M 1).1; (let M20 : bM := (f_X7_refused M 1).2; (0, M20))) else (let r25 : Int32 := (f_X7_refused M 0).1; (let M24 : bM := (f_X7_refused M 0).2; ((M24 2 (((276 : Int32) + ((64 : Int32) * x1)) + x2).toNatClampNeg), M24)))))))) := rfl
theorem p_X7_course_e16 (M : bM) (x1 : Int32) (x2 : Int32) (r11 : Int32) (hr11 : f_X7_in x1.toInt64 0 1 = r11) (c12 : r11 = 0) (r14 : Int32) (hr14 : (f_X7_refused M 1).1 = r14) (M13 : bM) (hM13 : (f_X7_refused M 1).2 = M13) : f_X7_course M x1 x2 = (0, M13) := by subst hM13 hr14 hr11; exact Eq.trans (u_f_X7_course M x1 x2) (if_pos c12)
theorem p_X7_course_e23 (M : bM) (x1 : Int32) (x2 : Int32) (r11 : Int32) (hr11 : f_X7_in x1.toInt64 0 1 = r11) (c12 : ¬ r11 = 0) (r17 : Int32) (hr17 : f_X7_of M 2 (x1 &&& 1) 4 = r17) (r18 : Int32) (hr18 : f_X7_in x2.toInt64 0 ((r17 - 1).toInt64) = r18) (c19 : r18 = 0) (r21 : Int32) (hr21 : (f_X7_refused M 1).1 = r21) (M20 : bM) (hM20 : (f_X7_refused M 1).2 = M20) : f_X7_course M x1 x2 = (0, M20) := by subst hM20 hr21 hr18 hr17 hr11; exact Eq.trans (u_f_X7_course M x1 x2) (Eq.trans (if_neg c12) (if_pos c19))
theorem p_X7_course_e27 (M : bM) (x1 : Int32) (x2 : Int32) (r11 : Int32) (hr11 : f_X7_in x1.toInt64 0 1 = r11) (c12 : ¬ r11 = 0) (r17 : Int32) (hr17 : f_X7_of M 2 (x1 &&& 1) 4 = r17) (r18 : Int32) (hr18 : f_X7_in x2.toInt64 0 ((r17 - 1).toInt64) = r18) (c19 : ¬ r18 = 0) (r25 : Int32) (hr25 : (f_X7_refused M 0).1 = r25) (M24 : bM) (hM24 : (f_X7_refused M 0).2 = M24) : f_X7_course M x1 x2 = ((M24 2 (((276 : Int32) + ((64 : Int32) * x1)) + x2).toNatClampNeg), M24) := by subst hM24 hr25 hr18 hr17 hr11; exact Eq.trans (u_f_X7_course M x1 x2) (Eq.trans (if_neg c12) (if_neg c19))
theorem fr_X7_course (M : bM) (x1 : Int32) (x2 : Int32) (k : Nat) (hk0 : k ≠ 0) : (f_X7_course M x1 x2).2 k = M k := by
  obtain ⟨r11, hr11⟩ : ∃ y : Int32, y = f_X7_in x1.toInt64 0 1 := ⟨_, rfl⟩
  by_cases c12 : r11 = 0
  · obtain ⟨r14, hr14⟩ : ∃ y : Int32, y = (f_X7_refused M 1).1 := ⟨_, rfl⟩
    obtain ⟨M13, hM13⟩ : ∃ y : bM, y = (f_X7_refused M 1).2 := ⟨_, rfl⟩
    rw [p_X7_course_e16 M x1 x2 r11 hr11.symm c12 r14 hr14.symm M13 hM13.symm]
    try dsimp only
    rw [hM13, fr_X7_refused M 1 k (by omega)]
  · obtain ⟨r17, hr17⟩ : ∃ y : Int32, y = f_X7_of M 2 (x1 &&& 1) 4 := ⟨_, rfl⟩
    obtain ⟨r18, hr18⟩ : ∃ y : Int32, y = f_X7_in x2.toInt64 0 ((r17 - 1).toInt64) := ⟨_, rfl⟩
    by_cases c19 : r18 = 0
    · obtain ⟨r21, hr21⟩ : ∃ y : Int32, y = (f_X7_refused M 1).1 := ⟨_, rfl⟩
      obtain ⟨M20, hM20⟩ : ∃ y : bM, y = (f_X7_refused M 1).2 := ⟨_, rfl⟩
      rw [p_X7_course_e23 M x1 x2 r11 hr11.symm c12 r17 hr17.symm r18 hr18.symm c19 r21 hr21.symm M20 hM20.symm]
      try dsimp only
      rw [hM20, fr_X7_refused M 1 k (by omega)]
    · obtain ⟨r25, hr25⟩ : ∃ y : Int32, y = (f_X7_refused M 0).1 := ⟨_, rfl⟩
      obtain ⟨M24, hM24⟩ : ∃ y : bM, y = (f_X7_refused M 0).2 := ⟨_, rfl⟩
      rw [p_X7_course_e27 M x1 x2 r11 hr11.symm c12 r17 hr17.symm r18 hr18.symm c19 r25 hr25.symm M24 hM24.symm]
      try dsimp only
      rw [hM24, fr_X7_refused M 0 k (by omega)]
set_option maxHeartbeats 4000000 in
set_option maxRecDepth 100000 in
theorem c_X7_course (l : Launch) (D : va_G) (E : Nat → ClassId) (o : Nat) (M : bM) (x1 : Int32) (x2 : Int32) (hg : gR (M 2)) : Met l yX7_course wsX7_course (rmF 1) (bPc D E [.ref (o + 0), .int x1, .int x2] (fun H => bk D E LRR o M H)) (bQ (aI fun r H => ∃ M1 : bM, (r = (f_X7_course M x1 x2).1 ∧ M1 = (f_X7_course M x1 x2).2) ∧ bk D E LRR o M1 H) (rB o)) 0 0 (rB o) := by
  refine Met.ofW (cc := cX7_course) (maxL := 3) (ret := (some .int)) (by decide) rfl ?_
  intro p e s m args below meth c s₁ B hml hv
  obtain ⟨rfl, hB, hK⟩ := hv
  have hx := B.exec
  have hb := B.bytes
  have hr := B.returns
  have hts := atoms_spec (ws := wsX7_course) B.pre
  have hown : s.vm.findClass RX7 = some m.cls := findClass_of_methodNamed B.named
  have hlocks := B.notSynchronized
  have hS : bS (rB o) s.heap s.heap [] := bS.rf
  have hl := lv_entry ([.ref (o + 0), .int x1, .int x2]) (n := 3) (Nat.le_of_ble_eq_true rfl)
  rw [lg_entry_eq]
  generalize (lg_sl ([.ref (o + 0), .int x1, .int x2]) ++ List.replicate (3 - (lg_sl ([.ref (o + 0), .int x1, .int x2])).length) Slot.unset).toArray = ls at hl ⊢
  have hl : lv_has ls 3 [(0, .ref (o + 0)), (1, .int x1), (2, .int x2)] := hl
  have hB : bk D E LRR o M s.heap := hB
  have hinX7 : ∀ w ∈ wsX70, w ∈ wsX7_course := by decide +kernel
  refine lv_aload_n hx hb dX7_course_0 rfl (lv_at hl 0 rfl) ?_
  refine lv_iload_n hx hb dX7_course_1 rfl (lv_at hl 1 rfl) ?_
  refine lv_i2l hx hb dX7_course_2 rfl ?_
  refine lv_lconst (v := 0) hx hb dX7_course_3 (by decide) ?_
  refine lv_lconst (v := 1) hx hb dX7_course_4 (by decide) ?_
  refine b_pI (b_runS (As := [.long x1.toInt64, .long 0, .long 1]) (rest := [.ref (o + 0)]) ⟨hx, hb, hml, hown, hts⟩ (c_X7_in l D E x1.toInt64 0 1) (va_cwS 3 hts gX7_course_X7_in rfl rfl rfl (by decide +kernel) ⟨Nat.le_of_ble_eq_true rfl, Nat.le_of_ble_eq_true rfl⟩) hK trivial rfl hl rfl (Nat.le_of_ble_eq_true rfl) dX7_course_5 ⟨Nat.zero_le _, Nat.zero_le _⟩) hS (fun r11 hr11 locs hS => ?_)
  refine lv_if_eq (tgt := 38) hx hb dX7_course_8 (by decide) (fun c12 => ?_) (fun c12 => ?_)
  · refine lv_iconst (v := 1) hx hb dX7_course_38 (by decide) ?_
    refine b_mI (b_runV (As := [.int 1]) (rest := []) ⟨hx, hb, hml, hown, hts⟩ (c_X7_refused l D E o M 1) (cwV 1 hts gX7_course_X7_refused rfl rfl rfl (by decide +kernel) ⟨Nat.le_of_ble_eq_true rfl, Nat.le_of_ble_eq_true rfl⟩) hK (bk_recv hK.1 hB lay_m0 rfl) hB rfl hl rfl (Nat.le_of_ble_eq_true rfl) dX7_course_39 ⟨Nat.zero_le _, Nat.zero_le _⟩) hS (fun q h => h) (fun r14 M13 hM13 H locs hB _ hS => ?_)
    obtain ⟨hr14, hM13⟩ := hM13
    have hkr14 : r14 = 1 := by rw [hr14]; rfl
    refine lv_const (y := 1) hkr14 ?_
    refine lv_if_eq (tgt := 47) hx hb dX7_course_42 (by decide) (fun c15 => absurd c15 (by decide)) (fun c15 => ?_)
    refine lv_iconst (v := 0) hx hb dX7_course_45 (by decide) ?_
    have e16 := p_X7_course_e16 M x1 x2 r11 hr11.symm c12 r14 hr14.symm M13 hM13.symm
    exact b_iret hx hb hr hlocks hS ⟨_, rfl, _, ⟨(congrArg Prod.fst e16).symm, (congrArg Prod.snd e16).symm⟩, hB⟩ dX7_course_46
  · refine lv_iload_n hx hb dX7_course_11 rfl (lv_at hl 2 rfl) ?_
    refine lv_i2l hx hb dX7_course_12 rfl ?_
    refine lv_lconst (v := 0) hx hb dX7_course_13 (by decide) ?_
    refine lv_aload_n hx hb dX7_course_14 rfl (lv_at hl 0 rfl) ?_
    refine b_get (D := D) (E := E) (L := LRR) (o := o) (M := M) (v := .ref (o + 2)) (C := RX7) (T := TX7) (N := 13) hx hb hts hinX7 hown hK.1 hB 0 lay_m0 rfl 3 (by decide) (hts (.fieldLink RX7 13 "RiverMeetingModel" "now" "[I") (List.mem_of_getElem? (i := 1) rfl)) (fun _ h9 => h9) rfl dX7_course_15 ?_
    refine lv_iload_n hx hb dX7_course_18 rfl (lv_at hl 1 rfl) ?_
    refine lv_iconst (v := 1) hx hb dX7_course_19 (by decide) ?_
    refine lv_iand hx hb dX7_course_20 ?_
    refine lv_iconst (v := 4) hx hb dX7_course_21 (by decide) ?_
    refine b_pI (b_runS (As := [.ref (o + 2), .int (x1 &&& 1), .int 4]) (rest := [.long 0, .long x2.toInt64, .ref (o + 0)]) ⟨hx, hb, hml, hown, hts⟩ (c_X7_of l D E o M 2 (x1 &&& 1) 4 lay_m2 (pb_and (in_pb (in_rng 2 (by decide) (hr11 ▸ c12)))) (vp_in_nI (n := 4) (by decide) (by decide))) (va_cwS 3 hts gX7_course_X7_of rfl rfl rfl (by decide +kernel) ⟨Nat.le_of_ble_eq_true rfl, Nat.le_of_ble_eq_true rfl⟩) hK hB rfl hl rfl (Nat.le_of_ble_eq_true rfl) dX7_course_22 ⟨Nat.zero_le _, Nat.zero_le _⟩) hS (fun r17 hr17 locs hS => ?_)
    refine lv_iconst (v := 1) hx hb dX7_course_25 (by decide) ?_
    refine lv_isub hx hb dX7_course_26 ?_
    refine lv_i2l hx hb dX7_course_27 rfl ?_
    refine b_pI (b_runS (As := [.long x2.toInt64, .long 0, .long ((r17 - 1).toInt64)]) (rest := [.ref (o + 0)]) ⟨hx, hb, hml, hown, hts⟩ (c_X7_in l D E x2.toInt64 0 ((r17 - 1).toInt64)) (va_cwS 3 hts gX7_course_X7_in rfl rfl rfl (by decide +kernel) ⟨Nat.le_of_ble_eq_true rfl, Nat.le_of_ble_eq_true rfl⟩) hK trivial rfl hl rfl (Nat.le_of_ble_eq_true rfl) dX7_course_28 ⟨Nat.zero_le _, Nat.zero_le _⟩) hS (fun r18 hr18 locs hS => ?_)
    refine lv_if_eq (tgt := 38) hx hb dX7_course_31 (by decide) (fun c19 => ?_) (fun c19 => ?_)
    · refine lv_iconst (v := 1) hx hb dX7_course_38 (by decide) ?_
      refine b_mI (b_runV (As := [.int 1]) (rest := []) ⟨hx, hb, hml, hown, hts⟩ (c_X7_refused l D E o M 1) (cwV 1 hts gX7_course_X7_refused rfl rfl rfl (by decide +kernel) ⟨Nat.le_of_ble_eq_true rfl, Nat.le_of_ble_eq_true rfl⟩) hK (bk_recv hK.1 hB lay_m0 rfl) hB rfl hl rfl (Nat.le_of_ble_eq_true rfl) dX7_course_39 ⟨Nat.zero_le _, Nat.zero_le _⟩) hS (fun q h => h) (fun r21 M20 hM20 H locs hB _ hS => ?_)
      obtain ⟨hr21, hM20⟩ := hM20
      have hkr21 : r21 = 1 := by rw [hr21]; rfl
      refine lv_const (y := 1) hkr21 ?_
      refine lv_if_eq (tgt := 47) hx hb dX7_course_42 (by decide) (fun c22 => absurd c22 (by decide)) (fun c22 => ?_)
      refine lv_iconst (v := 0) hx hb dX7_course_45 (by decide) ?_
      have e23 := p_X7_course_e23 M x1 x2 r11 hr11.symm c12 r17 hr17.symm r18 hr18.symm c19 r21 hr21.symm M20 hM20.symm
      exact b_iret hx hb hr hlocks hS ⟨_, rfl, _, ⟨(congrArg Prod.fst e23).symm, (congrArg Prod.snd e23).symm⟩, hB⟩ dX7_course_46
    · refine lv_iconst (v := 0) hx hb dX7_course_34 (by decide) ?_
      refine lv_goto (tgt := 39) hx hb dX7_course_35 (by decide) ?_
      refine b_mI (b_runV (As := [.int 0]) (rest := []) ⟨hx, hb, hml, hown, hts⟩ (c_X7_refused l D E o M 0) (cwV 1 hts gX7_course_X7_refused rfl rfl rfl (by decide +kernel) ⟨Nat.le_of_ble_eq_true rfl, Nat.le_of_ble_eq_true rfl⟩) hK (bk_recv hK.1 hB lay_m0 rfl) hB rfl hl rfl (Nat.le_of_ble_eq_true rfl) dX7_course_39 ⟨Nat.zero_le _, Nat.zero_le _⟩) hS (fun q h => h) (fun r25 M24 hM24 H locs hB _ hS => ?_)
      obtain ⟨hr25, hM24⟩ := hM24
      have hkr25 : r25 = 0 := by rw [hr25]; rfl
      refine lv_const (y := 0) hkr25 ?_
      refine lv_if_eq (tgt := 47) hx hb dX7_course_42 (by decide) (fun c26 => ?_) (fun c26 => absurd (by decide) c26)
      refine lv_aload_n hx hb dX7_course_47 rfl (lv_at hl 0 rfl) ?_
      refine b_get (D := D) (E := E) (L := LRR) (o := o) (M := M24) (v := .ref (o + 2)) (C := RX7) (T := TX7) (N := 13) hx hb hts hinX7 hown hK.1 hB 0 lay_m0 rfl 3 (by decide) (hts (.fieldLink RX7 13 "RiverMeetingModel" "now" "[I") (List.mem_of_getElem? (i := 1) rfl)) (fun _ h9 => h9) rfl dX7_course_48 ?_
      refine lv_sipush (v := 276) hx hb dX7_course_51 (by decide) ?_
      refine lv_bipush (v := 64) hx hb dX7_course_54 (by decide) ?_
      refine lv_iload_n hx hb dX7_course_56 rfl (lv_at hl 1 rfl) ?_
      refine lv_imul hx hb dX7_course_57 ?_
      refine lv_iadd hx hb dX7_course_58 ?_
      refine lv_iload_n hx hb dX7_course_59 rfl (lv_at hl 2 rfl) ?_
      refine lv_iadd hx hb dX7_course_60 ?_
      refine b_iald hx hb hK.1 hB 2 lay_m2 (in_crs (in_pb (in_rng 2 (by decide) (hr11 ▸ c12))) (crs_in (by rw [← hr18]; exact c19) (by rw [hr17]; exact len_of (pb_and (in_pb (in_rng 2 (by decide) (hr11 ▸ c12)))) (gR_wf hg).2))) dX7_course_61 ?_
      have e27 := p_X7_course_e27 M x1 x2 r11 hr11.symm c12 r17 hr17.symm r18 hr18.symm c19 r25 hr25.symm M24 hM24.symm
      exact b_iret hx hb hr hlocks hS ⟨_, rfl, _, ⟨(congrArg Prod.fst e27).symm, (congrArg Prod.snd e27).symm⟩, hB⟩ dX7_course_62

def lp_X7_remember_11  : Nat → Nat → bM → (bM)
  | 0, i15, M16 => M16
  | n15 + 1, i15, M16 => (let M20 : bM := up2 M16 4 i15 (M16 4 (nI i15 + 404).toNatClampNeg); lp_X7_remember_11 n15 (i15 + 1) M20)
theorem u0_lp_X7_remember_11  (i15 : Nat) (M16 : bM) : lp_X7_remember_11 0 i15 M16 = M16 := rfl
theorem u1_lp_X7_remember_11  (n15 i15 : Nat) (M16 : bM) : lp_X7_remember_11 (n15 + 1) i15 M16 = (let M20 : bM := up2 M16 4 i15 (M16 4 (nI i15 + 404).toNatClampNeg); lp_X7_remember_11 n15 (i15 + 1) M20) := rfl
def f_X7_remember (M : bM) : bM := (if (M 0 6) = 14 then (let M22 : bM := (lp_X7_remember_11 5252 0 M); (let M23 : bM := up2 M22 0 6 ((M22 0 6) - 1); (let M24 : bM := f_X7_copyState M23 2 404 0 4 5656 ((404 : Int32) * (M23 0 6)); (let M25 : bM := up2 M24 0 6 ((M24 0 6) + 1); M25)))) else (let M12 : bM := f_X7_copyState M 2 404 0 4 5656 ((404 : Int32) * (M 0 6)); (let M13 : bM := up2 M12 0 6 ((M12 0 6) + 1); M13)))
theorem u_f_X7_remember (M : bM) : f_X7_remember M = (if (M 0 6) = 14 then (let M22 : bM := (lp_X7_remember_11 5252 0 M); (let M23 : bM := up2 M22 0 6 ((M22 0 6) - 1); (let M24 : bM := f_X7_copyState M23 2 404 0 4 5656 ((404 : Int32) * (M23 0 6)); (let M25 : bM := up2 M24 0 6 ((M24 0 6) + 1); M25)))) else (let M12 : bM := f_X7_copyState M 2 404 0 4 5656 ((404 : Int32) * (M 0 6)); (let M13 : bM := up2 M12 0 6 ((M12 0 6) + 1); M13))) := rfl
theorem p_X7_remember_e14 (M : bM) (c11 : ¬ (M 0 6) = 14) (M12 : bM) (hM12 : f_X7_copyState M 2 404 0 4 5656 ((404 : Int32) * (M 0 6)) = M12) (M13 : bM) (hM13 : up2 M12 0 6 ((M12 0 6) + 1) = M13) : f_X7_remember M = M13 := by subst hM13 hM12; exact Eq.trans (u_f_X7_remember M) (if_neg c11)
theorem p_X7_remember_e18 (M : bM) (M16 : bM) (i15 : Nat)  : lp_X7_remember_11 0 i15 M16 = M16 := by exact u0_lp_X7_remember_11 i15 M16
theorem p_X7_remember_e21 (M : bM) (M16 : bM) (i15 : Nat) (n15 : Nat) (M20 : bM) (hM20 : up2 M16 4 i15 (M16 4 (nI i15 + 404).toNatClampNeg) = M20) : lp_X7_remember_11 (n15 + 1) i15 M16 = lp_X7_remember_11 n15 (i15 + 1) M20 := by subst hM20; exact u1_lp_X7_remember_11 n15 i15 M16
theorem p_X7_remember_e26 (M : bM) (c11 : (M 0 6) = 14) (M22 : bM) (hM22 : (lp_X7_remember_11 5252 0 M) = M22) (M23 : bM) (hM23 : up2 M22 0 6 ((M22 0 6) - 1) = M23) (M24 : bM) (hM24 : f_X7_copyState M23 2 404 0 4 5656 ((404 : Int32) * (M23 0 6)) = M24) (M25 : bM) (hM25 : up2 M24 0 6 ((M24 0 6) + 1) = M25) : f_X7_remember M = M25 := by subst hM25 hM24 hM23 hM22; exact Eq.trans (u_f_X7_remember M) (if_pos c11)
theorem rem_row0 : ∀ (n i : Nat) (M : bM), lp_X7_remember_11 n i M 0 = M 0 := by
  intro n
  induction n with
  | zero => intro i M; rw [u0_lp_X7_remember_11]
  | succ n ih =>
    intro i M
    rw [u1_lp_X7_remember_11]
    dsimp only
    rw [ih, up2_row (by decide)]
theorem fr_lp_X7_remember_11 (M : bM) (k : Nat) (hk4 : k ≠ 4) (hk0 : k ≠ 0) : ∀ (n15 i15 : Nat) (M16 : bM), (lp_X7_remember_11 n15 i15 M16) k = M16 k := by
  intro n15
  induction n15 with
  | zero =>
    intro i15 M16
    rw [p_X7_remember_e18 M M16 i15 ]
  | succ n15 ih15 =>
    intro i15 M16
    obtain ⟨M20, hM20⟩ : ∃ y : bM, y = up2 M16 4 i15 (M16 4 (nI i15 + 404).toNatClampNeg) := ⟨_, rfl⟩
    rw [p_X7_remember_e21 M M16 i15 n15 M20 hM20.symm, ih15]
    try dsimp only
    rw [hM20, up2_row (by omega)]
theorem fr_X7_remember (M : bM) (k : Nat) (hk4 : k ≠ 4) (hk0 : k ≠ 0) : f_X7_remember M k = M k := by
  by_cases c11 : (M 0 6) = 14
  · obtain ⟨M22, hM22⟩ : ∃ y : bM, y = (lp_X7_remember_11 5252 0 M) := ⟨_, rfl⟩
    obtain ⟨M23, hM23⟩ : ∃ y : bM, y = up2 M22 0 6 ((M22 0 6) - 1) := ⟨_, rfl⟩
    obtain ⟨M24, hM24⟩ : ∃ y : bM, y = f_X7_copyState M23 2 404 0 4 5656 ((404 : Int32) * (M23 0 6)) := ⟨_, rfl⟩
    obtain ⟨M25, hM25⟩ : ∃ y : bM, y = up2 M24 0 6 ((M24 0 6) + 1) := ⟨_, rfl⟩
    rw [p_X7_remember_e26 M c11 M22 hM22.symm M23 hM23.symm M24 hM24.symm M25 hM25.symm]
    try dsimp only
    rw [hM25, up2_row (by omega), hM24, fr_X7_copyState M23 2 404 0 4 5656 ((404 : Int32) * (M23 0 6)) k (by omega), hM23, up2_row (by omega), hM22, fr_lp_X7_remember_11 M k hk4 hk0 5252 0 M]
  · obtain ⟨M12, hM12⟩ : ∃ y : bM, y = f_X7_copyState M 2 404 0 4 5656 ((404 : Int32) * (M 0 6)) := ⟨_, rfl⟩
    obtain ⟨M13, hM13⟩ : ∃ y : bM, y = up2 M12 0 6 ((M12 0 6) + 1) := ⟨_, rfl⟩
    rw [p_X7_remember_e14 M c11 M12 hM12.symm M13 hM13.symm]
    try dsimp only
    rw [hM13, up2_row (by omega), hM12, fr_X7_copyState M 2 404 0 4 5656 ((404 : Int32) * (M 0 6)) k (by omega)]
set_option maxHeartbeats 4000000 in
set_option maxRecDepth 100000 in
theorem c_X7_remember (l : Launch) (D : va_G) (E : Nat → ClassId) (o : Nat) (M : bM) (ha : vp_in (M 0 6) 15) : Met l yX7_remember wsX7_remember (rmF 1) (bPc D E [.ref (o + 0)] (fun H => bk D E LRR o M H)) (bQ (aV fun H => ∃ M1 : bM, M1 = f_X7_remember M ∧ bk D E LRR o M1 H) (rB o)) 0 0 (rB o) := by
  refine Met.ofW (cc := cX7_remember) (maxL := 2) (ret := none) (by decide) rfl ?_
  intro p e s m args below meth c s₁ B hml hv
  obtain ⟨rfl, hB, hK⟩ := hv
  have hx := B.exec
  have hb := B.bytes
  have hr := B.returns
  have hts := atoms_spec (ws := wsX7_remember) B.pre
  have hown : s.vm.findClass RX7 = some m.cls := findClass_of_methodNamed B.named
  have hlocks := B.notSynchronized
  have hS : bS (rB o) s.heap s.heap [] := bS.rf
  have hl := lv_entry ([.ref (o + 0)]) (n := 2) (Nat.le_of_ble_eq_true rfl)
  rw [lg_entry_eq]
  generalize (lg_sl ([.ref (o + 0)]) ++ List.replicate (2 - (lg_sl ([.ref (o + 0)])).length) Slot.unset).toArray = ls at hl ⊢
  have hl : lv_has ls 2 [(0, .ref (o + 0))] := hl
  have hB : bk D E LRR o M s.heap := hB
  have hinX7 : ∀ w ∈ wsX70, w ∈ wsX7_remember := by decide +kernel
  refine lv_aload_n hx hb dX7_remember_0 rfl (lv_at hl 0 rfl) ?_
  refine b_get (D := D) (E := E) (L := LRR) (o := o) (M := M) (v := .int (M 0 6)) (C := RX7) (T := TX7) (N := 13) hx hb hts hinX7 hown hK.1 hB 0 lay_m0 rfl 6 (by decide) (hts (.fieldLink RX7 196 "RiverMeetingModel" "acts" "I") (List.mem_of_getElem? (i := 1) rfl)) (fun _ h9 => h9) rfl dX7_remember_1 ?_
  refine lv_bipush (v := 14) hx hb dX7_remember_4 (by decide) ?_
  refine lv_icmp_ne (tgt := 50) hx hb dX7_remember_6 (by decide) (fun c11 => ?_) (fun c11 => ?_)
  · refine lv_aload_n hx hb dX7_remember_50 rfl (lv_at hl 0 rfl) ?_
    refine b_get (D := D) (E := E) (L := LRR) (o := o) (M := M) (v := .ref (o + 2)) (C := RX7) (T := TX7) (N := 13) hx hb hts hinX7 hown hK.1 hB 0 lay_m0 rfl 3 (by decide) (hts (.fieldLink RX7 13 "RiverMeetingModel" "now" "[I") (List.mem_of_getElem? (i := 3) rfl)) (fun _ h9 => h9) rfl dX7_remember_51 ?_
    refine lv_iconst (v := 0) hx hb dX7_remember_54 (by decide) ?_
    refine lv_aload_n hx hb dX7_remember_55 rfl (lv_at hl 0 rfl) ?_
    refine b_get (D := D) (E := E) (L := LRR) (o := o) (M := M) (v := .ref (o + 4)) (C := RX7) (T := TX7) (N := 13) hx hb hts hinX7 hown hK.1 hB 0 lay_m0 rfl 5 (by decide) (hts (.fieldLink RX7 19 "RiverMeetingModel" "diary" "[I") (List.mem_of_getElem? (i := 2) rfl)) (fun _ h9 => h9) rfl dX7_remember_56 ?_
    refine lv_sipush (v := 404) hx hb dX7_remember_59 (by decide) ?_
    refine lv_aload_n hx hb dX7_remember_62 rfl (lv_at hl 0 rfl) ?_
    refine b_get (D := D) (E := E) (L := LRR) (o := o) (M := M) (v := .int (M 0 6)) (C := RX7) (T := TX7) (N := 13) hx hb hts hinX7 hown hK.1 hB 0 lay_m0 rfl 6 (by decide) (hts (.fieldLink RX7 196 "RiverMeetingModel" "acts" "I") (List.mem_of_getElem? (i := 1) rfl)) (fun _ h9 => h9) rfl dX7_remember_63 ?_
    refine lv_imul hx hb dX7_remember_66 ?_
    refine b_mV (b_runS (As := [.ref (o + 2), .int 0, .ref (o + 4), .int ((404 : Int32) * (M 0 6))]) (rest := []) ⟨hx, hb, hml, hown, hts⟩ (c_X7_copyState l D E o M 2 404 0 4 5656 ((404 : Int32) * (M 0 6)) lay_m2 lay_m4 cs_0 (acts_ok (acts_14 ha c11))) (va_cwS 4 hts gX7_remember_X7_copyState rfl rfl rfl (by decide +kernel) ⟨Nat.le_of_ble_eq_true rfl, Nat.le_of_ble_eq_true rfl⟩) hK hB rfl hl rfl (Nat.le_of_ble_eq_true rfl) dX7_remember_67 ⟨Nat.zero_le _, Nat.zero_le _⟩) hS (fun q h => h) (fun M12 hM12 H locs hB _ hS => ?_)
    refine lv_aload_n hx hb dX7_remember_70 rfl (lv_at hl 0 rfl) ?_
    refine lv_dup hx hb dX7_remember_71 rfl ?_
    refine b_get (D := D) (E := E) (L := LRR) (o := o) (M := M12) (v := .int (M12 0 6)) (C := RX7) (T := TX7) (N := 13) hx hb hts hinX7 hown hK.1 hB 0 lay_m0 rfl 6 (by decide) (hts (.fieldLink RX7 196 "RiverMeetingModel" "acts" "I") (List.mem_of_getElem? (i := 1) rfl)) (fun _ h9 => h9) rfl dX7_remember_72 ?_
    refine lv_iconst (v := 1) hx hb dX7_remember_75 (by decide) ?_
    refine lv_iadd hx hb dX7_remember_76 ?_
    refine b_put (D := D) (E := E) (L := LRR) (o := o) (M := M12) (v := ((M12 0 6) + 1)) (ty := .int) (C := RX7) (T := TX7) (N := 13) hx hb hts hinX7 tyX7 tyX7_ok nmX7 hown hK.1 hB hS 0 (rB_of lay_m0) lay_m0 rfl 6 (by decide) rfl (hts (.fieldLink RX7 196 "RiverMeetingModel" "acts" "I") (List.mem_of_getElem? (i := 1) rfl)) (fun _ h9 => h9) rfl (by decide +kernel) rfl rfl dX7_remember_77 (fun M13 hM13 H locs hB _ hS => ?_)
    have e14 := p_X7_remember_e14 M c11 M12 hM12.symm M13 hM13.symm
    exact b_vret hx hb hr hlocks hS ⟨rfl, _, e14.symm, hB⟩ dX7_remember_80
  · refine lv_iconst (v := 0) hx hb dX7_remember_9 (by decide) ?_
    refine lv_istore_n (lv' := [(1, .int 0), (0, .ref (o + 0))]) hx hb dX7_remember_10 rfl hl (by decide) rfl (fun ls hl => ?_)
    have lp15 : ∀ (n15 i15 : Nat) (M16 : bM), i15 + n15 = 5252 → ∀ (H : Heap) (locs : List Loc), bk D E LRR o M16 H → bS (rB o) s.heap H locs → ∀ ls : Array Slot, lv_has ls 2 [(1, .int (nI i15)), (0, .ref (o + 0))] → (∀ (H : Heap) (locs : List Loc), bk D E LRR o (lp_X7_remember_11 n15 i15 M16) H → bS (rB o) s.heap H locs → ∀ ls : Array Slot, lv_has ls 2 [(0, .ref (o + 0))] → W p l e (headSpec wsX7_remember (rmF 1)).room s m ([.ref (o + 0)] : List Value).toArray below meth c H locs 0 0 (MQ below (bQ (aV fun H => ∃ M1 : bM, M1 = f_X7_remember M ∧ bk D E LRR o M1 H) (rB o)) ([.ref (o + 0)] : List Value).toArray s 0 0 (rB o)) (F0 m 40 ls [])) → W p l e (headSpec wsX7_remember (rmF 1)).room s m ([.ref (o + 0)] : List Value).toArray below meth c H locs 0 0 (MQ below (bQ (aV fun H => ∃ M1 : bM, M1 = f_X7_remember M ∧ bk D E LRR o M1 H) (rB o)) ([.ref (o + 0)] : List Value).toArray s 0 0 (rB o)) (F0 m 11 ls []) := by
      intro n15
      induction n15 with
      | zero =>
        intro i15 M16 hi15 H locs hB hS ls hl hexit15
        have hz15 : i15 = 5252 := by omega
        refine lv_iload_n hx hb dX7_remember_11 rfl (lv_at hl 0 rfl) ?_
        refine lv_sipush (v := 5252) hx hb dX7_remember_12 (by decide) ?_
        refine lv_icmp_ge (tgt := 40) hx hb dX7_remember_15 (by decide) (fun c17 => ?_) (fun c17 => absurd (by rw [hz15]; exact Int32.le_refl _) c17)
        have e18 := p_X7_remember_e18 M M16 i15 
        rw [e18] at hexit15
        exact hexit15 _ _  hB hS ls (lv_sub hl [1] rfl)
      | succ n15 ih15 =>
        intro i15 M16 hi15 H locs hB hS ls hl hexit15
        refine lv_iload_n hx hb dX7_remember_11 rfl (lv_at hl 0 rfl) ?_
        refine lv_sipush (v := 5252) hx hb dX7_remember_12 (by decide) ?_
        refine lv_icmp_ge (tgt := 40) hx hb dX7_remember_15 (by decide) (fun c19 => absurd c19 (nI_ge (a := i15) (b := 5252) (by omega) (by decide))) (fun c19 => ?_)
        refine lv_aload_n hx hb dX7_remember_18 rfl (lv_at hl 1 rfl) ?_
        refine b_get (D := D) (E := E) (L := LRR) (o := o) (M := M16) (v := .ref (o + 4)) (C := RX7) (T := TX7) (N := 13) hx hb hts hinX7 hown hK.1 hB 0 lay_m0 rfl 5 (by decide) (hts (.fieldLink RX7 19 "RiverMeetingModel" "diary" "[I") (List.mem_of_getElem? (i := 2) rfl)) (fun _ h9 => h9) rfl dX7_remember_19 ?_
        refine lv_iload_n hx hb dX7_remember_22 rfl (lv_at hl 0 rfl) ?_
        refine lv_aload_n hx hb dX7_remember_23 rfl (lv_at hl 1 rfl) ?_
        refine b_get (D := D) (E := E) (L := LRR) (o := o) (M := M16) (v := .ref (o + 4)) (C := RX7) (T := TX7) (N := 13) hx hb hts hinX7 hown hK.1 hB 0 lay_m0 rfl 5 (by decide) (hts (.fieldLink RX7 19 "RiverMeetingModel" "diary" "[I") (List.mem_of_getElem? (i := 2) rfl)) (fun _ h9 => h9) rfl dX7_remember_24 ?_
        refine lv_iload_n hx hb dX7_remember_27 rfl (lv_at hl 0 rfl) ?_
        refine lv_sipush (v := 404) hx hb dX7_remember_28 (by decide) ?_
        refine lv_iadd hx hb dX7_remember_31 ?_
        refine b_iald hx hb hK.1 hB 4 lay_m4 (in_addR 404 (by omega) (by decide)) dX7_remember_32 ?_
        refine b_iast hx hb hK.1 hB hS 4 (rB_of lay_m4) lay_m4 (vp_in_nI (by omega) (by decide)) dX7_remember_33 (fun M20 hM20 H locs hB _ hS => ?_)
        rw [nI_clamp (n := i15) (by omega)] at hM20
        refine lv_iinc (v := nI (i15 + 1)) (lv' := [(1, .int (nI (i15 + 1))), (0, .ref (o + 0))]) hx hb dX7_remember_34 hl (k := 0) rfl (nI_1 i15) (by decide) rfl (fun ls hl => ?_)
        refine lv_goto (tgt := 11) hx hb dX7_remember_37 (by decide) ?_
        have e21 := p_X7_remember_e21 M M16 i15 n15 M20 hM20.symm
        rw [e21] at hexit15
        exact ih15 (i15 + 1) M20 (by omega) _ _ hB hS ls (lv_sub hl [0, 1] rfl) hexit15
    refine lp15 5252 0 M (by omega) _ _ hB hS ls (lv_sub hl [0, 1] rfl) ?_
    intro H locs hB hS ls hl
    obtain ⟨M22, hM22⟩ : ∃ y : bM, y = (lp_X7_remember_11 5252 0 M) := ⟨_, rfl⟩
    rw [← hM22] at hB
    have hl : lv_has ls 2 [(0, .ref (o + 0))] := hl
    refine lv_aload_n hx hb dX7_remember_40 rfl (lv_at hl 0 rfl) ?_
    refine lv_dup hx hb dX7_remember_41 rfl ?_
    refine b_get (D := D) (E := E) (L := LRR) (o := o) (M := M22) (v := .int (M22 0 6)) (C := RX7) (T := TX7) (N := 13) hx hb hts hinX7 hown hK.1 hB 0 lay_m0 rfl 6 (by decide) (hts (.fieldLink RX7 196 "RiverMeetingModel" "acts" "I") (List.mem_of_getElem? (i := 1) rfl)) (fun _ h9 => h9) rfl dX7_remember_42 ?_
    refine lv_iconst (v := 1) hx hb dX7_remember_45 (by decide) ?_
    refine lv_isub hx hb dX7_remember_46 ?_
    refine b_put (D := D) (E := E) (L := LRR) (o := o) (M := M22) (v := ((M22 0 6) - 1)) (ty := .int) (C := RX7) (T := TX7) (N := 13) hx hb hts hinX7 tyX7 tyX7_ok nmX7 hown hK.1 hB hS 0 (rB_of lay_m0) lay_m0 rfl 6 (by decide) rfl (hts (.fieldLink RX7 196 "RiverMeetingModel" "acts" "I") (List.mem_of_getElem? (i := 1) rfl)) (fun _ h9 => h9) rfl (by decide +kernel) rfl rfl dX7_remember_47 (fun M23 hM23 H locs hB _ hS => ?_)
    refine lv_aload_n hx hb dX7_remember_50 rfl (lv_at hl 0 rfl) ?_
    refine b_get (D := D) (E := E) (L := LRR) (o := o) (M := M23) (v := .ref (o + 2)) (C := RX7) (T := TX7) (N := 13) hx hb hts hinX7 hown hK.1 hB 0 lay_m0 rfl 3 (by decide) (hts (.fieldLink RX7 13 "RiverMeetingModel" "now" "[I") (List.mem_of_getElem? (i := 3) rfl)) (fun _ h9 => h9) rfl dX7_remember_51 ?_
    refine lv_iconst (v := 0) hx hb dX7_remember_54 (by decide) ?_
    refine lv_aload_n hx hb dX7_remember_55 rfl (lv_at hl 0 rfl) ?_
    refine b_get (D := D) (E := E) (L := LRR) (o := o) (M := M23) (v := .ref (o + 4)) (C := RX7) (T := TX7) (N := 13) hx hb hts hinX7 hown hK.1 hB 0 lay_m0 rfl 5 (by decide) (hts (.fieldLink RX7 19 "RiverMeetingModel" "diary" "[I") (List.mem_of_getElem? (i := 2) rfl)) (fun _ h9 => h9) rfl dX7_remember_56 ?_
    refine lv_sipush (v := 404) hx hb dX7_remember_59 (by decide) ?_
    refine lv_aload_n hx hb dX7_remember_62 rfl (lv_at hl 0 rfl) ?_
    refine b_get (D := D) (E := E) (L := LRR) (o := o) (M := M23) (v := .int (M23 0 6)) (C := RX7) (T := TX7) (N := 13) hx hb hts hinX7 hown hK.1 hB 0 lay_m0 rfl 6 (by decide) (hts (.fieldLink RX7 196 "RiverMeetingModel" "acts" "I") (List.mem_of_getElem? (i := 1) rfl)) (fun _ h9 => h9) rfl dX7_remember_63 ?_
    refine lv_imul hx hb dX7_remember_66 ?_
    refine b_mV (b_runS (As := [.ref (o + 2), .int 0, .ref (o + 4), .int ((404 : Int32) * (M23 0 6))]) (rest := []) ⟨hx, hb, hml, hown, hts⟩ (c_X7_copyState l D E o M23 2 404 0 4 5656 ((404 : Int32) * (M23 0 6)) lay_m2 lay_m4 cs_0 (acts_ok (by rw [hM23, up2_at, if_pos rfl, show M22 0 = M 0 by rw [hM22]; exact rem_row0 5252 0 M]; exact acts_13 c11))) (va_cwS 4 hts gX7_remember_X7_copyState rfl rfl rfl (by decide +kernel) ⟨Nat.le_of_ble_eq_true rfl, Nat.le_of_ble_eq_true rfl⟩) hK hB rfl hl rfl (Nat.le_of_ble_eq_true rfl) dX7_remember_67 ⟨Nat.zero_le _, Nat.zero_le _⟩) hS (fun q h => h) (fun M24 hM24 H locs hB _ hS => ?_)
    refine lv_aload_n hx hb dX7_remember_70 rfl (lv_at hl 0 rfl) ?_
    refine lv_dup hx hb dX7_remember_71 rfl ?_
    refine b_get (D := D) (E := E) (L := LRR) (o := o) (M := M24) (v := .int (M24 0 6)) (C := RX7) (T := TX7) (N := 13) hx hb hts hinX7 hown hK.1 hB 0 lay_m0 rfl 6 (by decide) (hts (.fieldLink RX7 196 "RiverMeetingModel" "acts" "I") (List.mem_of_getElem? (i := 1) rfl)) (fun _ h9 => h9) rfl dX7_remember_72 ?_
    refine lv_iconst (v := 1) hx hb dX7_remember_75 (by decide) ?_
    refine lv_iadd hx hb dX7_remember_76 ?_
    refine b_put (D := D) (E := E) (L := LRR) (o := o) (M := M24) (v := ((M24 0 6) + 1)) (ty := .int) (C := RX7) (T := TX7) (N := 13) hx hb hts hinX7 tyX7 tyX7_ok nmX7 hown hK.1 hB hS 0 (rB_of lay_m0) lay_m0 rfl 6 (by decide) rfl (hts (.fieldLink RX7 196 "RiverMeetingModel" "acts" "I") (List.mem_of_getElem? (i := 1) rfl)) (fun _ h9 => h9) rfl (by decide +kernel) rfl rfl dX7_remember_77 (fun M25 hM25 H locs hB _ hS => ?_)
    have e26 := p_X7_remember_e26 M c11 M22 hM22.symm M23 hM23.symm M24 hM24.symm M25 hM25.symm
    exact b_vret hx hb hr hlocks hS ⟨rfl, _, e26.symm, hB⟩ dX7_remember_80

def f_X7_game (M : bM) (x1 : Int64) : Int32 × bM := (let M11 : bM := up2 M 0 0 0; (let M12 : bM := f_X7_remember M11; (let r14 : Int32 := (f_X7_gameOn M12 2 x1).1; (let M13 : bM := (f_X7_gameOn M12 2 x1).2; (r14, M13)))))
theorem u_f_X7_game (M : bM) (x1 : Int64) : f_X7_game M x1 = (let M11 : bM := up2 M 0 0 0; (let M12 : bM := f_X7_remember M11; (let r14 : Int32 := (f_X7_gameOn M12 2 x1).1; (let M13 : bM := (f_X7_gameOn M12 2 x1).2; (r14, M13))))) := rfl
theorem p_X7_game_e15 (M : bM) (x1 : Int64) (M11 : bM) (hM11 : up2 M 0 0 0 = M11) (M12 : bM) (hM12 : f_X7_remember M11 = M12) (r14 : Int32) (hr14 : (f_X7_gameOn M12 2 x1).1 = r14) (M13 : bM) (hM13 : (f_X7_gameOn M12 2 x1).2 = M13) : f_X7_game M x1 = (r14, M13) := by subst hM13 hr14 hM12 hM11; exact u_f_X7_game M x1
theorem fr_X7_game (M : bM) (x1 : Int64) (k : Nat) (hk2 : k ≠ 2) (hk4 : k ≠ 4) (hk0 : k ≠ 0) : (f_X7_game M x1).2 k = M k := by
  obtain ⟨M11, hM11⟩ : ∃ y : bM, y = up2 M 0 0 0 := ⟨_, rfl⟩
  obtain ⟨M12, hM12⟩ : ∃ y : bM, y = f_X7_remember M11 := ⟨_, rfl⟩
  obtain ⟨r14, hr14⟩ : ∃ y : Int32, y = (f_X7_gameOn M12 2 x1).1 := ⟨_, rfl⟩
  obtain ⟨M13, hM13⟩ : ∃ y : bM, y = (f_X7_gameOn M12 2 x1).2 := ⟨_, rfl⟩
  rw [p_X7_game_e15 M x1 M11 hM11.symm M12 hM12.symm r14 hr14.symm M13 hM13.symm]
  try dsimp only
  rw [hM13, fr_X7_gameOn M12 2 x1 k (by omega), hM12, fr_X7_remember M11  k (by omega) (by omega), hM11, up2_row (by omega)]
set_option maxHeartbeats 4000000 in
set_option maxRecDepth 100000 in
theorem c_X7_game (l : Launch) (D : va_G) (E : Nat → ClassId) (o : Nat) (M : bM) (x1 : Int64) (ha : vp_in (M 0 6) 15) : Met l yX7_game wsX7_game (rmF 3) (bPc D E [.ref (o + 0), .long x1] (fun H => bk D E LRR o M H)) (bQ (aI fun r H => ∃ M1 : bM, (r = (f_X7_game M x1).1 ∧ M1 = (f_X7_game M x1).2) ∧ bk D E LRR o M1 H) (rB o)) 0 0 (rB o) := by
  refine Met.ofW (cc := cX7_game) (maxL := 3) (ret := (some .int)) (by decide) rfl ?_
  intro p e s m args below meth c s₁ B hml hv
  obtain ⟨rfl, hB, hK⟩ := hv
  have hx := B.exec
  have hb := B.bytes
  have hr := B.returns
  have hts := atoms_spec (ws := wsX7_game) B.pre
  have hown : s.vm.findClass RX7 = some m.cls := findClass_of_methodNamed B.named
  have hlocks := B.notSynchronized
  have hS : bS (rB o) s.heap s.heap [] := bS.rf
  have hl := lv_entry ([.ref (o + 0), .long x1]) (n := 3) (Nat.le_of_ble_eq_true rfl)
  rw [lg_entry_eq]
  generalize (lg_sl ([.ref (o + 0), .long x1]) ++ List.replicate (3 - (lg_sl ([.ref (o + 0), .long x1])).length) Slot.unset).toArray = ls at hl ⊢
  have hl : lv_has ls 3 [(0, .ref (o + 0)), (1, .long x1)] := hl
  have hB : bk D E LRR o M s.heap := hB
  have hinX7 : ∀ w ∈ wsX70, w ∈ wsX7_game := by decide +kernel
  refine lv_aload_n hx hb dX7_game_0 rfl (lv_at hl 0 rfl) ?_
  refine lv_iconst (v := 0) hx hb dX7_game_1 (by decide) ?_
  refine b_put (D := D) (E := E) (L := LRR) (o := o) (M := M) (v := 0) (ty := .int) (C := RX7) (T := TX7) (N := 13) hx hb hts hinX7 tyX7 tyX7_ok nmX7 hown hK.1 hB hS 0 (rB_of lay_m0) lay_m0 rfl 0 (by decide) rfl (hts (.fieldLink RX7 39 "RiverMeetingModel" "refusal" "I") (List.mem_of_getElem? (i := 1) rfl)) (fun _ h9 => h9) rfl (by decide +kernel) rfl rfl dX7_game_2 (fun M11 hM11 H locs hB _ hS => ?_)
  refine lv_aload_n hx hb dX7_game_5 rfl (lv_at hl 0 rfl) ?_
  refine b_mV (b_runV (As := []) (rest := []) ⟨hx, hb, hml, hown, hts⟩ (c_X7_remember l D E o M11 (by rw [hM11]; show vp_in (if 0 = 0 ∧ 6 = 0 then _ else M 0 6) 15; rw [if_neg (by decide)]; exact ha)) (cwV 0 hts gX7_game_X7_remember rfl rfl rfl (by decide +kernel) ⟨Nat.le_of_ble_eq_true rfl, Nat.le_of_ble_eq_true rfl⟩) hK (bk_recv hK.1 hB lay_m0 rfl) hB rfl hl rfl (Nat.le_of_ble_eq_true rfl) dX7_game_6 ⟨Nat.zero_le _, Nat.zero_le _⟩) hS (fun q h => h) (fun M12 hM12 H locs hB _ hS => ?_)
  refine lv_aload_n hx hb dX7_game_9 rfl (lv_at hl 0 rfl) ?_
  refine b_get (D := D) (E := E) (L := LRR) (o := o) (M := M12) (v := .ref (o + 2)) (C := RX7) (T := TX7) (N := 13) hx hb hts hinX7 hown hK.1 hB 0 lay_m0 rfl 3 (by decide) (hts (.fieldLink RX7 13 "RiverMeetingModel" "now" "[I") (List.mem_of_getElem? (i := 2) rfl)) (fun _ h9 => h9) rfl dX7_game_10 ?_
  refine lv_lload_n hx hb dX7_game_13 rfl (lv_at hl 1 rfl) ?_
  refine b_mI (b_runS (As := [.ref (o + 2), .long x1]) (rest := []) ⟨hx, hb, hml, hown, hts⟩ (c_X7_gameOn l D E o M12 2 x1 lay_m2) (va_cwS 2 hts gX7_game_X7_gameOn rfl rfl rfl (by decide +kernel) ⟨Nat.le_of_ble_eq_true rfl, Nat.le_of_ble_eq_true rfl⟩) hK hB rfl hl rfl (Nat.le_of_ble_eq_true rfl) dX7_game_14 ⟨Nat.zero_le _, Nat.zero_le _⟩) hS (fun q h => h) (fun r14 M13 hM13 H locs hB _ hS => ?_)
  obtain ⟨hr14, hM13⟩ := hM13
  have e15 := p_X7_game_e15 M x1 M11 hM11.symm M12 hM12.symm r14 hr14.symm M13 hM13.symm
  exact b_iret hx hb hr hlocks hS ⟨_, rfl, _, ⟨(congrArg Prod.fst e15).symm, (congrArg Prod.snd e15).symm⟩, hB⟩ dX7_game_17

def f_X7_step (M : bM) (x1 : Int32) : Int32 × bM := (let r11 : Int32 := f_X7_in x1.toInt64 0 2; (if r11 = 0 then (let r27 : Int32 := (f_X7_refused M 1).1; (let M26 : bM := (f_X7_refused M 1).2; (0, M26))) else (let r13 : Int32 := f_X7_isUnderWay M 2; (if r13 = 0 then (let r16 : Int32 := (f_X7_refused M 2).1; (let M15 : bM := (f_X7_refused M 2).2; (0, M15))) else (let r20 : Int32 := (f_X7_refused M 0).1; (let M19 : bM := (f_X7_refused M 0).2; (let M22 : bM := f_X7_remember M19; (let r24 : Int32 := (f_X7_stepOn M22 2 x1).1; (let M23 : bM := (f_X7_stepOn M22 2 x1).2; (r24, M23))))))))))
theorem u_f_X7_step (M : bM) (x1 : Int32) : f_X7_step M x1 = (let r11 : Int32 := f_X7_in x1.toInt64 0 2; (if r11 = 0 then (let r27 : Int32 := (f_X7_refused M 1).1; (let M26 : bM := (f_X7_refused M 1).2; (0, M26))) else (let r13 : Int32 := f_X7_isUnderWay M 2; (if r13 = 0 then (let r16 : Int32 := (f_X7_refused M 2).1; (let M15 : bM := (f_X7_refused M 2).2; (0, M15))) else (let r20 : Int32 := (f_X7_refused M 0).1; (let M19 : bM := (f_X7_refused M 0).2; (let M22 : bM := f_X7_remember M19; (let r24 : Int32 := (f_X7_stepOn M22 2 x1).1; (let M23 : bM := (f_X7_stepOn M22 2 x1).2; (r24, M23)))))))))) := rfl
theorem p_X7_step_e18 (M : bM) (x1 : Int32) (r11 : Int32) (hr11 : f_X7_in x1.toInt64 0 2 = r11) (c12 : ¬ r11 = 0) (r13 : Int32) (hr13 : f_X7_isUnderWay M 2 = r13) (c14 : r13 = 0) (r16 : Int32) (hr16 : (f_X7_refused M 2).1 = r16) (M15 : bM) (hM15 : (f_X7_refused M 2).2 = M15) : f_X7_step M x1 = (0, M15) := by subst hM15 hr16 hr13 hr11; exact Eq.trans (u_f_X7_step M x1) (Eq.trans (if_neg c12) (if_pos c14))
theorem p_X7_step_e25 (M : bM) (x1 : Int32) (r11 : Int32) (hr11 : f_X7_in x1.toInt64 0 2 = r11) (c12 : ¬ r11 = 0) (r13 : Int32) (hr13 : f_X7_isUnderWay M 2 = r13) (c14 : ¬ r13 = 0) (r20 : Int32) (hr20 : (f_X7_refused M 0).1 = r20) (M19 : bM) (hM19 : (f_X7_refused M 0).2 = M19) (M22 : bM) (hM22 : f_X7_remember M19 = M22) (r24 : Int32) (hr24 : (f_X7_stepOn M22 2 x1).1 = r24) (M23 : bM) (hM23 : (f_X7_stepOn M22 2 x1).2 = M23) : f_X7_step M x1 = (r24, M23) := by subst hM23 hr24 hM22 hM19 hr20 hr13 hr11; exact Eq.trans (u_f_X7_step M x1) (Eq.trans (if_neg c12) (if_neg c14))
theorem p_X7_step_e29 (M : bM) (x1 : Int32) (r11 : Int32) (hr11 : f_X7_in x1.toInt64 0 2 = r11) (c12 : r11 = 0) (r27 : Int32) (hr27 : (f_X7_refused M 1).1 = r27) (M26 : bM) (hM26 : (f_X7_refused M 1).2 = M26) : f_X7_step M x1 = (0, M26) := by subst hM26 hr27 hr11; exact Eq.trans (u_f_X7_step M x1) (if_pos c12)
theorem fr_X7_step (M : bM) (x1 : Int32) (k : Nat) (hk2 : k ≠ 2) (hk4 : k ≠ 4) (hk0 : k ≠ 0) : (f_X7_step M x1).2 k = M k := by
  obtain ⟨r11, hr11⟩ : ∃ y : Int32, y = f_X7_in x1.toInt64 0 2 := ⟨_, rfl⟩
  by_cases c12 : r11 = 0
  · obtain ⟨r27, hr27⟩ : ∃ y : Int32, y = (f_X7_refused M 1).1 := ⟨_, rfl⟩
    obtain ⟨M26, hM26⟩ : ∃ y : bM, y = (f_X7_refused M 1).2 := ⟨_, rfl⟩
    rw [p_X7_step_e29 M x1 r11 hr11.symm c12 r27 hr27.symm M26 hM26.symm]
    try dsimp only
    rw [hM26, fr_X7_refused M 1 k (by omega)]
  · obtain ⟨r13, hr13⟩ : ∃ y : Int32, y = f_X7_isUnderWay M 2 := ⟨_, rfl⟩
    by_cases c14 : r13 = 0
    · obtain ⟨r16, hr16⟩ : ∃ y : Int32, y = (f_X7_refused M 2).1 := ⟨_, rfl⟩
      obtain ⟨M15, hM15⟩ : ∃ y : bM, y = (f_X7_refused M 2).2 := ⟨_, rfl⟩
      rw [p_X7_step_e18 M x1 r11 hr11.symm c12 r13 hr13.symm c14 r16 hr16.symm M15 hM15.symm]
      try dsimp only
      rw [hM15, fr_X7_refused M 2 k (by omega)]
    · obtain ⟨r20, hr20⟩ : ∃ y : Int32, y = (f_X7_refused M 0).1 := ⟨_, rfl⟩
      obtain ⟨M19, hM19⟩ : ∃ y : bM, y = (f_X7_refused M 0).2 := ⟨_, rfl⟩
      obtain ⟨M22, hM22⟩ : ∃ y : bM, y = f_X7_remember M19 := ⟨_, rfl⟩
      obtain ⟨r24, hr24⟩ : ∃ y : Int32, y = (f_X7_stepOn M22 2 x1).1 := ⟨_, rfl⟩
      obtain ⟨M23, hM23⟩ : ∃ y : bM, y = (f_X7_stepOn M22 2 x1).2 := ⟨_, rfl⟩
      rw [p_X7_step_e25 M x1 r11 hr11.symm c12 r13 hr13.symm c14 r20 hr20.symm M19 hM19.symm M22 hM22.symm r24 hr24.symm M23 hM23.symm]
      try dsimp only
      rw [hM23, fr_X7_stepOn M22 2 x1 k (by omega), hM22, fr_X7_remember M19  k (by omega) (by omega), hM19, fr_X7_refused M 0 k (by omega)]
set_option maxHeartbeats 4000000 in
set_option maxRecDepth 100000 in
theorem c_X7_step (l : Launch) (D : va_G) (E : Nat → ClassId) (o : Nat) (M : bM) (x1 : Int32) (ha : vp_in (M 0 6) 15) (hg : gR (M 2)) : Met l yX7_step wsX7_step (rmF 5) (bPc D E [.ref (o + 0), .int x1] (fun H => bk D E LRR o M H)) (bQ (aI fun r H => ∃ M1 : bM, (r = (f_X7_step M x1).1 ∧ M1 = (f_X7_step M x1).2) ∧ bk D E LRR o M1 H) (rB o)) 0 0 (rB o) := by
  refine Met.ofW (cc := cX7_step) (maxL := 2) (ret := (some .int)) (by decide) rfl ?_
  intro p e s m args below meth c s₁ B hml hv
  obtain ⟨rfl, hB, hK⟩ := hv
  have hx := B.exec
  have hb := B.bytes
  have hr := B.returns
  have hts := atoms_spec (ws := wsX7_step) B.pre
  have hown : s.vm.findClass RX7 = some m.cls := findClass_of_methodNamed B.named
  have hlocks := B.notSynchronized
  have hS : bS (rB o) s.heap s.heap [] := bS.rf
  have hl := lv_entry ([.ref (o + 0), .int x1]) (n := 2) (Nat.le_of_ble_eq_true rfl)
  rw [lg_entry_eq]
  generalize (lg_sl ([.ref (o + 0), .int x1]) ++ List.replicate (2 - (lg_sl ([.ref (o + 0), .int x1])).length) Slot.unset).toArray = ls at hl ⊢
  have hl : lv_has ls 2 [(0, .ref (o + 0)), (1, .int x1)] := hl
  have hB : bk D E LRR o M s.heap := hB
  have hinX7 : ∀ w ∈ wsX70, w ∈ wsX7_step := by decide +kernel
  refine lv_aload_n hx hb dX7_step_0 rfl (lv_at hl 0 rfl) ?_
  refine lv_iload_n hx hb dX7_step_1 rfl (lv_at hl 1 rfl) ?_
  refine lv_i2l hx hb dX7_step_2 rfl ?_
  refine lv_lconst (v := 0) hx hb dX7_step_3 (by decide) ?_
  refine lv_ldc2 (v := 2) hx hb hown (hts (.constantLong RX7 208 (2)) (List.mem_of_getElem? (i := 1) rfl)) dX7_step_4 ?_
  refine b_pI (b_runS (As := [.long x1.toInt64, .long 0, .long 2]) (rest := [.ref (o + 0)]) ⟨hx, hb, hml, hown, hts⟩ (c_X7_in l D E x1.toInt64 0 2) (va_cwS 3 hts gX7_step_X7_in rfl rfl rfl (by decide +kernel) ⟨Nat.le_of_ble_eq_true rfl, Nat.le_of_ble_eq_true rfl⟩) hK trivial rfl hl rfl (Nat.le_of_ble_eq_true rfl) dX7_step_7 ⟨Nat.zero_le _, Nat.zero_le _⟩) hS (fun r11 hr11 locs hS => ?_)
  refine lv_if_ne (tgt := 17) hx hb dX7_step_10 (by decide) (fun c12 => ?_) (fun c12 => ?_)
  · refine lv_aload_n hx hb dX7_step_17 rfl (lv_at hl 0 rfl) ?_
    refine b_get (D := D) (E := E) (L := LRR) (o := o) (M := M) (v := .ref (o + 2)) (C := RX7) (T := TX7) (N := 13) hx hb hts hinX7 hown hK.1 hB 0 lay_m0 rfl 3 (by decide) (hts (.fieldLink RX7 13 "RiverMeetingModel" "now" "[I") (List.mem_of_getElem? (i := 2) rfl)) (fun _ h9 => h9) rfl dX7_step_18 ?_
    refine b_pI (b_runS (As := [.ref (o + 2)]) (rest := [.ref (o + 0)]) ⟨hx, hb, hml, hown, hts⟩ (c_X7_isUnderWay l D E o M 2 lay_m2) (va_cwS 1 hts gX7_step_X7_isUnderWay rfl rfl rfl (by decide +kernel) ⟨Nat.le_of_ble_eq_true rfl, Nat.le_of_ble_eq_true rfl⟩) hK hB rfl hl rfl (Nat.le_of_ble_eq_true rfl) dX7_step_21 ⟨Nat.zero_le _, Nat.zero_le _⟩) hS (fun r13 hr13 locs hS => ?_)
    refine lv_if_eq (tgt := 31) hx hb dX7_step_24 (by decide) (fun c14 => ?_) (fun c14 => ?_)
    · refine lv_iconst (v := 2) hx hb dX7_step_31 (by decide) ?_
      refine b_mI (b_runV (As := [.int 2]) (rest := []) ⟨hx, hb, hml, hown, hts⟩ (c_X7_refused l D E o M 2) (cwV 1 hts gX7_step_X7_refused rfl rfl rfl (by decide +kernel) ⟨Nat.le_of_ble_eq_true rfl, Nat.le_of_ble_eq_true rfl⟩) hK (bk_recv hK.1 hB lay_m0 rfl) hB rfl hl rfl (Nat.le_of_ble_eq_true rfl) dX7_step_32 ⟨Nat.zero_le _, Nat.zero_le _⟩) hS (fun q h => h) (fun r16 M15 hM15 H locs hB _ hS => ?_)
      obtain ⟨hr16, hM15⟩ := hM15
      have hkr16 : r16 = 1 := by rw [hr16]; rfl
      refine lv_const (y := 1) hkr16 ?_
      refine lv_if_eq (tgt := 40) hx hb dX7_step_35 (by decide) (fun c17 => absurd c17 (by decide)) (fun c17 => ?_)
      refine lv_iconst (v := 0) hx hb dX7_step_38 (by decide) ?_
      have e18 := p_X7_step_e18 M x1 r11 hr11.symm c12 r13 hr13.symm c14 r16 hr16.symm M15 hM15.symm
      exact b_iret hx hb hr hlocks hS ⟨_, rfl, _, ⟨(congrArg Prod.fst e18).symm, (congrArg Prod.snd e18).symm⟩, hB⟩ dX7_step_39
    · refine lv_iconst (v := 0) hx hb dX7_step_27 (by decide) ?_
      refine lv_goto (tgt := 32) hx hb dX7_step_28 (by decide) ?_
      refine b_mI (b_runV (As := [.int 0]) (rest := []) ⟨hx, hb, hml, hown, hts⟩ (c_X7_refused l D E o M 0) (cwV 1 hts gX7_step_X7_refused rfl rfl rfl (by decide +kernel) ⟨Nat.le_of_ble_eq_true rfl, Nat.le_of_ble_eq_true rfl⟩) hK (bk_recv hK.1 hB lay_m0 rfl) hB rfl hl rfl (Nat.le_of_ble_eq_true rfl) dX7_step_32 ⟨Nat.zero_le _, Nat.zero_le _⟩) hS (fun q h => h) (fun r20 M19 hM19 H locs hB _ hS => ?_)
      obtain ⟨hr20, hM19⟩ := hM19
      have hkr20 : r20 = 0 := by rw [hr20]; rfl
      refine lv_const (y := 0) hkr20 ?_
      refine lv_if_eq (tgt := 40) hx hb dX7_step_35 (by decide) (fun c21 => ?_) (fun c21 => absurd (by decide) c21)
      refine lv_aload_n hx hb dX7_step_40 rfl (lv_at hl 0 rfl) ?_
      refine b_mV (b_runV (As := []) (rest := []) ⟨hx, hb, hml, hown, hts⟩ (c_X7_remember l D E o M19 (by rw [hM19, rf_col (by decide)]; exact ha)) (cwV 0 hts gX7_step_X7_remember rfl rfl rfl (by decide +kernel) ⟨Nat.le_of_ble_eq_true rfl, Nat.le_of_ble_eq_true rfl⟩) hK (bk_recv hK.1 hB lay_m0 rfl) hB rfl hl rfl (Nat.le_of_ble_eq_true rfl) dX7_step_41 ⟨Nat.zero_le _, Nat.zero_le _⟩) hS (fun q h => h) (fun M22 hM22 H locs hB _ hS => ?_)
      refine lv_aload_n hx hb dX7_step_44 rfl (lv_at hl 0 rfl) ?_
      refine b_get (D := D) (E := E) (L := LRR) (o := o) (M := M22) (v := .ref (o + 2)) (C := RX7) (T := TX7) (N := 13) hx hb hts hinX7 hown hK.1 hB 0 lay_m0 rfl 3 (by decide) (hts (.fieldLink RX7 13 "RiverMeetingModel" "now" "[I") (List.mem_of_getElem? (i := 2) rfl)) (fun _ h9 => h9) rfl dX7_step_45 ?_
      refine lv_iload_n hx hb dX7_step_48 rfl (lv_at hl 1 rfl) ?_
      refine b_mI (b_runS (As := [.ref (o + 2), .int x1]) (rest := []) ⟨hx, hb, hml, hown, hts⟩ (c_X7_stepOn l D E o M22 2 x1 lay_m2 (gR_wf (gR_of (M := M19) (by rw [hM22]; exact fr_X7_remember M19  2 (by decide) (by decide)) (gR_of (M := M) (by rw [hM19]; exact fr_X7_refused M 0 2 (by decide)) hg))) (gR_room (gR_of (M := M19) (by rw [hM22]; exact fr_X7_remember M19  2 (by decide) (by decide)) (gR_of (M := M) (by rw [hM19]; exact fr_X7_refused M 0 2 (by decide)) hg)))) (va_cwS 2 hts gX7_step_X7_stepOn rfl rfl rfl (by decide +kernel) ⟨Nat.le_of_ble_eq_true rfl, Nat.le_of_ble_eq_true rfl⟩) hK hB rfl hl rfl (Nat.le_of_ble_eq_true rfl) dX7_step_49 ⟨Nat.zero_le _, Nat.zero_le _⟩) hS (fun q h => h) (fun r24 M23 hM23 H locs hB _ hS => ?_)
      obtain ⟨hr24, hM23⟩ := hM23
      have e25 := p_X7_step_e25 M x1 r11 hr11.symm c12 r13 hr13.symm c14 r20 hr20.symm M19 hM19.symm M22 hM22.symm r24 hr24.symm M23 hM23.symm
      exact b_iret hx hb hr hlocks hS ⟨_, rfl, _, ⟨(congrArg Prod.fst e25).symm, (congrArg Prod.snd e25).symm⟩, hB⟩ dX7_step_52
  · refine lv_iconst (v := 1) hx hb dX7_step_13 (by decide) ?_
    refine lv_goto (tgt := 32) hx hb dX7_step_14 (by decide) ?_
    refine b_mI (b_runV (As := [.int 1]) (rest := []) ⟨hx, hb, hml, hown, hts⟩ (c_X7_refused l D E o M 1) (cwV 1 hts gX7_step_X7_refused rfl rfl rfl (by decide +kernel) ⟨Nat.le_of_ble_eq_true rfl, Nat.le_of_ble_eq_true rfl⟩) hK (bk_recv hK.1 hB lay_m0 rfl) hB rfl hl rfl (Nat.le_of_ble_eq_true rfl) dX7_step_32 ⟨Nat.zero_le _, Nat.zero_le _⟩) hS (fun q h => h) (fun r27 M26 hM26 H locs hB _ hS => ?_)
    obtain ⟨hr27, hM26⟩ := hM26
    have hkr27 : r27 = 1 := by rw [hr27]; rfl
    refine lv_const (y := 1) hkr27 ?_
    refine lv_if_eq (tgt := 40) hx hb dX7_step_35 (by decide) (fun c28 => absurd c28 (by decide)) (fun c28 => ?_)
    refine lv_iconst (v := 0) hx hb dX7_step_38 (by decide) ?_
    have e29 := p_X7_step_e29 M x1 r11 hr11.symm c12 r27 hr27.symm M26 hM26.symm
    exact b_iret hx hb hr hlocks hS ⟨_, rfl, _, ⟨(congrArg Prod.fst e29).symm, (congrArg Prod.snd e29).symm⟩, hB⟩ dX7_step_39

def f_X7_dam (M : bM) (x1 : Int32) (x2 : Int32) : Int32 × bM := (let r11 : Int32 := f_X7_isCell x1 x2; (if r11 = 0 then (let r27 : Int32 := (f_X7_refused M 1).1; (let M26 : bM := (f_X7_refused M 1).2; (0, M26))) else (let r13 : Int32 := f_X7_isUnderWay M 2; (if r13 = 0 then (let r16 : Int32 := (f_X7_refused M 2).1; (let M15 : bM := (f_X7_refused M 2).2; (0, M15))) else (let r20 : Int32 := (f_X7_refused M 0).1; (let M19 : bM := (f_X7_refused M 0).2; (let M22 : bM := f_X7_remember M19; (let r24 : Int32 := (f_X7_damOn M22 2 (((8 : Int32) * x2) + x1)).1; (let M23 : bM := (f_X7_damOn M22 2 (((8 : Int32) * x2) + x1)).2; (r24, M23))))))))))
theorem u_f_X7_dam (M : bM) (x1 : Int32) (x2 : Int32) : f_X7_dam M x1 x2 = (let r11 : Int32 := f_X7_isCell x1 x2; (if r11 = 0 then (let r27 : Int32 := (f_X7_refused M 1).1; (let M26 : bM := (f_X7_refused M 1).2; (0, M26))) else (let r13 : Int32 := f_X7_isUnderWay M 2; (if r13 = 0 then (let r16 : Int32 := (f_X7_refused M 2).1; (let M15 : bM := (f_X7_refused M 2).2; (0, M15))) else (let r20 : Int32 := (f_X7_refused M 0).1; (let M19 : bM := (f_X7_refused M 0).2; (let M22 : bM := f_X7_remember M19; (let r24 : Int32 := (f_X7_damOn M22 2 (((8 : Int32) * x2) + x1)).1; (let M23 : bM := (f_X7_damOn M22 2 (((8 : Int32) * x2) + x1)).2; (r24, M23)))))))))) := rfl
theorem p_X7_dam_e18 (M : bM) (x1 : Int32) (x2 : Int32) (r11 : Int32) (hr11 : f_X7_isCell x1 x2 = r11) (c12 : ¬ r11 = 0) (r13 : Int32) (hr13 : f_X7_isUnderWay M 2 = r13) (c14 : r13 = 0) (r16 : Int32) (hr16 : (f_X7_refused M 2).1 = r16) (M15 : bM) (hM15 : (f_X7_refused M 2).2 = M15) : f_X7_dam M x1 x2 = (0, M15) := by subst hM15 hr16 hr13 hr11; exact Eq.trans (u_f_X7_dam M x1 x2) (Eq.trans (if_neg c12) (if_pos c14))
theorem p_X7_dam_e25 (M : bM) (x1 : Int32) (x2 : Int32) (r11 : Int32) (hr11 : f_X7_isCell x1 x2 = r11) (c12 : ¬ r11 = 0) (r13 : Int32) (hr13 : f_X7_isUnderWay M 2 = r13) (c14 : ¬ r13 = 0) (r20 : Int32) (hr20 : (f_X7_refused M 0).1 = r20) (M19 : bM) (hM19 : (f_X7_refused M 0).2 = M19) (M22 : bM) (hM22 : f_X7_remember M19 = M22) (r24 : Int32) (hr24 : (f_X7_damOn M22 2 (((8 : Int32) * x2) + x1)).1 = r24) (M23 : bM) (hM23 : (f_X7_damOn M22 2 (((8 : Int32) * x2) + x1)).2 = M23) : f_X7_dam M x1 x2 = (r24, M23) := by subst hM23 hr24 hM22 hM19 hr20 hr13 hr11; exact Eq.trans (u_f_X7_dam M x1 x2) (Eq.trans (if_neg c12) (if_neg c14))
theorem p_X7_dam_e29 (M : bM) (x1 : Int32) (x2 : Int32) (r11 : Int32) (hr11 : f_X7_isCell x1 x2 = r11) (c12 : r11 = 0) (r27 : Int32) (hr27 : (f_X7_refused M 1).1 = r27) (M26 : bM) (hM26 : (f_X7_refused M 1).2 = M26) : f_X7_dam M x1 x2 = (0, M26) := by subst hM26 hr27 hr11; exact Eq.trans (u_f_X7_dam M x1 x2) (if_pos c12)
theorem fr_X7_dam (M : bM) (x1 : Int32) (x2 : Int32) (k : Nat) (hk2 : k ≠ 2) (hk4 : k ≠ 4) (hk0 : k ≠ 0) (hf : k ≠ 7) : (f_X7_dam M x1 x2).2 k = M k := by
  obtain ⟨r11, hr11⟩ : ∃ y : Int32, y = f_X7_isCell x1 x2 := ⟨_, rfl⟩
  by_cases c12 : r11 = 0
  · obtain ⟨r27, hr27⟩ : ∃ y : Int32, y = (f_X7_refused M 1).1 := ⟨_, rfl⟩
    obtain ⟨M26, hM26⟩ : ∃ y : bM, y = (f_X7_refused M 1).2 := ⟨_, rfl⟩
    rw [p_X7_dam_e29 M x1 x2 r11 hr11.symm c12 r27 hr27.symm M26 hM26.symm]
    try dsimp only
    rw [hM26, fr_X7_refused M 1 k (by omega)]
  · obtain ⟨r13, hr13⟩ : ∃ y : Int32, y = f_X7_isUnderWay M 2 := ⟨_, rfl⟩
    by_cases c14 : r13 = 0
    · obtain ⟨r16, hr16⟩ : ∃ y : Int32, y = (f_X7_refused M 2).1 := ⟨_, rfl⟩
      obtain ⟨M15, hM15⟩ : ∃ y : bM, y = (f_X7_refused M 2).2 := ⟨_, rfl⟩
      rw [p_X7_dam_e18 M x1 x2 r11 hr11.symm c12 r13 hr13.symm c14 r16 hr16.symm M15 hM15.symm]
      try dsimp only
      rw [hM15, fr_X7_refused M 2 k (by omega)]
    · obtain ⟨r20, hr20⟩ : ∃ y : Int32, y = (f_X7_refused M 0).1 := ⟨_, rfl⟩
      obtain ⟨M19, hM19⟩ : ∃ y : bM, y = (f_X7_refused M 0).2 := ⟨_, rfl⟩
      obtain ⟨M22, hM22⟩ : ∃ y : bM, y = f_X7_remember M19 := ⟨_, rfl⟩
      obtain ⟨r24, hr24⟩ : ∃ y : Int32, y = (f_X7_damOn M22 2 (((8 : Int32) * x2) + x1)).1 := ⟨_, rfl⟩
      obtain ⟨M23, hM23⟩ : ∃ y : bM, y = (f_X7_damOn M22 2 (((8 : Int32) * x2) + x1)).2 := ⟨_, rfl⟩
      rw [p_X7_dam_e25 M x1 x2 r11 hr11.symm c12 r13 hr13.symm c14 r20 hr20.symm M19 hM19.symm M22 hM22.symm r24 hr24.symm M23 hM23.symm]
      try dsimp only
      rw [hM23, fr_X7_damOn M22 2 (((8 : Int32) * x2) + x1) k (by omega) (by omega), hM22, fr_X7_remember M19  k (by omega) (by omega), hM19, fr_X7_refused M 0 k (by omega)]
set_option maxHeartbeats 4000000 in
set_option maxRecDepth 100000 in
theorem c_X7_dam (l : Launch) (D : va_G) (E : Nat → ClassId) (o : Nat) (M : bM) (x1 : Int32) (x2 : Int32) (ha : vp_in (M 0 6) 15) (hg : gR (M 2)) : Met l yX7_dam wsX7_dam (rmF 6) (bPc D E [.ref (o + 0), .int x1, .int x2] (fun H => bk D E LRR o M H)) (bQ (aI fun r H => ∃ M1 : bM, (r = (f_X7_dam M x1 x2).1 ∧ M1 = (f_X7_dam M x1 x2).2) ∧ bk D E LRR o M1 H) (rB o)) 0 0 (rB o) := by
  refine Met.ofW (cc := cX7_dam) (maxL := 3) (ret := (some .int)) (by decide) rfl ?_
  intro p e s m args below meth c s₁ B hml hv
  obtain ⟨rfl, hB, hK⟩ := hv
  have hx := B.exec
  have hb := B.bytes
  have hr := B.returns
  have hts := atoms_spec (ws := wsX7_dam) B.pre
  have hown : s.vm.findClass RX7 = some m.cls := findClass_of_methodNamed B.named
  have hlocks := B.notSynchronized
  have hS : bS (rB o) s.heap s.heap [] := bS.rf
  have hl := lv_entry ([.ref (o + 0), .int x1, .int x2]) (n := 3) (Nat.le_of_ble_eq_true rfl)
  rw [lg_entry_eq]
  generalize (lg_sl ([.ref (o + 0), .int x1, .int x2]) ++ List.replicate (3 - (lg_sl ([.ref (o + 0), .int x1, .int x2])).length) Slot.unset).toArray = ls at hl ⊢
  have hl : lv_has ls 3 [(0, .ref (o + 0)), (1, .int x1), (2, .int x2)] := hl
  have hB : bk D E LRR o M s.heap := hB
  have hinX7 : ∀ w ∈ wsX70, w ∈ wsX7_dam := by decide +kernel
  refine lv_aload_n hx hb dX7_dam_0 rfl (lv_at hl 0 rfl) ?_
  refine lv_iload_n hx hb dX7_dam_1 rfl (lv_at hl 1 rfl) ?_
  refine lv_iload_n hx hb dX7_dam_2 rfl (lv_at hl 2 rfl) ?_
  refine b_pI (b_runS (As := [.int x1, .int x2]) (rest := [.ref (o + 0)]) ⟨hx, hb, hml, hown, hts⟩ (c_X7_isCell l D E x1 x2) (va_cwS 2 hts gX7_dam_X7_isCell rfl rfl rfl (by decide +kernel) ⟨Nat.le_of_ble_eq_true rfl, Nat.le_of_ble_eq_true rfl⟩) hK trivial rfl hl rfl (Nat.le_of_ble_eq_true rfl) dX7_dam_3 ⟨Nat.zero_le _, Nat.zero_le _⟩) hS (fun r11 hr11 locs hS => ?_)
  refine lv_if_ne (tgt := 13) hx hb dX7_dam_6 (by decide) (fun c12 => ?_) (fun c12 => ?_)
  · refine lv_aload_n hx hb dX7_dam_13 rfl (lv_at hl 0 rfl) ?_
    refine b_get (D := D) (E := E) (L := LRR) (o := o) (M := M) (v := .ref (o + 2)) (C := RX7) (T := TX7) (N := 13) hx hb hts hinX7 hown hK.1 hB 0 lay_m0 rfl 3 (by decide) (hts (.fieldLink RX7 13 "RiverMeetingModel" "now" "[I") (List.mem_of_getElem? (i := 1) rfl)) (fun _ h9 => h9) rfl dX7_dam_14 ?_
    refine b_pI (b_runS (As := [.ref (o + 2)]) (rest := [.ref (o + 0)]) ⟨hx, hb, hml, hown, hts⟩ (c_X7_isUnderWay l D E o M 2 lay_m2) (va_cwS 1 hts gX7_dam_X7_isUnderWay rfl rfl rfl (by decide +kernel) ⟨Nat.le_of_ble_eq_true rfl, Nat.le_of_ble_eq_true rfl⟩) hK hB rfl hl rfl (Nat.le_of_ble_eq_true rfl) dX7_dam_17 ⟨Nat.zero_le _, Nat.zero_le _⟩) hS (fun r13 hr13 locs hS => ?_)
    refine lv_if_eq (tgt := 27) hx hb dX7_dam_20 (by decide) (fun c14 => ?_) (fun c14 => ?_)
    · refine lv_iconst (v := 2) hx hb dX7_dam_27 (by decide) ?_
      refine b_mI (b_runV (As := [.int 2]) (rest := []) ⟨hx, hb, hml, hown, hts⟩ (c_X7_refused l D E o M 2) (cwV 1 hts gX7_dam_X7_refused rfl rfl rfl (by decide +kernel) ⟨Nat.le_of_ble_eq_true rfl, Nat.le_of_ble_eq_true rfl⟩) hK (bk_recv hK.1 hB lay_m0 rfl) hB rfl hl rfl (Nat.le_of_ble_eq_true rfl) dX7_dam_28 ⟨Nat.zero_le _, Nat.zero_le _⟩) hS (fun q h => h) (fun r16 M15 hM15 H locs hB _ hS => ?_)
      obtain ⟨hr16, hM15⟩ := hM15
      have hkr16 : r16 = 1 := by rw [hr16]; rfl
      refine lv_const (y := 1) hkr16 ?_
      refine lv_if_eq (tgt := 36) hx hb dX7_dam_31 (by decide) (fun c17 => absurd c17 (by decide)) (fun c17 => ?_)
      refine lv_iconst (v := 0) hx hb dX7_dam_34 (by decide) ?_
      have e18 := p_X7_dam_e18 M x1 x2 r11 hr11.symm c12 r13 hr13.symm c14 r16 hr16.symm M15 hM15.symm
      exact b_iret hx hb hr hlocks hS ⟨_, rfl, _, ⟨(congrArg Prod.fst e18).symm, (congrArg Prod.snd e18).symm⟩, hB⟩ dX7_dam_35
    · refine lv_iconst (v := 0) hx hb dX7_dam_23 (by decide) ?_
      refine lv_goto (tgt := 28) hx hb dX7_dam_24 (by decide) ?_
      refine b_mI (b_runV (As := [.int 0]) (rest := []) ⟨hx, hb, hml, hown, hts⟩ (c_X7_refused l D E o M 0) (cwV 1 hts gX7_dam_X7_refused rfl rfl rfl (by decide +kernel) ⟨Nat.le_of_ble_eq_true rfl, Nat.le_of_ble_eq_true rfl⟩) hK (bk_recv hK.1 hB lay_m0 rfl) hB rfl hl rfl (Nat.le_of_ble_eq_true rfl) dX7_dam_28 ⟨Nat.zero_le _, Nat.zero_le _⟩) hS (fun q h => h) (fun r20 M19 hM19 H locs hB _ hS => ?_)
      obtain ⟨hr20, hM19⟩ := hM19
      have hkr20 : r20 = 0 := by rw [hr20]; rfl
      refine lv_const (y := 0) hkr20 ?_
      refine lv_if_eq (tgt := 36) hx hb dX7_dam_31 (by decide) (fun c21 => ?_) (fun c21 => absurd (by decide) c21)
      refine lv_aload_n hx hb dX7_dam_36 rfl (lv_at hl 0 rfl) ?_
      refine b_mV (b_runV (As := []) (rest := []) ⟨hx, hb, hml, hown, hts⟩ (c_X7_remember l D E o M19 (by rw [hM19, rf_col (by decide)]; exact ha)) (cwV 0 hts gX7_dam_X7_remember rfl rfl rfl (by decide +kernel) ⟨Nat.le_of_ble_eq_true rfl, Nat.le_of_ble_eq_true rfl⟩) hK (bk_recv hK.1 hB lay_m0 rfl) hB rfl hl rfl (Nat.le_of_ble_eq_true rfl) dX7_dam_37 ⟨Nat.zero_le _, Nat.zero_le _⟩) hS (fun q h => h) (fun M22 hM22 H locs hB _ hS => ?_)
      refine lv_aload_n hx hb dX7_dam_40 rfl (lv_at hl 0 rfl) ?_
      refine lv_aload_n hx hb dX7_dam_41 rfl (lv_at hl 0 rfl) ?_
      refine b_get (D := D) (E := E) (L := LRR) (o := o) (M := M22) (v := .ref (o + 2)) (C := RX7) (T := TX7) (N := 13) hx hb hts hinX7 hown hK.1 hB 0 lay_m0 rfl 3 (by decide) (hts (.fieldLink RX7 13 "RiverMeetingModel" "now" "[I") (List.mem_of_getElem? (i := 1) rfl)) (fun _ h9 => h9) rfl dX7_dam_42 ?_
      refine lv_bipush (v := 8) hx hb dX7_dam_45 (by decide) ?_
      refine lv_iload_n hx hb dX7_dam_47 rfl (lv_at hl 2 rfl) ?_
      refine lv_imul hx hb dX7_dam_48 ?_
      refine lv_iload_n hx hb dX7_dam_49 rfl (lv_at hl 1 rfl) ?_
      refine lv_iadd hx hb dX7_dam_50 ?_
      refine b_mI (b_runV (As := [.ref (o + 2), .int (((8 : Int32) * x2) + x1)]) (rest := []) ⟨hx, hb, hml, hown, hts⟩ (c_X7_damOn l D E o M22 2 (((8 : Int32) * x2) + x1) lay_m2 (cell64 (isCell_in (hr11 ▸ c12)).1 (isCell_in (hr11 ▸ c12)).2) (gR_wf (gR_of (M := M19) (by rw [hM22]; exact fr_X7_remember M19  2 (by decide) (by decide)) (gR_of (M := M) (by rw [hM19]; exact fr_X7_refused M 0 2 (by decide)) hg))) (by decide) (gR_cell (gR_of (M := M19) (by rw [hM22]; exact fr_X7_remember M19  2 (by decide) (by decide)) (gR_of (M := M) (by rw [hM19]; exact fr_X7_refused M 0 2 (by decide)) hg)))) (cwV 2 hts gX7_dam_X7_damOn rfl rfl rfl (by decide +kernel) ⟨Nat.le_of_ble_eq_true rfl, Nat.le_of_ble_eq_true rfl⟩) hK (bk_recv hK.1 hB lay_m0 rfl) hB rfl hl rfl (Nat.le_of_ble_eq_true rfl) dX7_dam_51 ⟨Nat.zero_le _, Nat.zero_le _⟩) hS (fun q h => h) (fun r24 M23 hM23 H locs hB _ hS => ?_)
      obtain ⟨hr24, hM23⟩ := hM23
      have e25 := p_X7_dam_e25 M x1 x2 r11 hr11.symm c12 r13 hr13.symm c14 r20 hr20.symm M19 hM19.symm M22 hM22.symm r24 hr24.symm M23 hM23.symm
      exact b_iret hx hb hr hlocks hS ⟨_, rfl, _, ⟨(congrArg Prod.fst e25).symm, (congrArg Prod.snd e25).symm⟩, hB⟩ dX7_dam_54
  · refine lv_iconst (v := 1) hx hb dX7_dam_9 (by decide) ?_
    refine lv_goto (tgt := 28) hx hb dX7_dam_10 (by decide) ?_
    refine b_mI (b_runV (As := [.int 1]) (rest := []) ⟨hx, hb, hml, hown, hts⟩ (c_X7_refused l D E o M 1) (cwV 1 hts gX7_dam_X7_refused rfl rfl rfl (by decide +kernel) ⟨Nat.le_of_ble_eq_true rfl, Nat.le_of_ble_eq_true rfl⟩) hK (bk_recv hK.1 hB lay_m0 rfl) hB rfl hl rfl (Nat.le_of_ble_eq_true rfl) dX7_dam_28 ⟨Nat.zero_le _, Nat.zero_le _⟩) hS (fun q h => h) (fun r27 M26 hM26 H locs hB _ hS => ?_)
    obtain ⟨hr27, hM26⟩ := hM26
    have hkr27 : r27 = 1 := by rw [hr27]; rfl
    refine lv_const (y := 1) hkr27 ?_
    refine lv_if_eq (tgt := 36) hx hb dX7_dam_31 (by decide) (fun c28 => absurd c28 (by decide)) (fun c28 => ?_)
    refine lv_iconst (v := 0) hx hb dX7_dam_34 (by decide) ?_
    have e29 := p_X7_dam_e29 M x1 x2 r11 hr11.symm c12 r27 hr27.symm M26 hM26.symm
    exact b_iret hx hb hr hlocks hS ⟨_, rfl, _, ⟨(congrArg Prod.fst e29).symm, (congrArg Prod.snd e29).symm⟩, hB⟩ dX7_dam_35

def f_X7_flood (M : bM) : Int32 × bM := (let r11 : Int32 := f_X7_isUnderWay M 2; (if r11 = 0 then (let r14 : Int32 := (f_X7_refused M 1).1; (let M13 : bM := (f_X7_refused M 1).2; (0, M13))) else (let r17 : Int32 := f_X7_canStep M 2; (if r17 = 0 then (let r24 : Int32 := (f_X7_refused M 0).1; (let M23 : bM := (f_X7_refused M 0).2; (let M26 : bM := f_X7_remember M23; (let r28 : Int32 := (f_X7_floodOn M26 2).1; (let M27 : bM := (f_X7_floodOn M26 2).2; (r28, M27)))))) else (let r20 : Int32 := (f_X7_refused M 1).1; (let M19 : bM := (f_X7_refused M 1).2; (0, M19)))))))
theorem u_f_X7_flood (M : bM) : f_X7_flood M = (let r11 : Int32 := f_X7_isUnderWay M 2; (if r11 = 0 then (let r14 : Int32 := (f_X7_refused M 1).1; (let M13 : bM := (f_X7_refused M 1).2; (0, M13))) else (let r17 : Int32 := f_X7_canStep M 2; (if r17 = 0 then (let r24 : Int32 := (f_X7_refused M 0).1; (let M23 : bM := (f_X7_refused M 0).2; (let M26 : bM := f_X7_remember M23; (let r28 : Int32 := (f_X7_floodOn M26 2).1; (let M27 : bM := (f_X7_floodOn M26 2).2; (r28, M27)))))) else (let r20 : Int32 := (f_X7_refused M 1).1; (let M19 : bM := (f_X7_refused M 1).2; (0, M19))))))) := rfl
theorem p_X7_flood_e16 (M : bM) (r11 : Int32) (hr11 : f_X7_isUnderWay M 2 = r11) (c12 : r11 = 0) (r14 : Int32) (hr14 : (f_X7_refused M 1).1 = r14) (M13 : bM) (hM13 : (f_X7_refused M 1).2 = M13) : f_X7_flood M = (0, M13) := by subst hM13 hr14 hr11; exact Eq.trans (u_f_X7_flood M) (if_pos c12)
theorem p_X7_flood_e22 (M : bM) (r11 : Int32) (hr11 : f_X7_isUnderWay M 2 = r11) (c12 : ¬ r11 = 0) (r17 : Int32) (hr17 : f_X7_canStep M 2 = r17) (c18 : ¬ r17 = 0) (r20 : Int32) (hr20 : (f_X7_refused M 1).1 = r20) (M19 : bM) (hM19 : (f_X7_refused M 1).2 = M19) : f_X7_flood M = (0, M19) := by subst hM19 hr20 hr17 hr11; exact Eq.trans (u_f_X7_flood M) (Eq.trans (if_neg c12) (if_neg c18))
theorem p_X7_flood_e29 (M : bM) (r11 : Int32) (hr11 : f_X7_isUnderWay M 2 = r11) (c12 : ¬ r11 = 0) (r17 : Int32) (hr17 : f_X7_canStep M 2 = r17) (c18 : r17 = 0) (r24 : Int32) (hr24 : (f_X7_refused M 0).1 = r24) (M23 : bM) (hM23 : (f_X7_refused M 0).2 = M23) (M26 : bM) (hM26 : f_X7_remember M23 = M26) (r28 : Int32) (hr28 : (f_X7_floodOn M26 2).1 = r28) (M27 : bM) (hM27 : (f_X7_floodOn M26 2).2 = M27) : f_X7_flood M = (r28, M27) := by subst hM27 hr28 hM26 hM23 hr24 hr17 hr11; exact Eq.trans (u_f_X7_flood M) (Eq.trans (if_neg c12) (if_pos c18))
theorem fr_X7_flood (M : bM) (k : Nat) (hk2 : k ≠ 2) (hk4 : k ≠ 4) (hk0 : k ≠ 0) : (f_X7_flood M).2 k = M k := by
  obtain ⟨r11, hr11⟩ : ∃ y : Int32, y = f_X7_isUnderWay M 2 := ⟨_, rfl⟩
  by_cases c12 : r11 = 0
  · obtain ⟨r14, hr14⟩ : ∃ y : Int32, y = (f_X7_refused M 1).1 := ⟨_, rfl⟩
    obtain ⟨M13, hM13⟩ : ∃ y : bM, y = (f_X7_refused M 1).2 := ⟨_, rfl⟩
    rw [p_X7_flood_e16 M r11 hr11.symm c12 r14 hr14.symm M13 hM13.symm]
    try dsimp only
    rw [hM13, fr_X7_refused M 1 k (by omega)]
  · obtain ⟨r17, hr17⟩ : ∃ y : Int32, y = f_X7_canStep M 2 := ⟨_, rfl⟩
    by_cases c18 : r17 = 0
    · obtain ⟨r24, hr24⟩ : ∃ y : Int32, y = (f_X7_refused M 0).1 := ⟨_, rfl⟩
      obtain ⟨M23, hM23⟩ : ∃ y : bM, y = (f_X7_refused M 0).2 := ⟨_, rfl⟩
      obtain ⟨M26, hM26⟩ : ∃ y : bM, y = f_X7_remember M23 := ⟨_, rfl⟩
      obtain ⟨r28, hr28⟩ : ∃ y : Int32, y = (f_X7_floodOn M26 2).1 := ⟨_, rfl⟩
      obtain ⟨M27, hM27⟩ : ∃ y : bM, y = (f_X7_floodOn M26 2).2 := ⟨_, rfl⟩
      rw [p_X7_flood_e29 M r11 hr11.symm c12 r17 hr17.symm c18 r24 hr24.symm M23 hM23.symm M26 hM26.symm r28 hr28.symm M27 hM27.symm]
      try dsimp only
      rw [hM27, fr_X7_floodOn M26 2 k (by omega), hM26, fr_X7_remember M23  k (by omega) (by omega), hM23, fr_X7_refused M 0 k (by omega)]
    · obtain ⟨r20, hr20⟩ : ∃ y : Int32, y = (f_X7_refused M 1).1 := ⟨_, rfl⟩
      obtain ⟨M19, hM19⟩ : ∃ y : bM, y = (f_X7_refused M 1).2 := ⟨_, rfl⟩
      rw [p_X7_flood_e22 M r11 hr11.symm c12 r17 hr17.symm c18 r20 hr20.symm M19 hM19.symm]
      try dsimp only
      rw [hM19, fr_X7_refused M 1 k (by omega)]
set_option maxHeartbeats 4000000 in
set_option maxRecDepth 100000 in
theorem c_X7_flood (l : Launch) (D : va_G) (E : Nat → ClassId) (o : Nat) (M : bM) (ha : vp_in (M 0 6) 15) (hg : gR (M 2)) : Met l yX7_flood wsX7_flood (rmF 5) (bPc D E [.ref (o + 0)] (fun H => bk D E LRR o M H)) (bQ (aI fun r H => ∃ M1 : bM, (r = (f_X7_flood M).1 ∧ M1 = (f_X7_flood M).2) ∧ bk D E LRR o M1 H) (rB o)) 0 0 (rB o) := by
  refine Met.ofW (cc := cX7_flood) (maxL := 1) (ret := (some .int)) (by decide) rfl ?_
  intro p e s m args below meth c s₁ B hml hv
  obtain ⟨rfl, hB, hK⟩ := hv
  have hx := B.exec
  have hb := B.bytes
  have hr := B.returns
  have hts := atoms_spec (ws := wsX7_flood) B.pre
  have hown : s.vm.findClass RX7 = some m.cls := findClass_of_methodNamed B.named
  have hlocks := B.notSynchronized
  have hS : bS (rB o) s.heap s.heap [] := bS.rf
  have hl := lv_entry ([.ref (o + 0)]) (n := 1) (Nat.le_of_ble_eq_true rfl)
  rw [lg_entry_eq]
  generalize (lg_sl ([.ref (o + 0)]) ++ List.replicate (1 - (lg_sl ([.ref (o + 0)])).length) Slot.unset).toArray = ls at hl ⊢
  have hl : lv_has ls 1 [(0, .ref (o + 0))] := hl
  have hB : bk D E LRR o M s.heap := hB
  have hinX7 : ∀ w ∈ wsX70, w ∈ wsX7_flood := by decide +kernel
  refine lv_aload_n hx hb dX7_flood_0 rfl (lv_at hl 0 rfl) ?_
  refine lv_aload_n hx hb dX7_flood_1 rfl (lv_at hl 0 rfl) ?_
  refine b_get (D := D) (E := E) (L := LRR) (o := o) (M := M) (v := .ref (o + 2)) (C := RX7) (T := TX7) (N := 13) hx hb hts hinX7 hown hK.1 hB 0 lay_m0 rfl 3 (by decide) (hts (.fieldLink RX7 13 "RiverMeetingModel" "now" "[I") (List.mem_of_getElem? (i := 1) rfl)) (fun _ h9 => h9) rfl dX7_flood_2 ?_
  refine b_pI (b_runS (As := [.ref (o + 2)]) (rest := [.ref (o + 0)]) ⟨hx, hb, hml, hown, hts⟩ (c_X7_isUnderWay l D E o M 2 lay_m2) (va_cwS 1 hts gX7_flood_X7_isUnderWay rfl rfl rfl (by decide +kernel) ⟨Nat.le_of_ble_eq_true rfl, Nat.le_of_ble_eq_true rfl⟩) hK hB rfl hl rfl (Nat.le_of_ble_eq_true rfl) dX7_flood_5 ⟨Nat.zero_le _, Nat.zero_le _⟩) hS (fun r11 hr11 locs hS => ?_)
  refine lv_if_eq (tgt := 25) hx hb dX7_flood_8 (by decide) (fun c12 => ?_) (fun c12 => ?_)
  · refine lv_iconst (v := 1) hx hb dX7_flood_25 (by decide) ?_
    refine b_mI (b_runV (As := [.int 1]) (rest := []) ⟨hx, hb, hml, hown, hts⟩ (c_X7_refused l D E o M 1) (cwV 1 hts gX7_flood_X7_refused rfl rfl rfl (by decide +kernel) ⟨Nat.le_of_ble_eq_true rfl, Nat.le_of_ble_eq_true rfl⟩) hK (bk_recv hK.1 hB lay_m0 rfl) hB rfl hl rfl (Nat.le_of_ble_eq_true rfl) dX7_flood_26 ⟨Nat.zero_le _, Nat.zero_le _⟩) hS (fun q h => h) (fun r14 M13 hM13 H locs hB _ hS => ?_)
    obtain ⟨hr14, hM13⟩ := hM13
    have hkr14 : r14 = 1 := by rw [hr14]; rfl
    refine lv_const (y := 1) hkr14 ?_
    refine lv_if_eq (tgt := 34) hx hb dX7_flood_29 (by decide) (fun c15 => absurd c15 (by decide)) (fun c15 => ?_)
    refine lv_iconst (v := 0) hx hb dX7_flood_32 (by decide) ?_
    have e16 := p_X7_flood_e16 M r11 hr11.symm c12 r14 hr14.symm M13 hM13.symm
    exact b_iret hx hb hr hlocks hS ⟨_, rfl, _, ⟨(congrArg Prod.fst e16).symm, (congrArg Prod.snd e16).symm⟩, hB⟩ dX7_flood_33
  · refine lv_aload_n hx hb dX7_flood_11 rfl (lv_at hl 0 rfl) ?_
    refine b_get (D := D) (E := E) (L := LRR) (o := o) (M := M) (v := .ref (o + 2)) (C := RX7) (T := TX7) (N := 13) hx hb hts hinX7 hown hK.1 hB 0 lay_m0 rfl 3 (by decide) (hts (.fieldLink RX7 13 "RiverMeetingModel" "now" "[I") (List.mem_of_getElem? (i := 1) rfl)) (fun _ h9 => h9) rfl dX7_flood_12 ?_
    refine b_pI (b_runS (As := [.ref (o + 2)]) (rest := [.ref (o + 0)]) ⟨hx, hb, hml, hown, hts⟩ (c_X7_canStep l D E o M 2 lay_m2 (gR_wf hg)) (va_cwS 1 hts gX7_flood_X7_canStep rfl rfl rfl (by decide +kernel) ⟨Nat.le_of_ble_eq_true rfl, Nat.le_of_ble_eq_true rfl⟩) hK hB rfl hl rfl (Nat.le_of_ble_eq_true rfl) dX7_flood_15 ⟨Nat.zero_le _, Nat.zero_le _⟩) hS (fun r17 hr17 locs hS => ?_)
    refine lv_if_ne (tgt := 25) hx hb dX7_flood_18 (by decide) (fun c18 => ?_) (fun c18 => ?_)
    · refine lv_iconst (v := 1) hx hb dX7_flood_25 (by decide) ?_
      refine b_mI (b_runV (As := [.int 1]) (rest := []) ⟨hx, hb, hml, hown, hts⟩ (c_X7_refused l D E o M 1) (cwV 1 hts gX7_flood_X7_refused rfl rfl rfl (by decide +kernel) ⟨Nat.le_of_ble_eq_true rfl, Nat.le_of_ble_eq_true rfl⟩) hK (bk_recv hK.1 hB lay_m0 rfl) hB rfl hl rfl (Nat.le_of_ble_eq_true rfl) dX7_flood_26 ⟨Nat.zero_le _, Nat.zero_le _⟩) hS (fun q h => h) (fun r20 M19 hM19 H locs hB _ hS => ?_)
      obtain ⟨hr20, hM19⟩ := hM19
      have hkr20 : r20 = 1 := by rw [hr20]; rfl
      refine lv_const (y := 1) hkr20 ?_
      refine lv_if_eq (tgt := 34) hx hb dX7_flood_29 (by decide) (fun c21 => absurd c21 (by decide)) (fun c21 => ?_)
      refine lv_iconst (v := 0) hx hb dX7_flood_32 (by decide) ?_
      have e22 := p_X7_flood_e22 M r11 hr11.symm c12 r17 hr17.symm c18 r20 hr20.symm M19 hM19.symm
      exact b_iret hx hb hr hlocks hS ⟨_, rfl, _, ⟨(congrArg Prod.fst e22).symm, (congrArg Prod.snd e22).symm⟩, hB⟩ dX7_flood_33
    · refine lv_iconst (v := 0) hx hb dX7_flood_21 (by decide) ?_
      refine lv_goto (tgt := 26) hx hb dX7_flood_22 (by decide) ?_
      refine b_mI (b_runV (As := [.int 0]) (rest := []) ⟨hx, hb, hml, hown, hts⟩ (c_X7_refused l D E o M 0) (cwV 1 hts gX7_flood_X7_refused rfl rfl rfl (by decide +kernel) ⟨Nat.le_of_ble_eq_true rfl, Nat.le_of_ble_eq_true rfl⟩) hK (bk_recv hK.1 hB lay_m0 rfl) hB rfl hl rfl (Nat.le_of_ble_eq_true rfl) dX7_flood_26 ⟨Nat.zero_le _, Nat.zero_le _⟩) hS (fun q h => h) (fun r24 M23 hM23 H locs hB _ hS => ?_)
      obtain ⟨hr24, hM23⟩ := hM23
      have hkr24 : r24 = 0 := by rw [hr24]; rfl
      refine lv_const (y := 0) hkr24 ?_
      refine lv_if_eq (tgt := 34) hx hb dX7_flood_29 (by decide) (fun c25 => ?_) (fun c25 => absurd (by decide) c25)
      refine lv_aload_n hx hb dX7_flood_34 rfl (lv_at hl 0 rfl) ?_
      refine b_mV (b_runV (As := []) (rest := []) ⟨hx, hb, hml, hown, hts⟩ (c_X7_remember l D E o M23 (by rw [hM23, rf_col (by decide)]; exact ha)) (cwV 0 hts gX7_flood_X7_remember rfl rfl rfl (by decide +kernel) ⟨Nat.le_of_ble_eq_true rfl, Nat.le_of_ble_eq_true rfl⟩) hK (bk_recv hK.1 hB lay_m0 rfl) hB rfl hl rfl (Nat.le_of_ble_eq_true rfl) dX7_flood_35 ⟨Nat.zero_le _, Nat.zero_le _⟩) hS (fun q h => h) (fun M26 hM26 H locs hB _ hS => ?_)
      refine lv_aload_n hx hb dX7_flood_38 rfl (lv_at hl 0 rfl) ?_
      refine b_get (D := D) (E := E) (L := LRR) (o := o) (M := M26) (v := .ref (o + 2)) (C := RX7) (T := TX7) (N := 13) hx hb hts hinX7 hown hK.1 hB 0 lay_m0 rfl 3 (by decide) (hts (.fieldLink RX7 13 "RiverMeetingModel" "now" "[I") (List.mem_of_getElem? (i := 1) rfl)) (fun _ h9 => h9) rfl dX7_flood_39 ?_
      refine b_mI (b_runS (As := [.ref (o + 2)]) (rest := []) ⟨hx, hb, hml, hown, hts⟩ (c_X7_floodOn l D E o M26 2 lay_m2 (gR_wf (gR_of (M := M23) (by rw [hM26]; exact fr_X7_remember M23  2 (by decide) (by decide)) (gR_of (M := M) (by rw [hM23]; exact fr_X7_refused M 0 2 (by decide)) hg)))) (va_cwS 1 hts gX7_flood_X7_floodOn rfl rfl rfl (by decide +kernel) ⟨Nat.le_of_ble_eq_true rfl, Nat.le_of_ble_eq_true rfl⟩) hK hB rfl hl rfl (Nat.le_of_ble_eq_true rfl) dX7_flood_42 ⟨Nat.zero_le _, Nat.zero_le _⟩) hS (fun q h => h) (fun r28 M27 hM27 H locs hB _ hS => ?_)
      obtain ⟨hr28, hM27⟩ := hM27
      have e29 := p_X7_flood_e29 M r11 hr11.symm c12 r17 hr17.symm c18 r24 hr24.symm M23 hM23.symm M26 hM26.symm r28 hr28.symm M27 hM27.symm
      exact b_iret hx hb hr hlocks hS ⟨_, rfl, _, ⟨(congrArg Prod.fst e29).symm, (congrArg Prod.snd e29).symm⟩, hB⟩ dX7_flood_45

def f_X7_set (M : bM) (x1 : Int32) (x2 : Int32) : Int32 × bM := (let r11 : Int32 := f_X7_isSetting x1 x2; (if r11 = 0 then (let r14 : Int32 := (f_X7_refused M 1).1; (let M13 : bM := (f_X7_refused M 1).2; (0, M13))) else (let r18 : Int32 := (f_X7_refused M 0).1; (let M17 : bM := (f_X7_refused M 0).2; (let M20 : bM := f_X7_remember M17; (let r22 : Int32 := (f_X7_change M20 2 x1 x2).1; (let M21 : bM := (f_X7_change M20 2 x1 x2).2; (r22, M21))))))))
theorem u_f_X7_set (M : bM) (x1 : Int32) (x2 : Int32) : f_X7_set M x1 x2 = (let r11 : Int32 := f_X7_isSetting x1 x2; (if r11 = 0 then (let r14 : Int32 := (f_X7_refused M 1).1; (let M13 : bM := (f_X7_refused M 1).2; (0, M13))) else (let r18 : Int32 := (f_X7_refused M 0).1; (let M17 : bM := (f_X7_refused M 0).2; (let M20 : bM := f_X7_remember M17; (let r22 : Int32 := (f_X7_change M20 2 x1 x2).1; (let M21 : bM := (f_X7_change M20 2 x1 x2).2; (r22, M21)))))))) := rfl
theorem p_X7_set_e16 (M : bM) (x1 : Int32) (x2 : Int32) (r11 : Int32) (hr11 : f_X7_isSetting x1 x2 = r11) (c12 : r11 = 0) (r14 : Int32) (hr14 : (f_X7_refused M 1).1 = r14) (M13 : bM) (hM13 : (f_X7_refused M 1).2 = M13) : f_X7_set M x1 x2 = (0, M13) := by subst hM13 hr14 hr11; exact Eq.trans (u_f_X7_set M x1 x2) (if_pos c12)
theorem p_X7_set_e23 (M : bM) (x1 : Int32) (x2 : Int32) (r11 : Int32) (hr11 : f_X7_isSetting x1 x2 = r11) (c12 : ¬ r11 = 0) (r18 : Int32) (hr18 : (f_X7_refused M 0).1 = r18) (M17 : bM) (hM17 : (f_X7_refused M 0).2 = M17) (M20 : bM) (hM20 : f_X7_remember M17 = M20) (r22 : Int32) (hr22 : (f_X7_change M20 2 x1 x2).1 = r22) (M21 : bM) (hM21 : (f_X7_change M20 2 x1 x2).2 = M21) : f_X7_set M x1 x2 = (r22, M21) := by subst hM21 hr22 hM20 hM17 hr18 hr11; exact Eq.trans (u_f_X7_set M x1 x2) (if_neg c12)
theorem fr_X7_set (M : bM) (x1 : Int32) (x2 : Int32) (k : Nat) (hk2 : k ≠ 2) (hk4 : k ≠ 4) (hk0 : k ≠ 0) : (f_X7_set M x1 x2).2 k = M k := by
  obtain ⟨r11, hr11⟩ : ∃ y : Int32, y = f_X7_isSetting x1 x2 := ⟨_, rfl⟩
  by_cases c12 : r11 = 0
  · obtain ⟨r14, hr14⟩ : ∃ y : Int32, y = (f_X7_refused M 1).1 := ⟨_, rfl⟩
    obtain ⟨M13, hM13⟩ : ∃ y : bM, y = (f_X7_refused M 1).2 := ⟨_, rfl⟩
    rw [p_X7_set_e16 M x1 x2 r11 hr11.symm c12 r14 hr14.symm M13 hM13.symm]
    try dsimp only
    rw [hM13, fr_X7_refused M 1 k (by omega)]
  · obtain ⟨r18, hr18⟩ : ∃ y : Int32, y = (f_X7_refused M 0).1 := ⟨_, rfl⟩
    obtain ⟨M17, hM17⟩ : ∃ y : bM, y = (f_X7_refused M 0).2 := ⟨_, rfl⟩
    obtain ⟨M20, hM20⟩ : ∃ y : bM, y = f_X7_remember M17 := ⟨_, rfl⟩
    obtain ⟨r22, hr22⟩ : ∃ y : Int32, y = (f_X7_change M20 2 x1 x2).1 := ⟨_, rfl⟩
    obtain ⟨M21, hM21⟩ : ∃ y : bM, y = (f_X7_change M20 2 x1 x2).2 := ⟨_, rfl⟩
    rw [p_X7_set_e23 M x1 x2 r11 hr11.symm c12 r18 hr18.symm M17 hM17.symm M20 hM20.symm r22 hr22.symm M21 hM21.symm]
    try dsimp only
    rw [hM21, fr_X7_change M20 2 x1 x2 k (by omega), hM20, fr_X7_remember M17  k (by omega) (by omega), hM17, fr_X7_refused M 0 k (by omega)]
set_option maxHeartbeats 4000000 in
set_option maxRecDepth 100000 in
theorem c_X7_set (l : Launch) (D : va_G) (E : Nat → ClassId) (o : Nat) (M : bM) (x1 : Int32) (x2 : Int32) (ha : vp_in (M 0 6) 15) : Met l yX7_set wsX7_set (rmF 2) (bPc D E [.ref (o + 0), .int x1, .int x2] (fun H => bk D E LRR o M H)) (bQ (aI fun r H => ∃ M1 : bM, (r = (f_X7_set M x1 x2).1 ∧ M1 = (f_X7_set M x1 x2).2) ∧ bk D E LRR o M1 H) (rB o)) 0 0 (rB o) := by
  refine Met.ofW (cc := cX7_set) (maxL := 3) (ret := (some .int)) (by decide) rfl ?_
  intro p e s m args below meth c s₁ B hml hv
  obtain ⟨rfl, hB, hK⟩ := hv
  have hx := B.exec
  have hb := B.bytes
  have hr := B.returns
  have hts := atoms_spec (ws := wsX7_set) B.pre
  have hown : s.vm.findClass RX7 = some m.cls := findClass_of_methodNamed B.named
  have hlocks := B.notSynchronized
  have hS : bS (rB o) s.heap s.heap [] := bS.rf
  have hl := lv_entry ([.ref (o + 0), .int x1, .int x2]) (n := 3) (Nat.le_of_ble_eq_true rfl)
  rw [lg_entry_eq]
  generalize (lg_sl ([.ref (o + 0), .int x1, .int x2]) ++ List.replicate (3 - (lg_sl ([.ref (o + 0), .int x1, .int x2])).length) Slot.unset).toArray = ls at hl ⊢
  have hl : lv_has ls 3 [(0, .ref (o + 0)), (1, .int x1), (2, .int x2)] := hl
  have hB : bk D E LRR o M s.heap := hB
  have hinX7 : ∀ w ∈ wsX70, w ∈ wsX7_set := by decide +kernel
  refine lv_aload_n hx hb dX7_set_0 rfl (lv_at hl 0 rfl) ?_
  refine lv_iload_n hx hb dX7_set_1 rfl (lv_at hl 1 rfl) ?_
  refine lv_iload_n hx hb dX7_set_2 rfl (lv_at hl 2 rfl) ?_
  refine b_pI (b_runS (As := [.int x1, .int x2]) (rest := [.ref (o + 0)]) ⟨hx, hb, hml, hown, hts⟩ (c_X7_isSetting l D E x1 x2) (va_cwS 2 hts gX7_set_X7_isSetting rfl rfl rfl (by decide +kernel) ⟨Nat.le_of_ble_eq_true rfl, Nat.le_of_ble_eq_true rfl⟩) hK trivial rfl hl rfl (Nat.le_of_ble_eq_true rfl) dX7_set_3 ⟨Nat.zero_le _, Nat.zero_le _⟩) hS (fun r11 hr11 locs hS => ?_)
  refine lv_if_eq (tgt := 13) hx hb dX7_set_6 (by decide) (fun c12 => ?_) (fun c12 => ?_)
  · refine lv_iconst (v := 1) hx hb dX7_set_13 (by decide) ?_
    refine b_mI (b_runV (As := [.int 1]) (rest := []) ⟨hx, hb, hml, hown, hts⟩ (c_X7_refused l D E o M 1) (cwV 1 hts gX7_set_X7_refused rfl rfl rfl (by decide +kernel) ⟨Nat.le_of_ble_eq_true rfl, Nat.le_of_ble_eq_true rfl⟩) hK (bk_recv hK.1 hB lay_m0 rfl) hB rfl hl rfl (Nat.le_of_ble_eq_true rfl) dX7_set_14 ⟨Nat.zero_le _, Nat.zero_le _⟩) hS (fun q h => h) (fun r14 M13 hM13 H locs hB _ hS => ?_)
    obtain ⟨hr14, hM13⟩ := hM13
    have hkr14 : r14 = 1 := by rw [hr14]; rfl
    refine lv_const (y := 1) hkr14 ?_
    refine lv_if_eq (tgt := 22) hx hb dX7_set_17 (by decide) (fun c15 => absurd c15 (by decide)) (fun c15 => ?_)
    refine lv_iconst (v := 0) hx hb dX7_set_20 (by decide) ?_
    have e16 := p_X7_set_e16 M x1 x2 r11 hr11.symm c12 r14 hr14.symm M13 hM13.symm
    exact b_iret hx hb hr hlocks hS ⟨_, rfl, _, ⟨(congrArg Prod.fst e16).symm, (congrArg Prod.snd e16).symm⟩, hB⟩ dX7_set_21
  · refine lv_iconst (v := 0) hx hb dX7_set_9 (by decide) ?_
    refine lv_goto (tgt := 14) hx hb dX7_set_10 (by decide) ?_
    refine b_mI (b_runV (As := [.int 0]) (rest := []) ⟨hx, hb, hml, hown, hts⟩ (c_X7_refused l D E o M 0) (cwV 1 hts gX7_set_X7_refused rfl rfl rfl (by decide +kernel) ⟨Nat.le_of_ble_eq_true rfl, Nat.le_of_ble_eq_true rfl⟩) hK (bk_recv hK.1 hB lay_m0 rfl) hB rfl hl rfl (Nat.le_of_ble_eq_true rfl) dX7_set_14 ⟨Nat.zero_le _, Nat.zero_le _⟩) hS (fun q h => h) (fun r18 M17 hM17 H locs hB _ hS => ?_)
    obtain ⟨hr18, hM17⟩ := hM17
    have hkr18 : r18 = 0 := by rw [hr18]; rfl
    refine lv_const (y := 0) hkr18 ?_
    refine lv_if_eq (tgt := 22) hx hb dX7_set_17 (by decide) (fun c19 => ?_) (fun c19 => absurd (by decide) c19)
    refine lv_aload_n hx hb dX7_set_22 rfl (lv_at hl 0 rfl) ?_
    refine b_mV (b_runV (As := []) (rest := []) ⟨hx, hb, hml, hown, hts⟩ (c_X7_remember l D E o M17 (by rw [hM17, rf_col (by decide)]; exact ha)) (cwV 0 hts gX7_set_X7_remember rfl rfl rfl (by decide +kernel) ⟨Nat.le_of_ble_eq_true rfl, Nat.le_of_ble_eq_true rfl⟩) hK (bk_recv hK.1 hB lay_m0 rfl) hB rfl hl rfl (Nat.le_of_ble_eq_true rfl) dX7_set_23 ⟨Nat.zero_le _, Nat.zero_le _⟩) hS (fun q h => h) (fun M20 hM20 H locs hB _ hS => ?_)
    refine lv_aload_n hx hb dX7_set_26 rfl (lv_at hl 0 rfl) ?_
    refine b_get (D := D) (E := E) (L := LRR) (o := o) (M := M20) (v := .ref (o + 2)) (C := RX7) (T := TX7) (N := 13) hx hb hts hinX7 hown hK.1 hB 0 lay_m0 rfl 3 (by decide) (hts (.fieldLink RX7 13 "RiverMeetingModel" "now" "[I") (List.mem_of_getElem? (i := 1) rfl)) (fun _ h9 => h9) rfl dX7_set_27 ?_
    refine lv_iload_n hx hb dX7_set_30 rfl (lv_at hl 1 rfl) ?_
    refine lv_iload_n hx hb dX7_set_31 rfl (lv_at hl 2 rfl) ?_
    refine b_mI (b_runS (As := [.ref (o + 2), .int x1, .int x2]) (rest := []) ⟨hx, hb, hml, hown, hts⟩ (c_X7_change l D E o M20 2 x1 x2 lay_m2 (isSet_pb (by rw [← hr11]; exact c12))) (va_cwS 3 hts gX7_set_X7_change rfl rfl rfl (by decide +kernel) ⟨Nat.le_of_ble_eq_true rfl, Nat.le_of_ble_eq_true rfl⟩) hK hB rfl hl rfl (Nat.le_of_ble_eq_true rfl) dX7_set_32 ⟨Nat.zero_le _, Nat.zero_le _⟩) hS (fun q h => h) (fun r22 M21 hM21 H locs hB _ hS => ?_)
    obtain ⟨hr22, hM21⟩ := hM21
    have e23 := p_X7_set_e23 M x1 x2 r11 hr11.symm c12 r18 hr18.symm M17 hM17.symm M20 hM20.symm r22 hr22.symm M21 hM21.symm
    exact b_iret hx hb hr hlocks hS ⟨_, rfl, _, ⟨(congrArg Prod.fst e23).symm, (congrArg Prod.snd e23).symm⟩, hB⟩ dX7_set_35

def f_X7_undo (M : bM) : Int32 × bM := (if (M 0 6) = 0 then (let r19 : Int32 := (f_X7_refused M 1).1; (let M18 : bM := (f_X7_refused M 1).2; (0, M18))) else (let r13 : Int32 := (f_X7_refused M 0).1; (let M12 : bM := (f_X7_refused M 0).2; (let M15 : bM := up2 M12 0 6 ((M12 0 6) - 1); (let M16 : bM := f_X7_copyState M15 4 5656 ((404 : Int32) * (M15 0 6)) 2 404 0; ((M16 0 6), M16))))))
theorem u_f_X7_undo (M : bM) : f_X7_undo M = (if (M 0 6) = 0 then (let r19 : Int32 := (f_X7_refused M 1).1; (let M18 : bM := (f_X7_refused M 1).2; (0, M18))) else (let r13 : Int32 := (f_X7_refused M 0).1; (let M12 : bM := (f_X7_refused M 0).2; (let M15 : bM := up2 M12 0 6 ((M12 0 6) - 1); (let M16 : bM := f_X7_copyState M15 4 5656 ((404 : Int32) * (M15 0 6)) 2 404 0; ((M16 0 6), M16)))))) := rfl
theorem p_X7_undo_e17 (M : bM) (c11 : ¬ (M 0 6) = 0) (r13 : Int32) (hr13 : (f_X7_refused M 0).1 = r13) (M12 : bM) (hM12 : (f_X7_refused M 0).2 = M12) (M15 : bM) (hM15 : up2 M12 0 6 ((M12 0 6) - 1) = M15) (M16 : bM) (hM16 : f_X7_copyState M15 4 5656 ((404 : Int32) * (M15 0 6)) 2 404 0 = M16) : f_X7_undo M = ((M16 0 6), M16) := by subst hM16 hM15 hM12 hr13; exact Eq.trans (u_f_X7_undo M) (if_neg c11)
theorem p_X7_undo_e21 (M : bM) (c11 : (M 0 6) = 0) (r19 : Int32) (hr19 : (f_X7_refused M 1).1 = r19) (M18 : bM) (hM18 : (f_X7_refused M 1).2 = M18) : f_X7_undo M = (0, M18) := by subst hM18 hr19; exact Eq.trans (u_f_X7_undo M) (if_pos c11)
theorem fr_X7_undo (M : bM) (k : Nat) (hk2 : k ≠ 2) (hk0 : k ≠ 0) : (f_X7_undo M).2 k = M k := by
  by_cases c11 : (M 0 6) = 0
  · obtain ⟨r19, hr19⟩ : ∃ y : Int32, y = (f_X7_refused M 1).1 := ⟨_, rfl⟩
    obtain ⟨M18, hM18⟩ : ∃ y : bM, y = (f_X7_refused M 1).2 := ⟨_, rfl⟩
    rw [p_X7_undo_e21 M c11 r19 hr19.symm M18 hM18.symm]
    try dsimp only
    rw [hM18, fr_X7_refused M 1 k (by omega)]
  · obtain ⟨r13, hr13⟩ : ∃ y : Int32, y = (f_X7_refused M 0).1 := ⟨_, rfl⟩
    obtain ⟨M12, hM12⟩ : ∃ y : bM, y = (f_X7_refused M 0).2 := ⟨_, rfl⟩
    obtain ⟨M15, hM15⟩ : ∃ y : bM, y = up2 M12 0 6 ((M12 0 6) - 1) := ⟨_, rfl⟩
    obtain ⟨M16, hM16⟩ : ∃ y : bM, y = f_X7_copyState M15 4 5656 ((404 : Int32) * (M15 0 6)) 2 404 0 := ⟨_, rfl⟩
    rw [p_X7_undo_e17 M c11 r13 hr13.symm M12 hM12.symm M15 hM15.symm M16 hM16.symm]
    try dsimp only
    rw [hM16, fr_X7_copyState M15 4 5656 ((404 : Int32) * (M15 0 6)) 2 404 0 k (by omega), hM15, up2_row (by omega), hM12, fr_X7_refused M 0 k (by omega)]
set_option maxHeartbeats 4000000 in
set_option maxRecDepth 100000 in
theorem c_X7_undo (l : Launch) (D : va_G) (E : Nat → ClassId) (o : Nat) (M : bM) (ha : vp_in (M 0 6) 15) : Met l yX7_undo wsX7_undo (rmF 1) (bPc D E [.ref (o + 0)] (fun H => bk D E LRR o M H)) (bQ (aI fun r H => ∃ M1 : bM, (r = (f_X7_undo M).1 ∧ M1 = (f_X7_undo M).2) ∧ bk D E LRR o M1 H) (rB o)) 0 0 (rB o) := by
  refine Met.ofW (cc := cX7_undo) (maxL := 1) (ret := (some .int)) (by decide) rfl ?_
  intro p e s m args below meth c s₁ B hml hv
  obtain ⟨rfl, hB, hK⟩ := hv
  have hx := B.exec
  have hb := B.bytes
  have hr := B.returns
  have hts := atoms_spec (ws := wsX7_undo) B.pre
  have hown : s.vm.findClass RX7 = some m.cls := findClass_of_methodNamed B.named
  have hlocks := B.notSynchronized
  have hS : bS (rB o) s.heap s.heap [] := bS.rf
  have hl := lv_entry ([.ref (o + 0)]) (n := 1) (Nat.le_of_ble_eq_true rfl)
  rw [lg_entry_eq]
  generalize (lg_sl ([.ref (o + 0)]) ++ List.replicate (1 - (lg_sl ([.ref (o + 0)])).length) Slot.unset).toArray = ls at hl ⊢
  have hl : lv_has ls 1 [(0, .ref (o + 0))] := hl
  have hB : bk D E LRR o M s.heap := hB
  have hinX7 : ∀ w ∈ wsX70, w ∈ wsX7_undo := by decide +kernel
  refine lv_aload_n hx hb dX7_undo_0 rfl (lv_at hl 0 rfl) ?_
  refine lv_aload_n hx hb dX7_undo_1 rfl (lv_at hl 0 rfl) ?_
  refine b_get (D := D) (E := E) (L := LRR) (o := o) (M := M) (v := .int (M 0 6)) (C := RX7) (T := TX7) (N := 13) hx hb hts hinX7 hown hK.1 hB 0 lay_m0 rfl 6 (by decide) (hts (.fieldLink RX7 196 "RiverMeetingModel" "acts" "I") (List.mem_of_getElem? (i := 1) rfl)) (fun _ h9 => h9) rfl dX7_undo_2 ?_
  refine lv_if_ne (tgt := 12) hx hb dX7_undo_5 (by decide) (fun c11 => ?_) (fun c11 => ?_)
  · refine lv_iconst (v := 0) hx hb dX7_undo_12 (by decide) ?_
    refine b_mI (b_runV (As := [.int 0]) (rest := []) ⟨hx, hb, hml, hown, hts⟩ (c_X7_refused l D E o M 0) (cwV 1 hts gX7_undo_X7_refused rfl rfl rfl (by decide +kernel) ⟨Nat.le_of_ble_eq_true rfl, Nat.le_of_ble_eq_true rfl⟩) hK (bk_recv hK.1 hB lay_m0 rfl) hB rfl hl rfl (Nat.le_of_ble_eq_true rfl) dX7_undo_13 ⟨Nat.zero_le _, Nat.zero_le _⟩) hS (fun q h => h) (fun r13 M12 hM12 H locs hB _ hS => ?_)
    obtain ⟨hr13, hM12⟩ := hM12
    have hkr13 : r13 = 0 := by rw [hr13]; rfl
    refine lv_const (y := 0) hkr13 ?_
    refine lv_if_eq (tgt := 21) hx hb dX7_undo_16 (by decide) (fun c14 => ?_) (fun c14 => absurd (by decide) c14)
    refine lv_aload_n hx hb dX7_undo_21 rfl (lv_at hl 0 rfl) ?_
    refine lv_dup hx hb dX7_undo_22 rfl ?_
    refine b_get (D := D) (E := E) (L := LRR) (o := o) (M := M12) (v := .int (M12 0 6)) (C := RX7) (T := TX7) (N := 13) hx hb hts hinX7 hown hK.1 hB 0 lay_m0 rfl 6 (by decide) (hts (.fieldLink RX7 196 "RiverMeetingModel" "acts" "I") (List.mem_of_getElem? (i := 1) rfl)) (fun _ h9 => h9) rfl dX7_undo_23 ?_
    refine lv_iconst (v := 1) hx hb dX7_undo_26 (by decide) ?_
    refine lv_isub hx hb dX7_undo_27 ?_
    refine b_put (D := D) (E := E) (L := LRR) (o := o) (M := M12) (v := ((M12 0 6) - 1)) (ty := .int) (C := RX7) (T := TX7) (N := 13) hx hb hts hinX7 tyX7 tyX7_ok nmX7 hown hK.1 hB hS 0 (rB_of lay_m0) lay_m0 rfl 6 (by decide) rfl (hts (.fieldLink RX7 196 "RiverMeetingModel" "acts" "I") (List.mem_of_getElem? (i := 1) rfl)) (fun _ h9 => h9) rfl (by decide +kernel) rfl rfl dX7_undo_28 (fun M15 hM15 H locs hB _ hS => ?_)
    refine lv_aload_n hx hb dX7_undo_31 rfl (lv_at hl 0 rfl) ?_
    refine b_get (D := D) (E := E) (L := LRR) (o := o) (M := M15) (v := .ref (o + 4)) (C := RX7) (T := TX7) (N := 13) hx hb hts hinX7 hown hK.1 hB 0 lay_m0 rfl 5 (by decide) (hts (.fieldLink RX7 19 "RiverMeetingModel" "diary" "[I") (List.mem_of_getElem? (i := 2) rfl)) (fun _ h9 => h9) rfl dX7_undo_32 ?_
    refine lv_sipush (v := 404) hx hb dX7_undo_35 (by decide) ?_
    refine lv_aload_n hx hb dX7_undo_38 rfl (lv_at hl 0 rfl) ?_
    refine b_get (D := D) (E := E) (L := LRR) (o := o) (M := M15) (v := .int (M15 0 6)) (C := RX7) (T := TX7) (N := 13) hx hb hts hinX7 hown hK.1 hB 0 lay_m0 rfl 6 (by decide) (hts (.fieldLink RX7 196 "RiverMeetingModel" "acts" "I") (List.mem_of_getElem? (i := 1) rfl)) (fun _ h9 => h9) rfl dX7_undo_39 ?_
    refine lv_imul hx hb dX7_undo_42 ?_
    refine lv_aload_n hx hb dX7_undo_43 rfl (lv_at hl 0 rfl) ?_
    refine b_get (D := D) (E := E) (L := LRR) (o := o) (M := M15) (v := .ref (o + 2)) (C := RX7) (T := TX7) (N := 13) hx hb hts hinX7 hown hK.1 hB 0 lay_m0 rfl 3 (by decide) (hts (.fieldLink RX7 13 "RiverMeetingModel" "now" "[I") (List.mem_of_getElem? (i := 3) rfl)) (fun _ h9 => h9) rfl dX7_undo_44 ?_
    refine lv_iconst (v := 0) hx hb dX7_undo_47 (by decide) ?_
    refine b_mV (b_runS (As := [.ref (o + 4), .int ((404 : Int32) * (M15 0 6)), .ref (o + 2), .int 0]) (rest := []) ⟨hx, hb, hml, hown, hts⟩ (c_X7_copyState l D E o M15 4 5656 ((404 : Int32) * (M15 0 6)) 2 404 0 lay_m4 lay_m2 (acts_ok (by rw [hM15, up2_at, if_pos rfl, hM12, rf_col (by decide)]; exact acts_dn ha c11)) cs_0) (va_cwS 4 hts gX7_undo_X7_copyState rfl rfl rfl (by decide +kernel) ⟨Nat.le_of_ble_eq_true rfl, Nat.le_of_ble_eq_true rfl⟩) hK hB rfl hl rfl (Nat.le_of_ble_eq_true rfl) dX7_undo_48 ⟨Nat.zero_le _, Nat.zero_le _⟩) hS (fun q h => h) (fun M16 hM16 H locs hB _ hS => ?_)
    refine lv_aload_n hx hb dX7_undo_51 rfl (lv_at hl 0 rfl) ?_
    refine b_get (D := D) (E := E) (L := LRR) (o := o) (M := M16) (v := .int (M16 0 6)) (C := RX7) (T := TX7) (N := 13) hx hb hts hinX7 hown hK.1 hB 0 lay_m0 rfl 6 (by decide) (hts (.fieldLink RX7 196 "RiverMeetingModel" "acts" "I") (List.mem_of_getElem? (i := 1) rfl)) (fun _ h9 => h9) rfl dX7_undo_52 ?_
    have e17 := p_X7_undo_e17 M c11 r13 hr13.symm M12 hM12.symm M15 hM15.symm M16 hM16.symm
    exact b_iret hx hb hr hlocks hS ⟨_, rfl, _, ⟨(congrArg Prod.fst e17).symm, (congrArg Prod.snd e17).symm⟩, hB⟩ dX7_undo_55
  · refine lv_iconst (v := 1) hx hb dX7_undo_8 (by decide) ?_
    refine lv_goto (tgt := 13) hx hb dX7_undo_9 (by decide) ?_
    refine b_mI (b_runV (As := [.int 1]) (rest := []) ⟨hx, hb, hml, hown, hts⟩ (c_X7_refused l D E o M 1) (cwV 1 hts gX7_undo_X7_refused rfl rfl rfl (by decide +kernel) ⟨Nat.le_of_ble_eq_true rfl, Nat.le_of_ble_eq_true rfl⟩) hK (bk_recv hK.1 hB lay_m0 rfl) hB rfl hl rfl (Nat.le_of_ble_eq_true rfl) dX7_undo_13 ⟨Nat.zero_le _, Nat.zero_le _⟩) hS (fun q h => h) (fun r19 M18 hM18 H locs hB _ hS => ?_)
    obtain ⟨hr19, hM18⟩ := hM18
    have hkr19 : r19 = 1 := by rw [hr19]; rfl
    refine lv_const (y := 1) hkr19 ?_
    refine lv_if_eq (tgt := 21) hx hb dX7_undo_16 (by decide) (fun c20 => absurd c20 (by decide)) (fun c20 => ?_)
    refine lv_iconst (v := 0) hx hb dX7_undo_19 (by decide) ?_
    have e21 := p_X7_undo_e21 M c11 r19 hr19.symm M18 hM18.symm
    exact b_iret hx hb hr hlocks hS ⟨_, rfl, _, ⟨(congrArg Prod.fst e21).symm, (congrArg Prod.snd e21).symm⟩, hB⟩ dX7_undo_20

def f_X7_why (M : bM) (x1 : Int32) : Int32 × bM := (let r11 : Int32 := f_X7_in x1.toInt64 0 2; (if r11 = 0 then (let r14 : Int32 := (f_X7_refused M 1).1; (let M13 : bM := (f_X7_refused M 1).2; (0, M13))) else (let r18 : Int32 := (f_X7_refused M 0).1; (let M17 : bM := (f_X7_refused M 0).2; (let r20 : Int32 := f_X7_isUnderWay M17 2; (if r20 = 0 then ((-1), M17) else (let r23 : Int32 := f_X7_reason M17 2 x1; (r23, M17))))))))
theorem u_f_X7_why (M : bM) (x1 : Int32) : f_X7_why M x1 = (let r11 : Int32 := f_X7_in x1.toInt64 0 2; (if r11 = 0 then (let r14 : Int32 := (f_X7_refused M 1).1; (let M13 : bM := (f_X7_refused M 1).2; (0, M13))) else (let r18 : Int32 := (f_X7_refused M 0).1; (let M17 : bM := (f_X7_refused M 0).2; (let r20 : Int32 := f_X7_isUnderWay M17 2; (if r20 = 0 then ((-1), M17) else (let r23 : Int32 := f_X7_reason M17 2 x1; (r23, M17)))))))) := rfl
theorem p_X7_why_e16 (M : bM) (x1 : Int32) (r11 : Int32) (hr11 : f_X7_in x1.toInt64 0 2 = r11) (c12 : r11 = 0) (r14 : Int32) (hr14 : (f_X7_refused M 1).1 = r14) (M13 : bM) (hM13 : (f_X7_refused M 1).2 = M13) : f_X7_why M x1 = (0, M13) := by subst hM13 hr14 hr11; exact Eq.trans (u_f_X7_why M x1) (if_pos c12)
theorem p_X7_why_e22 (M : bM) (x1 : Int32) (r11 : Int32) (hr11 : f_X7_in x1.toInt64 0 2 = r11) (c12 : ¬ r11 = 0) (r18 : Int32) (hr18 : (f_X7_refused M 0).1 = r18) (M17 : bM) (hM17 : (f_X7_refused M 0).2 = M17) (r20 : Int32) (hr20 : f_X7_isUnderWay M17 2 = r20) (c21 : r20 = 0) : f_X7_why M x1 = ((-1), M17) := by subst hr20 hM17 hr18 hr11; exact Eq.trans (u_f_X7_why M x1) (Eq.trans (if_neg c12) (if_pos c21))
theorem p_X7_why_e24 (M : bM) (x1 : Int32) (r11 : Int32) (hr11 : f_X7_in x1.toInt64 0 2 = r11) (c12 : ¬ r11 = 0) (r18 : Int32) (hr18 : (f_X7_refused M 0).1 = r18) (M17 : bM) (hM17 : (f_X7_refused M 0).2 = M17) (r20 : Int32) (hr20 : f_X7_isUnderWay M17 2 = r20) (c21 : ¬ r20 = 0) (r23 : Int32) (hr23 : f_X7_reason M17 2 x1 = r23) : f_X7_why M x1 = (r23, M17) := by subst hr23 hr20 hM17 hr18 hr11; exact Eq.trans (u_f_X7_why M x1) (Eq.trans (if_neg c12) (if_neg c21))
theorem fr_X7_why (M : bM) (x1 : Int32) (k : Nat) (hk0 : k ≠ 0) : (f_X7_why M x1).2 k = M k := by
  obtain ⟨r11, hr11⟩ : ∃ y : Int32, y = f_X7_in x1.toInt64 0 2 := ⟨_, rfl⟩
  by_cases c12 : r11 = 0
  · obtain ⟨r14, hr14⟩ : ∃ y : Int32, y = (f_X7_refused M 1).1 := ⟨_, rfl⟩
    obtain ⟨M13, hM13⟩ : ∃ y : bM, y = (f_X7_refused M 1).2 := ⟨_, rfl⟩
    rw [p_X7_why_e16 M x1 r11 hr11.symm c12 r14 hr14.symm M13 hM13.symm]
    try dsimp only
    rw [hM13, fr_X7_refused M 1 k (by omega)]
  · obtain ⟨r18, hr18⟩ : ∃ y : Int32, y = (f_X7_refused M 0).1 := ⟨_, rfl⟩
    obtain ⟨M17, hM17⟩ : ∃ y : bM, y = (f_X7_refused M 0).2 := ⟨_, rfl⟩
    obtain ⟨r20, hr20⟩ : ∃ y : Int32, y = f_X7_isUnderWay M17 2 := ⟨_, rfl⟩
    by_cases c21 : r20 = 0
    · rw [p_X7_why_e22 M x1 r11 hr11.symm c12 r18 hr18.symm M17 hM17.symm r20 hr20.symm c21]
      try dsimp only
      rw [hM17, fr_X7_refused M 0 k (by omega)]
    · obtain ⟨r23, hr23⟩ : ∃ y : Int32, y = f_X7_reason M17 2 x1 := ⟨_, rfl⟩
      rw [p_X7_why_e24 M x1 r11 hr11.symm c12 r18 hr18.symm M17 hM17.symm r20 hr20.symm c21 r23 hr23.symm]
      try dsimp only
      rw [hM17, fr_X7_refused M 0 k (by omega)]
set_option maxHeartbeats 4000000 in
set_option maxRecDepth 100000 in
theorem c_X7_why (l : Launch) (D : va_G) (E : Nat → ClassId) (o : Nat) (M : bM) (x1 : Int32) (hg : gR (M 2)) : Met l yX7_why wsX7_why (rmF 4) (bPc D E [.ref (o + 0), .int x1] (fun H => bk D E LRR o M H)) (bQ (aI fun r H => ∃ M1 : bM, (r = (f_X7_why M x1).1 ∧ M1 = (f_X7_why M x1).2) ∧ bk D E LRR o M1 H) (rB o)) 0 0 (rB o) := by
  refine Met.ofW (cc := cX7_why) (maxL := 2) (ret := (some .int)) (by decide) rfl ?_
  intro p e s m args below meth c s₁ B hml hv
  obtain ⟨rfl, hB, hK⟩ := hv
  have hx := B.exec
  have hb := B.bytes
  have hr := B.returns
  have hts := atoms_spec (ws := wsX7_why) B.pre
  have hown : s.vm.findClass RX7 = some m.cls := findClass_of_methodNamed B.named
  have hlocks := B.notSynchronized
  have hS : bS (rB o) s.heap s.heap [] := bS.rf
  have hl := lv_entry ([.ref (o + 0), .int x1]) (n := 2) (Nat.le_of_ble_eq_true rfl)
  rw [lg_entry_eq]
  generalize (lg_sl ([.ref (o + 0), .int x1]) ++ List.replicate (2 - (lg_sl ([.ref (o + 0), .int x1])).length) Slot.unset).toArray = ls at hl ⊢
  have hl : lv_has ls 2 [(0, .ref (o + 0)), (1, .int x1)] := hl
  have hB : bk D E LRR o M s.heap := hB
  have hinX7 : ∀ w ∈ wsX70, w ∈ wsX7_why := by decide +kernel
  refine lv_aload_n hx hb dX7_why_0 rfl (lv_at hl 0 rfl) ?_
  refine lv_iload_n hx hb dX7_why_1 rfl (lv_at hl 1 rfl) ?_
  refine lv_i2l hx hb dX7_why_2 rfl ?_
  refine lv_lconst (v := 0) hx hb dX7_why_3 (by decide) ?_
  refine lv_ldc2 (v := 2) hx hb hown (hts (.constantLong RX7 208 (2)) (List.mem_of_getElem? (i := 1) rfl)) dX7_why_4 ?_
  refine b_pI (b_runS (As := [.long x1.toInt64, .long 0, .long 2]) (rest := [.ref (o + 0)]) ⟨hx, hb, hml, hown, hts⟩ (c_X7_in l D E x1.toInt64 0 2) (va_cwS 3 hts gX7_why_X7_in rfl rfl rfl (by decide +kernel) ⟨Nat.le_of_ble_eq_true rfl, Nat.le_of_ble_eq_true rfl⟩) hK trivial rfl hl rfl (Nat.le_of_ble_eq_true rfl) dX7_why_7 ⟨Nat.zero_le _, Nat.zero_le _⟩) hS (fun r11 hr11 locs hS => ?_)
  refine lv_if_eq (tgt := 17) hx hb dX7_why_10 (by decide) (fun c12 => ?_) (fun c12 => ?_)
  · refine lv_iconst (v := 1) hx hb dX7_why_17 (by decide) ?_
    refine b_mI (b_runV (As := [.int 1]) (rest := []) ⟨hx, hb, hml, hown, hts⟩ (c_X7_refused l D E o M 1) (cwV 1 hts gX7_why_X7_refused rfl rfl rfl (by decide +kernel) ⟨Nat.le_of_ble_eq_true rfl, Nat.le_of_ble_eq_true rfl⟩) hK (bk_recv hK.1 hB lay_m0 rfl) hB rfl hl rfl (Nat.le_of_ble_eq_true rfl) dX7_why_18 ⟨Nat.zero_le _, Nat.zero_le _⟩) hS (fun q h => h) (fun r14 M13 hM13 H locs hB _ hS => ?_)
    obtain ⟨hr14, hM13⟩ := hM13
    have hkr14 : r14 = 1 := by rw [hr14]; rfl
    refine lv_const (y := 1) hkr14 ?_
    refine lv_if_eq (tgt := 26) hx hb dX7_why_21 (by decide) (fun c15 => absurd c15 (by decide)) (fun c15 => ?_)
    refine lv_iconst (v := 0) hx hb dX7_why_24 (by decide) ?_
    have e16 := p_X7_why_e16 M x1 r11 hr11.symm c12 r14 hr14.symm M13 hM13.symm
    exact b_iret hx hb hr hlocks hS ⟨_, rfl, _, ⟨(congrArg Prod.fst e16).symm, (congrArg Prod.snd e16).symm⟩, hB⟩ dX7_why_25
  · refine lv_iconst (v := 0) hx hb dX7_why_13 (by decide) ?_
    refine lv_goto (tgt := 18) hx hb dX7_why_14 (by decide) ?_
    refine b_mI (b_runV (As := [.int 0]) (rest := []) ⟨hx, hb, hml, hown, hts⟩ (c_X7_refused l D E o M 0) (cwV 1 hts gX7_why_X7_refused rfl rfl rfl (by decide +kernel) ⟨Nat.le_of_ble_eq_true rfl, Nat.le_of_ble_eq_true rfl⟩) hK (bk_recv hK.1 hB lay_m0 rfl) hB rfl hl rfl (Nat.le_of_ble_eq_true rfl) dX7_why_18 ⟨Nat.zero_le _, Nat.zero_le _⟩) hS (fun q h => h) (fun r18 M17 hM17 H locs hB _ hS => ?_)
    obtain ⟨hr18, hM17⟩ := hM17
    have hkr18 : r18 = 0 := by rw [hr18]; rfl
    refine lv_const (y := 0) hkr18 ?_
    refine lv_if_eq (tgt := 26) hx hb dX7_why_21 (by decide) (fun c19 => ?_) (fun c19 => absurd (by decide) c19)
    refine lv_aload_n hx hb dX7_why_26 rfl (lv_at hl 0 rfl) ?_
    refine b_get (D := D) (E := E) (L := LRR) (o := o) (M := M17) (v := .ref (o + 2)) (C := RX7) (T := TX7) (N := 13) hx hb hts hinX7 hown hK.1 hB 0 lay_m0 rfl 3 (by decide) (hts (.fieldLink RX7 13 "RiverMeetingModel" "now" "[I") (List.mem_of_getElem? (i := 2) rfl)) (fun _ h9 => h9) rfl dX7_why_27 ?_
    refine b_pI (b_runS (As := [.ref (o + 2)]) (rest := []) ⟨hx, hb, hml, hown, hts⟩ (c_X7_isUnderWay l D E o M17 2 lay_m2) (va_cwS 1 hts gX7_why_X7_isUnderWay rfl rfl rfl (by decide +kernel) ⟨Nat.le_of_ble_eq_true rfl, Nat.le_of_ble_eq_true rfl⟩) hK hB rfl hl rfl (Nat.le_of_ble_eq_true rfl) dX7_why_30 ⟨Nat.zero_le _, Nat.zero_le _⟩) hS (fun r20 hr20 locs hS => ?_)
    refine lv_if_eq (tgt := 47) hx hb dX7_why_33 (by decide) (fun c21 => ?_) (fun c21 => ?_)
    · refine lv_iconst (v := (-1)) hx hb dX7_why_47 (by decide) ?_
      have e22 := p_X7_why_e22 M x1 r11 hr11.symm c12 r18 hr18.symm M17 hM17.symm r20 hr20.symm c21
      exact b_iret hx hb hr hlocks hS ⟨_, rfl, _, ⟨(congrArg Prod.fst e22).symm, (congrArg Prod.snd e22).symm⟩, hB⟩ dX7_why_48
    · refine lv_aload_n hx hb dX7_why_36 rfl (lv_at hl 0 rfl) ?_
      refine b_get (D := D) (E := E) (L := LRR) (o := o) (M := M17) (v := .ref (o + 2)) (C := RX7) (T := TX7) (N := 13) hx hb hts hinX7 hown hK.1 hB 0 lay_m0 rfl 3 (by decide) (hts (.fieldLink RX7 13 "RiverMeetingModel" "now" "[I") (List.mem_of_getElem? (i := 2) rfl)) (fun _ h9 => h9) rfl dX7_why_37 ?_
      refine lv_iload_n hx hb dX7_why_40 rfl (lv_at hl 1 rfl) ?_
      refine b_pI (b_runS (As := [.ref (o + 2), .int x1]) (rest := []) ⟨hx, hb, hml, hown, hts⟩ (c_X7_reason l D E o M17 2 x1 lay_m2 (gR_wf (gR_of (M := M) (by rw [hM17]; exact fr_X7_refused M 0 2 (by decide)) hg))) (va_cwS 2 hts gX7_why_X7_reason rfl rfl rfl (by decide +kernel) ⟨Nat.le_of_ble_eq_true rfl, Nat.le_of_ble_eq_true rfl⟩) hK hB rfl hl rfl (Nat.le_of_ble_eq_true rfl) dX7_why_41 ⟨Nat.zero_le _, Nat.zero_le _⟩) hS (fun r23 hr23 locs hS => ?_)
      refine lv_goto (tgt := 48) hx hb dX7_why_44 (by decide) ?_
      have e24 := p_X7_why_e24 M x1 r11 hr11.symm c12 r18 hr18.symm M17 hM17.symm r20 hr20.symm c21 r23 hr23.symm
      exact b_iret hx hb hr hlocks hS ⟨_, rfl, _, ⟨(congrArg Prod.fst e24).symm, (congrArg Prod.snd e24).symm⟩, hB⟩ dX7_why_48

def f_X7_whyDam (M : bM) (x1 : Int32) (x2 : Int32) : Int32 × bM := (let r11 : Int32 := f_X7_isCell x1 x2; (if r11 = 0 then (let r14 : Int32 := (f_X7_refused M 1).1; (let M13 : bM := (f_X7_refused M 1).2; (0, M13))) else (let r18 : Int32 := (f_X7_refused M 0).1; (let M17 : bM := (f_X7_refused M 0).2; (let r20 : Int32 := f_X7_isUnderWay M17 2; (if r20 = 0 then ((-1), M17) else (let r24 : Int32 := (f_X7_damReason M17 2 (((8 : Int32) * x2) + x1)).1; (let M23 : bM := (f_X7_damReason M17 2 (((8 : Int32) * x2) + x1)).2; (r24, M23)))))))))
theorem u_f_X7_whyDam (M : bM) (x1 : Int32) (x2 : Int32) : f_X7_whyDam M x1 x2 = (let r11 : Int32 := f_X7_isCell x1 x2; (if r11 = 0 then (let r14 : Int32 := (f_X7_refused M 1).1; (let M13 : bM := (f_X7_refused M 1).2; (0, M13))) else (let r18 : Int32 := (f_X7_refused M 0).1; (let M17 : bM := (f_X7_refused M 0).2; (let r20 : Int32 := f_X7_isUnderWay M17 2; (if r20 = 0 then ((-1), M17) else (let r24 : Int32 := (f_X7_damReason M17 2 (((8 : Int32) * x2) + x1)).1; (let M23 : bM := (f_X7_damReason M17 2 (((8 : Int32) * x2) + x1)).2; (r24, M23))))))))) := rfl
theorem p_X7_whyDam_e16 (M : bM) (x1 : Int32) (x2 : Int32) (r11 : Int32) (hr11 : f_X7_isCell x1 x2 = r11) (c12 : r11 = 0) (r14 : Int32) (hr14 : (f_X7_refused M 1).1 = r14) (M13 : bM) (hM13 : (f_X7_refused M 1).2 = M13) : f_X7_whyDam M x1 x2 = (0, M13) := by subst hM13 hr14 hr11; exact Eq.trans (u_f_X7_whyDam M x1 x2) (if_pos c12)
theorem p_X7_whyDam_e22 (M : bM) (x1 : Int32) (x2 : Int32) (r11 : Int32) (hr11 : f_X7_isCell x1 x2 = r11) (c12 : ¬ r11 = 0) (r18 : Int32) (hr18 : (f_X7_refused M 0).1 = r18) (M17 : bM) (hM17 : (f_X7_refused M 0).2 = M17) (r20 : Int32) (hr20 : f_X7_isUnderWay M17 2 = r20) (c21 : r20 = 0) : f_X7_whyDam M x1 x2 = ((-1), M17) := by subst hr20 hM17 hr18 hr11; exact Eq.trans (u_f_X7_whyDam M x1 x2) (Eq.trans (if_neg c12) (if_pos c21))
theorem p_X7_whyDam_e25 (M : bM) (x1 : Int32) (x2 : Int32) (r11 : Int32) (hr11 : f_X7_isCell x1 x2 = r11) (c12 : ¬ r11 = 0) (r18 : Int32) (hr18 : (f_X7_refused M 0).1 = r18) (M17 : bM) (hM17 : (f_X7_refused M 0).2 = M17) (r20 : Int32) (hr20 : f_X7_isUnderWay M17 2 = r20) (c21 : ¬ r20 = 0) (r24 : Int32) (hr24 : (f_X7_damReason M17 2 (((8 : Int32) * x2) + x1)).1 = r24) (M23 : bM) (hM23 : (f_X7_damReason M17 2 (((8 : Int32) * x2) + x1)).2 = M23) : f_X7_whyDam M x1 x2 = (r24, M23) := by subst hM23 hr24 hr20 hM17 hr18 hr11; exact Eq.trans (u_f_X7_whyDam M x1 x2) (Eq.trans (if_neg c12) (if_neg c21))
theorem fr_X7_whyDam (M : bM) (x1 : Int32) (x2 : Int32) (k : Nat) (hk2 : k ≠ 2) (hk0 : k ≠ 0) (hf : k ≠ 7) : (f_X7_whyDam M x1 x2).2 k = M k := by
  obtain ⟨r11, hr11⟩ : ∃ y : Int32, y = f_X7_isCell x1 x2 := ⟨_, rfl⟩
  by_cases c12 : r11 = 0
  · obtain ⟨r14, hr14⟩ : ∃ y : Int32, y = (f_X7_refused M 1).1 := ⟨_, rfl⟩
    obtain ⟨M13, hM13⟩ : ∃ y : bM, y = (f_X7_refused M 1).2 := ⟨_, rfl⟩
    rw [p_X7_whyDam_e16 M x1 x2 r11 hr11.symm c12 r14 hr14.symm M13 hM13.symm]
    try dsimp only
    rw [hM13, fr_X7_refused M 1 k (by omega)]
  · obtain ⟨r18, hr18⟩ : ∃ y : Int32, y = (f_X7_refused M 0).1 := ⟨_, rfl⟩
    obtain ⟨M17, hM17⟩ : ∃ y : bM, y = (f_X7_refused M 0).2 := ⟨_, rfl⟩
    obtain ⟨r20, hr20⟩ : ∃ y : Int32, y = f_X7_isUnderWay M17 2 := ⟨_, rfl⟩
    by_cases c21 : r20 = 0
    · rw [p_X7_whyDam_e22 M x1 x2 r11 hr11.symm c12 r18 hr18.symm M17 hM17.symm r20 hr20.symm c21]
      try dsimp only
      rw [hM17, fr_X7_refused M 0 k (by omega)]
    · obtain ⟨r24, hr24⟩ : ∃ y : Int32, y = (f_X7_damReason M17 2 (((8 : Int32) * x2) + x1)).1 := ⟨_, rfl⟩
      obtain ⟨M23, hM23⟩ : ∃ y : bM, y = (f_X7_damReason M17 2 (((8 : Int32) * x2) + x1)).2 := ⟨_, rfl⟩
      rw [p_X7_whyDam_e25 M x1 x2 r11 hr11.symm c12 r18 hr18.symm M17 hM17.symm r20 hr20.symm c21 r24 hr24.symm M23 hM23.symm]
      try dsimp only
      rw [hM23, fr_X7_damReason M17 2 (((8 : Int32) * x2) + x1) k (by omega) (by omega), hM17, fr_X7_refused M 0 k (by omega)]
set_option maxHeartbeats 4000000 in
set_option maxRecDepth 100000 in
theorem c_X7_whyDam (l : Launch) (D : va_G) (E : Nat → ClassId) (o : Nat) (M : bM) (x1 : Int32) (x2 : Int32) (hg : gR (M 2)) : Met l yX7_whyDam wsX7_whyDam (rmF 5) (bPc D E [.ref (o + 0), .int x1, .int x2] (fun H => bk D E LRR o M H)) (bQ (aI fun r H => ∃ M1 : bM, (r = (f_X7_whyDam M x1 x2).1 ∧ M1 = (f_X7_whyDam M x1 x2).2) ∧ bk D E LRR o M1 H) (rB o)) 0 0 (rB o) := by
  refine Met.ofW (cc := cX7_whyDam) (maxL := 3) (ret := (some .int)) (by decide) rfl ?_
  intro p e s m args below meth c s₁ B hml hv
  obtain ⟨rfl, hB, hK⟩ := hv
  have hx := B.exec
  have hb := B.bytes
  have hr := B.returns
  have hts := atoms_spec (ws := wsX7_whyDam) B.pre
  have hown : s.vm.findClass RX7 = some m.cls := findClass_of_methodNamed B.named
  have hlocks := B.notSynchronized
  have hS : bS (rB o) s.heap s.heap [] := bS.rf
  have hl := lv_entry ([.ref (o + 0), .int x1, .int x2]) (n := 3) (Nat.le_of_ble_eq_true rfl)
  rw [lg_entry_eq]
  generalize (lg_sl ([.ref (o + 0), .int x1, .int x2]) ++ List.replicate (3 - (lg_sl ([.ref (o + 0), .int x1, .int x2])).length) Slot.unset).toArray = ls at hl ⊢
  have hl : lv_has ls 3 [(0, .ref (o + 0)), (1, .int x1), (2, .int x2)] := hl
  have hB : bk D E LRR o M s.heap := hB
  have hinX7 : ∀ w ∈ wsX70, w ∈ wsX7_whyDam := by decide +kernel
  refine lv_aload_n hx hb dX7_whyDam_0 rfl (lv_at hl 0 rfl) ?_
  refine lv_iload_n hx hb dX7_whyDam_1 rfl (lv_at hl 1 rfl) ?_
  refine lv_iload_n hx hb dX7_whyDam_2 rfl (lv_at hl 2 rfl) ?_
  refine b_pI (b_runS (As := [.int x1, .int x2]) (rest := [.ref (o + 0)]) ⟨hx, hb, hml, hown, hts⟩ (c_X7_isCell l D E x1 x2) (va_cwS 2 hts gX7_whyDam_X7_isCell rfl rfl rfl (by decide +kernel) ⟨Nat.le_of_ble_eq_true rfl, Nat.le_of_ble_eq_true rfl⟩) hK trivial rfl hl rfl (Nat.le_of_ble_eq_true rfl) dX7_whyDam_3 ⟨Nat.zero_le _, Nat.zero_le _⟩) hS (fun r11 hr11 locs hS => ?_)
  refine lv_if_eq (tgt := 13) hx hb dX7_whyDam_6 (by decide) (fun c12 => ?_) (fun c12 => ?_)
  · refine lv_iconst (v := 1) hx hb dX7_whyDam_13 (by decide) ?_
    refine b_mI (b_runV (As := [.int 1]) (rest := []) ⟨hx, hb, hml, hown, hts⟩ (c_X7_refused l D E o M 1) (cwV 1 hts gX7_whyDam_X7_refused rfl rfl rfl (by decide +kernel) ⟨Nat.le_of_ble_eq_true rfl, Nat.le_of_ble_eq_true rfl⟩) hK (bk_recv hK.1 hB lay_m0 rfl) hB rfl hl rfl (Nat.le_of_ble_eq_true rfl) dX7_whyDam_14 ⟨Nat.zero_le _, Nat.zero_le _⟩) hS (fun q h => h) (fun r14 M13 hM13 H locs hB _ hS => ?_)
    obtain ⟨hr14, hM13⟩ := hM13
    have hkr14 : r14 = 1 := by rw [hr14]; rfl
    refine lv_const (y := 1) hkr14 ?_
    refine lv_if_eq (tgt := 22) hx hb dX7_whyDam_17 (by decide) (fun c15 => absurd c15 (by decide)) (fun c15 => ?_)
    refine lv_iconst (v := 0) hx hb dX7_whyDam_20 (by decide) ?_
    have e16 := p_X7_whyDam_e16 M x1 x2 r11 hr11.symm c12 r14 hr14.symm M13 hM13.symm
    exact b_iret hx hb hr hlocks hS ⟨_, rfl, _, ⟨(congrArg Prod.fst e16).symm, (congrArg Prod.snd e16).symm⟩, hB⟩ dX7_whyDam_21
  · refine lv_iconst (v := 0) hx hb dX7_whyDam_9 (by decide) ?_
    refine lv_goto (tgt := 14) hx hb dX7_whyDam_10 (by decide) ?_
    refine b_mI (b_runV (As := [.int 0]) (rest := []) ⟨hx, hb, hml, hown, hts⟩ (c_X7_refused l D E o M 0) (cwV 1 hts gX7_whyDam_X7_refused rfl rfl rfl (by decide +kernel) ⟨Nat.le_of_ble_eq_true rfl, Nat.le_of_ble_eq_true rfl⟩) hK (bk_recv hK.1 hB lay_m0 rfl) hB rfl hl rfl (Nat.le_of_ble_eq_true rfl) dX7_whyDam_14 ⟨Nat.zero_le _, Nat.zero_le _⟩) hS (fun q h => h) (fun r18 M17 hM17 H locs hB _ hS => ?_)
    obtain ⟨hr18, hM17⟩ := hM17
    have hkr18 : r18 = 0 := by rw [hr18]; rfl
    refine lv_const (y := 0) hkr18 ?_
    refine lv_if_eq (tgt := 22) hx hb dX7_whyDam_17 (by decide) (fun c19 => ?_) (fun c19 => absurd (by decide) c19)
    refine lv_aload_n hx hb dX7_whyDam_22 rfl (lv_at hl 0 rfl) ?_
    refine b_get (D := D) (E := E) (L := LRR) (o := o) (M := M17) (v := .ref (o + 2)) (C := RX7) (T := TX7) (N := 13) hx hb hts hinX7 hown hK.1 hB 0 lay_m0 rfl 3 (by decide) (hts (.fieldLink RX7 13 "RiverMeetingModel" "now" "[I") (List.mem_of_getElem? (i := 1) rfl)) (fun _ h9 => h9) rfl dX7_whyDam_23 ?_
    refine b_pI (b_runS (As := [.ref (o + 2)]) (rest := []) ⟨hx, hb, hml, hown, hts⟩ (c_X7_isUnderWay l D E o M17 2 lay_m2) (va_cwS 1 hts gX7_whyDam_X7_isUnderWay rfl rfl rfl (by decide +kernel) ⟨Nat.le_of_ble_eq_true rfl, Nat.le_of_ble_eq_true rfl⟩) hK hB rfl hl rfl (Nat.le_of_ble_eq_true rfl) dX7_whyDam_26 ⟨Nat.zero_le _, Nat.zero_le _⟩) hS (fun r20 hr20 locs hS => ?_)
    refine lv_if_eq (tgt := 49) hx hb dX7_whyDam_29 (by decide) (fun c21 => ?_) (fun c21 => ?_)
    · refine lv_iconst (v := (-1)) hx hb dX7_whyDam_49 (by decide) ?_
      have e22 := p_X7_whyDam_e22 M x1 x2 r11 hr11.symm c12 r18 hr18.symm M17 hM17.symm r20 hr20.symm c21
      exact b_iret hx hb hr hlocks hS ⟨_, rfl, _, ⟨(congrArg Prod.fst e22).symm, (congrArg Prod.snd e22).symm⟩, hB⟩ dX7_whyDam_50
    · refine lv_aload_n hx hb dX7_whyDam_32 rfl (lv_at hl 0 rfl) ?_
      refine lv_aload_n hx hb dX7_whyDam_33 rfl (lv_at hl 0 rfl) ?_
      refine b_get (D := D) (E := E) (L := LRR) (o := o) (M := M17) (v := .ref (o + 2)) (C := RX7) (T := TX7) (N := 13) hx hb hts hinX7 hown hK.1 hB 0 lay_m0 rfl 3 (by decide) (hts (.fieldLink RX7 13 "RiverMeetingModel" "now" "[I") (List.mem_of_getElem? (i := 1) rfl)) (fun _ h9 => h9) rfl dX7_whyDam_34 ?_
      refine lv_bipush (v := 8) hx hb dX7_whyDam_37 (by decide) ?_
      refine lv_iload_n hx hb dX7_whyDam_39 rfl (lv_at hl 2 rfl) ?_
      refine lv_imul hx hb dX7_whyDam_40 ?_
      refine lv_iload_n hx hb dX7_whyDam_41 rfl (lv_at hl 1 rfl) ?_
      refine lv_iadd hx hb dX7_whyDam_42 ?_
      refine b_mI (b_runV (As := [.ref (o + 2), .int (((8 : Int32) * x2) + x1)]) (rest := []) ⟨hx, hb, hml, hown, hts⟩ (c_X7_damReason l D E o M17 2 (((8 : Int32) * x2) + x1) lay_m2 (cell64 (isCell_in (hr11 ▸ c12)).1 (isCell_in (hr11 ▸ c12)).2) (gR_wf (gR_of (M := M) (by rw [hM17]; exact fr_X7_refused M 0 2 (by decide)) hg)) (by decide) (gR_cell (gR_of (M := M) (by rw [hM17]; exact fr_X7_refused M 0 2 (by decide)) hg))) (cwV 2 hts gX7_whyDam_X7_damReason rfl rfl rfl (by decide +kernel) ⟨Nat.le_of_ble_eq_true rfl, Nat.le_of_ble_eq_true rfl⟩) hK (bk_recv hK.1 hB lay_m0 rfl) hB rfl hl rfl (Nat.le_of_ble_eq_true rfl) dX7_whyDam_43 ⟨Nat.zero_le _, Nat.zero_le _⟩) hS (fun q h => h) (fun r24 M23 hM23 H locs hB _ hS => ?_)
      obtain ⟨hr24, hM23⟩ := hM23
      refine lv_goto (tgt := 50) hx hb dX7_whyDam_46 (by decide) ?_
      have e25 := p_X7_whyDam_e25 M x1 x2 r11 hr11.symm c12 r18 hr18.symm M17 hM17.symm r20 hr20.symm c21 r24 hr24.symm M23 hM23.symm
      exact b_iret hx hb hr hlocks hS ⟨_, rfl, _, ⟨(congrArg Prod.fst e25).symm, (congrArg Prod.snd e25).symm⟩, hB⟩ dX7_whyDam_50

def f_X7_save (M : bM) (x1 : Int32) : Int32 × bM := (let r11 : Int32 := f_X7_in x1.toInt64 0 1; (if r11 = 0 then (let r14 : Int32 := (f_X7_refused M 1).1; (let M13 : bM := (f_X7_refused M 1).2; (0, M13))) else (let r18 : Int32 := (f_X7_refused M 0).1; (let M17 : bM := (f_X7_refused M 0).2; (let M20 : bM := f_X7_copyState M17 2 404 0 5 808 ((404 : Int32) * x1); (let M21 : bM := up2 M20 6 x1.toNatClampNeg 1; ((M21 2 3), M21)))))))
theorem u_f_X7_save (M : bM) (x1 : Int32) : f_X7_save M x1 = (let r11 : Int32 := f_X7_in x1.toInt64 0 1; (if r11 = 0 then (let r14 : Int32 := (f_X7_refused M 1).1; (let M13 : bM := (f_X7_refused M 1).2; (0, M13))) else (let r18 : Int32 := (f_X7_refused M 0).1; (let M17 : bM := (f_X7_refused M 0).2; (let M20 : bM := f_X7_copyState M17 2 404 0 5 808 ((404 : Int32) * x1); (let M21 : bM := up2 M20 6 x1.toNatClampNeg 1; ((M21 2 3), M21))))))) := rfl
theorem p_X7_save_e16 (M : bM) (x1 : Int32) (r11 : Int32) (hr11 : f_X7_in x1.toInt64 0 1 = r11) (c12 : r11 = 0) (r14 : Int32) (hr14 : (f_X7_refused M 1).1 = r14) (M13 : bM) (hM13 : (f_X7_refused M 1).2 = M13) : f_X7_save M x1 = (0, M13) := by subst hM13 hr14 hr11; exact Eq.trans (u_f_X7_save M x1) (if_pos c12)
theorem p_X7_save_e22 (M : bM) (x1 : Int32) (r11 : Int32) (hr11 : f_X7_in x1.toInt64 0 1 = r11) (c12 : ¬ r11 = 0) (r18 : Int32) (hr18 : (f_X7_refused M 0).1 = r18) (M17 : bM) (hM17 : (f_X7_refused M 0).2 = M17) (M20 : bM) (hM20 : f_X7_copyState M17 2 404 0 5 808 ((404 : Int32) * x1) = M20) (M21 : bM) (hM21 : up2 M20 6 x1.toNatClampNeg 1 = M21) : f_X7_save M x1 = ((M21 2 3), M21) := by subst hM21 hM20 hM17 hr18 hr11; exact Eq.trans (u_f_X7_save M x1) (if_neg c12)
theorem fr_X7_save (M : bM) (x1 : Int32) (k : Nat) (hk5 : k ≠ 5) (hk6 : k ≠ 6) (hk0 : k ≠ 0) : (f_X7_save M x1).2 k = M k := by
  obtain ⟨r11, hr11⟩ : ∃ y : Int32, y = f_X7_in x1.toInt64 0 1 := ⟨_, rfl⟩
  by_cases c12 : r11 = 0
  · obtain ⟨r14, hr14⟩ : ∃ y : Int32, y = (f_X7_refused M 1).1 := ⟨_, rfl⟩
    obtain ⟨M13, hM13⟩ : ∃ y : bM, y = (f_X7_refused M 1).2 := ⟨_, rfl⟩
    rw [p_X7_save_e16 M x1 r11 hr11.symm c12 r14 hr14.symm M13 hM13.symm]
    try dsimp only
    rw [hM13, fr_X7_refused M 1 k (by omega)]
  · obtain ⟨r18, hr18⟩ : ∃ y : Int32, y = (f_X7_refused M 0).1 := ⟨_, rfl⟩
    obtain ⟨M17, hM17⟩ : ∃ y : bM, y = (f_X7_refused M 0).2 := ⟨_, rfl⟩
    obtain ⟨M20, hM20⟩ : ∃ y : bM, y = f_X7_copyState M17 2 404 0 5 808 ((404 : Int32) * x1) := ⟨_, rfl⟩
    obtain ⟨M21, hM21⟩ : ∃ y : bM, y = up2 M20 6 x1.toNatClampNeg 1 := ⟨_, rfl⟩
    rw [p_X7_save_e22 M x1 r11 hr11.symm c12 r18 hr18.symm M17 hM17.symm M20 hM20.symm M21 hM21.symm]
    try dsimp only
    rw [hM21, up2_row (by omega), hM20, fr_X7_copyState M17 2 404 0 5 808 ((404 : Int32) * x1) k (by omega), hM17, fr_X7_refused M 0 k (by omega)]
set_option maxHeartbeats 4000000 in
set_option maxRecDepth 100000 in
theorem c_X7_save (l : Launch) (D : va_G) (E : Nat → ClassId) (o : Nat) (M : bM) (x1 : Int32) : Met l yX7_save wsX7_save (rmF 1) (bPc D E [.ref (o + 0), .int x1] (fun H => bk D E LRR o M H)) (bQ (aI fun r H => ∃ M1 : bM, (r = (f_X7_save M x1).1 ∧ M1 = (f_X7_save M x1).2) ∧ bk D E LRR o M1 H) (rB o)) 0 0 (rB o) := by
  refine Met.ofW (cc := cX7_save) (maxL := 2) (ret := (some .int)) (by decide) rfl ?_
  intro p e s m args below meth c s₁ B hml hv
  obtain ⟨rfl, hB, hK⟩ := hv
  have hx := B.exec
  have hb := B.bytes
  have hr := B.returns
  have hts := atoms_spec (ws := wsX7_save) B.pre
  have hown : s.vm.findClass RX7 = some m.cls := findClass_of_methodNamed B.named
  have hlocks := B.notSynchronized
  have hS : bS (rB o) s.heap s.heap [] := bS.rf
  have hl := lv_entry ([.ref (o + 0), .int x1]) (n := 2) (Nat.le_of_ble_eq_true rfl)
  rw [lg_entry_eq]
  generalize (lg_sl ([.ref (o + 0), .int x1]) ++ List.replicate (2 - (lg_sl ([.ref (o + 0), .int x1])).length) Slot.unset).toArray = ls at hl ⊢
  have hl : lv_has ls 2 [(0, .ref (o + 0)), (1, .int x1)] := hl
  have hB : bk D E LRR o M s.heap := hB
  have hinX7 : ∀ w ∈ wsX70, w ∈ wsX7_save := by decide +kernel
  refine lv_aload_n hx hb dX7_save_0 rfl (lv_at hl 0 rfl) ?_
  refine lv_iload_n hx hb dX7_save_1 rfl (lv_at hl 1 rfl) ?_
  refine lv_i2l hx hb dX7_save_2 rfl ?_
  refine lv_lconst (v := 0) hx hb dX7_save_3 (by decide) ?_
  refine lv_lconst (v := 1) hx hb dX7_save_4 (by decide) ?_
  refine b_pI (b_runS (As := [.long x1.toInt64, .long 0, .long 1]) (rest := [.ref (o + 0)]) ⟨hx, hb, hml, hown, hts⟩ (c_X7_in l D E x1.toInt64 0 1) (va_cwS 3 hts gX7_save_X7_in rfl rfl rfl (by decide +kernel) ⟨Nat.le_of_ble_eq_true rfl, Nat.le_of_ble_eq_true rfl⟩) hK trivial rfl hl rfl (Nat.le_of_ble_eq_true rfl) dX7_save_5 ⟨Nat.zero_le _, Nat.zero_le _⟩) hS (fun r11 hr11 locs hS => ?_)
  refine lv_if_eq (tgt := 15) hx hb dX7_save_8 (by decide) (fun c12 => ?_) (fun c12 => ?_)
  · refine lv_iconst (v := 1) hx hb dX7_save_15 (by decide) ?_
    refine b_mI (b_runV (As := [.int 1]) (rest := []) ⟨hx, hb, hml, hown, hts⟩ (c_X7_refused l D E o M 1) (cwV 1 hts gX7_save_X7_refused rfl rfl rfl (by decide +kernel) ⟨Nat.le_of_ble_eq_true rfl, Nat.le_of_ble_eq_true rfl⟩) hK (bk_recv hK.1 hB lay_m0 rfl) hB rfl hl rfl (Nat.le_of_ble_eq_true rfl) dX7_save_16 ⟨Nat.zero_le _, Nat.zero_le _⟩) hS (fun q h => h) (fun r14 M13 hM13 H locs hB _ hS => ?_)
    obtain ⟨hr14, hM13⟩ := hM13
    have hkr14 : r14 = 1 := by rw [hr14]; rfl
    refine lv_const (y := 1) hkr14 ?_
    refine lv_if_eq (tgt := 24) hx hb dX7_save_19 (by decide) (fun c15 => absurd c15 (by decide)) (fun c15 => ?_)
    refine lv_iconst (v := 0) hx hb dX7_save_22 (by decide) ?_
    have e16 := p_X7_save_e16 M x1 r11 hr11.symm c12 r14 hr14.symm M13 hM13.symm
    exact b_iret hx hb hr hlocks hS ⟨_, rfl, _, ⟨(congrArg Prod.fst e16).symm, (congrArg Prod.snd e16).symm⟩, hB⟩ dX7_save_23
  · refine lv_iconst (v := 0) hx hb dX7_save_11 (by decide) ?_
    refine lv_goto (tgt := 16) hx hb dX7_save_12 (by decide) ?_
    refine b_mI (b_runV (As := [.int 0]) (rest := []) ⟨hx, hb, hml, hown, hts⟩ (c_X7_refused l D E o M 0) (cwV 1 hts gX7_save_X7_refused rfl rfl rfl (by decide +kernel) ⟨Nat.le_of_ble_eq_true rfl, Nat.le_of_ble_eq_true rfl⟩) hK (bk_recv hK.1 hB lay_m0 rfl) hB rfl hl rfl (Nat.le_of_ble_eq_true rfl) dX7_save_16 ⟨Nat.zero_le _, Nat.zero_le _⟩) hS (fun q h => h) (fun r18 M17 hM17 H locs hB _ hS => ?_)
    obtain ⟨hr18, hM17⟩ := hM17
    have hkr18 : r18 = 0 := by rw [hr18]; rfl
    refine lv_const (y := 0) hkr18 ?_
    refine lv_if_eq (tgt := 24) hx hb dX7_save_19 (by decide) (fun c19 => ?_) (fun c19 => absurd (by decide) c19)
    refine lv_aload_n hx hb dX7_save_24 rfl (lv_at hl 0 rfl) ?_
    refine b_get (D := D) (E := E) (L := LRR) (o := o) (M := M17) (v := .ref (o + 2)) (C := RX7) (T := TX7) (N := 13) hx hb hts hinX7 hown hK.1 hB 0 lay_m0 rfl 3 (by decide) (hts (.fieldLink RX7 13 "RiverMeetingModel" "now" "[I") (List.mem_of_getElem? (i := 1) rfl)) (fun _ h9 => h9) rfl dX7_save_25 ?_
    refine lv_iconst (v := 0) hx hb dX7_save_28 (by decide) ?_
    refine lv_aload_n hx hb dX7_save_29 rfl (lv_at hl 0 rfl) ?_
    refine b_get (D := D) (E := E) (L := LRR) (o := o) (M := M17) (v := .ref (o + 5)) (C := RX7) (T := TX7) (N := 13) hx hb hts hinX7 hown hK.1 hB 0 lay_m0 rfl 7 (by decide) (hts (.fieldLink RX7 22 "RiverMeetingModel" "kept" "[I") (List.mem_of_getElem? (i := 2) rfl)) (fun _ h9 => h9) rfl dX7_save_30 ?_
    refine lv_sipush (v := 404) hx hb dX7_save_33 (by decide) ?_
    refine lv_iload_n hx hb dX7_save_36 rfl (lv_at hl 1 rfl) ?_
    refine lv_imul hx hb dX7_save_37 ?_
    refine b_mV (b_runS (As := [.ref (o + 2), .int 0, .ref (o + 5), .int ((404 : Int32) * x1)]) (rest := []) ⟨hx, hb, hml, hown, hts⟩ (c_X7_copyState l D E o M17 2 404 0 5 808 ((404 : Int32) * x1) lay_m2 lay_m5 cs_0 (slot_ok (in_pb (in_rng 2 (by decide) (hr11 ▸ c12))))) (va_cwS 4 hts gX7_save_X7_copyState rfl rfl rfl (by decide +kernel) ⟨Nat.le_of_ble_eq_true rfl, Nat.le_of_ble_eq_true rfl⟩) hK hB rfl hl rfl (Nat.le_of_ble_eq_true rfl) dX7_save_38 ⟨Nat.zero_le _, Nat.zero_le _⟩) hS (fun q h => h) (fun M20 hM20 H locs hB _ hS => ?_)
    refine lv_aload_n hx hb dX7_save_41 rfl (lv_at hl 0 rfl) ?_
    refine b_get (D := D) (E := E) (L := LRR) (o := o) (M := M20) (v := .ref (o + 6)) (C := RX7) (T := TX7) (N := 13) hx hb hts hinX7 hown hK.1 hB 0 lay_m0 rfl 8 (by decide) (hts (.fieldLink RX7 25 "RiverMeetingModel" "isKept" "[Z") (List.mem_of_getElem? (i := 3) rfl)) (fun _ h9 => h9) rfl dX7_save_42 ?_
    refine lv_iload_n hx hb dX7_save_45 rfl (lv_at hl 1 rfl) ?_
    refine lv_iconst (v := 1) hx hb dX7_save_46 (by decide) ?_
    refine b_zast hx hb hK.1 hB hS 6 (rB_of lay_m6) lay_m6 (in_rng 2 (by decide) (hr11 ▸ c12)) dX7_save_47 (fun M21 hM21 H locs hB _ hS => ?_)
    rw [show vp_nar .boolean 1 = 1 from rfl] at hM21
    refine lv_aload_n hx hb dX7_save_48 rfl (lv_at hl 0 rfl) ?_
    refine b_get (D := D) (E := E) (L := LRR) (o := o) (M := M21) (v := .ref (o + 2)) (C := RX7) (T := TX7) (N := 13) hx hb hts hinX7 hown hK.1 hB 0 lay_m0 rfl 3 (by decide) (hts (.fieldLink RX7 13 "RiverMeetingModel" "now" "[I") (List.mem_of_getElem? (i := 1) rfl)) (fun _ h9 => h9) rfl dX7_save_49 ?_
    refine lv_iconst (v := 3) hx hb dX7_save_52 (by decide) ?_
    refine b_iald hx hb hK.1 hB 2 lay_m2 (vp_in_nI (n := 3) (by decide) (by decide)) dX7_save_53 ?_
    refine lv_const (y := M21 2 3) (by rfl) ?_
    have e22 := p_X7_save_e22 M x1 r11 hr11.symm c12 r18 hr18.symm M17 hM17.symm M20 hM20.symm M21 hM21.symm
    exact b_iret hx hb hr hlocks hS ⟨_, rfl, _, ⟨(congrArg Prod.fst e22).symm, (congrArg Prod.snd e22).symm⟩, hB⟩ dX7_save_54

def f_X7_restore (M : bM) (x1 : Int32) : Int32 × bM := (let r11 : Int32 := f_X7_in x1.toInt64 0 1; (if r11 = 0 then (let r25 : Int32 := (f_X7_refused M 1).1; (let M24 : bM := (f_X7_refused M 1).2; (0, M24))) else (if (M 6 x1.toNatClampNeg) = 0 then (let r21 : Int32 := (f_X7_refused M 2).1; (let M20 : bM := (f_X7_refused M 2).2; (0, M20))) else (let r15 : Int32 := (f_X7_refused M 0).1; (let M14 : bM := (f_X7_refused M 0).2; (let M17 : bM := f_X7_copyState M14 5 808 ((404 : Int32) * x1) 2 404 0; (let M18 : bM := up2 M17 0 6 0; ((M18 2 3), M18))))))))
theorem u_f_X7_restore (M : bM) (x1 : Int32) : f_X7_restore M x1 = (let r11 : Int32 := f_X7_in x1.toInt64 0 1; (if r11 = 0 then (let r25 : Int32 := (f_X7_refused M 1).1; (let M24 : bM := (f_X7_refused M 1).2; (0, M24))) else (if (M 6 x1.toNatClampNeg) = 0 then (let r21 : Int32 := (f_X7_refused M 2).1; (let M20 : bM := (f_X7_refused M 2).2; (0, M20))) else (let r15 : Int32 := (f_X7_refused M 0).1; (let M14 : bM := (f_X7_refused M 0).2; (let M17 : bM := f_X7_copyState M14 5 808 ((404 : Int32) * x1) 2 404 0; (let M18 : bM := up2 M17 0 6 0; ((M18 2 3), M18)))))))) := rfl
theorem p_X7_restore_e19 (M : bM) (x1 : Int32) (r11 : Int32) (hr11 : f_X7_in x1.toInt64 0 1 = r11) (c12 : ¬ r11 = 0) (c13 : ¬ (M 6 x1.toNatClampNeg) = 0) (r15 : Int32) (hr15 : (f_X7_refused M 0).1 = r15) (M14 : bM) (hM14 : (f_X7_refused M 0).2 = M14) (M17 : bM) (hM17 : f_X7_copyState M14 5 808 ((404 : Int32) * x1) 2 404 0 = M17) (M18 : bM) (hM18 : up2 M17 0 6 0 = M18) : f_X7_restore M x1 = ((M18 2 3), M18) := by subst hM18 hM17 hM14 hr15 hr11; exact Eq.trans (u_f_X7_restore M x1) (Eq.trans (if_neg c12) (if_neg c13))
theorem p_X7_restore_e23 (M : bM) (x1 : Int32) (r11 : Int32) (hr11 : f_X7_in x1.toInt64 0 1 = r11) (c12 : ¬ r11 = 0) (c13 : (M 6 x1.toNatClampNeg) = 0) (r21 : Int32) (hr21 : (f_X7_refused M 2).1 = r21) (M20 : bM) (hM20 : (f_X7_refused M 2).2 = M20) : f_X7_restore M x1 = (0, M20) := by subst hM20 hr21 hr11; exact Eq.trans (u_f_X7_restore M x1) (Eq.trans (if_neg c12) (if_pos c13))
theorem p_X7_restore_e27 (M : bM) (x1 : Int32) (r11 : Int32) (hr11 : f_X7_in x1.toInt64 0 1 = r11) (c12 : r11 = 0) (r25 : Int32) (hr25 : (f_X7_refused M 1).1 = r25) (M24 : bM) (hM24 : (f_X7_refused M 1).2 = M24) : f_X7_restore M x1 = (0, M24) := by subst hM24 hr25 hr11; exact Eq.trans (u_f_X7_restore M x1) (if_pos c12)
theorem fr_X7_restore (M : bM) (x1 : Int32) (k : Nat) (hk2 : k ≠ 2) (hk0 : k ≠ 0) : (f_X7_restore M x1).2 k = M k := by
  obtain ⟨r11, hr11⟩ : ∃ y : Int32, y = f_X7_in x1.toInt64 0 1 := ⟨_, rfl⟩
  by_cases c12 : r11 = 0
  · obtain ⟨r25, hr25⟩ : ∃ y : Int32, y = (f_X7_refused M 1).1 := ⟨_, rfl⟩
    obtain ⟨M24, hM24⟩ : ∃ y : bM, y = (f_X7_refused M 1).2 := ⟨_, rfl⟩
    rw [p_X7_restore_e27 M x1 r11 hr11.symm c12 r25 hr25.symm M24 hM24.symm]
    try dsimp only
    rw [hM24, fr_X7_refused M 1 k (by omega)]
  · by_cases c13 : (M 6 x1.toNatClampNeg) = 0
    · obtain ⟨r21, hr21⟩ : ∃ y : Int32, y = (f_X7_refused M 2).1 := ⟨_, rfl⟩
      obtain ⟨M20, hM20⟩ : ∃ y : bM, y = (f_X7_refused M 2).2 := ⟨_, rfl⟩
      rw [p_X7_restore_e23 M x1 r11 hr11.symm c12 c13 r21 hr21.symm M20 hM20.symm]
      try dsimp only
      rw [hM20, fr_X7_refused M 2 k (by omega)]
    · obtain ⟨r15, hr15⟩ : ∃ y : Int32, y = (f_X7_refused M 0).1 := ⟨_, rfl⟩
      obtain ⟨M14, hM14⟩ : ∃ y : bM, y = (f_X7_refused M 0).2 := ⟨_, rfl⟩
      obtain ⟨M17, hM17⟩ : ∃ y : bM, y = f_X7_copyState M14 5 808 ((404 : Int32) * x1) 2 404 0 := ⟨_, rfl⟩
      obtain ⟨M18, hM18⟩ : ∃ y : bM, y = up2 M17 0 6 0 := ⟨_, rfl⟩
      rw [p_X7_restore_e19 M x1 r11 hr11.symm c12 c13 r15 hr15.symm M14 hM14.symm M17 hM17.symm M18 hM18.symm]
      try dsimp only
      rw [hM18, up2_row (by omega), hM17, fr_X7_copyState M14 5 808 ((404 : Int32) * x1) 2 404 0 k (by omega), hM14, fr_X7_refused M 0 k (by omega)]
set_option maxHeartbeats 4000000 in
set_option maxRecDepth 100000 in
theorem c_X7_restore (l : Launch) (D : va_G) (E : Nat → ClassId) (o : Nat) (M : bM) (x1 : Int32) : Met l yX7_restore wsX7_restore (rmF 1) (bPc D E [.ref (o + 0), .int x1] (fun H => bk D E LRR o M H)) (bQ (aI fun r H => ∃ M1 : bM, (r = (f_X7_restore M x1).1 ∧ M1 = (f_X7_restore M x1).2) ∧ bk D E LRR o M1 H) (rB o)) 0 0 (rB o) := by
  refine Met.ofW (cc := cX7_restore) (maxL := 2) (ret := (some .int)) (by decide) rfl ?_
  intro p e s m args below meth c s₁ B hml hv
  obtain ⟨rfl, hB, hK⟩ := hv
  have hx := B.exec
  have hb := B.bytes
  have hr := B.returns
  have hts := atoms_spec (ws := wsX7_restore) B.pre
  have hown : s.vm.findClass RX7 = some m.cls := findClass_of_methodNamed B.named
  have hlocks := B.notSynchronized
  have hS : bS (rB o) s.heap s.heap [] := bS.rf
  have hl := lv_entry ([.ref (o + 0), .int x1]) (n := 2) (Nat.le_of_ble_eq_true rfl)
  rw [lg_entry_eq]
  generalize (lg_sl ([.ref (o + 0), .int x1]) ++ List.replicate (2 - (lg_sl ([.ref (o + 0), .int x1])).length) Slot.unset).toArray = ls at hl ⊢
  have hl : lv_has ls 2 [(0, .ref (o + 0)), (1, .int x1)] := hl
  have hB : bk D E LRR o M s.heap := hB
  have hinX7 : ∀ w ∈ wsX70, w ∈ wsX7_restore := by decide +kernel
  refine lv_aload_n hx hb dX7_restore_0 rfl (lv_at hl 0 rfl) ?_
  refine lv_iload_n hx hb dX7_restore_1 rfl (lv_at hl 1 rfl) ?_
  refine lv_i2l hx hb dX7_restore_2 rfl ?_
  refine lv_lconst (v := 0) hx hb dX7_restore_3 (by decide) ?_
  refine lv_lconst (v := 1) hx hb dX7_restore_4 (by decide) ?_
  refine b_pI (b_runS (As := [.long x1.toInt64, .long 0, .long 1]) (rest := [.ref (o + 0)]) ⟨hx, hb, hml, hown, hts⟩ (c_X7_in l D E x1.toInt64 0 1) (va_cwS 3 hts gX7_restore_X7_in rfl rfl rfl (by decide +kernel) ⟨Nat.le_of_ble_eq_true rfl, Nat.le_of_ble_eq_true rfl⟩) hK trivial rfl hl rfl (Nat.le_of_ble_eq_true rfl) dX7_restore_5 ⟨Nat.zero_le _, Nat.zero_le _⟩) hS (fun r11 hr11 locs hS => ?_)
  refine lv_if_ne (tgt := 15) hx hb dX7_restore_8 (by decide) (fun c12 => ?_) (fun c12 => ?_)
  · refine lv_aload_n hx hb dX7_restore_15 rfl (lv_at hl 0 rfl) ?_
    refine b_get (D := D) (E := E) (L := LRR) (o := o) (M := M) (v := .ref (o + 6)) (C := RX7) (T := TX7) (N := 13) hx hb hts hinX7 hown hK.1 hB 0 lay_m0 rfl 8 (by decide) (hts (.fieldLink RX7 25 "RiverMeetingModel" "isKept" "[Z") (List.mem_of_getElem? (i := 1) rfl)) (fun _ h9 => h9) rfl dX7_restore_16 ?_
    refine lv_iload_n hx hb dX7_restore_19 rfl (lv_at hl 1 rfl) ?_
    refine b_zald hx hb hK.1 hB 6 lay_m6 (in_rng 2 (by decide) (hr11 ▸ c12)) dX7_restore_20 ?_
    refine lv_if_ne (tgt := 28) hx hb dX7_restore_21 (by decide) (fun c13 => ?_) (fun c13 => ?_)
    · refine lv_iconst (v := 0) hx hb dX7_restore_28 (by decide) ?_
      refine b_mI (b_runV (As := [.int 0]) (rest := []) ⟨hx, hb, hml, hown, hts⟩ (c_X7_refused l D E o M 0) (cwV 1 hts gX7_restore_X7_refused rfl rfl rfl (by decide +kernel) ⟨Nat.le_of_ble_eq_true rfl, Nat.le_of_ble_eq_true rfl⟩) hK (bk_recv hK.1 hB lay_m0 rfl) hB rfl hl rfl (Nat.le_of_ble_eq_true rfl) dX7_restore_29 ⟨Nat.zero_le _, Nat.zero_le _⟩) hS (fun q h => h) (fun r15 M14 hM14 H locs hB _ hS => ?_)
      obtain ⟨hr15, hM14⟩ := hM14
      have hkr15 : r15 = 0 := by rw [hr15]; rfl
      refine lv_const (y := 0) hkr15 ?_
      refine lv_if_eq (tgt := 37) hx hb dX7_restore_32 (by decide) (fun c16 => ?_) (fun c16 => absurd (by decide) c16)
      refine lv_aload_n hx hb dX7_restore_37 rfl (lv_at hl 0 rfl) ?_
      refine b_get (D := D) (E := E) (L := LRR) (o := o) (M := M14) (v := .ref (o + 5)) (C := RX7) (T := TX7) (N := 13) hx hb hts hinX7 hown hK.1 hB 0 lay_m0 rfl 7 (by decide) (hts (.fieldLink RX7 22 "RiverMeetingModel" "kept" "[I") (List.mem_of_getElem? (i := 2) rfl)) (fun _ h9 => h9) rfl dX7_restore_38 ?_
      refine lv_sipush (v := 404) hx hb dX7_restore_41 (by decide) ?_
      refine lv_iload_n hx hb dX7_restore_44 rfl (lv_at hl 1 rfl) ?_
      refine lv_imul hx hb dX7_restore_45 ?_
      refine lv_aload_n hx hb dX7_restore_46 rfl (lv_at hl 0 rfl) ?_
      refine b_get (D := D) (E := E) (L := LRR) (o := o) (M := M14) (v := .ref (o + 2)) (C := RX7) (T := TX7) (N := 13) hx hb hts hinX7 hown hK.1 hB 0 lay_m0 rfl 3 (by decide) (hts (.fieldLink RX7 13 "RiverMeetingModel" "now" "[I") (List.mem_of_getElem? (i := 3) rfl)) (fun _ h9 => h9) rfl dX7_restore_47 ?_
      refine lv_iconst (v := 0) hx hb dX7_restore_50 (by decide) ?_
      refine b_mV (b_runS (As := [.ref (o + 5), .int ((404 : Int32) * x1), .ref (o + 2), .int 0]) (rest := []) ⟨hx, hb, hml, hown, hts⟩ (c_X7_copyState l D E o M14 5 808 ((404 : Int32) * x1) 2 404 0 lay_m5 lay_m2 (slot_ok (in_pb (in_rng 2 (by decide) (hr11 ▸ c12)))) cs_0) (va_cwS 4 hts gX7_restore_X7_copyState rfl rfl rfl (by decide +kernel) ⟨Nat.le_of_ble_eq_true rfl, Nat.le_of_ble_eq_true rfl⟩) hK hB rfl hl rfl (Nat.le_of_ble_eq_true rfl) dX7_restore_51 ⟨Nat.zero_le _, Nat.zero_le _⟩) hS (fun q h => h) (fun M17 hM17 H locs hB _ hS => ?_)
      refine lv_aload_n hx hb dX7_restore_54 rfl (lv_at hl 0 rfl) ?_
      refine lv_iconst (v := 0) hx hb dX7_restore_55 (by decide) ?_
      refine b_put (D := D) (E := E) (L := LRR) (o := o) (M := M17) (v := 0) (ty := .int) (C := RX7) (T := TX7) (N := 13) hx hb hts hinX7 tyX7 tyX7_ok nmX7 hown hK.1 hB hS 0 (rB_of lay_m0) lay_m0 rfl 6 (by decide) rfl (hts (.fieldLink RX7 196 "RiverMeetingModel" "acts" "I") (List.mem_of_getElem? (i := 4) rfl)) (fun _ h9 => h9) rfl (by decide +kernel) rfl rfl dX7_restore_56 (fun M18 hM18 H locs hB _ hS => ?_)
      refine lv_aload_n hx hb dX7_restore_59 rfl (lv_at hl 0 rfl) ?_
      refine b_get (D := D) (E := E) (L := LRR) (o := o) (M := M18) (v := .ref (o + 2)) (C := RX7) (T := TX7) (N := 13) hx hb hts hinX7 hown hK.1 hB 0 lay_m0 rfl 3 (by decide) (hts (.fieldLink RX7 13 "RiverMeetingModel" "now" "[I") (List.mem_of_getElem? (i := 3) rfl)) (fun _ h9 => h9) rfl dX7_restore_60 ?_
      refine lv_iconst (v := 3) hx hb dX7_restore_63 (by decide) ?_
      refine b_iald hx hb hK.1 hB 2 lay_m2 (vp_in_nI (n := 3) (by decide) (by decide)) dX7_restore_64 ?_
      refine lv_const (y := M18 2 3) (by rfl) ?_
      have e19 := p_X7_restore_e19 M x1 r11 hr11.symm c12 c13 r15 hr15.symm M14 hM14.symm M17 hM17.symm M18 hM18.symm
      exact b_iret hx hb hr hlocks hS ⟨_, rfl, _, ⟨(congrArg Prod.fst e19).symm, (congrArg Prod.snd e19).symm⟩, hB⟩ dX7_restore_65
    · refine lv_iconst (v := 2) hx hb dX7_restore_24 (by decide) ?_
      refine lv_goto (tgt := 29) hx hb dX7_restore_25 (by decide) ?_
      refine b_mI (b_runV (As := [.int 2]) (rest := []) ⟨hx, hb, hml, hown, hts⟩ (c_X7_refused l D E o M 2) (cwV 1 hts gX7_restore_X7_refused rfl rfl rfl (by decide +kernel) ⟨Nat.le_of_ble_eq_true rfl, Nat.le_of_ble_eq_true rfl⟩) hK (bk_recv hK.1 hB lay_m0 rfl) hB rfl hl rfl (Nat.le_of_ble_eq_true rfl) dX7_restore_29 ⟨Nat.zero_le _, Nat.zero_le _⟩) hS (fun q h => h) (fun r21 M20 hM20 H locs hB _ hS => ?_)
      obtain ⟨hr21, hM20⟩ := hM20
      have hkr21 : r21 = 1 := by rw [hr21]; rfl
      refine lv_const (y := 1) hkr21 ?_
      refine lv_if_eq (tgt := 37) hx hb dX7_restore_32 (by decide) (fun c22 => absurd c22 (by decide)) (fun c22 => ?_)
      refine lv_iconst (v := 0) hx hb dX7_restore_35 (by decide) ?_
      have e23 := p_X7_restore_e23 M x1 r11 hr11.symm c12 c13 r21 hr21.symm M20 hM20.symm
      exact b_iret hx hb hr hlocks hS ⟨_, rfl, _, ⟨(congrArg Prod.fst e23).symm, (congrArg Prod.snd e23).symm⟩, hB⟩ dX7_restore_36
  · refine lv_iconst (v := 1) hx hb dX7_restore_11 (by decide) ?_
    refine lv_goto (tgt := 29) hx hb dX7_restore_12 (by decide) ?_
    refine b_mI (b_runV (As := [.int 1]) (rest := []) ⟨hx, hb, hml, hown, hts⟩ (c_X7_refused l D E o M 1) (cwV 1 hts gX7_restore_X7_refused rfl rfl rfl (by decide +kernel) ⟨Nat.le_of_ble_eq_true rfl, Nat.le_of_ble_eq_true rfl⟩) hK (bk_recv hK.1 hB lay_m0 rfl) hB rfl hl rfl (Nat.le_of_ble_eq_true rfl) dX7_restore_29 ⟨Nat.zero_le _, Nat.zero_le _⟩) hS (fun q h => h) (fun r25 M24 hM24 H locs hB _ hS => ?_)
    obtain ⟨hr25, hM24⟩ := hM24
    have hkr25 : r25 = 1 := by rw [hr25]; rfl
    refine lv_const (y := 1) hkr25 ?_
    refine lv_if_eq (tgt := 37) hx hb dX7_restore_32 (by decide) (fun c26 => absurd c26 (by decide)) (fun c26 => ?_)
    refine lv_iconst (v := 0) hx hb dX7_restore_35 (by decide) ?_
    have e27 := p_X7_restore_e27 M x1 r11 hr11.symm c12 r25 hr25.symm M24 hM24.symm
    exact b_iret hx hb hr hlocks hS ⟨_, rfl, _, ⟨(congrArg Prod.fst e27).symm, (congrArg Prod.snd e27).symm⟩, hB⟩ dX7_restore_36
