theorem cell64 {x y : Int32} (hx : vp_in x 8) (hy : vp_in y 8) : vp_in ((8 : Int32) * y + x) 64 := by
  obtain ⟨i, hi, rfl⟩ := vp_in_of hx (by decide)
  obtain ⟨j, hj, rfl⟩ := vp_in_of hy (by decide)
  rw [show (8 : Int32) = nI 8 from rfl, pk_mul, nI_add]
  exact vp_in_nI (by omega) (by decide)
theorem in_rng {x : Int32} {h : Int64} (n : Nat) (e : h.toInt + 1 = n) (c : ¬ f_X7_in x.toInt64 0 h = 0) : vp_in x n := by
  have h1 := (in_iff _ _ _).mp c
  rw [Int32.toInt_toInt64] at h1
  have e0 : (0 : Int64).toInt = 0 := by decide
  rw [e0] at h1
  exact vp_in_iff.mpr ⟨h1.1, by omega⟩
theorem in_pb {x : Int32} (h : vp_in x 2) : x = 0 ∨ x = 1 := by
  obtain ⟨i, hi, rfl⟩ := vp_in_of h (by decide)
  rcases (by omega : i = 0 ∨ i = 1) with rfl | rfl
  · exact Or.inl rfl
  · exact Or.inr rfl
theorem pb_and {x : Int32} (h : x = 0 ∨ x = 1) : (x &&& 1) = 0 ∨ (x &&& 1) = 1 := by rcases h with rfl | rfl <;> decide
theorem pb_lt2 {x : Int32} {n : Nat} (h : vp_in x n) (h2 : ¬ 2 ≤ x) : x = 0 ∨ x = 1 := by
  obtain ⟨i, hi, rfl⟩ := nI_of (in_nneg h)
  have : i < 2 := by
    rcases Nat.lt_or_ge i 2 with q | q
    · exact q
    · exact absurd (nI_le q hi) h2
  exact pb_nI this
theorem in_addR (K : Nat) {i n : Nat} (h : i + K < n) (hn : n < 2 ^ 31) : vp_in (nI i + (OfNat.ofNat K : Int32)) n := by
  rw [show (OfNat.ofNat K : Int32) = nI K from rfl, nI_add]
  exact vp_in_nI h hn
theorem in_sub2 {x : Int32} {n : Nat} (hn : n < 1000) (h : vp_in x (n + 2)) (h0 : ¬ x = 0) (h1 : ¬ x = 1) : vp_in (x - 2) n := by
  obtain ⟨i, hi, rfl⟩ := vp_in_of h (by omega)
  have i0 : i ≠ 0 := fun q => h0 (by rw [q]; rfl)
  have i1 : i ≠ 1 := fun q => h1 (by rw [q]; rfl)
  rw [show (2 : Int32) = nI 2 from rfl, pk_sub (by omega)]
  exact vp_in_nI (by omega) (by omega)
theorem acts_ok {a : Int32} (h : vp_in a 14) : ∀ j : Nat, j < 404 → vp_in ((404 : Int32) * a + nI j) 5656 := by
  intro j hj
  obtain ⟨i, hi, rfl⟩ := vp_in_of h (by decide)
  rw [show (404 : Int32) = nI 404 from rfl, pk_mul, nI_add]
  exact vp_in_nI (by omega) (by decide)
theorem room_eq {M N : bM} {k : Nat} (e : N k = M k) (h : ∀ p : Int32, (p = 0 ∨ p = 1) → vp_in (f_X7_of M k p 4) 64) : ∀ p : Int32, (p = 0 ∨ p = 1) → vp_in (f_X7_of N k p 4) 64 := fun p hp => by
  have h1 := h p hp
  rw [u_f_X7_of] at h1 ⊢
  rw [e]
  exact h1
theorem fr_X7_refused (M : bM) (x1 : Int32) (k : Nat) (hk : k ≠ 0) : (f_X7_refused M x1).2 k = M k := by
  obtain ⟨M11, hM11⟩ : ∃ y : bM, y = up2 M 0 0 x1 := ⟨_, rfl⟩
  by_cases c12 : x1 ≤ 0
  · rw [p_X7_refused_e13 M x1 M11 hM11.symm c12]
    try dsimp only
    rw [hM11, up2_row (by omega)]
  · rw [p_X7_refused_e14 M x1 M11 hM11.symm c12]
    try dsimp only
    rw [hM11, up2_row (by omega)]

def f_X7_clearText (M : bM) : Int32 × bM := (let M11 : bM := up2 M 0 0 0; (let x12 : Int32 := (M11 0 2); (let M13 : bM := up2 M11 0 2 0; (x12, M13))))
theorem u_f_X7_clearText (M : bM) : f_X7_clearText M = (let M11 : bM := up2 M 0 0 0; (let x12 : Int32 := (M11 0 2); (let M13 : bM := up2 M11 0 2 0; (x12, M13)))) := rfl
theorem p_X7_clearText_e14 (M : bM) (M11 : bM) (hM11 : up2 M 0 0 0 = M11) (x12 : Int32) (hx12 : (M11 0 2) = x12) (M13 : bM) (hM13 : up2 M11 0 2 0 = M13) : f_X7_clearText M = (x12, M13) := by subst hM13 hx12 hM11; exact u_f_X7_clearText M
theorem fr_X7_clearText (M : bM) (k : Nat) (hk : k ≠ 0) : (f_X7_clearText M).2 k = M k := by
  obtain ⟨M11, hM11⟩ : ∃ y : bM, y = up2 M 0 0 0 := ⟨_, rfl⟩
  obtain ⟨x12, hx12⟩ : ∃ y : Int32, y = (M11 0 2) := ⟨_, rfl⟩
  obtain ⟨M13, hM13⟩ : ∃ y : bM, y = up2 M11 0 2 0 := ⟨_, rfl⟩
  rw [p_X7_clearText_e14 M M11 hM11.symm x12 hx12.symm M13 hM13.symm]
  try dsimp only
  rw [hM13, up2_row (by omega), hM11, up2_row (by omega)]
set_option maxHeartbeats 4000000 in
set_option maxRecDepth 100000 in
theorem c_X7_clearText (l : Launch) (D : va_G) (E : Nat → ClassId) (o : Nat) (M : bM)  : Met l yX7_clearText wsX7_clearText (rmF 0) (bPc D E [.ref (o + 0)] (fun H => bk D E LRR o M H)) (bQ (aI fun r H => ∃ M1 : bM, (r = (f_X7_clearText M).1 ∧ M1 = (f_X7_clearText M).2) ∧ bk D E LRR o M1 H) (rB o)) 0 0 (rB o) := by
  refine Met.ofW (cc := cX7_clearText) (maxL := 2) (ret := (some .int)) (by decide) rfl ?_
  intro p e s m args below meth c s₁ B hml hv
  obtain ⟨rfl, hB, hK⟩ := hv
  have hx := B.exec
  have hb := B.bytes
  have hr := B.returns
  have hts := atoms_spec (ws := wsX7_clearText) B.pre
  have hown : s.vm.findClass RX7 = some m.cls := findClass_of_methodNamed B.named
  have hlocks := B.notSynchronized
  have hS : bS (rB o) s.heap s.heap [] := bS.rf
  have hl := lv_entry ([.ref (o + 0)]) (n := 2) (Nat.le_of_ble_eq_true rfl)
  rw [lg_entry_eq]
  generalize (lg_sl ([.ref (o + 0)]) ++ List.replicate (2 - (lg_sl ([.ref (o + 0)])).length) Slot.unset).toArray = ls at hl ⊢
  have hl : lv_has ls 2 [(0, .ref (o + 0))] := hl
  have hB : bk D E LRR o M s.heap := hB
  have hinX7 : ∀ w ∈ wsX70, w ∈ wsX7_clearText := by decide +kernel
  refine lv_aload_n hx hb dX7_clearText_0 rfl (lv_at hl 0 rfl) ?_
  refine lv_iconst (v := 0) hx hb dX7_clearText_1 (by decide) ?_
  refine b_put (D := D) (E := E) (L := LRR) (o := o) (M := M) (v := 0) (ty := .int) (C := RX7) (T := TX7) (N := 13) hx hb hts hinX7 tyX7 tyX7_ok nmX7 hown hK.1 hB hS 0 (rB_of lay_m0) lay_m0 rfl 0 (by decide) rfl (hts (.fieldLink RX7 39 "RiverMeetingModel" "refusal" "I") (List.mem_of_getElem? (i := 1) rfl)) (fun _ h9 => h9) rfl (by decide +kernel) rfl rfl dX7_clearText_2 (fun M11 hM11 H locs hB _ hS => ?_)
  refine lv_aload_n hx hb dX7_clearText_5 rfl (lv_at hl 0 rfl) ?_
  refine b_get (D := D) (E := E) (L := LRR) (o := o) (M := M11) (v := .int (M11 0 2)) (C := RX7) (T := TX7) (N := 13) hx hb hts hinX7 hown hK.1 hB 0 lay_m0 rfl 2 (by decide) (hts (.fieldLink RX7 134 "RiverMeetingModel" "size" "I") (List.mem_of_getElem? (i := 2) rfl)) (fun _ h9 => h9) rfl dX7_clearText_6 ?_
  refine lv_topi (fun x12 hx12 => ?_)
  refine lv_istore_n (lv' := [(1, .int x12), (0, .ref (o + 0))]) hx hb dX7_clearText_9 rfl hl (by decide) rfl (fun ls hl => ?_)
  refine lv_aload_n hx hb dX7_clearText_10 rfl (lv_at hl 1 rfl) ?_
  refine lv_iconst (v := 0) hx hb dX7_clearText_11 (by decide) ?_
  refine b_put (D := D) (E := E) (L := LRR) (o := o) (M := M11) (v := 0) (ty := .int) (C := RX7) (T := TX7) (N := 13) hx hb hts hinX7 tyX7 tyX7_ok nmX7 hown hK.1 hB hS 0 (rB_of lay_m0) lay_m0 rfl 2 (by decide) rfl (hts (.fieldLink RX7 134 "RiverMeetingModel" "size" "I") (List.mem_of_getElem? (i := 2) rfl)) (fun _ h9 => h9) rfl (by decide +kernel) rfl rfl dX7_clearText_12 (fun M13 hM13 H locs hB _ hS => ?_)
  refine lv_iload_n hx hb dX7_clearText_15 rfl (lv_at hl 0 rfl) ?_
  have e14 := p_X7_clearText_e14 M M11 hM11.symm x12 hx12.symm M13 hM13.symm
  exact b_iret hx hb hr hlocks hS ⟨_, rfl, _, ⟨(congrArg Prod.fst e14).symm, (congrArg Prod.snd e14).symm⟩, hB⟩ dX7_clearText_16

def f_X7_done (M : bM) (x1 : Int32) : Int32 × bM := (if x1 = 0 then (let M12 : bM := up2 M 0 12 ((M 0 12) + 1); (1, M12)) else (let M14 : bM := up2 M 0 12 ((M 0 12) + 0); (1, M14)))
theorem u_f_X7_done (M : bM) (x1 : Int32) : f_X7_done M x1 = (if x1 = 0 then (let M12 : bM := up2 M 0 12 ((M 0 12) + 1); (1, M12)) else (let M14 : bM := up2 M 0 12 ((M 0 12) + 0); (1, M14))) := rfl
theorem p_X7_done_e13 (M : bM) (x1 : Int32) (c11 : x1 = 0) (M12 : bM) (hM12 : up2 M 0 12 ((M 0 12) + 1) = M12) : f_X7_done M x1 = (1, M12) := by subst hM12; exact Eq.trans (u_f_X7_done M x1) (if_pos c11)
theorem p_X7_done_e15 (M : bM) (x1 : Int32) (c11 : ¬ x1 = 0) (M14 : bM) (hM14 : up2 M 0 12 ((M 0 12) + 0) = M14) : f_X7_done M x1 = (1, M14) := by subst hM14; exact Eq.trans (u_f_X7_done M x1) (if_neg c11)
theorem fr_X7_done (M : bM) (x1 : Int32) (k : Nat) (hk : k ≠ 0) : (f_X7_done M x1).2 k = M k := by
  by_cases c11 : x1 = 0
  · obtain ⟨M12, hM12⟩ : ∃ y : bM, y = up2 M 0 12 ((M 0 12) + 1) := ⟨_, rfl⟩
    rw [p_X7_done_e13 M x1 c11 M12 hM12.symm]
    try dsimp only
    rw [hM12, up2_row (by omega)]
  · obtain ⟨M14, hM14⟩ : ∃ y : bM, y = up2 M 0 12 ((M 0 12) + 0) := ⟨_, rfl⟩
    rw [p_X7_done_e15 M x1 c11 M14 hM14.symm]
    try dsimp only
    rw [hM14, up2_row (by omega)]
set_option maxHeartbeats 4000000 in
set_option maxRecDepth 100000 in
theorem c_X7_done (l : Launch) (D : va_G) (E : Nat → ClassId) (o : Nat) (M : bM) (x1 : Int32) : Met l yX7_done wsX7_done (rmF 0) (bPc D E [.ref (o + 0), .int x1] (fun H => bk D E LRR o M H)) (bQ (aI fun r H => ∃ M1 : bM, (r = (f_X7_done M x1).1 ∧ M1 = (f_X7_done M x1).2) ∧ bk D E LRR o M1 H) (rB o)) 0 0 (rB o) := by
  refine Met.ofW (cc := cX7_done) (maxL := 2) (ret := (some .boolean)) (by decide) rfl ?_
  intro p e s m args below meth c s₁ B hml hv
  obtain ⟨rfl, hB, hK⟩ := hv
  have hx := B.exec
  have hb := B.bytes
  have hr := B.returns
  have hts := atoms_spec (ws := wsX7_done) B.pre
  have hown : s.vm.findClass RX7 = some m.cls := findClass_of_methodNamed B.named
  have hlocks := B.notSynchronized
  have hS : bS (rB o) s.heap s.heap [] := bS.rf
  have hl := lv_entry ([.ref (o + 0), .int x1]) (n := 2) (Nat.le_of_ble_eq_true rfl)
  rw [lg_entry_eq]
  generalize (lg_sl ([.ref (o + 0), .int x1]) ++ List.replicate (2 - (lg_sl ([.ref (o + 0), .int x1])).length) Slot.unset).toArray = ls at hl ⊢
  have hl : lv_has ls 2 [(0, .ref (o + 0)), (1, .int x1)] := hl
  have hB : bk D E LRR o M s.heap := hB
  have hinX7 : ∀ w ∈ wsX70, w ∈ wsX7_done := by decide +kernel
  refine lv_aload_n hx hb dX7_done_0 rfl (lv_at hl 0 rfl) ?_
  refine lv_dup hx hb dX7_done_1 rfl ?_
  refine b_get (D := D) (E := E) (L := LRR) (o := o) (M := M) (v := .int (M 0 12)) (C := RX7) (T := TX7) (N := 13) hx hb hts hinX7 hown hK.1 hB 0 lay_m0 rfl 12 (by decide) (hts (.fieldLink RX7 144 "RiverMeetingModel" "out" "I") (List.mem_of_getElem? (i := 1) rfl)) (fun _ h9 => h9) rfl dX7_done_2 ?_
  refine lv_iload_n hx hb dX7_done_5 rfl (lv_at hl 1 rfl) ?_
  refine lv_if_eq (tgt := 13) hx hb dX7_done_6 (by decide) (fun c11 => ?_) (fun c11 => ?_)
  · refine lv_iconst (v := 1) hx hb dX7_done_13 (by decide) ?_
    refine lv_iadd hx hb dX7_done_14 ?_
    refine b_put (D := D) (E := E) (L := LRR) (o := o) (M := M) (v := ((M 0 12) + 1)) (ty := .int) (C := RX7) (T := TX7) (N := 13) hx hb hts hinX7 tyX7 tyX7_ok nmX7 hown hK.1 hB hS 0 (rB_of lay_m0) lay_m0 rfl 12 (by decide) rfl (hts (.fieldLink RX7 144 "RiverMeetingModel" "out" "I") (List.mem_of_getElem? (i := 1) rfl)) (fun _ h9 => h9) rfl (by decide +kernel) rfl rfl dX7_done_15 (fun M12 hM12 H locs hB _ hS => ?_)
    refine lv_iconst (v := 1) hx hb dX7_done_18 (by decide) ?_
    have e13 := p_X7_done_e13 M x1 c11 M12 hM12.symm
    exact b_zret hx hb hr rfl hlocks hS ⟨_, rfl, _, ⟨(congrArg Prod.fst e13).symm, (congrArg Prod.snd e13).symm⟩, hB⟩ dX7_done_19
  · refine lv_iconst (v := 0) hx hb dX7_done_9 (by decide) ?_
    refine lv_goto (tgt := 14) hx hb dX7_done_10 (by decide) ?_
    refine lv_iadd hx hb dX7_done_14 ?_
    refine b_put (D := D) (E := E) (L := LRR) (o := o) (M := M) (v := ((M 0 12) + 0)) (ty := .int) (C := RX7) (T := TX7) (N := 13) hx hb hts hinX7 tyX7 tyX7_ok nmX7 hown hK.1 hB hS 0 (rB_of lay_m0) lay_m0 rfl 12 (by decide) rfl (hts (.fieldLink RX7 144 "RiverMeetingModel" "out" "I") (List.mem_of_getElem? (i := 1) rfl)) (fun _ h9 => h9) rfl (by decide +kernel) rfl rfl dX7_done_15 (fun M14 hM14 H locs hB _ hS => ?_)
    refine lv_iconst (v := 1) hx hb dX7_done_18 (by decide) ?_
    have e15 := p_X7_done_e15 M x1 c11 M14 hM14.symm
    exact b_zret hx hb hr rfl hlocks hS ⟨_, rfl, _, ⟨(congrArg Prod.fst e15).symm, (congrArg Prod.snd e15).symm⟩, hB⟩ dX7_done_19

def lp_X7_about_30 (M17 : bM) : Nat → Nat → Int32 → (Int32)
  | 0, i20, x21 => x21
  | n20 + 1, i20, x21 => (let r25 : Int32 := f_X7_isDam M17 2 (nI i20); (if r25 = 0 then (let x27 : Int32 := (x21 + 0); lp_X7_about_30 M17 n20 (i20 + 1) x27) else (let x29 : Int32 := (x21 + 1); lp_X7_about_30 M17 n20 (i20 + 1) x29)))
theorem u0_lp_X7_about_30 (M17 : bM) (i20 : Nat) (x21 : Int32) : lp_X7_about_30 M17 0 i20 x21 = x21 := rfl
theorem u1_lp_X7_about_30 (M17 : bM) (n20 i20 : Nat) (x21 : Int32) : lp_X7_about_30 M17 (n20 + 1) i20 x21 = (let r25 : Int32 := f_X7_isDam M17 2 (nI i20); (if r25 = 0 then (let x27 : Int32 := (x21 + 0); lp_X7_about_30 M17 n20 (i20 + 1) x27) else (let x29 : Int32 := (x21 + 1); lp_X7_about_30 M17 n20 (i20 + 1) x29))) := rfl
def f_X7_about (M : bM) (x1 : Int32) : Int32 × bM := (let r11 : Int32 := f_X7_in x1.toInt64 0 8; (if r11 = 0 then (let r14 : Int32 := (f_X7_refused M 1).1; (let M13 : bM := (f_X7_refused M 1).2; (0, M13))) else (let r18 : Int32 := (f_X7_refused M 0).1; (let M17 : bM := (f_X7_refused M 0).2; (let x31 : Int32 := (lp_X7_about_30 M17 64 0 0); (if x1 = 2 then (let r33 : Int32 := f_X7_isUnderWay M17 2; (if r33 = 0 then ((-1), M17) else ((M17 2 2), M17))) else (if x1 = 4 then (x31, M17) else (if x1 = 5 then ((M17 2 (x1 - 1).toNatClampNeg), M17) else (if x1 = 6 then ((M17 2 (x1 - 1).toNatClampNeg), M17) else (if x1 = 7 then ((M17 2 (x1 - 1).toNatClampNeg), M17) else (if x1 = 8 then ((M17 2 (x1 - 1).toNatClampNeg), M17) else ((M17 2 x1.toNatClampNeg), M17))))))))))))
theorem u_f_X7_about (M : bM) (x1 : Int32) : f_X7_about M x1 = (let r11 : Int32 := f_X7_in x1.toInt64 0 8; (if r11 = 0 then (let r14 : Int32 := (f_X7_refused M 1).1; (let M13 : bM := (f_X7_refused M 1).2; (0, M13))) else (let r18 : Int32 := (f_X7_refused M 0).1; (let M17 : bM := (f_X7_refused M 0).2; (let x31 : Int32 := (lp_X7_about_30 M17 64 0 0); (if x1 = 2 then (let r33 : Int32 := f_X7_isUnderWay M17 2; (if r33 = 0 then ((-1), M17) else ((M17 2 2), M17))) else (if x1 = 4 then (x31, M17) else (if x1 = 5 then ((M17 2 (x1 - 1).toNatClampNeg), M17) else (if x1 = 6 then ((M17 2 (x1 - 1).toNatClampNeg), M17) else (if x1 = 7 then ((M17 2 (x1 - 1).toNatClampNeg), M17) else (if x1 = 8 then ((M17 2 (x1 - 1).toNatClampNeg), M17) else ((M17 2 x1.toNatClampNeg), M17)))))))))))) := rfl
theorem p_X7_about_e16 (M : bM) (x1 : Int32) (r11 : Int32) (hr11 : f_X7_in x1.toInt64 0 8 = r11) (c12 : r11 = 0) (r14 : Int32) (hr14 : (f_X7_refused M 1).1 = r14) (M13 : bM) (hM13 : (f_X7_refused M 1).2 = M13) : f_X7_about M x1 = (0, M13) := by subst hM13 hr14 hr11; exact Eq.trans (u_f_X7_about M x1) (if_pos c12)
theorem p_X7_about_e23 (M : bM) (x1 : Int32) (r11 : Int32) (r18 : Int32) (M17 : bM) (x21 : Int32) (i20 : Nat)  : lp_X7_about_30 M17 0 i20 x21 = x21 := by exact u0_lp_X7_about_30 M17 i20 x21
theorem p_X7_about_e28 (M : bM) (x1 : Int32) (r11 : Int32) (r18 : Int32) (M17 : bM) (x21 : Int32) (i20 : Nat) (n20 : Nat) (r25 : Int32) (hr25 : f_X7_isDam M17 2 (nI i20) = r25) (c26 : r25 = 0) (x27 : Int32) (hx27 : (x21 + 0) = x27) : lp_X7_about_30 M17 (n20 + 1) i20 x21 = lp_X7_about_30 M17 n20 (i20 + 1) x27 := by subst hx27 hr25; exact Eq.trans (u1_lp_X7_about_30 M17 n20 i20 x21) (if_pos c26)
theorem p_X7_about_e30 (M : bM) (x1 : Int32) (r11 : Int32) (r18 : Int32) (M17 : bM) (x21 : Int32) (i20 : Nat) (n20 : Nat) (r25 : Int32) (hr25 : f_X7_isDam M17 2 (nI i20) = r25) (c26 : ¬ r25 = 0) (x29 : Int32) (hx29 : (x21 + 1) = x29) : lp_X7_about_30 M17 (n20 + 1) i20 x21 = lp_X7_about_30 M17 n20 (i20 + 1) x29 := by subst hx29 hr25; exact Eq.trans (u1_lp_X7_about_30 M17 n20 i20 x21) (if_neg c26)
theorem p_X7_about_e35 (M : bM) (x1 : Int32) (r11 : Int32) (hr11 : f_X7_in x1.toInt64 0 8 = r11) (c12 : ¬ r11 = 0) (r18 : Int32) (hr18 : (f_X7_refused M 0).1 = r18) (M17 : bM) (hM17 : (f_X7_refused M 0).2 = M17) (x31 : Int32) (hx31 : (lp_X7_about_30 M17 64 0 0) = x31) (c32 : x1 = 2) (r33 : Int32) (hr33 : f_X7_isUnderWay M17 2 = r33) (c34 : r33 = 0) : f_X7_about M x1 = ((-1), M17) := by subst hr33 hx31 hM17 hr18 hr11; exact Eq.trans (u_f_X7_about M x1) (Eq.trans (if_neg c12) (Eq.trans (if_pos c32) (if_pos c34)))
theorem p_X7_about_e36 (M : bM) (x1 : Int32) (r11 : Int32) (hr11 : f_X7_in x1.toInt64 0 8 = r11) (c12 : ¬ r11 = 0) (r18 : Int32) (hr18 : (f_X7_refused M 0).1 = r18) (M17 : bM) (hM17 : (f_X7_refused M 0).2 = M17) (x31 : Int32) (hx31 : (lp_X7_about_30 M17 64 0 0) = x31) (c32 : x1 = 2) (r33 : Int32) (hr33 : f_X7_isUnderWay M17 2 = r33) (c34 : ¬ r33 = 0) : f_X7_about M x1 = ((M17 2 2), M17) := by subst hr33 hx31 hM17 hr18 hr11; exact Eq.trans (u_f_X7_about M x1) (Eq.trans (if_neg c12) (Eq.trans (if_pos c32) (if_neg c34)))
theorem p_X7_about_e38 (M : bM) (x1 : Int32) (r11 : Int32) (hr11 : f_X7_in x1.toInt64 0 8 = r11) (c12 : ¬ r11 = 0) (r18 : Int32) (hr18 : (f_X7_refused M 0).1 = r18) (M17 : bM) (hM17 : (f_X7_refused M 0).2 = M17) (x31 : Int32) (hx31 : (lp_X7_about_30 M17 64 0 0) = x31) (c32 : ¬ x1 = 2) (c37 : x1 = 4) : f_X7_about M x1 = (x31, M17) := by subst hx31 hM17 hr18 hr11; exact Eq.trans (u_f_X7_about M x1) (Eq.trans (if_neg c12) (Eq.trans (if_neg c32) (if_pos c37)))
theorem p_X7_about_e40 (M : bM) (x1 : Int32) (r11 : Int32) (hr11 : f_X7_in x1.toInt64 0 8 = r11) (c12 : ¬ r11 = 0) (r18 : Int32) (hr18 : (f_X7_refused M 0).1 = r18) (M17 : bM) (hM17 : (f_X7_refused M 0).2 = M17) (x31 : Int32) (hx31 : (lp_X7_about_30 M17 64 0 0) = x31) (c32 : ¬ x1 = 2) (c37 : ¬ x1 = 4) (c39 : x1 = 5) : f_X7_about M x1 = ((M17 2 (x1 - 1).toNatClampNeg), M17) := by subst hx31 hM17 hr18 hr11; exact Eq.trans (u_f_X7_about M x1) (Eq.trans (if_neg c12) (Eq.trans (if_neg c32) (Eq.trans (if_neg c37) (if_pos c39))))
theorem p_X7_about_e42 (M : bM) (x1 : Int32) (r11 : Int32) (hr11 : f_X7_in x1.toInt64 0 8 = r11) (c12 : ¬ r11 = 0) (r18 : Int32) (hr18 : (f_X7_refused M 0).1 = r18) (M17 : bM) (hM17 : (f_X7_refused M 0).2 = M17) (x31 : Int32) (hx31 : (lp_X7_about_30 M17 64 0 0) = x31) (c32 : ¬ x1 = 2) (c37 : ¬ x1 = 4) (c39 : ¬ x1 = 5) (c41 : x1 = 6) : f_X7_about M x1 = ((M17 2 (x1 - 1).toNatClampNeg), M17) := by subst hx31 hM17 hr18 hr11; exact Eq.trans (u_f_X7_about M x1) (Eq.trans (if_neg c12) (Eq.trans (if_neg c32) (Eq.trans (if_neg c37) (Eq.trans (if_neg c39) (if_pos c41)))))
theorem p_X7_about_e44 (M : bM) (x1 : Int32) (r11 : Int32) (hr11 : f_X7_in x1.toInt64 0 8 = r11) (c12 : ¬ r11 = 0) (r18 : Int32) (hr18 : (f_X7_refused M 0).1 = r18) (M17 : bM) (hM17 : (f_X7_refused M 0).2 = M17) (x31 : Int32) (hx31 : (lp_X7_about_30 M17 64 0 0) = x31) (c32 : ¬ x1 = 2) (c37 : ¬ x1 = 4) (c39 : ¬ x1 = 5) (c41 : ¬ x1 = 6) (c43 : x1 = 7) : f_X7_about M x1 = ((M17 2 (x1 - 1).toNatClampNeg), M17) := by subst hx31 hM17 hr18 hr11; exact Eq.trans (u_f_X7_about M x1) (Eq.trans (if_neg c12) (Eq.trans (if_neg c32) (Eq.trans (if_neg c37) (Eq.trans (if_neg c39) (Eq.trans (if_neg c41) (if_pos c43))))))
theorem p_X7_about_e46 (M : bM) (x1 : Int32) (r11 : Int32) (hr11 : f_X7_in x1.toInt64 0 8 = r11) (c12 : ¬ r11 = 0) (r18 : Int32) (hr18 : (f_X7_refused M 0).1 = r18) (M17 : bM) (hM17 : (f_X7_refused M 0).2 = M17) (x31 : Int32) (hx31 : (lp_X7_about_30 M17 64 0 0) = x31) (c32 : ¬ x1 = 2) (c37 : ¬ x1 = 4) (c39 : ¬ x1 = 5) (c41 : ¬ x1 = 6) (c43 : ¬ x1 = 7) (c45 : x1 = 8) : f_X7_about M x1 = ((M17 2 (x1 - 1).toNatClampNeg), M17) := by subst hx31 hM17 hr18 hr11; exact Eq.trans (u_f_X7_about M x1) (Eq.trans (if_neg c12) (Eq.trans (if_neg c32) (Eq.trans (if_neg c37) (Eq.trans (if_neg c39) (Eq.trans (if_neg c41) (Eq.trans (if_neg c43) (if_pos c45)))))))
theorem p_X7_about_e47 (M : bM) (x1 : Int32) (r11 : Int32) (hr11 : f_X7_in x1.toInt64 0 8 = r11) (c12 : ¬ r11 = 0) (r18 : Int32) (hr18 : (f_X7_refused M 0).1 = r18) (M17 : bM) (hM17 : (f_X7_refused M 0).2 = M17) (x31 : Int32) (hx31 : (lp_X7_about_30 M17 64 0 0) = x31) (c32 : ¬ x1 = 2) (c37 : ¬ x1 = 4) (c39 : ¬ x1 = 5) (c41 : ¬ x1 = 6) (c43 : ¬ x1 = 7) (c45 : ¬ x1 = 8) : f_X7_about M x1 = ((M17 2 x1.toNatClampNeg), M17) := by subst hx31 hM17 hr18 hr11; exact Eq.trans (u_f_X7_about M x1) (Eq.trans (if_neg c12) (Eq.trans (if_neg c32) (Eq.trans (if_neg c37) (Eq.trans (if_neg c39) (Eq.trans (if_neg c41) (Eq.trans (if_neg c43) (if_neg c45)))))))
set_option maxHeartbeats 4000000 in
set_option maxRecDepth 100000 in
theorem c_X7_about (l : Launch) (D : va_G) (E : Nat → ClassId) (o : Nat) (M : bM) (x1 : Int32) : Met l yX7_about wsX7_about (rmF 1) (bPc D E [.ref (o + 0), .int x1] (fun H => bk D E LRR o M H)) (bQ (aI fun r H => ∃ M1 : bM, (r = (f_X7_about M x1).1 ∧ M1 = (f_X7_about M x1).2) ∧ bk D E LRR o M1 H) (rB o)) 0 0 (rB o) := by
  refine Met.ofW (cc := cX7_about) (maxL := 4) (ret := (some .int)) (by decide) rfl ?_
  intro p e s m args below meth c s₁ B hml hv
  obtain ⟨rfl, hB, hK⟩ := hv
  have hx := B.exec
  have hb := B.bytes
  have hr := B.returns
  have hts := atoms_spec (ws := wsX7_about) B.pre
  have hown : s.vm.findClass RX7 = some m.cls := findClass_of_methodNamed B.named
  have hlocks := B.notSynchronized
  have hS : bS (rB o) s.heap s.heap [] := bS.rf
  have hl := lv_entry ([.ref (o + 0), .int x1]) (n := 4) (Nat.le_of_ble_eq_true rfl)
  rw [lg_entry_eq]
  generalize (lg_sl ([.ref (o + 0), .int x1]) ++ List.replicate (4 - (lg_sl ([.ref (o + 0), .int x1])).length) Slot.unset).toArray = ls at hl ⊢
  have hl : lv_has ls 4 [(0, .ref (o + 0)), (1, .int x1)] := hl
  have hB : bk D E LRR o M s.heap := hB
  have hinX7 : ∀ w ∈ wsX70, w ∈ wsX7_about := by decide +kernel
  refine lv_aload_n hx hb dX7_about_0 rfl (lv_at hl 0 rfl) ?_
  refine lv_iload_n hx hb dX7_about_1 rfl (lv_at hl 1 rfl) ?_
  refine lv_i2l hx hb dX7_about_2 rfl ?_
  refine lv_lconst (v := 0) hx hb dX7_about_3 (by decide) ?_
  refine lv_ldc2 (v := 8) hx hb hown (hts (.constantLong RX7 199 (8)) (List.mem_of_getElem? (i := 1) rfl)) dX7_about_4 ?_
  refine b_pI (b_runS (As := [.long x1.toInt64, .long 0, .long 8]) (rest := [.ref (o + 0)]) ⟨hx, hb, hml, hown, hts⟩ (c_X7_in l D E x1.toInt64 0 8) (va_cwS 3 hts gX7_about_X7_in rfl rfl rfl (by decide +kernel) ⟨Nat.le_of_ble_eq_true rfl, Nat.le_of_ble_eq_true rfl⟩) hK trivial rfl hl rfl (Nat.le_of_ble_eq_true rfl) dX7_about_7 ⟨Nat.zero_le _, Nat.zero_le _⟩) hS (fun r11 hr11 locs hS => ?_)
  refine lv_if_eq (tgt := 17) hx hb dX7_about_10 (by decide) (fun c12 => ?_) (fun c12 => ?_)
  · refine lv_iconst (v := 1) hx hb dX7_about_17 (by decide) ?_
    refine b_mI (b_runV (As := [.int 1]) (rest := []) ⟨hx, hb, hml, hown, hts⟩ (c_X7_refused l D E o M 1) (cwV 1 hts gX7_about_X7_refused rfl rfl rfl (by decide +kernel) ⟨Nat.le_of_ble_eq_true rfl, Nat.le_of_ble_eq_true rfl⟩) hK (bk_recv hK.1 hB lay_m0 rfl) hB rfl hl rfl (Nat.le_of_ble_eq_true rfl) dX7_about_18 ⟨Nat.zero_le _, Nat.zero_le _⟩) hS (fun q h => h) (fun r14 M13 hM13 H locs hB _ hS => ?_)
    obtain ⟨hr14, hM13⟩ := hM13
    have hkr14 : r14 = 1 := by rw [hr14]; rfl
    refine lv_const (y := 1) hkr14 ?_
    refine lv_if_eq (tgt := 26) hx hb dX7_about_21 (by decide) (fun c15 => absurd c15 (by decide)) (fun c15 => ?_)
    refine lv_iconst (v := 0) hx hb dX7_about_24 (by decide) ?_
    have e16 := p_X7_about_e16 M x1 r11 hr11.symm c12 r14 hr14.symm M13 hM13.symm
    exact b_iret hx hb hr hlocks hS ⟨_, rfl, _, ⟨(congrArg Prod.fst e16).symm, (congrArg Prod.snd e16).symm⟩, hB⟩ dX7_about_25
  · refine lv_iconst (v := 0) hx hb dX7_about_13 (by decide) ?_
    refine lv_goto (tgt := 18) hx hb dX7_about_14 (by decide) ?_
    refine b_mI (b_runV (As := [.int 0]) (rest := []) ⟨hx, hb, hml, hown, hts⟩ (c_X7_refused l D E o M 0) (cwV 1 hts gX7_about_X7_refused rfl rfl rfl (by decide +kernel) ⟨Nat.le_of_ble_eq_true rfl, Nat.le_of_ble_eq_true rfl⟩) hK (bk_recv hK.1 hB lay_m0 rfl) hB rfl hl rfl (Nat.le_of_ble_eq_true rfl) dX7_about_18 ⟨Nat.zero_le _, Nat.zero_le _⟩) hS (fun q h => h) (fun r18 M17 hM17 H locs hB _ hS => ?_)
    obtain ⟨hr18, hM17⟩ := hM17
    have hkr18 : r18 = 0 := by rw [hr18]; rfl
    refine lv_const (y := 0) hkr18 ?_
    refine lv_if_eq (tgt := 26) hx hb dX7_about_21 (by decide) (fun c19 => ?_) (fun c19 => absurd (by decide) c19)
    refine lv_iconst (v := 0) hx hb dX7_about_26 (by decide) ?_
    refine lv_istore_n (lv' := [(2, .int 0), (0, .ref (o + 0)), (1, .int x1)]) hx hb dX7_about_27 rfl hl (by decide) rfl (fun ls hl => ?_)
    refine lv_iconst (v := 0) hx hb dX7_about_28 (by decide) ?_
    refine lv_istore_n (lv' := [(3, .int 0), (2, .int 0), (0, .ref (o + 0)), (1, .int x1)]) hx hb dX7_about_29 rfl hl (by decide) rfl (fun ls hl => ?_)
    have lp20 : ∀ (n20 i20 : Nat) (x21 : Int32), i20 + n20 = 64 → ∀ (H : Heap) (locs : List Loc), bk D E LRR o M17 H → bS (rB o) s.heap H locs → ∀ ls : Array Slot, lv_has ls 4 [(3, .int (nI i20)), (2, .int x21), (0, .ref (o + 0)), (1, .int x1)] → (∀ (H : Heap) (locs : List Loc), bk D E LRR o M17 H → bS (rB o) s.heap H locs → ∀ ls : Array Slot, lv_has ls 4 [(2, .int (lp_X7_about_30 M17 n20 i20 x21)), (0, .ref (o + 0)), (1, .int x1)] → W p l e (headSpec wsX7_about (rmF 1)).room s m ([.ref (o + 0), .int x1] : List Value).toArray below meth c H locs 0 0 (MQ below (bQ (aI fun r H => ∃ M1 : bM, (r = (f_X7_about M x1).1 ∧ M1 = (f_X7_about M x1).2) ∧ bk D E LRR o M1 H) (rB o)) ([.ref (o + 0), .int x1] : List Value).toArray s 0 0 (rB o)) (F0 m 61 ls [])) → W p l e (headSpec wsX7_about (rmF 1)).room s m ([.ref (o + 0), .int x1] : List Value).toArray below meth c H locs 0 0 (MQ below (bQ (aI fun r H => ∃ M1 : bM, (r = (f_X7_about M x1).1 ∧ M1 = (f_X7_about M x1).2) ∧ bk D E LRR o M1 H) (rB o)) ([.ref (o + 0), .int x1] : List Value).toArray s 0 0 (rB o)) (F0 m 30 ls []) := by
      intro n20
      induction n20 with
      | zero =>
        intro i20 x21 hi20 H locs hB hS ls hl hexit20
        have hz20 : i20 = 64 := by omega
        refine lv_iload_n hx hb dX7_about_30 rfl (lv_at hl 0 rfl) ?_
        refine lv_bipush (v := 64) hx hb dX7_about_31 (by decide) ?_
        refine lv_icmp_ge (tgt := 61) hx hb dX7_about_33 (by decide) (fun c22 => ?_) (fun c22 => absurd (by rw [hz20]; exact Int32.le_refl _) c22)
        have e23 := p_X7_about_e23 M x1 r11 r18 M17 x21 i20 
        rw [e23] at hexit20
        exact hexit20 _ _  hB hS ls (lv_sub hl [1, 2, 3] rfl)
      | succ n20 ih20 =>
        intro i20 x21 hi20 H locs hB hS ls hl hexit20
        refine lv_iload_n hx hb dX7_about_30 rfl (lv_at hl 0 rfl) ?_
        refine lv_bipush (v := 64) hx hb dX7_about_31 (by decide) ?_
        refine lv_icmp_ge (tgt := 61) hx hb dX7_about_33 (by decide) (fun c24 => absurd c24 (nI_ge (a := i20) (b := 64) (by omega) (by decide))) (fun c24 => ?_)
        refine lv_iload_n hx hb dX7_about_36 rfl (lv_at hl 1 rfl) ?_
        refine lv_aload_n hx hb dX7_about_37 rfl (lv_at hl 2 rfl) ?_
        refine b_get (D := D) (E := E) (L := LRR) (o := o) (M := M17) (v := .ref (o + 2)) (C := RX7) (T := TX7) (N := 13) hx hb hts hinX7 hown hK.1 hB 0 lay_m0 rfl 3 (by decide) (hts (.fieldLink RX7 13 "RiverMeetingModel" "now" "[I") (List.mem_of_getElem? (i := 2) rfl)) (fun _ h9 => h9) rfl dX7_about_38 ?_
        refine lv_iload_n hx hb dX7_about_41 rfl (lv_at hl 0 rfl) ?_
        refine b_pI (b_runS (As := [.ref (o + 2), .int (nI i20)]) (rest := [.int x21]) ⟨hx, hb, hml, hown, hts⟩ (c_X7_isDam l D E o M17 2 (nI i20) lay_m2 (vp_in_nI (by omega) (by decide))) (va_cwS 2 hts gX7_about_X7_isDam rfl rfl rfl (by decide +kernel) ⟨Nat.le_of_ble_eq_true rfl, Nat.le_of_ble_eq_true rfl⟩) hK hB rfl hl rfl (Nat.le_of_ble_eq_true rfl) dX7_about_42 ⟨Nat.zero_le _, Nat.zero_le _⟩) hS (fun r25 hr25 locs hS => ?_)
        refine lv_if_eq (tgt := 52) hx hb dX7_about_45 (by decide) (fun c26 => ?_) (fun c26 => ?_)
        · refine lv_iconst (v := 0) hx hb dX7_about_52 (by decide) ?_
          refine lv_iadd hx hb dX7_about_53 ?_
          refine lv_topi (fun x27 hx27 => ?_)
          refine lv_istore_n (lv' := [(2, .int x27), (3, .int (nI i20)), (0, .ref (o + 0)), (1, .int x1)]) hx hb dX7_about_54 rfl hl (by decide) rfl (fun ls hl => ?_)
          refine lv_iinc (v := nI (i20 + 1)) (lv' := [(3, .int (nI (i20 + 1))), (2, .int x27), (0, .ref (o + 0)), (1, .int x1)]) hx hb dX7_about_55 hl (k := 1) rfl (nI_1 i20) (by decide) rfl (fun ls hl => ?_)
          refine lv_goto (tgt := 30) hx hb dX7_about_58 (by decide) ?_
          have e28 := p_X7_about_e28 M x1 r11 r18 M17 x21 i20 n20 r25 hr25.symm c26 x27 hx27.symm
          rw [e28] at hexit20
          exact ih20 (i20 + 1) x27 (by omega) _ _ hB hS ls (lv_sub hl [0, 1, 2, 3] rfl) hexit20
        · refine lv_iconst (v := 1) hx hb dX7_about_48 (by decide) ?_
          refine lv_goto (tgt := 53) hx hb dX7_about_49 (by decide) ?_
          refine lv_iadd hx hb dX7_about_53 ?_
          refine lv_topi (fun x29 hx29 => ?_)
          refine lv_istore_n (lv' := [(2, .int x29), (3, .int (nI i20)), (0, .ref (o + 0)), (1, .int x1)]) hx hb dX7_about_54 rfl hl (by decide) rfl (fun ls hl => ?_)
          refine lv_iinc (v := nI (i20 + 1)) (lv' := [(3, .int (nI (i20 + 1))), (2, .int x29), (0, .ref (o + 0)), (1, .int x1)]) hx hb dX7_about_55 hl (k := 1) rfl (nI_1 i20) (by decide) rfl (fun ls hl => ?_)
          refine lv_goto (tgt := 30) hx hb dX7_about_58 (by decide) ?_
          have e30 := p_X7_about_e30 M x1 r11 r18 M17 x21 i20 n20 r25 hr25.symm c26 x29 hx29.symm
          rw [e30] at hexit20
          exact ih20 (i20 + 1) x29 (by omega) _ _ hB hS ls (lv_sub hl [0, 1, 2, 3] rfl) hexit20
    refine lp20 64 0 0 (by omega) _ _ hB hS ls (lv_sub hl [0, 1, 2, 3] rfl) ?_
    intro H locs hB hS ls hl
    obtain ⟨x31, hx31⟩ : ∃ y : Int32, y = (lp_X7_about_30 M17 64 0 0) := ⟨_, rfl⟩
    rw [← hx31] at hl
    have hl : lv_has ls 4 [(2, .int x31), (0, .ref (o + 0)), (1, .int x1)] := hl
    refine lv_iload_n hx hb dX7_about_61 rfl (lv_at hl 2 rfl) ?_
    by_cases c32 : x1 = 2
    · refine b_tabI (tgt := 104) hx hb 2 dX7_about_62 (by rw [c32]; rfl) (by decide) (by decide) rfl (by decide) ?_
      refine lv_aload_n hx hb dX7_about_104 rfl (lv_at hl 1 rfl) ?_
      refine b_get (D := D) (E := E) (L := LRR) (o := o) (M := M17) (v := .ref (o + 2)) (C := RX7) (T := TX7) (N := 13) hx hb hts hinX7 hown hK.1 hB 0 lay_m0 rfl 3 (by decide) (hts (.fieldLink RX7 13 "RiverMeetingModel" "now" "[I") (List.mem_of_getElem? (i := 2) rfl)) (fun _ h9 => h9) rfl dX7_about_105 ?_
      refine b_pI (b_runS (As := [.ref (o + 2)]) (rest := []) ⟨hx, hb, hml, hown, hts⟩ (c_X7_isUnderWay l D E o M17 2 lay_m2) (va_cwS 1 hts gX7_about_X7_isUnderWay rfl rfl rfl (by decide +kernel) ⟨Nat.le_of_ble_eq_true rfl, Nat.le_of_ble_eq_true rfl⟩) hK hB rfl hl rfl (Nat.le_of_ble_eq_true rfl) dX7_about_108 ⟨Nat.zero_le _, Nat.zero_le _⟩) hS (fun r33 hr33 locs hS => ?_)
      refine lv_if_eq (tgt := 123) hx hb dX7_about_111 (by decide) (fun c34 => ?_) (fun c34 => ?_)
      · refine lv_iconst (v := (-1)) hx hb dX7_about_123 (by decide) ?_
        have e35 := p_X7_about_e35 M x1 r11 hr11.symm c12 r18 hr18.symm M17 hM17.symm x31 hx31.symm c32 r33 hr33.symm c34
        exact b_iret hx hb hr hlocks hS ⟨_, rfl, _, ⟨(congrArg Prod.fst e35).symm, (congrArg Prod.snd e35).symm⟩, hB⟩ dX7_about_124
      · refine lv_aload_n hx hb dX7_about_114 rfl (lv_at hl 1 rfl) ?_
        refine b_get (D := D) (E := E) (L := LRR) (o := o) (M := M17) (v := .ref (o + 2)) (C := RX7) (T := TX7) (N := 13) hx hb hts hinX7 hown hK.1 hB 0 lay_m0 rfl 3 (by decide) (hts (.fieldLink RX7 13 "RiverMeetingModel" "now" "[I") (List.mem_of_getElem? (i := 2) rfl)) (fun _ h9 => h9) rfl dX7_about_115 ?_
        refine lv_iconst (v := 2) hx hb dX7_about_118 (by decide) ?_
        refine b_iald hx hb hK.1 hB 2 lay_m2 (vp_in_nI (n := 2) (by decide) (by decide)) dX7_about_119 ?_
        refine lv_const (y := M17 2 2) (by rfl) ?_
        refine lv_goto (tgt := 124) hx hb dX7_about_120 (by decide) ?_
        have e36 := p_X7_about_e36 M x1 r11 hr11.symm c12 r18 hr18.symm M17 hM17.symm x31 hx31.symm c32 r33 hr33.symm c34
        exact b_iret hx hb hr hlocks hS ⟨_, rfl, _, ⟨(congrArg Prod.fst e36).symm, (congrArg Prod.snd e36).symm⟩, hB⟩ dX7_about_124
    by_cases c37 : x1 = 4
    · refine b_tabI (tgt := 125) hx hb 4 dX7_about_62 (by rw [c37]; rfl) (by decide) (by decide) rfl (by decide) ?_
      refine lv_iload_n hx hb dX7_about_125 rfl (lv_at hl 0 rfl) ?_
      have e38 := p_X7_about_e38 M x1 r11 hr11.symm c12 r18 hr18.symm M17 hM17.symm x31 hx31.symm c32 c37
      exact b_iret hx hb hr hlocks hS ⟨_, rfl, _, ⟨(congrArg Prod.fst e38).symm, (congrArg Prod.snd e38).symm⟩, hB⟩ dX7_about_126
    by_cases c39 : x1 = 5
    · refine b_tabI (tgt := 127) hx hb 5 dX7_about_62 (by rw [c39]; rfl) (by decide) (by decide) rfl (by decide) ?_
      refine lv_aload_n hx hb dX7_about_127 rfl (lv_at hl 1 rfl) ?_
      refine b_get (D := D) (E := E) (L := LRR) (o := o) (M := M17) (v := .ref (o + 2)) (C := RX7) (T := TX7) (N := 13) hx hb hts hinX7 hown hK.1 hB 0 lay_m0 rfl 3 (by decide) (hts (.fieldLink RX7 13 "RiverMeetingModel" "now" "[I") (List.mem_of_getElem? (i := 2) rfl)) (fun _ h9 => h9) rfl dX7_about_128 ?_
      refine lv_iload_n hx hb dX7_about_131 rfl (lv_at hl 2 rfl) ?_
      refine lv_iconst (v := 1) hx hb dX7_about_132 (by decide) ?_
      refine lv_isub hx hb dX7_about_133 ?_
      refine b_iald hx hb hK.1 hB 2 lay_m2 (by rw [c39]; exact vp_in_nI (n := 4) (by decide) (by decide)) dX7_about_134 ?_
      have e40 := p_X7_about_e40 M x1 r11 hr11.symm c12 r18 hr18.symm M17 hM17.symm x31 hx31.symm c32 c37 c39
      exact b_iret hx hb hr hlocks hS ⟨_, rfl, _, ⟨(congrArg Prod.fst e40).symm, (congrArg Prod.snd e40).symm⟩, hB⟩ dX7_about_135
    by_cases c41 : x1 = 6
    · refine b_tabI (tgt := 127) hx hb 6 dX7_about_62 (by rw [c41]; rfl) (by decide) (by decide) rfl (by decide) ?_
      refine lv_aload_n hx hb dX7_about_127 rfl (lv_at hl 1 rfl) ?_
      refine b_get (D := D) (E := E) (L := LRR) (o := o) (M := M17) (v := .ref (o + 2)) (C := RX7) (T := TX7) (N := 13) hx hb hts hinX7 hown hK.1 hB 0 lay_m0 rfl 3 (by decide) (hts (.fieldLink RX7 13 "RiverMeetingModel" "now" "[I") (List.mem_of_getElem? (i := 2) rfl)) (fun _ h9 => h9) rfl dX7_about_128 ?_
      refine lv_iload_n hx hb dX7_about_131 rfl (lv_at hl 2 rfl) ?_
      refine lv_iconst (v := 1) hx hb dX7_about_132 (by decide) ?_
      refine lv_isub hx hb dX7_about_133 ?_
      refine b_iald hx hb hK.1 hB 2 lay_m2 (by rw [c41]; exact vp_in_nI (n := 5) (by decide) (by decide)) dX7_about_134 ?_
      have e42 := p_X7_about_e42 M x1 r11 hr11.symm c12 r18 hr18.symm M17 hM17.symm x31 hx31.symm c32 c37 c39 c41
      exact b_iret hx hb hr hlocks hS ⟨_, rfl, _, ⟨(congrArg Prod.fst e42).symm, (congrArg Prod.snd e42).symm⟩, hB⟩ dX7_about_135
    by_cases c43 : x1 = 7
    · refine b_tabI (tgt := 127) hx hb 7 dX7_about_62 (by rw [c43]; rfl) (by decide) (by decide) rfl (by decide) ?_
      refine lv_aload_n hx hb dX7_about_127 rfl (lv_at hl 1 rfl) ?_
      refine b_get (D := D) (E := E) (L := LRR) (o := o) (M := M17) (v := .ref (o + 2)) (C := RX7) (T := TX7) (N := 13) hx hb hts hinX7 hown hK.1 hB 0 lay_m0 rfl 3 (by decide) (hts (.fieldLink RX7 13 "RiverMeetingModel" "now" "[I") (List.mem_of_getElem? (i := 2) rfl)) (fun _ h9 => h9) rfl dX7_about_128 ?_
      refine lv_iload_n hx hb dX7_about_131 rfl (lv_at hl 2 rfl) ?_
      refine lv_iconst (v := 1) hx hb dX7_about_132 (by decide) ?_
      refine lv_isub hx hb dX7_about_133 ?_
      refine b_iald hx hb hK.1 hB 2 lay_m2 (by rw [c43]; exact vp_in_nI (n := 6) (by decide) (by decide)) dX7_about_134 ?_
      have e44 := p_X7_about_e44 M x1 r11 hr11.symm c12 r18 hr18.symm M17 hM17.symm x31 hx31.symm c32 c37 c39 c41 c43
      exact b_iret hx hb hr hlocks hS ⟨_, rfl, _, ⟨(congrArg Prod.fst e44).symm, (congrArg Prod.snd e44).symm⟩, hB⟩ dX7_about_135
    by_cases c45 : x1 = 8
    · refine b_tabI (tgt := 127) hx hb 8 dX7_about_62 (by rw [c45]; rfl) (by decide) (by decide) rfl (by decide) ?_
      refine lv_aload_n hx hb dX7_about_127 rfl (lv_at hl 1 rfl) ?_
      refine b_get (D := D) (E := E) (L := LRR) (o := o) (M := M17) (v := .ref (o + 2)) (C := RX7) (T := TX7) (N := 13) hx hb hts hinX7 hown hK.1 hB 0 lay_m0 rfl 3 (by decide) (hts (.fieldLink RX7 13 "RiverMeetingModel" "now" "[I") (List.mem_of_getElem? (i := 2) rfl)) (fun _ h9 => h9) rfl dX7_about_128 ?_
      refine lv_iload_n hx hb dX7_about_131 rfl (lv_at hl 2 rfl) ?_
      refine lv_iconst (v := 1) hx hb dX7_about_132 (by decide) ?_
      refine lv_isub hx hb dX7_about_133 ?_
      refine b_iald hx hb hK.1 hB 2 lay_m2 (by rw [c45]; exact vp_in_nI (n := 7) (by decide) (by decide)) dX7_about_134 ?_
      have e46 := p_X7_about_e46 M x1 r11 hr11.symm c12 r18 hr18.symm M17 hM17.symm x31 hx31.symm c32 c37 c39 c41 c43 c45
      exact b_iret hx hb hr hlocks hS ⟨_, rfl, _, ⟨(congrArg Prod.fst e46).symm, (congrArg Prod.snd e46).symm⟩, hB⟩ dX7_about_135
    refine b_tabD (tgt := 136) hx hb [2, 4, 5, 6, 7, 8] dX7_about_62 (by decide) (by decide) (List.forall_mem_cons.mpr ⟨lv_neT c32 (a := 2) rfl, (List.forall_mem_cons.mpr ⟨lv_neT c37 (a := 4) rfl, (List.forall_mem_cons.mpr ⟨lv_neT c39 (a := 5) rfl, (List.forall_mem_cons.mpr ⟨lv_neT c41 (a := 6) rfl, (List.forall_mem_cons.mpr ⟨lv_neT c43 (a := 7) rfl, (List.forall_mem_cons.mpr ⟨lv_neT c45 (a := 8) rfl, (fun v h => absurd h List.not_mem_nil)⟩)⟩)⟩)⟩)⟩)⟩) (by decide) ?_
    refine lv_aload_n hx hb dX7_about_136 rfl (lv_at hl 1 rfl) ?_
    refine b_get (D := D) (E := E) (L := LRR) (o := o) (M := M17) (v := .ref (o + 2)) (C := RX7) (T := TX7) (N := 13) hx hb hts hinX7 hown hK.1 hB 0 lay_m0 rfl 3 (by decide) (hts (.fieldLink RX7 13 "RiverMeetingModel" "now" "[I") (List.mem_of_getElem? (i := 2) rfl)) (fun _ h9 => h9) rfl dX7_about_137 ?_
    refine lv_iload_n hx hb dX7_about_140 rfl (lv_at hl 2 rfl) ?_
    refine b_iald hx hb hK.1 hB 2 lay_m2 (vp_in_mono (in_rng 9 (by decide) (hr11 ▸ c12)) (by decide)) dX7_about_141 ?_
    have e47 := p_X7_about_e47 M x1 r11 hr11.symm c12 r18 hr18.symm M17 hM17.symm x31 hx31.symm c32 c37 c39 c41 c43 c45
    exact b_iret hx hb hr hlocks hS ⟨_, rfl, _, ⟨(congrArg Prod.fst e47).symm, (congrArg Prod.snd e47).symm⟩, hB⟩ dX7_about_142

def f_X7_playerOf (M : bM) (x1 : Int32) (x2 : Int32) : Int32 × bM := (let r11 : Int32 := f_X7_in x1.toInt64 0 1; (if r11 = 0 then (let r34 : Int32 := (f_X7_refused M 1).1; (let M33 : bM := (f_X7_refused M 1).2; (0, M33))) else (let r13 : Int32 := f_X7_in x2.toInt64 0 5; (if r13 = 0 then (let r16 : Int32 := (f_X7_refused M 2).1; (let M15 : bM := (f_X7_refused M 2).2; (0, M15))) else (let r20 : Int32 := (f_X7_refused M 0).1; (let M19 : bM := (f_X7_refused M 0).2; (if x2 = 0 then (let r23 : Int32 := f_X7_of M19 2 x1 4; (r23, M19)) else (if x2 = 1 then (let r26 : Int32 := f_X7_head M19 2 x1; (r26, M19)) else (if x2 = 5 then (let r29 : Int32 := f_X7_of M19 2 x1 3; (r29, M19)) else (let r31 : Int32 := f_X7_of M19 2 x1 (x2 - 2); (r31, M19)))))))))))
theorem u_f_X7_playerOf (M : bM) (x1 : Int32) (x2 : Int32) : f_X7_playerOf M x1 x2 = (let r11 : Int32 := f_X7_in x1.toInt64 0 1; (if r11 = 0 then (let r34 : Int32 := (f_X7_refused M 1).1; (let M33 : bM := (f_X7_refused M 1).2; (0, M33))) else (let r13 : Int32 := f_X7_in x2.toInt64 0 5; (if r13 = 0 then (let r16 : Int32 := (f_X7_refused M 2).1; (let M15 : bM := (f_X7_refused M 2).2; (0, M15))) else (let r20 : Int32 := (f_X7_refused M 0).1; (let M19 : bM := (f_X7_refused M 0).2; (if x2 = 0 then (let r23 : Int32 := f_X7_of M19 2 x1 4; (r23, M19)) else (if x2 = 1 then (let r26 : Int32 := f_X7_head M19 2 x1; (r26, M19)) else (if x2 = 5 then (let r29 : Int32 := f_X7_of M19 2 x1 3; (r29, M19)) else (let r31 : Int32 := f_X7_of M19 2 x1 (x2 - 2); (r31, M19))))))))))) := rfl
theorem p_X7_playerOf_e18 (M : bM) (x1 : Int32) (x2 : Int32) (r11 : Int32) (hr11 : f_X7_in x1.toInt64 0 1 = r11) (c12 : ¬ r11 = 0) (r13 : Int32) (hr13 : f_X7_in x2.toInt64 0 5 = r13) (c14 : r13 = 0) (r16 : Int32) (hr16 : (f_X7_refused M 2).1 = r16) (M15 : bM) (hM15 : (f_X7_refused M 2).2 = M15) : f_X7_playerOf M x1 x2 = (0, M15) := by subst hM15 hr16 hr13 hr11; exact Eq.trans (u_f_X7_playerOf M x1 x2) (Eq.trans (if_neg c12) (if_pos c14))
theorem p_X7_playerOf_e24 (M : bM) (x1 : Int32) (x2 : Int32) (r11 : Int32) (hr11 : f_X7_in x1.toInt64 0 1 = r11) (c12 : ¬ r11 = 0) (r13 : Int32) (hr13 : f_X7_in x2.toInt64 0 5 = r13) (c14 : ¬ r13 = 0) (r20 : Int32) (hr20 : (f_X7_refused M 0).1 = r20) (M19 : bM) (hM19 : (f_X7_refused M 0).2 = M19) (c22 : x2 = 0) (r23 : Int32) (hr23 : f_X7_of M19 2 x1 4 = r23) : f_X7_playerOf M x1 x2 = (r23, M19) := by subst hr23 hM19 hr20 hr13 hr11; exact Eq.trans (u_f_X7_playerOf M x1 x2) (Eq.trans (if_neg c12) (Eq.trans (if_neg c14) (if_pos c22)))
theorem p_X7_playerOf_e27 (M : bM) (x1 : Int32) (x2 : Int32) (r11 : Int32) (hr11 : f_X7_in x1.toInt64 0 1 = r11) (c12 : ¬ r11 = 0) (r13 : Int32) (hr13 : f_X7_in x2.toInt64 0 5 = r13) (c14 : ¬ r13 = 0) (r20 : Int32) (hr20 : (f_X7_refused M 0).1 = r20) (M19 : bM) (hM19 : (f_X7_refused M 0).2 = M19) (c22 : ¬ x2 = 0) (c25 : x2 = 1) (r26 : Int32) (hr26 : f_X7_head M19 2 x1 = r26) : f_X7_playerOf M x1 x2 = (r26, M19) := by subst hr26 hM19 hr20 hr13 hr11; exact Eq.trans (u_f_X7_playerOf M x1 x2) (Eq.trans (if_neg c12) (Eq.trans (if_neg c14) (Eq.trans (if_neg c22) (if_pos c25))))
theorem p_X7_playerOf_e30 (M : bM) (x1 : Int32) (x2 : Int32) (r11 : Int32) (hr11 : f_X7_in x1.toInt64 0 1 = r11) (c12 : ¬ r11 = 0) (r13 : Int32) (hr13 : f_X7_in x2.toInt64 0 5 = r13) (c14 : ¬ r13 = 0) (r20 : Int32) (hr20 : (f_X7_refused M 0).1 = r20) (M19 : bM) (hM19 : (f_X7_refused M 0).2 = M19) (c22 : ¬ x2 = 0) (c25 : ¬ x2 = 1) (c28 : x2 = 5) (r29 : Int32) (hr29 : f_X7_of M19 2 x1 3 = r29) : f_X7_playerOf M x1 x2 = (r29, M19) := by subst hr29 hM19 hr20 hr13 hr11; exact Eq.trans (u_f_X7_playerOf M x1 x2) (Eq.trans (if_neg c12) (Eq.trans (if_neg c14) (Eq.trans (if_neg c22) (Eq.trans (if_neg c25) (if_pos c28)))))
theorem p_X7_playerOf_e32 (M : bM) (x1 : Int32) (x2 : Int32) (r11 : Int32) (hr11 : f_X7_in x1.toInt64 0 1 = r11) (c12 : ¬ r11 = 0) (r13 : Int32) (hr13 : f_X7_in x2.toInt64 0 5 = r13) (c14 : ¬ r13 = 0) (r20 : Int32) (hr20 : (f_X7_refused M 0).1 = r20) (M19 : bM) (hM19 : (f_X7_refused M 0).2 = M19) (c22 : ¬ x2 = 0) (c25 : ¬ x2 = 1) (c28 : ¬ x2 = 5) (r31 : Int32) (hr31 : f_X7_of M19 2 x1 (x2 - 2) = r31) : f_X7_playerOf M x1 x2 = (r31, M19) := by subst hr31 hM19 hr20 hr13 hr11; exact Eq.trans (u_f_X7_playerOf M x1 x2) (Eq.trans (if_neg c12) (Eq.trans (if_neg c14) (Eq.trans (if_neg c22) (Eq.trans (if_neg c25) (if_neg c28)))))
theorem p_X7_playerOf_e36 (M : bM) (x1 : Int32) (x2 : Int32) (r11 : Int32) (hr11 : f_X7_in x1.toInt64 0 1 = r11) (c12 : r11 = 0) (r34 : Int32) (hr34 : (f_X7_refused M 1).1 = r34) (M33 : bM) (hM33 : (f_X7_refused M 1).2 = M33) : f_X7_playerOf M x1 x2 = (0, M33) := by subst hM33 hr34 hr11; exact Eq.trans (u_f_X7_playerOf M x1 x2) (if_pos c12)
set_option maxHeartbeats 4000000 in
set_option maxRecDepth 100000 in
theorem c_X7_playerOf (l : Launch) (D : va_G) (E : Nat → ClassId) (o : Nat) (M : bM) (x1 : Int32) (x2 : Int32) (hw : wfR M 2) : Met l yX7_playerOf wsX7_playerOf (rmF 2) (bPc D E [.ref (o + 0), .int x1, .int x2] (fun H => bk D E LRR o M H)) (bQ (aI fun r H => ∃ M1 : bM, (r = (f_X7_playerOf M x1 x2).1 ∧ M1 = (f_X7_playerOf M x1 x2).2) ∧ bk D E LRR o M1 H) (rB o)) 0 0 (rB o) := by
  refine Met.ofW (cc := cX7_playerOf) (maxL := 3) (ret := (some .int)) (by decide) rfl ?_
  intro p e s m args below meth c s₁ B hml hv
  obtain ⟨rfl, hB, hK⟩ := hv
  have hx := B.exec
  have hb := B.bytes
  have hr := B.returns
  have hts := atoms_spec (ws := wsX7_playerOf) B.pre
  have hown : s.vm.findClass RX7 = some m.cls := findClass_of_methodNamed B.named
  have hlocks := B.notSynchronized
  have hS : bS (rB o) s.heap s.heap [] := bS.rf
  have hl := lv_entry ([.ref (o + 0), .int x1, .int x2]) (n := 3) (Nat.le_of_ble_eq_true rfl)
  rw [lg_entry_eq]
  generalize (lg_sl ([.ref (o + 0), .int x1, .int x2]) ++ List.replicate (3 - (lg_sl ([.ref (o + 0), .int x1, .int x2])).length) Slot.unset).toArray = ls at hl ⊢
  have hl : lv_has ls 3 [(0, .ref (o + 0)), (1, .int x1), (2, .int x2)] := hl
  have hB : bk D E LRR o M s.heap := hB
  have hinX7 : ∀ w ∈ wsX70, w ∈ wsX7_playerOf := by decide +kernel
  refine lv_aload_n hx hb dX7_playerOf_0 rfl (lv_at hl 0 rfl) ?_
  refine lv_iload_n hx hb dX7_playerOf_1 rfl (lv_at hl 1 rfl) ?_
  refine lv_i2l hx hb dX7_playerOf_2 rfl ?_
  refine lv_lconst (v := 0) hx hb dX7_playerOf_3 (by decide) ?_
  refine lv_lconst (v := 1) hx hb dX7_playerOf_4 (by decide) ?_
  refine b_pI (b_runS (As := [.long x1.toInt64, .long 0, .long 1]) (rest := [.ref (o + 0)]) ⟨hx, hb, hml, hown, hts⟩ (c_X7_in l D E x1.toInt64 0 1) (va_cwS 3 hts gX7_playerOf_X7_in rfl rfl rfl (by decide +kernel) ⟨Nat.le_of_ble_eq_true rfl, Nat.le_of_ble_eq_true rfl⟩) hK trivial rfl hl rfl (Nat.le_of_ble_eq_true rfl) dX7_playerOf_5 ⟨Nat.zero_le _, Nat.zero_le _⟩) hS (fun r11 hr11 locs hS => ?_)
  refine lv_if_ne (tgt := 15) hx hb dX7_playerOf_8 (by decide) (fun c12 => ?_) (fun c12 => ?_)
  · refine lv_iload_n hx hb dX7_playerOf_15 rfl (lv_at hl 2 rfl) ?_
    refine lv_i2l hx hb dX7_playerOf_16 rfl ?_
    refine lv_lconst (v := 0) hx hb dX7_playerOf_17 (by decide) ?_
    refine lv_ldc2 (v := 5) hx hb hown (hts (.constantLong RX7 201 (5)) (List.mem_of_getElem? (i := 1) rfl)) dX7_playerOf_18 ?_
    refine b_pI (b_runS (As := [.long x2.toInt64, .long 0, .long 5]) (rest := [.ref (o + 0)]) ⟨hx, hb, hml, hown, hts⟩ (c_X7_in l D E x2.toInt64 0 5) (va_cwS 3 hts gX7_playerOf_X7_in rfl rfl rfl (by decide +kernel) ⟨Nat.le_of_ble_eq_true rfl, Nat.le_of_ble_eq_true rfl⟩) hK trivial rfl hl rfl (Nat.le_of_ble_eq_true rfl) dX7_playerOf_21 ⟨Nat.zero_le _, Nat.zero_le _⟩) hS (fun r13 hr13 locs hS => ?_)
    refine lv_if_eq (tgt := 31) hx hb dX7_playerOf_24 (by decide) (fun c14 => ?_) (fun c14 => ?_)
    · refine lv_iconst (v := 2) hx hb dX7_playerOf_31 (by decide) ?_
      refine b_mI (b_runV (As := [.int 2]) (rest := []) ⟨hx, hb, hml, hown, hts⟩ (c_X7_refused l D E o M 2) (cwV 1 hts gX7_playerOf_X7_refused rfl rfl rfl (by decide +kernel) ⟨Nat.le_of_ble_eq_true rfl, Nat.le_of_ble_eq_true rfl⟩) hK (bk_recv hK.1 hB lay_m0 rfl) hB rfl hl rfl (Nat.le_of_ble_eq_true rfl) dX7_playerOf_32 ⟨Nat.zero_le _, Nat.zero_le _⟩) hS (fun q h => h) (fun r16 M15 hM15 H locs hB _ hS => ?_)
      obtain ⟨hr16, hM15⟩ := hM15
      have hkr16 : r16 = 1 := by rw [hr16]; rfl
      refine lv_const (y := 1) hkr16 ?_
      refine lv_if_eq (tgt := 40) hx hb dX7_playerOf_35 (by decide) (fun c17 => absurd c17 (by decide)) (fun c17 => ?_)
      refine lv_iconst (v := 0) hx hb dX7_playerOf_38 (by decide) ?_
      have e18 := p_X7_playerOf_e18 M x1 x2 r11 hr11.symm c12 r13 hr13.symm c14 r16 hr16.symm M15 hM15.symm
      exact b_iret hx hb hr hlocks hS ⟨_, rfl, _, ⟨(congrArg Prod.fst e18).symm, (congrArg Prod.snd e18).symm⟩, hB⟩ dX7_playerOf_39
    · refine lv_iconst (v := 0) hx hb dX7_playerOf_27 (by decide) ?_
      refine lv_goto (tgt := 32) hx hb dX7_playerOf_28 (by decide) ?_
      refine b_mI (b_runV (As := [.int 0]) (rest := []) ⟨hx, hb, hml, hown, hts⟩ (c_X7_refused l D E o M 0) (cwV 1 hts gX7_playerOf_X7_refused rfl rfl rfl (by decide +kernel) ⟨Nat.le_of_ble_eq_true rfl, Nat.le_of_ble_eq_true rfl⟩) hK (bk_recv hK.1 hB lay_m0 rfl) hB rfl hl rfl (Nat.le_of_ble_eq_true rfl) dX7_playerOf_32 ⟨Nat.zero_le _, Nat.zero_le _⟩) hS (fun q h => h) (fun r20 M19 hM19 H locs hB _ hS => ?_)
      obtain ⟨hr20, hM19⟩ := hM19
      have hkr20 : r20 = 0 := by rw [hr20]; rfl
      refine lv_const (y := 0) hkr20 ?_
      refine lv_if_eq (tgt := 40) hx hb dX7_playerOf_35 (by decide) (fun c21 => ?_) (fun c21 => absurd (by decide) c21)
      refine lv_iload_n hx hb dX7_playerOf_40 rfl (lv_at hl 2 rfl) ?_
      by_cases c22 : x2 = 0
      · refine lv_lookup (tgt := 76) (off := 35) hx hb dX7_playerOf_41 (by decide) (by rw [c22]; rfl) (by decide) ?_
        refine lv_aload_n hx hb dX7_playerOf_76 rfl (lv_at hl 0 rfl) ?_
        refine b_get (D := D) (E := E) (L := LRR) (o := o) (M := M19) (v := .ref (o + 2)) (C := RX7) (T := TX7) (N := 13) hx hb hts hinX7 hown hK.1 hB 0 lay_m0 rfl 3 (by decide) (hts (.fieldLink RX7 13 "RiverMeetingModel" "now" "[I") (List.mem_of_getElem? (i := 2) rfl)) (fun _ h9 => h9) rfl dX7_playerOf_77 ?_
        refine lv_iload_n hx hb dX7_playerOf_80 rfl (lv_at hl 1 rfl) ?_
        refine lv_iconst (v := 4) hx hb dX7_playerOf_81 (by decide) ?_
        refine b_pI (b_runS (As := [.ref (o + 2), .int x1, .int 4]) (rest := []) ⟨hx, hb, hml, hown, hts⟩ (c_X7_of l D E o M19 2 x1 4 lay_m2 (in_pb (in_rng 2 (by decide) (hr11 ▸ c12))) (vp_in_nI (n := 4) (by decide) (by decide))) (va_cwS 3 hts gX7_playerOf_X7_of rfl rfl rfl (by decide +kernel) ⟨Nat.le_of_ble_eq_true rfl, Nat.le_of_ble_eq_true rfl⟩) hK hB rfl hl rfl (Nat.le_of_ble_eq_true rfl) dX7_playerOf_82 ⟨Nat.zero_le _, Nat.zero_le _⟩) hS (fun r23 hr23 locs hS => ?_)
        have e24 := p_X7_playerOf_e24 M x1 x2 r11 hr11.symm c12 r13 hr13.symm c14 r20 hr20.symm M19 hM19.symm c22 r23 hr23.symm
        exact b_iret hx hb hr hlocks hS ⟨_, rfl, _, ⟨(congrArg Prod.fst e24).symm, (congrArg Prod.snd e24).symm⟩, hB⟩ dX7_playerOf_85
      by_cases c25 : x2 = 1
      · refine lv_lookup (tgt := 86) (off := 45) hx hb dX7_playerOf_41 (by decide) (by rw [c25]; rfl) (by decide) ?_
        refine lv_aload_n hx hb dX7_playerOf_86 rfl (lv_at hl 0 rfl) ?_
        refine b_get (D := D) (E := E) (L := LRR) (o := o) (M := M19) (v := .ref (o + 2)) (C := RX7) (T := TX7) (N := 13) hx hb hts hinX7 hown hK.1 hB 0 lay_m0 rfl 3 (by decide) (hts (.fieldLink RX7 13 "RiverMeetingModel" "now" "[I") (List.mem_of_getElem? (i := 2) rfl)) (fun _ h9 => h9) rfl dX7_playerOf_87 ?_
        refine lv_iload_n hx hb dX7_playerOf_90 rfl (lv_at hl 1 rfl) ?_
        refine b_pI (b_runS (As := [.ref (o + 2), .int x1]) (rest := []) ⟨hx, hb, hml, hown, hts⟩ (c_X7_head l D E o M19 2 x1 lay_m2 (in_pb (in_rng 2 (by decide) (hr11 ▸ c12))) (len_of (in_pb (in_rng 2 (by decide) (hr11 ▸ c12))) (wf_ln (M := M19) (k := 2) (wf_eq (M := M) (by rw [hM19]; exact fr_X7_refused M 0 2 (by decide)) hw)))) (va_cwS 2 hts gX7_playerOf_X7_head rfl rfl rfl (by decide +kernel) ⟨Nat.le_of_ble_eq_true rfl, Nat.le_of_ble_eq_true rfl⟩) hK hB rfl hl rfl (Nat.le_of_ble_eq_true rfl) dX7_playerOf_91 ⟨Nat.zero_le _, Nat.zero_le _⟩) hS (fun r26 hr26 locs hS => ?_)
        have e27 := p_X7_playerOf_e27 M x1 x2 r11 hr11.symm c12 r13 hr13.symm c14 r20 hr20.symm M19 hM19.symm c22 c25 r26 hr26.symm
        exact b_iret hx hb hr hlocks hS ⟨_, rfl, _, ⟨(congrArg Prod.fst e27).symm, (congrArg Prod.snd e27).symm⟩, hB⟩ dX7_playerOf_94
      by_cases c28 : x2 = 5
      · refine lv_lookup (tgt := 95) (off := 54) hx hb dX7_playerOf_41 (by decide) (by rw [c28]; rfl) (by decide) ?_
        refine lv_aload_n hx hb dX7_playerOf_95 rfl (lv_at hl 0 rfl) ?_
        refine b_get (D := D) (E := E) (L := LRR) (o := o) (M := M19) (v := .ref (o + 2)) (C := RX7) (T := TX7) (N := 13) hx hb hts hinX7 hown hK.1 hB 0 lay_m0 rfl 3 (by decide) (hts (.fieldLink RX7 13 "RiverMeetingModel" "now" "[I") (List.mem_of_getElem? (i := 2) rfl)) (fun _ h9 => h9) rfl dX7_playerOf_96 ?_
        refine lv_iload_n hx hb dX7_playerOf_99 rfl (lv_at hl 1 rfl) ?_
        refine lv_iconst (v := 3) hx hb dX7_playerOf_100 (by decide) ?_
        refine b_pI (b_runS (As := [.ref (o + 2), .int x1, .int 3]) (rest := []) ⟨hx, hb, hml, hown, hts⟩ (c_X7_of l D E o M19 2 x1 3 lay_m2 (in_pb (in_rng 2 (by decide) (hr11 ▸ c12))) (vp_in_nI (n := 3) (by decide) (by decide))) (va_cwS 3 hts gX7_playerOf_X7_of rfl rfl rfl (by decide +kernel) ⟨Nat.le_of_ble_eq_true rfl, Nat.le_of_ble_eq_true rfl⟩) hK hB rfl hl rfl (Nat.le_of_ble_eq_true rfl) dX7_playerOf_101 ⟨Nat.zero_le _, Nat.zero_le _⟩) hS (fun r29 hr29 locs hS => ?_)
        have e30 := p_X7_playerOf_e30 M x1 x2 r11 hr11.symm c12 r13 hr13.symm c14 r20 hr20.symm M19 hM19.symm c22 c25 c28 r29 hr29.symm
        exact b_iret hx hb hr hlocks hS ⟨_, rfl, _, ⟨(congrArg Prod.fst e30).symm, (congrArg Prod.snd e30).symm⟩, hB⟩ dX7_playerOf_104
      refine lv_lookup (tgt := 105) (off := 64) hx hb dX7_playerOf_41 (by decide) ((lv_osw c22 rfl).trans ((lv_osw c25 rfl).trans ((lv_osw c28 rfl).trans rfl))) (by decide) ?_
      refine lv_aload_n hx hb dX7_playerOf_105 rfl (lv_at hl 0 rfl) ?_
      refine b_get (D := D) (E := E) (L := LRR) (o := o) (M := M19) (v := .ref (o + 2)) (C := RX7) (T := TX7) (N := 13) hx hb hts hinX7 hown hK.1 hB 0 lay_m0 rfl 3 (by decide) (hts (.fieldLink RX7 13 "RiverMeetingModel" "now" "[I") (List.mem_of_getElem? (i := 2) rfl)) (fun _ h9 => h9) rfl dX7_playerOf_106 ?_
      refine lv_iload_n hx hb dX7_playerOf_109 rfl (lv_at hl 1 rfl) ?_
      refine lv_iload_n hx hb dX7_playerOf_110 rfl (lv_at hl 2 rfl) ?_
      refine lv_iconst (v := 2) hx hb dX7_playerOf_111 (by decide) ?_
      refine lv_isub hx hb dX7_playerOf_112 ?_
      refine b_pI (b_runS (As := [.ref (o + 2), .int x1, .int (x2 - 2)]) (rest := []) ⟨hx, hb, hml, hown, hts⟩ (c_X7_of l D E o M19 2 x1 (x2 - 2) lay_m2 (in_pb (in_rng 2 (by decide) (hr11 ▸ c12))) (vp_in_mono (in_sub2 (n := 4) (by decide) (in_rng 6 (by decide) (hr13 ▸ c14)) c22 c25) (by decide))) (va_cwS 3 hts gX7_playerOf_X7_of rfl rfl rfl (by decide +kernel) ⟨Nat.le_of_ble_eq_true rfl, Nat.le_of_ble_eq_true rfl⟩) hK hB rfl hl rfl (Nat.le_of_ble_eq_true rfl) dX7_playerOf_113 ⟨Nat.zero_le _, Nat.zero_le _⟩) hS (fun r31 hr31 locs hS => ?_)
      have e32 := p_X7_playerOf_e32 M x1 x2 r11 hr11.symm c12 r13 hr13.symm c14 r20 hr20.symm M19 hM19.symm c22 c25 c28 r31 hr31.symm
      exact b_iret hx hb hr hlocks hS ⟨_, rfl, _, ⟨(congrArg Prod.fst e32).symm, (congrArg Prod.snd e32).symm⟩, hB⟩ dX7_playerOf_116
  · refine lv_iconst (v := 1) hx hb dX7_playerOf_11 (by decide) ?_
    refine lv_goto (tgt := 32) hx hb dX7_playerOf_12 (by decide) ?_
    refine b_mI (b_runV (As := [.int 1]) (rest := []) ⟨hx, hb, hml, hown, hts⟩ (c_X7_refused l D E o M 1) (cwV 1 hts gX7_playerOf_X7_refused rfl rfl rfl (by decide +kernel) ⟨Nat.le_of_ble_eq_true rfl, Nat.le_of_ble_eq_true rfl⟩) hK (bk_recv hK.1 hB lay_m0 rfl) hB rfl hl rfl (Nat.le_of_ble_eq_true rfl) dX7_playerOf_32 ⟨Nat.zero_le _, Nat.zero_le _⟩) hS (fun q h => h) (fun r34 M33 hM33 H locs hB _ hS => ?_)
    obtain ⟨hr34, hM33⟩ := hM33
    have hkr34 : r34 = 1 := by rw [hr34]; rfl
    refine lv_const (y := 1) hkr34 ?_
    refine lv_if_eq (tgt := 40) hx hb dX7_playerOf_35 (by decide) (fun c35 => absurd c35 (by decide)) (fun c35 => ?_)
    refine lv_iconst (v := 0) hx hb dX7_playerOf_38 (by decide) ?_
    have e36 := p_X7_playerOf_e36 M x1 x2 r11 hr11.symm c12 r34 hr34.symm M33 hM33.symm
    exact b_iret hx hb hr hlocks hS ⟨_, rfl, _, ⟨(congrArg Prod.fst e36).symm, (congrArg Prod.snd e36).symm⟩, hB⟩ dX7_playerOf_39

def f_X7_setting (M : bM) (x1 : Int32) : Int32 × bM := (let r11 : Int32 := f_X7_in x1.toInt64 0 1; (if r11 = 0 then (let r14 : Int32 := (f_X7_refused M 1).1; (let M13 : bM := (f_X7_refused M 1).2; (0, M13))) else (let r18 : Int32 := (f_X7_refused M 0).1; (let M17 : bM := (f_X7_refused M 0).2; ((M17 2 ((8 : Int32) + x1).toNatClampNeg), M17)))))
theorem u_f_X7_setting (M : bM) (x1 : Int32) : f_X7_setting M x1 = (let r11 : Int32 := f_X7_in x1.toInt64 0 1; (if r11 = 0 then (let r14 : Int32 := (f_X7_refused M 1).1; (let M13 : bM := (f_X7_refused M 1).2; (0, M13))) else (let r18 : Int32 := (f_X7_refused M 0).1; (let M17 : bM := (f_X7_refused M 0).2; ((M17 2 ((8 : Int32) + x1).toNatClampNeg), M17))))) := rfl
theorem p_X7_setting_e16 (M : bM) (x1 : Int32) (r11 : Int32) (hr11 : f_X7_in x1.toInt64 0 1 = r11) (c12 : r11 = 0) (r14 : Int32) (hr14 : (f_X7_refused M 1).1 = r14) (M13 : bM) (hM13 : (f_X7_refused M 1).2 = M13) : f_X7_setting M x1 = (0, M13) := by subst hM13 hr14 hr11; exact Eq.trans (u_f_X7_setting M x1) (if_pos c12)
theorem p_X7_setting_e20 (M : bM) (x1 : Int32) (r11 : Int32) (hr11 : f_X7_in x1.toInt64 0 1 = r11) (c12 : ¬ r11 = 0) (r18 : Int32) (hr18 : (f_X7_refused M 0).1 = r18) (M17 : bM) (hM17 : (f_X7_refused M 0).2 = M17) : f_X7_setting M x1 = ((M17 2 ((8 : Int32) + x1).toNatClampNeg), M17) := by subst hM17 hr18 hr11; exact Eq.trans (u_f_X7_setting M x1) (if_neg c12)
set_option maxHeartbeats 4000000 in
set_option maxRecDepth 100000 in
theorem c_X7_setting (l : Launch) (D : va_G) (E : Nat → ClassId) (o : Nat) (M : bM) (x1 : Int32) : Met l yX7_setting wsX7_setting (rmF 1) (bPc D E [.ref (o + 0), .int x1] (fun H => bk D E LRR o M H)) (bQ (aI fun r H => ∃ M1 : bM, (r = (f_X7_setting M x1).1 ∧ M1 = (f_X7_setting M x1).2) ∧ bk D E LRR o M1 H) (rB o)) 0 0 (rB o) := by
  refine Met.ofW (cc := cX7_setting) (maxL := 2) (ret := (some .int)) (by decide) rfl ?_
  intro p e s m args below meth c s₁ B hml hv
  obtain ⟨rfl, hB, hK⟩ := hv
  have hx := B.exec
  have hb := B.bytes
  have hr := B.returns
  have hts := atoms_spec (ws := wsX7_setting) B.pre
  have hown : s.vm.findClass RX7 = some m.cls := findClass_of_methodNamed B.named
  have hlocks := B.notSynchronized
  have hS : bS (rB o) s.heap s.heap [] := bS.rf
  have hl := lv_entry ([.ref (o + 0), .int x1]) (n := 2) (Nat.le_of_ble_eq_true rfl)
  rw [lg_entry_eq]
  generalize (lg_sl ([.ref (o + 0), .int x1]) ++ List.replicate (2 - (lg_sl ([.ref (o + 0), .int x1])).length) Slot.unset).toArray = ls at hl ⊢
  have hl : lv_has ls 2 [(0, .ref (o + 0)), (1, .int x1)] := hl
  have hB : bk D E LRR o M s.heap := hB
  have hinX7 : ∀ w ∈ wsX70, w ∈ wsX7_setting := by decide +kernel
  refine lv_aload_n hx hb dX7_setting_0 rfl (lv_at hl 0 rfl) ?_
  refine lv_iload_n hx hb dX7_setting_1 rfl (lv_at hl 1 rfl) ?_
  refine lv_i2l hx hb dX7_setting_2 rfl ?_
  refine lv_lconst (v := 0) hx hb dX7_setting_3 (by decide) ?_
  refine lv_lconst (v := 1) hx hb dX7_setting_4 (by decide) ?_
  refine b_pI (b_runS (As := [.long x1.toInt64, .long 0, .long 1]) (rest := [.ref (o + 0)]) ⟨hx, hb, hml, hown, hts⟩ (c_X7_in l D E x1.toInt64 0 1) (va_cwS 3 hts gX7_setting_X7_in rfl rfl rfl (by decide +kernel) ⟨Nat.le_of_ble_eq_true rfl, Nat.le_of_ble_eq_true rfl⟩) hK trivial rfl hl rfl (Nat.le_of_ble_eq_true rfl) dX7_setting_5 ⟨Nat.zero_le _, Nat.zero_le _⟩) hS (fun r11 hr11 locs hS => ?_)
  refine lv_if_eq (tgt := 15) hx hb dX7_setting_8 (by decide) (fun c12 => ?_) (fun c12 => ?_)
  · refine lv_iconst (v := 1) hx hb dX7_setting_15 (by decide) ?_
    refine b_mI (b_runV (As := [.int 1]) (rest := []) ⟨hx, hb, hml, hown, hts⟩ (c_X7_refused l D E o M 1) (cwV 1 hts gX7_setting_X7_refused rfl rfl rfl (by decide +kernel) ⟨Nat.le_of_ble_eq_true rfl, Nat.le_of_ble_eq_true rfl⟩) hK (bk_recv hK.1 hB lay_m0 rfl) hB rfl hl rfl (Nat.le_of_ble_eq_true rfl) dX7_setting_16 ⟨Nat.zero_le _, Nat.zero_le _⟩) hS (fun q h => h) (fun r14 M13 hM13 H locs hB _ hS => ?_)
    obtain ⟨hr14, hM13⟩ := hM13
    have hkr14 : r14 = 1 := by rw [hr14]; rfl
    refine lv_const (y := 1) hkr14 ?_
    refine lv_if_eq (tgt := 24) hx hb dX7_setting_19 (by decide) (fun c15 => absurd c15 (by decide)) (fun c15 => ?_)
    refine lv_iconst (v := 0) hx hb dX7_setting_22 (by decide) ?_
    have e16 := p_X7_setting_e16 M x1 r11 hr11.symm c12 r14 hr14.symm M13 hM13.symm
    exact b_iret hx hb hr hlocks hS ⟨_, rfl, _, ⟨(congrArg Prod.fst e16).symm, (congrArg Prod.snd e16).symm⟩, hB⟩ dX7_setting_23
  · refine lv_iconst (v := 0) hx hb dX7_setting_11 (by decide) ?_
    refine lv_goto (tgt := 16) hx hb dX7_setting_12 (by decide) ?_
    refine b_mI (b_runV (As := [.int 0]) (rest := []) ⟨hx, hb, hml, hown, hts⟩ (c_X7_refused l D E o M 0) (cwV 1 hts gX7_setting_X7_refused rfl rfl rfl (by decide +kernel) ⟨Nat.le_of_ble_eq_true rfl, Nat.le_of_ble_eq_true rfl⟩) hK (bk_recv hK.1 hB lay_m0 rfl) hB rfl hl rfl (Nat.le_of_ble_eq_true rfl) dX7_setting_16 ⟨Nat.zero_le _, Nat.zero_le _⟩) hS (fun q h => h) (fun r18 M17 hM17 H locs hB _ hS => ?_)
    obtain ⟨hr18, hM17⟩ := hM17
    have hkr18 : r18 = 0 := by rw [hr18]; rfl
    refine lv_const (y := 0) hkr18 ?_
    refine lv_if_eq (tgt := 24) hx hb dX7_setting_19 (by decide) (fun c19 => ?_) (fun c19 => absurd (by decide) c19)
    refine lv_aload_n hx hb dX7_setting_24 rfl (lv_at hl 0 rfl) ?_
    refine b_get (D := D) (E := E) (L := LRR) (o := o) (M := M17) (v := .ref (o + 2)) (C := RX7) (T := TX7) (N := 13) hx hb hts hinX7 hown hK.1 hB 0 lay_m0 rfl 3 (by decide) (hts (.fieldLink RX7 13 "RiverMeetingModel" "now" "[I") (List.mem_of_getElem? (i := 1) rfl)) (fun _ h9 => h9) rfl dX7_setting_25 ?_
    refine lv_bipush (v := 8) hx hb dX7_setting_28 (by decide) ?_
    refine lv_iload_n hx hb dX7_setting_30 rfl (lv_at hl 1 rfl) ?_
    refine lv_iadd hx hb dX7_setting_31 ?_
    refine b_iald hx hb hK.1 hB 2 lay_m2 (in_addX 8 (in_rng 2 (by decide) (hr11 ▸ c12)) (by decide) (by decide)) dX7_setting_32 ?_
    have e20 := p_X7_setting_e20 M x1 r11 hr11.symm c12 r18 hr18.symm M17 hM17.symm
    exact b_iret hx hb hr hlocks hS ⟨_, rfl, _, ⟨(congrArg Prod.fst e20).symm, (congrArg Prod.snd e20).symm⟩, hB⟩ dX7_setting_33

def f_X7_cellOf (M : bM) (x1 : Int32) (x2 : Int32) (x3 : Int32) : Int32 × bM := (let r11 : Int32 := f_X7_isCell x1 x2; (if r11 = 0 then (let r33 : Int32 := (f_X7_refused M 1).1; (let M32 : bM := (f_X7_refused M 1).2; (0, M32))) else (let r13 : Int32 := f_X7_in x3.toInt64 0 3; (if r13 = 0 then (let r16 : Int32 := (f_X7_refused M 2).1; (let M15 : bM := (f_X7_refused M 2).2; (0, M15))) else (let r20 : Int32 := (f_X7_refused M 0).1; (let M19 : bM := (f_X7_refused M 0).2; (let x22 : Int32 := (((8 : Int32) * x2) + x1); (if 2 ≤ x3 then (if x3 = 3 then ((M19 2 ((148 : Int32) + x22).toNatClampNeg), M19) else (let r25 : Int32 := f_X7_isDam M19 2 x22; (if r25 = 0 then ((M19 2 ((212 : Int32) + x22).toNatClampNeg), M19) else (4, M19)))) else (let r30 : Int32 := f_X7_cost M19 2 x3 x22; (r30, M19))))))))))
theorem u_f_X7_cellOf (M : bM) (x1 : Int32) (x2 : Int32) (x3 : Int32) : f_X7_cellOf M x1 x2 x3 = (let r11 : Int32 := f_X7_isCell x1 x2; (if r11 = 0 then (let r33 : Int32 := (f_X7_refused M 1).1; (let M32 : bM := (f_X7_refused M 1).2; (0, M32))) else (let r13 : Int32 := f_X7_in x3.toInt64 0 3; (if r13 = 0 then (let r16 : Int32 := (f_X7_refused M 2).1; (let M15 : bM := (f_X7_refused M 2).2; (0, M15))) else (let r20 : Int32 := (f_X7_refused M 0).1; (let M19 : bM := (f_X7_refused M 0).2; (let x22 : Int32 := (((8 : Int32) * x2) + x1); (if 2 ≤ x3 then (if x3 = 3 then ((M19 2 ((148 : Int32) + x22).toNatClampNeg), M19) else (let r25 : Int32 := f_X7_isDam M19 2 x22; (if r25 = 0 then ((M19 2 ((212 : Int32) + x22).toNatClampNeg), M19) else (4, M19)))) else (let r30 : Int32 := f_X7_cost M19 2 x3 x22; (r30, M19)))))))))) := rfl
theorem p_X7_cellOf_e18 (M : bM) (x1 : Int32) (x2 : Int32) (x3 : Int32) (r11 : Int32) (hr11 : f_X7_isCell x1 x2 = r11) (c12 : ¬ r11 = 0) (r13 : Int32) (hr13 : f_X7_in x3.toInt64 0 3 = r13) (c14 : r13 = 0) (r16 : Int32) (hr16 : (f_X7_refused M 2).1 = r16) (M15 : bM) (hM15 : (f_X7_refused M 2).2 = M15) : f_X7_cellOf M x1 x2 x3 = (0, M15) := by subst hM15 hr16 hr13 hr11; exact Eq.trans (u_f_X7_cellOf M x1 x2 x3) (Eq.trans (if_neg c12) (if_pos c14))
theorem p_X7_cellOf_e27 (M : bM) (x1 : Int32) (x2 : Int32) (x3 : Int32) (r11 : Int32) (hr11 : f_X7_isCell x1 x2 = r11) (c12 : ¬ r11 = 0) (r13 : Int32) (hr13 : f_X7_in x3.toInt64 0 3 = r13) (c14 : ¬ r13 = 0) (r20 : Int32) (hr20 : (f_X7_refused M 0).1 = r20) (M19 : bM) (hM19 : (f_X7_refused M 0).2 = M19) (x22 : Int32) (hx22 : (((8 : Int32) * x2) + x1) = x22) (c23 : 2 ≤ x3) (c24 : ¬ x3 = 3) (r25 : Int32) (hr25 : f_X7_isDam M19 2 x22 = r25) (c26 : r25 = 0) : f_X7_cellOf M x1 x2 x3 = ((M19 2 ((212 : Int32) + x22).toNatClampNeg), M19) := by subst hr25 hx22 hM19 hr20 hr13 hr11; exact Eq.trans (u_f_X7_cellOf M x1 x2 x3) (Eq.trans (if_neg c12) (Eq.trans (if_neg c14) (Eq.trans (if_pos c23) (Eq.trans (if_neg c24) (if_pos c26)))))
theorem p_X7_cellOf_e28 (M : bM) (x1 : Int32) (x2 : Int32) (x3 : Int32) (r11 : Int32) (hr11 : f_X7_isCell x1 x2 = r11) (c12 : ¬ r11 = 0) (r13 : Int32) (hr13 : f_X7_in x3.toInt64 0 3 = r13) (c14 : ¬ r13 = 0) (r20 : Int32) (hr20 : (f_X7_refused M 0).1 = r20) (M19 : bM) (hM19 : (f_X7_refused M 0).2 = M19) (x22 : Int32) (hx22 : (((8 : Int32) * x2) + x1) = x22) (c23 : 2 ≤ x3) (c24 : ¬ x3 = 3) (r25 : Int32) (hr25 : f_X7_isDam M19 2 x22 = r25) (c26 : ¬ r25 = 0) : f_X7_cellOf M x1 x2 x3 = (4, M19) := by subst hr25 hx22 hM19 hr20 hr13 hr11; exact Eq.trans (u_f_X7_cellOf M x1 x2 x3) (Eq.trans (if_neg c12) (Eq.trans (if_neg c14) (Eq.trans (if_pos c23) (Eq.trans (if_neg c24) (if_neg c26)))))
theorem p_X7_cellOf_e29 (M : bM) (x1 : Int32) (x2 : Int32) (x3 : Int32) (r11 : Int32) (hr11 : f_X7_isCell x1 x2 = r11) (c12 : ¬ r11 = 0) (r13 : Int32) (hr13 : f_X7_in x3.toInt64 0 3 = r13) (c14 : ¬ r13 = 0) (r20 : Int32) (hr20 : (f_X7_refused M 0).1 = r20) (M19 : bM) (hM19 : (f_X7_refused M 0).2 = M19) (x22 : Int32) (hx22 : (((8 : Int32) * x2) + x1) = x22) (c23 : 2 ≤ x3) (c24 : x3 = 3) : f_X7_cellOf M x1 x2 x3 = ((M19 2 ((148 : Int32) + x22).toNatClampNeg), M19) := by subst hx22 hM19 hr20 hr13 hr11; exact Eq.trans (u_f_X7_cellOf M x1 x2 x3) (Eq.trans (if_neg c12) (Eq.trans (if_neg c14) (Eq.trans (if_pos c23) (if_pos c24))))
theorem p_X7_cellOf_e31 (M : bM) (x1 : Int32) (x2 : Int32) (x3 : Int32) (r11 : Int32) (hr11 : f_X7_isCell x1 x2 = r11) (c12 : ¬ r11 = 0) (r13 : Int32) (hr13 : f_X7_in x3.toInt64 0 3 = r13) (c14 : ¬ r13 = 0) (r20 : Int32) (hr20 : (f_X7_refused M 0).1 = r20) (M19 : bM) (hM19 : (f_X7_refused M 0).2 = M19) (x22 : Int32) (hx22 : (((8 : Int32) * x2) + x1) = x22) (c23 : ¬ 2 ≤ x3) (r30 : Int32) (hr30 : f_X7_cost M19 2 x3 x22 = r30) : f_X7_cellOf M x1 x2 x3 = (r30, M19) := by subst hr30 hx22 hM19 hr20 hr13 hr11; exact Eq.trans (u_f_X7_cellOf M x1 x2 x3) (Eq.trans (if_neg c12) (Eq.trans (if_neg c14) (if_neg c23)))
theorem p_X7_cellOf_e35 (M : bM) (x1 : Int32) (x2 : Int32) (x3 : Int32) (r11 : Int32) (hr11 : f_X7_isCell x1 x2 = r11) (c12 : r11 = 0) (r33 : Int32) (hr33 : (f_X7_refused M 1).1 = r33) (M32 : bM) (hM32 : (f_X7_refused M 1).2 = M32) : f_X7_cellOf M x1 x2 x3 = (0, M32) := by subst hM32 hr33 hr11; exact Eq.trans (u_f_X7_cellOf M x1 x2 x3) (if_pos c12)
set_option maxHeartbeats 4000000 in
set_option maxRecDepth 100000 in
theorem c_X7_cellOf (l : Launch) (D : va_G) (E : Nat → ClassId) (o : Nat) (M : bM) (x1 : Int32) (x2 : Int32) (x3 : Int32) : Met l yX7_cellOf wsX7_cellOf (rmF 2) (bPc D E [.ref (o + 0), .int x1, .int x2, .int x3] (fun H => bk D E LRR o M H)) (bQ (aI fun r H => ∃ M1 : bM, (r = (f_X7_cellOf M x1 x2 x3).1 ∧ M1 = (f_X7_cellOf M x1 x2 x3).2) ∧ bk D E LRR o M1 H) (rB o)) 0 0 (rB o) := by
  refine Met.ofW (cc := cX7_cellOf) (maxL := 5) (ret := (some .int)) (by decide) rfl ?_
  intro p e s m args below meth c s₁ B hml hv
  obtain ⟨rfl, hB, hK⟩ := hv
  have hx := B.exec
  have hb := B.bytes
  have hr := B.returns
  have hts := atoms_spec (ws := wsX7_cellOf) B.pre
  have hown : s.vm.findClass RX7 = some m.cls := findClass_of_methodNamed B.named
  have hlocks := B.notSynchronized
  have hS : bS (rB o) s.heap s.heap [] := bS.rf
  have hl := lv_entry ([.ref (o + 0), .int x1, .int x2, .int x3]) (n := 5) (Nat.le_of_ble_eq_true rfl)
  rw [lg_entry_eq]
  generalize (lg_sl ([.ref (o + 0), .int x1, .int x2, .int x3]) ++ List.replicate (5 - (lg_sl ([.ref (o + 0), .int x1, .int x2, .int x3])).length) Slot.unset).toArray = ls at hl ⊢
  have hl : lv_has ls 5 [(0, .ref (o + 0)), (1, .int x1), (2, .int x2), (3, .int x3)] := hl
  have hB : bk D E LRR o M s.heap := hB
  have hinX7 : ∀ w ∈ wsX70, w ∈ wsX7_cellOf := by decide +kernel
  refine lv_aload_n hx hb dX7_cellOf_0 rfl (lv_at hl 0 rfl) ?_
  refine lv_iload_n hx hb dX7_cellOf_1 rfl (lv_at hl 1 rfl) ?_
  refine lv_iload_n hx hb dX7_cellOf_2 rfl (lv_at hl 2 rfl) ?_
  refine b_pI (b_runS (As := [.int x1, .int x2]) (rest := [.ref (o + 0)]) ⟨hx, hb, hml, hown, hts⟩ (c_X7_isCell l D E x1 x2) (va_cwS 2 hts gX7_cellOf_X7_isCell rfl rfl rfl (by decide +kernel) ⟨Nat.le_of_ble_eq_true rfl, Nat.le_of_ble_eq_true rfl⟩) hK trivial rfl hl rfl (Nat.le_of_ble_eq_true rfl) dX7_cellOf_3 ⟨Nat.zero_le _, Nat.zero_le _⟩) hS (fun r11 hr11 locs hS => ?_)
  refine lv_if_ne (tgt := 13) hx hb dX7_cellOf_6 (by decide) (fun c12 => ?_) (fun c12 => ?_)
  · refine lv_iload_n hx hb dX7_cellOf_13 rfl (lv_at hl 3 rfl) ?_
    refine lv_i2l hx hb dX7_cellOf_14 rfl ?_
    refine lv_lconst (v := 0) hx hb dX7_cellOf_15 (by decide) ?_
    refine lv_ldc2 (v := 3) hx hb hown (hts (.constantLong RX7 203 (3)) (List.mem_of_getElem? (i := 1) rfl)) dX7_cellOf_16 ?_
    refine b_pI (b_runS (As := [.long x3.toInt64, .long 0, .long 3]) (rest := [.ref (o + 0)]) ⟨hx, hb, hml, hown, hts⟩ (c_X7_in l D E x3.toInt64 0 3) (va_cwS 3 hts gX7_cellOf_X7_in rfl rfl rfl (by decide +kernel) ⟨Nat.le_of_ble_eq_true rfl, Nat.le_of_ble_eq_true rfl⟩) hK trivial rfl hl rfl (Nat.le_of_ble_eq_true rfl) dX7_cellOf_19 ⟨Nat.zero_le _, Nat.zero_le _⟩) hS (fun r13 hr13 locs hS => ?_)
    refine lv_if_eq (tgt := 29) hx hb dX7_cellOf_22 (by decide) (fun c14 => ?_) (fun c14 => ?_)
    · refine lv_iconst (v := 2) hx hb dX7_cellOf_29 (by decide) ?_
      refine b_mI (b_runV (As := [.int 2]) (rest := []) ⟨hx, hb, hml, hown, hts⟩ (c_X7_refused l D E o M 2) (cwV 1 hts gX7_cellOf_X7_refused rfl rfl rfl (by decide +kernel) ⟨Nat.le_of_ble_eq_true rfl, Nat.le_of_ble_eq_true rfl⟩) hK (bk_recv hK.1 hB lay_m0 rfl) hB rfl hl rfl (Nat.le_of_ble_eq_true rfl) dX7_cellOf_30 ⟨Nat.zero_le _, Nat.zero_le _⟩) hS (fun q h => h) (fun r16 M15 hM15 H locs hB _ hS => ?_)
      obtain ⟨hr16, hM15⟩ := hM15
      have hkr16 : r16 = 1 := by rw [hr16]; rfl
      refine lv_const (y := 1) hkr16 ?_
      refine lv_if_eq (tgt := 38) hx hb dX7_cellOf_33 (by decide) (fun c17 => absurd c17 (by decide)) (fun c17 => ?_)
      refine lv_iconst (v := 0) hx hb dX7_cellOf_36 (by decide) ?_
      have e18 := p_X7_cellOf_e18 M x1 x2 x3 r11 hr11.symm c12 r13 hr13.symm c14 r16 hr16.symm M15 hM15.symm
      exact b_iret hx hb hr hlocks hS ⟨_, rfl, _, ⟨(congrArg Prod.fst e18).symm, (congrArg Prod.snd e18).symm⟩, hB⟩ dX7_cellOf_37
    · refine lv_iconst (v := 0) hx hb dX7_cellOf_25 (by decide) ?_
      refine lv_goto (tgt := 30) hx hb dX7_cellOf_26 (by decide) ?_
      refine b_mI (b_runV (As := [.int 0]) (rest := []) ⟨hx, hb, hml, hown, hts⟩ (c_X7_refused l D E o M 0) (cwV 1 hts gX7_cellOf_X7_refused rfl rfl rfl (by decide +kernel) ⟨Nat.le_of_ble_eq_true rfl, Nat.le_of_ble_eq_true rfl⟩) hK (bk_recv hK.1 hB lay_m0 rfl) hB rfl hl rfl (Nat.le_of_ble_eq_true rfl) dX7_cellOf_30 ⟨Nat.zero_le _, Nat.zero_le _⟩) hS (fun q h => h) (fun r20 M19 hM19 H locs hB _ hS => ?_)
      obtain ⟨hr20, hM19⟩ := hM19
      have hkr20 : r20 = 0 := by rw [hr20]; rfl
      refine lv_const (y := 0) hkr20 ?_
      refine lv_if_eq (tgt := 38) hx hb dX7_cellOf_33 (by decide) (fun c21 => ?_) (fun c21 => absurd (by decide) c21)
      refine lv_bipush (v := 8) hx hb dX7_cellOf_38 (by decide) ?_
      refine lv_iload_n hx hb dX7_cellOf_40 rfl (lv_at hl 2 rfl) ?_
      refine lv_imul hx hb dX7_cellOf_41 ?_
      refine lv_iload_n hx hb dX7_cellOf_42 rfl (lv_at hl 1 rfl) ?_
      refine lv_iadd hx hb dX7_cellOf_43 ?_
      refine lv_topi (fun x22 hx22 => ?_)
      refine lv_istore (lv' := [(4, .int x22), (0, .ref (o + 0)), (1, .int x1), (2, .int x2), (3, .int x3)]) hx hb dX7_cellOf_44 hl (by decide) rfl (fun ls hl => ?_)
      refine lv_iload_n hx hb dX7_cellOf_46 rfl (lv_at hl 4 rfl) ?_
      refine lv_iconst (v := 2) hx hb dX7_cellOf_47 (by decide) ?_
      refine lv_icmp_ge (tgt := 64) hx hb dX7_cellOf_48 (by decide) (fun c23 => ?_) (fun c23 => ?_)
      · refine lv_iload_n hx hb dX7_cellOf_64 rfl (lv_at hl 4 rfl) ?_
        refine lv_iconst (v := 3) hx hb dX7_cellOf_65 (by decide) ?_
        refine lv_icmp_ne (tgt := 83) hx hb dX7_cellOf_66 (by decide) (fun c24 => ?_) (fun c24 => ?_)
        · refine lv_aload_n hx hb dX7_cellOf_83 rfl (lv_at hl 1 rfl) ?_
          refine b_get (D := D) (E := E) (L := LRR) (o := o) (M := M19) (v := .ref (o + 2)) (C := RX7) (T := TX7) (N := 13) hx hb hts hinX7 hown hK.1 hB 0 lay_m0 rfl 3 (by decide) (hts (.fieldLink RX7 13 "RiverMeetingModel" "now" "[I") (List.mem_of_getElem? (i := 2) rfl)) (fun _ h9 => h9) rfl dX7_cellOf_84 ?_
          refine lv_iload hx hb dX7_cellOf_87 (lv_at hl 0 rfl) ?_
          refine b_pI (b_runS (As := [.ref (o + 2), .int x22]) (rest := []) ⟨hx, hb, hml, hown, hts⟩ (c_X7_isDam l D E o M19 2 x22 lay_m2 (by rw [hx22]; exact (cell64 (isCell_in (hr11 ▸ c12)).1 (isCell_in (hr11 ▸ c12)).2))) (va_cwS 2 hts gX7_cellOf_X7_isDam rfl rfl rfl (by decide +kernel) ⟨Nat.le_of_ble_eq_true rfl, Nat.le_of_ble_eq_true rfl⟩) hK hB rfl hl rfl (Nat.le_of_ble_eq_true rfl) dX7_cellOf_89 ⟨Nat.zero_le _, Nat.zero_le _⟩) hS (fun r25 hr25 locs hS => ?_)
          refine lv_if_eq (tgt := 99) hx hb dX7_cellOf_92 (by decide) (fun c26 => ?_) (fun c26 => ?_)
          · refine lv_aload_n hx hb dX7_cellOf_99 rfl (lv_at hl 1 rfl) ?_
            refine b_get (D := D) (E := E) (L := LRR) (o := o) (M := M19) (v := .ref (o + 2)) (C := RX7) (T := TX7) (N := 13) hx hb hts hinX7 hown hK.1 hB 0 lay_m0 rfl 3 (by decide) (hts (.fieldLink RX7 13 "RiverMeetingModel" "now" "[I") (List.mem_of_getElem? (i := 2) rfl)) (fun _ h9 => h9) rfl dX7_cellOf_100 ?_
            refine lv_sipush (v := 212) hx hb dX7_cellOf_103 (by decide) ?_
            refine lv_iload hx hb dX7_cellOf_106 (lv_at hl 0 rfl) ?_
            refine lv_iadd hx hb dX7_cellOf_108 ?_
            refine b_iald hx hb hK.1 hB 2 lay_m2 (in_addX 212 (by rw [hx22]; exact (cell64 (isCell_in (hr11 ▸ c12)).1 (isCell_in (hr11 ▸ c12)).2)) (by decide) (by decide)) dX7_cellOf_109 ?_
            have e27 := p_X7_cellOf_e27 M x1 x2 x3 r11 hr11.symm c12 r13 hr13.symm c14 r20 hr20.symm M19 hM19.symm x22 hx22.symm c23 c24 r25 hr25.symm c26
            exact b_iret hx hb hr hlocks hS ⟨_, rfl, _, ⟨(congrArg Prod.fst e27).symm, (congrArg Prod.snd e27).symm⟩, hB⟩ dX7_cellOf_110
          · refine lv_iconst (v := 4) hx hb dX7_cellOf_95 (by decide) ?_
            refine lv_goto (tgt := 110) hx hb dX7_cellOf_96 (by decide) ?_
            have e28 := p_X7_cellOf_e28 M x1 x2 x3 r11 hr11.symm c12 r13 hr13.symm c14 r20 hr20.symm M19 hM19.symm x22 hx22.symm c23 c24 r25 hr25.symm c26
            exact b_iret hx hb hr hlocks hS ⟨_, rfl, _, ⟨(congrArg Prod.fst e28).symm, (congrArg Prod.snd e28).symm⟩, hB⟩ dX7_cellOf_110
        · refine lv_aload_n hx hb dX7_cellOf_69 rfl (lv_at hl 1 rfl) ?_
          refine b_get (D := D) (E := E) (L := LRR) (o := o) (M := M19) (v := .ref (o + 2)) (C := RX7) (T := TX7) (N := 13) hx hb hts hinX7 hown hK.1 hB 0 lay_m0 rfl 3 (by decide) (hts (.fieldLink RX7 13 "RiverMeetingModel" "now" "[I") (List.mem_of_getElem? (i := 2) rfl)) (fun _ h9 => h9) rfl dX7_cellOf_70 ?_
          refine lv_sipush (v := 148) hx hb dX7_cellOf_73 (by decide) ?_
          refine lv_iload hx hb dX7_cellOf_76 (lv_at hl 0 rfl) ?_
          refine lv_iadd hx hb dX7_cellOf_78 ?_
          refine b_iald hx hb hK.1 hB 2 lay_m2 (in_addX 148 (by rw [hx22]; exact (cell64 (isCell_in (hr11 ▸ c12)).1 (isCell_in (hr11 ▸ c12)).2)) (by decide) (by decide)) dX7_cellOf_79 ?_
          refine lv_goto (tgt := 110) hx hb dX7_cellOf_80 (by decide) ?_
          have e29 := p_X7_cellOf_e29 M x1 x2 x3 r11 hr11.symm c12 r13 hr13.symm c14 r20 hr20.symm M19 hM19.symm x22 hx22.symm c23 c24
          exact b_iret hx hb hr hlocks hS ⟨_, rfl, _, ⟨(congrArg Prod.fst e29).symm, (congrArg Prod.snd e29).symm⟩, hB⟩ dX7_cellOf_110
      · refine lv_aload_n hx hb dX7_cellOf_51 rfl (lv_at hl 1 rfl) ?_
        refine b_get (D := D) (E := E) (L := LRR) (o := o) (M := M19) (v := .ref (o + 2)) (C := RX7) (T := TX7) (N := 13) hx hb hts hinX7 hown hK.1 hB 0 lay_m0 rfl 3 (by decide) (hts (.fieldLink RX7 13 "RiverMeetingModel" "now" "[I") (List.mem_of_getElem? (i := 2) rfl)) (fun _ h9 => h9) rfl dX7_cellOf_52 ?_
        refine lv_iload_n hx hb dX7_cellOf_55 rfl (lv_at hl 4 rfl) ?_
        refine lv_iload hx hb dX7_cellOf_56 (lv_at hl 0 rfl) ?_
        refine b_pI (b_runS (As := [.ref (o + 2), .int x3, .int x22]) (rest := []) ⟨hx, hb, hml, hown, hts⟩ (c_X7_cost l D E o M19 2 x3 x22 lay_m2 (pb_lt2 (in_rng 4 (by decide) (hr13 ▸ c14)) c23) (by rw [hx22]; exact (cell64 (isCell_in (hr11 ▸ c12)).1 (isCell_in (hr11 ▸ c12)).2))) (va_cwS 3 hts gX7_cellOf_X7_cost rfl rfl rfl (by decide +kernel) ⟨Nat.le_of_ble_eq_true rfl, Nat.le_of_ble_eq_true rfl⟩) hK hB rfl hl rfl (Nat.le_of_ble_eq_true rfl) dX7_cellOf_58 ⟨Nat.zero_le _, Nat.zero_le _⟩) hS (fun r30 hr30 locs hS => ?_)
        refine lv_goto (tgt := 110) hx hb dX7_cellOf_61 (by decide) ?_
        have e31 := p_X7_cellOf_e31 M x1 x2 x3 r11 hr11.symm c12 r13 hr13.symm c14 r20 hr20.symm M19 hM19.symm x22 hx22.symm c23 r30 hr30.symm
        exact b_iret hx hb hr hlocks hS ⟨_, rfl, _, ⟨(congrArg Prod.fst e31).symm, (congrArg Prod.snd e31).symm⟩, hB⟩ dX7_cellOf_110
  · refine lv_iconst (v := 1) hx hb dX7_cellOf_9 (by decide) ?_
    refine lv_goto (tgt := 30) hx hb dX7_cellOf_10 (by decide) ?_
    refine b_mI (b_runV (As := [.int 1]) (rest := []) ⟨hx, hb, hml, hown, hts⟩ (c_X7_refused l D E o M 1) (cwV 1 hts gX7_cellOf_X7_refused rfl rfl rfl (by decide +kernel) ⟨Nat.le_of_ble_eq_true rfl, Nat.le_of_ble_eq_true rfl⟩) hK (bk_recv hK.1 hB lay_m0 rfl) hB rfl hl rfl (Nat.le_of_ble_eq_true rfl) dX7_cellOf_30 ⟨Nat.zero_le _, Nat.zero_le _⟩) hS (fun q h => h) (fun r33 M32 hM32 H locs hB _ hS => ?_)
    obtain ⟨hr33, hM32⟩ := hM32
    have hkr33 : r33 = 1 := by rw [hr33]; rfl
    refine lv_const (y := 1) hkr33 ?_
    refine lv_if_eq (tgt := 38) hx hb dX7_cellOf_33 (by decide) (fun c34 => absurd c34 (by decide)) (fun c34 => ?_)
    refine lv_iconst (v := 0) hx hb dX7_cellOf_36 (by decide) ?_
    have e35 := p_X7_cellOf_e35 M x1 x2 x3 r11 hr11.symm c12 r33 hr33.symm M32 hM32.symm
    exact b_iret hx hb hr hlocks hS ⟨_, rfl, _, ⟨(congrArg Prod.fst e35).symm, (congrArg Prod.snd e35).symm⟩, hB⟩ dX7_cellOf_37

