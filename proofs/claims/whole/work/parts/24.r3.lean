theorem len_z0 {M : bM} {k : Nat} : vp_in (f_X7_of (up2 M k 14 0) k 0 4) 64 := by
  have e : f_X7_of (up2 M k 14 0) k 0 4 = 0 := by
    show up2 M k 14 0 k 14 = 0
    simp [up2]
  rw [e]
  exact vp_in_nI (n := 0) (by decide) (by decide)
theorem len_z1 {M : bM} {k : Nat} : vp_in (f_X7_of (up2 M k 19 0) k 1 4) 64 := by
  have e : f_X7_of (up2 M k 19 0) k 1 4 = 0 := by
    show up2 M k 19 0 k 19 = 0
    simp [up2]
  rw [e]
  exact vp_in_nI (n := 0) (by decide) (by decide)
theorem pb_in {x : Int32} (h : x = 0 ∨ x = 1) : vp_in x 2 := by
  rcases h with rfl | rfl
  · exact vp_in_nI (n := 0) (by decide) (by decide)
  · exact vp_in_nI (n := 1) (by decide) (by decide)
theorem fr_X7_add (M : bM) (k1 : Nat) (x2 : Int32) (x3 : Int32) (x4 : Int32) (k : Nat) (hk : k ≠ k1) : f_X7_add M k1 x2 x3 x4 k = M k := by
  obtain ⟨M11, hM11⟩ : ∃ y : bM, y = up2 M k1 (((10 : Int32) + ((5 : Int32) * x2)) + x3).toNatClampNeg ((M k1 (((10 : Int32) + ((5 : Int32) * x2)) + x3).toNatClampNeg) + x4) := ⟨_, rfl⟩
  rw [p_X7_add_e12 M k1 x2 x3 x4 M11 hM11.symm]
  try dsimp only
  rw [hM11, up2_row (by omega)]

theorem fr_X7_flows (M : bM) (k1 : Nat) (x2 : Int32) (x3 : Int32) (k : Nat) (hk : k ≠ k1) : f_X7_flows M k1 x2 x3 k = M k := by
  obtain ⟨r11, hr11⟩ : ∃ y : Int32, y = f_X7_of M k1 x2 4 := ⟨_, rfl⟩
  obtain ⟨M12, hM12⟩ : ∃ y : bM, y = up2 M k1 (((276 : Int32) + ((64 : Int32) * x2)) + r11).toNatClampNeg x3 := ⟨_, rfl⟩
  obtain ⟨M13, hM13⟩ : ∃ y : bM, y = f_X7_add M12 k1 x2 4 1 := ⟨_, rfl⟩
  obtain ⟨M14, hM14⟩ : ∃ y : bM, y = up2 M13 k1 ((212 : Int32) + x3).toNatClampNeg ((M13 k1 ((212 : Int32) + x3).toNatClampNeg) ||| ((1 : Int32) <<< (x2 &&& 31))) := ⟨_, rfl⟩
  rw [p_X7_flows_e15 M k1 x2 x3 r11 hr11.symm M12 hM12.symm M13 hM13.symm M14 hM14.symm]
  try dsimp only
  rw [hM14, up2_row (by omega), hM13, fr_X7_add M12 k1 x2 4 1 k (by omega), hM12, up2_row (by omega)]

theorem fr_X7_pays (M : bM) (k1 : Nat) (x2 : Int32) (x3 : Int32) (k : Nat) (hk : k ≠ k1) : f_X7_pays M k1 x2 x3 k = M k := by
  obtain ⟨M11, hM11⟩ : ∃ y : bM, y = f_X7_add M k1 x2 0 x3 := ⟨_, rfl⟩
  obtain ⟨M12, hM12⟩ : ∃ y : bM, y = f_X7_add M11 k1 x2 3 x3 := ⟨_, rfl⟩
  rw [p_X7_pays_e13 M k1 x2 x3 M11 hM11.symm M12 hM12.symm]
  try dsimp only
  rw [hM12, fr_X7_add M11 k1 x2 3 x3 k (by omega), hM11, fr_X7_add M k1 x2 0 x3 k (by omega)]

theorem fr_lp_X7_turnEnds_9 (M : bM) (k1 : Nat) (M11 : bM) (k : Nat) (hk : k ≠ k1) : ∀ (n12 i12 : Nat) (M13 : bM), (lp_X7_turnEnds_9 k1 n12 i12 M13) k = M13 k := by
  intro n12
  induction n12 with
  | zero =>
    intro i12 M13
    rw [p_X7_turnEnds_e15 M k1 M11 M13 i12 ]
  | succ n12 ih12 =>
    intro i12 M13
    obtain ⟨r17, hr17⟩ : ∃ y : Int32, y = f_X7_isDam M13 k1 (nI i12) := ⟨_, rfl⟩
    by_cases c18 : r17 = 0
    · rw [p_X7_turnEnds_e19 M k1 M11 M13 i12 n12 r17 hr17.symm c18, ih12]
    · obtain ⟨M20, hM20⟩ : ∃ y : bM, y = up2 M13 k1 (148 + i12) ((M13 k1 (148 + i12)) + 1) := ⟨_, rfl⟩
      by_cases c21 : (M20 k1 (148 + i12)) < (M20 k1 8)
      · obtain ⟨M22, hM22⟩ : ∃ y : bM, y = up2 M20 k1 (148 + i12) (M20 k1 (148 + i12)) := ⟨_, rfl⟩
        rw [p_X7_turnEnds_e23 M k1 M11 M13 i12 n12 r17 hr17.symm c18 M20 hM20.symm c21 M22 hM22.symm, ih12]
        try dsimp only
        rw [hM22, up2_row (by omega), hM20, up2_row (by omega)]
      · obtain ⟨M24, hM24⟩ : ∃ y : bM, y = up2 M20 k1 (148 + i12) (-1) := ⟨_, rfl⟩
        rw [p_X7_turnEnds_e25 M k1 M11 M13 i12 n12 r17 hr17.symm c18 M20 hM20.symm c21 M24 hM24.symm, ih12]
        try dsimp only
        rw [hM24, up2_row (by omega), hM20, up2_row (by omega)]
theorem fr_X7_turnEnds (M : bM) (k1 : Nat) (k : Nat) (hk : k ≠ k1) : f_X7_turnEnds M k1 k = M k := by
  obtain ⟨M11, hM11⟩ : ∃ y : bM, y = up2 M k1 3 ((M k1 3) + 1) := ⟨_, rfl⟩
  obtain ⟨M26, hM26⟩ : ∃ y : bM, y = (lp_X7_turnEnds_9 k1 64 0 M11) := ⟨_, rfl⟩
  obtain ⟨M27, hM27⟩ : ∃ y : bM, y = up2 M26 k1 2 ((1 : Int32) - (M26 k1 2)) := ⟨_, rfl⟩
  obtain ⟨r28, hr28⟩ : ∃ y : Int32, y = f_X7_isUnderWay M27 k1 := ⟨_, rfl⟩
  by_cases c29 : r28 = 0
  · obtain ⟨M30, hM30⟩ : ∃ y : bM, y = up2 M27 k1 1 (M27 k1 1) := ⟨_, rfl⟩
    rw [p_X7_turnEnds_e31 M k1 M11 hM11.symm M26 hM26.symm M27 hM27.symm r28 hr28.symm c29 M30 hM30.symm]
    try dsimp only
    rw [hM30, up2_row (by omega), hM27, up2_row (by omega), hM26, fr_lp_X7_turnEnds_9 M k1 M11 k hk 64 0 M11, hM11, up2_row (by omega)]
  · by_cases c32 : (M27 k1 3) = 80
    · obtain ⟨M35, hM35⟩ : ∃ y : bM, y = up2 M27 k1 1 3 := ⟨_, rfl⟩
      rw [p_X7_turnEnds_e36 M k1 M11 hM11.symm M26 hM26.symm M27 hM27.symm r28 hr28.symm c29 c32 M35 hM35.symm]
      try dsimp only
      rw [hM35, up2_row (by omega), hM27, up2_row (by omega), hM26, fr_lp_X7_turnEnds_9 M k1 M11 k hk 64 0 M11, hM11, up2_row (by omega)]
    · obtain ⟨M33, hM33⟩ : ∃ y : bM, y = up2 M27 k1 1 (M27 k1 1) := ⟨_, rfl⟩
      rw [p_X7_turnEnds_e34 M k1 M11 hM11.symm M26 hM26.symm M27 hM27.symm r28 hr28.symm c29 c32 M33 hM33.symm]
      try dsimp only
      rw [hM33, up2_row (by omega), hM27, up2_row (by omega), hM26, fr_lp_X7_turnEnds_9 M k1 M11 k hk 64 0 M11, hM11, up2_row (by omega)]

theorem fr_X7_meet (M : bM) (k1 : Nat) (x2 : Int32) (k : Nat) (hk : k ≠ k1) : f_X7_meet M k1 x2 k = M k := by
  obtain ⟨r12, hr12⟩ : ∃ y : Int32, y = f_X7_cost M k1 0 x2 := ⟨_, rfl⟩
  obtain ⟨M13, hM13⟩ : ∃ y : bM, y = f_X7_pays M k1 0 ((M k1 9) * r12) := ⟨_, rfl⟩
  obtain ⟨r15, hr15⟩ : ∃ y : Int32, y = f_X7_cost M13 k1 1 x2 := ⟨_, rfl⟩
  obtain ⟨M16, hM16⟩ : ∃ y : bM, y = f_X7_pays M13 k1 1 ((M13 k1 9) * r15) := ⟨_, rfl⟩
  obtain ⟨M18, hM18⟩ : ∃ y : bM, y = up2 M16 k1 1 2 := ⟨_, rfl⟩
  obtain ⟨M19, hM19⟩ : ∃ y : bM, y = up2 M18 k1 4 x2 := ⟨_, rfl⟩
  obtain ⟨r20, hr20⟩ : ∃ y : Int32, y = f_X7_of M19 k1 0 0 := ⟨_, rfl⟩
  obtain ⟨r21, hr21⟩ : ∃ y : Int32, y = f_X7_of M19 k1 1 0 := ⟨_, rfl⟩
  obtain ⟨x22, hx22⟩ : ∃ y : Int32, y = (r20 - r21) := ⟨_, rfl⟩
  by_cases c23 : 0 ≤ x22
  · by_cases c24 : x22 ≤ 0
    · obtain ⟨M25, hM25⟩ : ∃ y : bM, y = up2 M19 k1 5 (-1) := ⟨_, rfl⟩
      by_cases c26 : x22 = 0
      · rw [p_X7_meet_e27 M k1 x2 r12 hr12.symm M13 hM13.symm r15 hr15.symm M16 hM16.symm M18 hM18.symm M19 hM19.symm r20 hr20.symm r21 hr21.symm x22 hx22.symm c23 c24 M25 hM25.symm c26]
        try dsimp only
        rw [hM25, up2_row (by omega), hM19, up2_row (by omega), hM18, up2_row (by omega), hM16, fr_X7_pays M13 k1 1 ((M13 k1 9) * r15) k (by omega), hM13, fr_X7_pays M k1 0 ((M k1 9) * r12) k (by omega)]
      · obtain ⟨M28, hM28⟩ : ∃ y : bM, y = f_X7_add M25 k1 (M25 k1 5) 2 1 := ⟨_, rfl⟩
        rw [p_X7_meet_e29 M k1 x2 r12 hr12.symm M13 hM13.symm r15 hr15.symm M16 hM16.symm M18 hM18.symm M19 hM19.symm r20 hr20.symm r21 hr21.symm x22 hx22.symm c23 c24 M25 hM25.symm c26 M28 hM28.symm]
        try dsimp only
        rw [hM28, fr_X7_add M25 k1 (M25 k1 5) 2 1 k (by omega), hM25, up2_row (by omega), hM19, up2_row (by omega), hM18, up2_row (by omega), hM16, fr_X7_pays M13 k1 1 ((M13 k1 9) * r15) k (by omega), hM13, fr_X7_pays M k1 0 ((M k1 9) * r12) k (by omega)]
    · obtain ⟨M30, hM30⟩ : ∃ y : bM, y = up2 M19 k1 5 1 := ⟨_, rfl⟩
      by_cases c31 : x22 = 0
      · rw [p_X7_meet_e32 M k1 x2 r12 hr12.symm M13 hM13.symm r15 hr15.symm M16 hM16.symm M18 hM18.symm M19 hM19.symm r20 hr20.symm r21 hr21.symm x22 hx22.symm c23 c24 M30 hM30.symm c31]
        try dsimp only
        rw [hM30, up2_row (by omega), hM19, up2_row (by omega), hM18, up2_row (by omega), hM16, fr_X7_pays M13 k1 1 ((M13 k1 9) * r15) k (by omega), hM13, fr_X7_pays M k1 0 ((M k1 9) * r12) k (by omega)]
      · obtain ⟨M33, hM33⟩ : ∃ y : bM, y = f_X7_add M30 k1 (M30 k1 5) 2 1 := ⟨_, rfl⟩
        rw [p_X7_meet_e34 M k1 x2 r12 hr12.symm M13 hM13.symm r15 hr15.symm M16 hM16.symm M18 hM18.symm M19 hM19.symm r20 hr20.symm r21 hr21.symm x22 hx22.symm c23 c24 M30 hM30.symm c31 M33 hM33.symm]
        try dsimp only
        rw [hM33, fr_X7_add M30 k1 (M30 k1 5) 2 1 k (by omega), hM30, up2_row (by omega), hM19, up2_row (by omega), hM18, up2_row (by omega), hM16, fr_X7_pays M13 k1 1 ((M13 k1 9) * r15) k (by omega), hM13, fr_X7_pays M k1 0 ((M k1 9) * r12) k (by omega)]
  · obtain ⟨M35, hM35⟩ : ∃ y : bM, y = up2 M19 k1 5 0 := ⟨_, rfl⟩
    by_cases c36 : x22 = 0
    · rw [p_X7_meet_e37 M k1 x2 r12 hr12.symm M13 hM13.symm r15 hr15.symm M16 hM16.symm M18 hM18.symm M19 hM19.symm r20 hr20.symm r21 hr21.symm x22 hx22.symm c23 M35 hM35.symm c36]
      try dsimp only
      rw [hM35, up2_row (by omega), hM19, up2_row (by omega), hM18, up2_row (by omega), hM16, fr_X7_pays M13 k1 1 ((M13 k1 9) * r15) k (by omega), hM13, fr_X7_pays M k1 0 ((M k1 9) * r12) k (by omega)]
    · obtain ⟨M38, hM38⟩ : ∃ y : bM, y = f_X7_add M35 k1 (M35 k1 5) 2 1 := ⟨_, rfl⟩
      rw [p_X7_meet_e39 M k1 x2 r12 hr12.symm M13 hM13.symm r15 hr15.symm M16 hM16.symm M18 hM18.symm M19 hM19.symm r20 hr20.symm r21 hr21.symm x22 hx22.symm c23 M35 hM35.symm c36 M38 hM38.symm]
      try dsimp only
      rw [hM38, fr_X7_add M35 k1 (M35 k1 5) 2 1 k (by omega), hM35, up2_row (by omega), hM19, up2_row (by omega), hM18, up2_row (by omega), hM16, fr_X7_pays M13 k1 1 ((M13 k1 9) * r15) k (by omega), hM13, fr_X7_pays M k1 0 ((M k1 9) * r12) k (by omega)]

def f_X7_reason (M : bM) (k1 : Nat) (x2 : Int32) : Int32 := (let x11 : Int32 := (M k1 2); (let r12 : Int32 := f_X7_head M k1 x11; (let r13 : Int32 := f_X7_stepFrom r12 x2; (if r13 = (-1) then 1 else (let r15 : Int32 := f_X7_isDam M k1 r13; (if r15 = 0 then (let r17 : Int32 := f_X7_isRiver M k1 x11 r13; (if r17 = 0 then 0 else 3)) else 2))))))
theorem u_f_X7_reason (M : bM) (k1 : Nat) (x2 : Int32) : f_X7_reason M k1 x2 = (let x11 : Int32 := (M k1 2); (let r12 : Int32 := f_X7_head M k1 x11; (let r13 : Int32 := f_X7_stepFrom r12 x2; (if r13 = (-1) then 1 else (let r15 : Int32 := f_X7_isDam M k1 r13; (if r15 = 0 then (let r17 : Int32 := f_X7_isRiver M k1 x11 r13; (if r17 = 0 then 0 else 3)) else 2)))))) := rfl
theorem p_X7_reason_e19 (M : bM) (k1 : Nat) (x2 : Int32) (x11 : Int32) (hx11 : (M k1 2) = x11) (r12 : Int32) (hr12 : f_X7_head M k1 x11 = r12) (r13 : Int32) (hr13 : f_X7_stepFrom r12 x2 = r13) (c14 : ¬ r13 = (-1)) (r15 : Int32) (hr15 : f_X7_isDam M k1 r13 = r15) (c16 : r15 = 0) (r17 : Int32) (hr17 : f_X7_isRiver M k1 x11 r13 = r17) (c18 : r17 = 0) : f_X7_reason M k1 x2 = 0 := by subst hr17 hr15 hr13 hr12 hx11; exact Eq.trans (u_f_X7_reason M k1 x2) (Eq.trans (if_neg c14) (Eq.trans (if_pos c16) (if_pos c18)))
theorem p_X7_reason_e20 (M : bM) (k1 : Nat) (x2 : Int32) (x11 : Int32) (hx11 : (M k1 2) = x11) (r12 : Int32) (hr12 : f_X7_head M k1 x11 = r12) (r13 : Int32) (hr13 : f_X7_stepFrom r12 x2 = r13) (c14 : ¬ r13 = (-1)) (r15 : Int32) (hr15 : f_X7_isDam M k1 r13 = r15) (c16 : r15 = 0) (r17 : Int32) (hr17 : f_X7_isRiver M k1 x11 r13 = r17) (c18 : ¬ r17 = 0) : f_X7_reason M k1 x2 = 3 := by subst hr17 hr15 hr13 hr12 hx11; exact Eq.trans (u_f_X7_reason M k1 x2) (Eq.trans (if_neg c14) (Eq.trans (if_pos c16) (if_neg c18)))
theorem p_X7_reason_e21 (M : bM) (k1 : Nat) (x2 : Int32) (x11 : Int32) (hx11 : (M k1 2) = x11) (r12 : Int32) (hr12 : f_X7_head M k1 x11 = r12) (r13 : Int32) (hr13 : f_X7_stepFrom r12 x2 = r13) (c14 : ¬ r13 = (-1)) (r15 : Int32) (hr15 : f_X7_isDam M k1 r13 = r15) (c16 : ¬ r15 = 0) : f_X7_reason M k1 x2 = 2 := by subst hr15 hr13 hr12 hx11; exact Eq.trans (u_f_X7_reason M k1 x2) (Eq.trans (if_neg c14) (if_neg c16))
theorem p_X7_reason_e22 (M : bM) (k1 : Nat) (x2 : Int32) (x11 : Int32) (hx11 : (M k1 2) = x11) (r12 : Int32) (hr12 : f_X7_head M k1 x11 = r12) (r13 : Int32) (hr13 : f_X7_stepFrom r12 x2 = r13) (c14 : r13 = (-1)) : f_X7_reason M k1 x2 = 1 := by subst hr13 hr12 hx11; exact Eq.trans (u_f_X7_reason M k1 x2) (if_pos c14)
set_option maxHeartbeats 4000000 in
set_option maxRecDepth 100000 in
theorem c_X7_reason (l : Launch) (D : va_G) (E : Nat → ClassId) (o : Nat) (M : bM) (k1 : Nat) (x2 : Int32) (hk1 : LRR[k1]? = some (.inl (0, 404))) (hw : wfR M k1) : Met l yX7_reason wsX7_reason (rmF 3) (bPc D E [.ref (o + k1), .int x2] (fun H => bk D E LRR o M H)) (bQ (aI fun r _ => r = f_X7_reason M k1 x2) bNo) 0 0 bNo := by
  refine Met.ofW (cc := cX7_reason) (maxL := 4) (ret := (some .int)) (by decide) rfl ?_
  intro p e s m args below meth c s₁ B hml hv
  obtain ⟨rfl, hB, hK⟩ := hv
  have hx := B.exec
  have hb := B.bytes
  have hr := B.returns
  have hts := atoms_spec (ws := wsX7_reason) B.pre
  have hown : s.vm.findClass RX7 = some m.cls := findClass_of_methodNamed B.named
  have hlocks := B.notSynchronized
  have hS : bS bNo s.heap s.heap [] := bS.rf
  have hl := lv_entry ([.ref (o + k1), .int x2]) (n := 4) (Nat.le_of_ble_eq_true rfl)
  rw [lg_entry_eq]
  generalize (lg_sl ([.ref (o + k1), .int x2]) ++ List.replicate (4 - (lg_sl ([.ref (o + k1), .int x2])).length) Slot.unset).toArray = ls at hl ⊢
  have hl : lv_has ls 4 [(0, .ref (o + k1)), (1, .int x2)] := hl
  have hB : bk D E LRR o M s.heap := hB
  refine lv_aload_n hx hb dX7_reason_0 rfl (lv_at hl 0 rfl) ?_
  refine lv_iconst (v := 2) hx hb dX7_reason_1 (by decide) ?_
  refine b_iald hx hb hK.1 hB k1 hk1 (vp_in_nI (n := 2) (by decide) (by decide)) dX7_reason_2 ?_
  refine lv_const (y := M k1 2) (by rfl) ?_
  refine lv_topi (fun x11 hx11 => ?_)
  refine lv_istore_n (lv' := [(2, .int x11), (0, .ref (o + k1)), (1, .int x2)]) hx hb dX7_reason_3 rfl hl (by decide) rfl (fun ls hl => ?_)
  refine lv_aload_n hx hb dX7_reason_4 rfl (lv_at hl 1 rfl) ?_
  refine lv_iload_n hx hb dX7_reason_5 rfl (lv_at hl 0 rfl) ?_
  refine b_pI (b_runS (As := [.ref (o + k1), .int x11]) (rest := []) ⟨hx, hb, hml, hown, hts⟩ (c_X7_head l D E o M k1 x11 hk1 (by rw [hx11]; exact (wf_tb (M := M) (k := k1) hw)) (len_of (by rw [hx11]; exact (wf_tb (M := M) (k := k1) hw)) (wf_ln (M := M) (k := k1) hw))) (va_cwS 2 hts gX7_reason_X7_head rfl rfl rfl (by decide +kernel) ⟨Nat.le_of_ble_eq_true rfl, Nat.le_of_ble_eq_true rfl⟩) hK hB rfl hl rfl (Nat.le_of_ble_eq_true rfl) dX7_reason_6 ⟨Nat.zero_le _, Nat.zero_le _⟩) hS (fun r12 hr12 locs hS => ?_)
  refine lv_iload_n hx hb dX7_reason_9 rfl (lv_at hl 2 rfl) ?_
  refine b_pI (b_runS (As := [.int r12, .int x2]) (rest := []) ⟨hx, hb, hml, hown, hts⟩ (c_X7_stepFrom l D E r12 x2) (va_cwS 2 hts gX7_reason_X7_stepFrom rfl rfl rfl (by decide +kernel) ⟨Nat.le_of_ble_eq_true rfl, Nat.le_of_ble_eq_true rfl⟩) hK trivial rfl hl rfl (Nat.le_of_ble_eq_true rfl) dX7_reason_10 ⟨Nat.zero_le _, Nat.zero_le _⟩) hS (fun r13 hr13 locs hS => ?_)
  refine lv_istore_n (lv' := [(3, .int r13), (2, .int x11), (0, .ref (o + k1)), (1, .int x2)]) hx hb dX7_reason_13 rfl hl (by decide) rfl (fun ls hl => ?_)
  refine lv_iload_n hx hb dX7_reason_14 rfl (lv_at hl 0 rfl) ?_
  refine lv_iconst (v := (-1)) hx hb dX7_reason_15 (by decide) ?_
  refine lv_icmp_ne (tgt := 23) hx hb dX7_reason_16 (by decide) (fun c14 => ?_) (fun c14 => ?_)
  · refine lv_aload_n hx hb dX7_reason_23 rfl (lv_at hl 2 rfl) ?_
    refine lv_iload_n hx hb dX7_reason_24 rfl (lv_at hl 0 rfl) ?_
    refine b_pI (b_runS (As := [.ref (o + k1), .int r13]) (rest := []) ⟨hx, hb, hml, hown, hts⟩ (c_X7_isDam l D E o M k1 r13 hk1 (by rw [hr13]; exact stepFrom_in (hr13 ▸ c14))) (va_cwS 2 hts gX7_reason_X7_isDam rfl rfl rfl (by decide +kernel) ⟨Nat.le_of_ble_eq_true rfl, Nat.le_of_ble_eq_true rfl⟩) hK hB rfl hl rfl (Nat.le_of_ble_eq_true rfl) dX7_reason_25 ⟨Nat.zero_le _, Nat.zero_le _⟩) hS (fun r15 hr15 locs hS => ?_)
    refine lv_if_eq (tgt := 35) hx hb dX7_reason_28 (by decide) (fun c16 => ?_) (fun c16 => ?_)
    · refine lv_aload_n hx hb dX7_reason_35 rfl (lv_at hl 2 rfl) ?_
      refine lv_iload_n hx hb dX7_reason_36 rfl (lv_at hl 1 rfl) ?_
      refine lv_iload_n hx hb dX7_reason_37 rfl (lv_at hl 0 rfl) ?_
      refine b_pI (b_runS (As := [.ref (o + k1), .int x11, .int r13]) (rest := []) ⟨hx, hb, hml, hown, hts⟩ (c_X7_isRiver l D E o M k1 x11 r13 hk1 (by rw [hr13]; exact stepFrom_in (hr13 ▸ c14))) (va_cwS 3 hts gX7_reason_X7_isRiver rfl rfl rfl (by decide +kernel) ⟨Nat.le_of_ble_eq_true rfl, Nat.le_of_ble_eq_true rfl⟩) hK hB rfl hl rfl (Nat.le_of_ble_eq_true rfl) dX7_reason_38 ⟨Nat.zero_le _, Nat.zero_le _⟩) hS (fun r17 hr17 locs hS => ?_)
      refine lv_if_eq (tgt := 48) hx hb dX7_reason_41 (by decide) (fun c18 => ?_) (fun c18 => ?_)
      · refine lv_iconst (v := 0) hx hb dX7_reason_48 (by decide) ?_
        have e19 := p_X7_reason_e19 M k1 x2 x11 hx11.symm r12 hr12.symm r13 hr13.symm c14 r15 hr15.symm c16 r17 hr17.symm c18
        exact b_iret hx hb hr hlocks hS ⟨_, rfl, e19.symm⟩ dX7_reason_49
      · refine lv_iconst (v := 3) hx hb dX7_reason_44 (by decide) ?_
        refine lv_goto (tgt := 49) hx hb dX7_reason_45 (by decide) ?_
        have e20 := p_X7_reason_e20 M k1 x2 x11 hx11.symm r12 hr12.symm r13 hr13.symm c14 r15 hr15.symm c16 r17 hr17.symm c18
        exact b_iret hx hb hr hlocks hS ⟨_, rfl, e20.symm⟩ dX7_reason_49
    · refine lv_iconst (v := 2) hx hb dX7_reason_31 (by decide) ?_
      refine lv_goto (tgt := 49) hx hb dX7_reason_32 (by decide) ?_
      have e21 := p_X7_reason_e21 M k1 x2 x11 hx11.symm r12 hr12.symm r13 hr13.symm c14 r15 hr15.symm c16
      exact b_iret hx hb hr hlocks hS ⟨_, rfl, e21.symm⟩ dX7_reason_49
  · refine lv_iconst (v := 1) hx hb dX7_reason_19 (by decide) ?_
    refine lv_goto (tgt := 49) hx hb dX7_reason_20 (by decide) ?_
    have e22 := p_X7_reason_e22 M k1 x2 x11 hx11.symm r12 hr12.symm r13 hr13.symm c14
    exact b_iret hx hb hr hlocks hS ⟨_, rfl, e22.symm⟩ dX7_reason_49

theorem reason_cell {M : bM} {k : Nat} {d : Int32} (h : f_X7_reason M k d ≤ 0) : vp_in (f_X7_stepFrom (f_X7_head M k (M k 2)) d) 64 := by
  refine stepFrom_in (fun q => ?_)
  rw [u_f_X7_reason] at h
  dsimp only at h
  rw [if_pos q] at h
  exact absurd h (by decide)
def f_X7_canStep (M : bM) (k1 : Nat) : Int32 := (let r11 : Int32 := f_X7_reason M k1 0; (if r11 = 0 then 1 else (let r14 : Int32 := f_X7_reason M k1 1; (if r14 = 0 then 1 else (let r17 : Int32 := f_X7_reason M k1 2; (if r17 = 0 then 1 else 0))))))
theorem u_f_X7_canStep (M : bM) (k1 : Nat) : f_X7_canStep M k1 = (let r11 : Int32 := f_X7_reason M k1 0; (if r11 = 0 then 1 else (let r14 : Int32 := f_X7_reason M k1 1; (if r14 = 0 then 1 else (let r17 : Int32 := f_X7_reason M k1 2; (if r17 = 0 then 1 else 0)))))) := rfl
theorem p_X7_canStep_e13 (M : bM) (k1 : Nat) (r11 : Int32) (hr11 : f_X7_reason M k1 0 = r11) (c12 : r11 = 0) : f_X7_canStep M k1 = 1 := by subst hr11; exact Eq.trans (u_f_X7_canStep M k1) (if_pos c12)
theorem p_X7_canStep_e16 (M : bM) (k1 : Nat) (r11 : Int32) (hr11 : f_X7_reason M k1 0 = r11) (c12 : ¬ r11 = 0) (r14 : Int32) (hr14 : f_X7_reason M k1 1 = r14) (c15 : r14 = 0) : f_X7_canStep M k1 = 1 := by subst hr14 hr11; exact Eq.trans (u_f_X7_canStep M k1) (Eq.trans (if_neg c12) (if_pos c15))
theorem p_X7_canStep_e19 (M : bM) (k1 : Nat) (r11 : Int32) (hr11 : f_X7_reason M k1 0 = r11) (c12 : ¬ r11 = 0) (r14 : Int32) (hr14 : f_X7_reason M k1 1 = r14) (c15 : ¬ r14 = 0) (r17 : Int32) (hr17 : f_X7_reason M k1 2 = r17) (c18 : ¬ r17 = 0) : f_X7_canStep M k1 = 0 := by subst hr17 hr14 hr11; exact Eq.trans (u_f_X7_canStep M k1) (Eq.trans (if_neg c12) (Eq.trans (if_neg c15) (if_neg c18)))
theorem p_X7_canStep_e20 (M : bM) (k1 : Nat) (r11 : Int32) (hr11 : f_X7_reason M k1 0 = r11) (c12 : ¬ r11 = 0) (r14 : Int32) (hr14 : f_X7_reason M k1 1 = r14) (c15 : ¬ r14 = 0) (r17 : Int32) (hr17 : f_X7_reason M k1 2 = r17) (c18 : r17 = 0) : f_X7_canStep M k1 = 1 := by subst hr17 hr14 hr11; exact Eq.trans (u_f_X7_canStep M k1) (Eq.trans (if_neg c12) (Eq.trans (if_neg c15) (if_pos c18)))
set_option maxHeartbeats 4000000 in
set_option maxRecDepth 100000 in
theorem c_X7_canStep (l : Launch) (D : va_G) (E : Nat → ClassId) (o : Nat) (M : bM) (k1 : Nat) (hk1 : LRR[k1]? = some (.inl (0, 404))) (hw : wfR M k1) : Met l yX7_canStep wsX7_canStep (rmF 4) (bPc D E [.ref (o + k1)] (fun H => bk D E LRR o M H)) (bQ (aI fun r _ => r = f_X7_canStep M k1) bNo) 0 0 bNo := by
  refine Met.ofW (cc := cX7_canStep) (maxL := 1) (ret := (some .boolean)) (by decide) rfl ?_
  intro p e s m args below meth c s₁ B hml hv
  obtain ⟨rfl, hB, hK⟩ := hv
  have hx := B.exec
  have hb := B.bytes
  have hr := B.returns
  have hts := atoms_spec (ws := wsX7_canStep) B.pre
  have hown : s.vm.findClass RX7 = some m.cls := findClass_of_methodNamed B.named
  have hlocks := B.notSynchronized
  have hS : bS bNo s.heap s.heap [] := bS.rf
  have hl := lv_entry ([.ref (o + k1)]) (n := 1) (Nat.le_of_ble_eq_true rfl)
  rw [lg_entry_eq]
  generalize (lg_sl ([.ref (o + k1)]) ++ List.replicate (1 - (lg_sl ([.ref (o + k1)])).length) Slot.unset).toArray = ls at hl ⊢
  have hl : lv_has ls 1 [(0, .ref (o + k1))] := hl
  have hB : bk D E LRR o M s.heap := hB
  refine lv_aload_n hx hb dX7_canStep_0 rfl (lv_at hl 0 rfl) ?_
  refine lv_iconst (v := 0) hx hb dX7_canStep_1 (by decide) ?_
  refine b_pI (b_runS (As := [.ref (o + k1), .int 0]) (rest := []) ⟨hx, hb, hml, hown, hts⟩ (c_X7_reason l D E o M k1 0 hk1 hw) (va_cwS 2 hts gX7_canStep_X7_reason rfl rfl rfl (by decide +kernel) ⟨Nat.le_of_ble_eq_true rfl, Nat.le_of_ble_eq_true rfl⟩) hK hB rfl hl rfl (Nat.le_of_ble_eq_true rfl) dX7_canStep_2 ⟨Nat.zero_le _, Nat.zero_le _⟩) hS (fun r11 hr11 locs hS => ?_)
  refine lv_if_eq (tgt := 24) hx hb dX7_canStep_5 (by decide) (fun c12 => ?_) (fun c12 => ?_)
  · refine lv_iconst (v := 1) hx hb dX7_canStep_24 (by decide) ?_
    refine lv_goto (tgt := 29) hx hb dX7_canStep_25 (by decide) ?_
    have e13 := p_X7_canStep_e13 M k1 r11 hr11.symm c12
    exact b_zret hx hb hr rfl hlocks hS ⟨_, rfl, e13.symm⟩ dX7_canStep_29
  · refine lv_aload_n hx hb dX7_canStep_8 rfl (lv_at hl 0 rfl) ?_
    refine lv_iconst (v := 1) hx hb dX7_canStep_9 (by decide) ?_
    refine b_pI (b_runS (As := [.ref (o + k1), .int 1]) (rest := []) ⟨hx, hb, hml, hown, hts⟩ (c_X7_reason l D E o M k1 1 hk1 hw) (va_cwS 2 hts gX7_canStep_X7_reason rfl rfl rfl (by decide +kernel) ⟨Nat.le_of_ble_eq_true rfl, Nat.le_of_ble_eq_true rfl⟩) hK hB rfl hl rfl (Nat.le_of_ble_eq_true rfl) dX7_canStep_10 ⟨Nat.zero_le _, Nat.zero_le _⟩) hS (fun r14 hr14 locs hS => ?_)
    refine lv_if_eq (tgt := 24) hx hb dX7_canStep_13 (by decide) (fun c15 => ?_) (fun c15 => ?_)
    · refine lv_iconst (v := 1) hx hb dX7_canStep_24 (by decide) ?_
      refine lv_goto (tgt := 29) hx hb dX7_canStep_25 (by decide) ?_
      have e16 := p_X7_canStep_e16 M k1 r11 hr11.symm c12 r14 hr14.symm c15
      exact b_zret hx hb hr rfl hlocks hS ⟨_, rfl, e16.symm⟩ dX7_canStep_29
    · refine lv_aload_n hx hb dX7_canStep_16 rfl (lv_at hl 0 rfl) ?_
      refine lv_iconst (v := 2) hx hb dX7_canStep_17 (by decide) ?_
      refine b_pI (b_runS (As := [.ref (o + k1), .int 2]) (rest := []) ⟨hx, hb, hml, hown, hts⟩ (c_X7_reason l D E o M k1 2 hk1 hw) (va_cwS 2 hts gX7_canStep_X7_reason rfl rfl rfl (by decide +kernel) ⟨Nat.le_of_ble_eq_true rfl, Nat.le_of_ble_eq_true rfl⟩) hK hB rfl hl rfl (Nat.le_of_ble_eq_true rfl) dX7_canStep_18 ⟨Nat.zero_le _, Nat.zero_le _⟩) hS (fun r17 hr17 locs hS => ?_)
      refine lv_if_ne (tgt := 28) hx hb dX7_canStep_21 (by decide) (fun c18 => ?_) (fun c18 => ?_)
      · refine lv_iconst (v := 0) hx hb dX7_canStep_28 (by decide) ?_
        have e19 := p_X7_canStep_e19 M k1 r11 hr11.symm c12 r14 hr14.symm c15 r17 hr17.symm c18
        exact b_zret hx hb hr rfl hlocks hS ⟨_, rfl, e19.symm⟩ dX7_canStep_29
      · refine lv_iconst (v := 1) hx hb dX7_canStep_24 (by decide) ?_
        refine lv_goto (tgt := 29) hx hb dX7_canStep_25 (by decide) ?_
        have e20 := p_X7_canStep_e20 M k1 r11 hr11.symm c12 r14 hr14.symm c15 r17 hr17.symm c18
        exact b_zret hx hb hr rfl hlocks hS ⟨_, rfl, e20.symm⟩ dX7_canStep_29

def f_X7_stepOn (M : bM) (k1 : Nat) (x2 : Int32) : Int32 × bM := (let r11 : Int32 := f_X7_reason M k1 x2; (if r11 ≤ 0 then (let x13 : Int32 := (M k1 2); (let r14 : Int32 := f_X7_head M k1 x13; (let r15 : Int32 := f_X7_stepFrom r14 x2; (let r16 : Int32 := f_X7_isRiver M k1 ((1 : Int32) - x13) r15; (let M17 : bM := f_X7_flows M k1 x13 r15; (if r16 = 0 then (let r19 : Int32 := f_X7_cost M17 k1 x13 r15; (let M20 : bM := f_X7_pays M17 k1 x13 r19; (let M21 : bM := f_X7_turnEnds M20 k1; (0, M21)))) else (let M23 : bM := f_X7_meet M17 k1 r15; (let M24 : bM := f_X7_turnEnds M23 k1; (0, M24))))))))) else (let M26 : bM := up2 M k1 6 ((M k1 6) + 1); (r11, M26))))
theorem u_f_X7_stepOn (M : bM) (k1 : Nat) (x2 : Int32) : f_X7_stepOn M k1 x2 = (let r11 : Int32 := f_X7_reason M k1 x2; (if r11 ≤ 0 then (let x13 : Int32 := (M k1 2); (let r14 : Int32 := f_X7_head M k1 x13; (let r15 : Int32 := f_X7_stepFrom r14 x2; (let r16 : Int32 := f_X7_isRiver M k1 ((1 : Int32) - x13) r15; (let M17 : bM := f_X7_flows M k1 x13 r15; (if r16 = 0 then (let r19 : Int32 := f_X7_cost M17 k1 x13 r15; (let M20 : bM := f_X7_pays M17 k1 x13 r19; (let M21 : bM := f_X7_turnEnds M20 k1; (0, M21)))) else (let M23 : bM := f_X7_meet M17 k1 r15; (let M24 : bM := f_X7_turnEnds M23 k1; (0, M24))))))))) else (let M26 : bM := up2 M k1 6 ((M k1 6) + 1); (r11, M26)))) := rfl
theorem p_X7_stepOn_e22 (M : bM) (k1 : Nat) (x2 : Int32) (r11 : Int32) (hr11 : f_X7_reason M k1 x2 = r11) (c12 : r11 ≤ 0) (x13 : Int32) (hx13 : (M k1 2) = x13) (r14 : Int32) (hr14 : f_X7_head M k1 x13 = r14) (r15 : Int32) (hr15 : f_X7_stepFrom r14 x2 = r15) (r16 : Int32) (hr16 : f_X7_isRiver M k1 ((1 : Int32) - x13) r15 = r16) (M17 : bM) (hM17 : f_X7_flows M k1 x13 r15 = M17) (c18 : r16 = 0) (r19 : Int32) (hr19 : f_X7_cost M17 k1 x13 r15 = r19) (M20 : bM) (hM20 : f_X7_pays M17 k1 x13 r19 = M20) (M21 : bM) (hM21 : f_X7_turnEnds M20 k1 = M21) : f_X7_stepOn M k1 x2 = (0, M21) := by subst hM21 hM20 hr19 hM17 hr16 hr15 hr14 hx13 hr11; exact Eq.trans (u_f_X7_stepOn M k1 x2) (Eq.trans (if_pos c12) (if_pos c18))
theorem p_X7_stepOn_e25 (M : bM) (k1 : Nat) (x2 : Int32) (r11 : Int32) (hr11 : f_X7_reason M k1 x2 = r11) (c12 : r11 ≤ 0) (x13 : Int32) (hx13 : (M k1 2) = x13) (r14 : Int32) (hr14 : f_X7_head M k1 x13 = r14) (r15 : Int32) (hr15 : f_X7_stepFrom r14 x2 = r15) (r16 : Int32) (hr16 : f_X7_isRiver M k1 ((1 : Int32) - x13) r15 = r16) (M17 : bM) (hM17 : f_X7_flows M k1 x13 r15 = M17) (c18 : ¬ r16 = 0) (M23 : bM) (hM23 : f_X7_meet M17 k1 r15 = M23) (M24 : bM) (hM24 : f_X7_turnEnds M23 k1 = M24) : f_X7_stepOn M k1 x2 = (0, M24) := by subst hM24 hM23 hM17 hr16 hr15 hr14 hx13 hr11; exact Eq.trans (u_f_X7_stepOn M k1 x2) (Eq.trans (if_pos c12) (if_neg c18))
theorem p_X7_stepOn_e27 (M : bM) (k1 : Nat) (x2 : Int32) (r11 : Int32) (hr11 : f_X7_reason M k1 x2 = r11) (c12 : ¬ r11 ≤ 0) (M26 : bM) (hM26 : up2 M k1 6 ((M k1 6) + 1) = M26) : f_X7_stepOn M k1 x2 = (r11, M26) := by subst hM26 hr11; exact Eq.trans (u_f_X7_stepOn M k1 x2) (if_neg c12)
theorem fr_X7_stepOn (M : bM) (k1 : Nat) (x2 : Int32) (k : Nat) (hk : k ≠ k1) : (f_X7_stepOn M k1 x2).2 k = M k := by
  obtain ⟨r11, hr11⟩ : ∃ y : Int32, y = f_X7_reason M k1 x2 := ⟨_, rfl⟩
  by_cases c12 : r11 ≤ 0
  · obtain ⟨x13, hx13⟩ : ∃ y : Int32, y = (M k1 2) := ⟨_, rfl⟩
    obtain ⟨r14, hr14⟩ : ∃ y : Int32, y = f_X7_head M k1 x13 := ⟨_, rfl⟩
    obtain ⟨r15, hr15⟩ : ∃ y : Int32, y = f_X7_stepFrom r14 x2 := ⟨_, rfl⟩
    obtain ⟨r16, hr16⟩ : ∃ y : Int32, y = f_X7_isRiver M k1 ((1 : Int32) - x13) r15 := ⟨_, rfl⟩
    obtain ⟨M17, hM17⟩ : ∃ y : bM, y = f_X7_flows M k1 x13 r15 := ⟨_, rfl⟩
    by_cases c18 : r16 = 0
    · obtain ⟨r19, hr19⟩ : ∃ y : Int32, y = f_X7_cost M17 k1 x13 r15 := ⟨_, rfl⟩
      obtain ⟨M20, hM20⟩ : ∃ y : bM, y = f_X7_pays M17 k1 x13 r19 := ⟨_, rfl⟩
      obtain ⟨M21, hM21⟩ : ∃ y : bM, y = f_X7_turnEnds M20 k1 := ⟨_, rfl⟩
      rw [p_X7_stepOn_e22 M k1 x2 r11 hr11.symm c12 x13 hx13.symm r14 hr14.symm r15 hr15.symm r16 hr16.symm M17 hM17.symm c18 r19 hr19.symm M20 hM20.symm M21 hM21.symm]
      try dsimp only
      rw [hM21, fr_X7_turnEnds M20 k1 k (by omega), hM20, fr_X7_pays M17 k1 x13 r19 k (by omega), hM17, fr_X7_flows M k1 x13 r15 k (by omega)]
    · obtain ⟨M23, hM23⟩ : ∃ y : bM, y = f_X7_meet M17 k1 r15 := ⟨_, rfl⟩
      obtain ⟨M24, hM24⟩ : ∃ y : bM, y = f_X7_turnEnds M23 k1 := ⟨_, rfl⟩
      rw [p_X7_stepOn_e25 M k1 x2 r11 hr11.symm c12 x13 hx13.symm r14 hr14.symm r15 hr15.symm r16 hr16.symm M17 hM17.symm c18 M23 hM23.symm M24 hM24.symm]
      try dsimp only
      rw [hM24, fr_X7_turnEnds M23 k1 k (by omega), hM23, fr_X7_meet M17 k1 r15 k (by omega), hM17, fr_X7_flows M k1 x13 r15 k (by omega)]
  · obtain ⟨M26, hM26⟩ : ∃ y : bM, y = up2 M k1 6 ((M k1 6) + 1) := ⟨_, rfl⟩
    rw [p_X7_stepOn_e27 M k1 x2 r11 hr11.symm c12 M26 hM26.symm]
    try dsimp only
    rw [hM26, up2_row (by omega)]
set_option maxHeartbeats 4000000 in
set_option maxRecDepth 100000 in
theorem c_X7_stepOn (l : Launch) (D : va_G) (E : Nat → ClassId) (o : Nat) (M : bM) (k1 : Nat) (x2 : Int32) (hk1 : LRR[k1]? = some (.inl (0, 404))) (hw : wfR M k1) (hroom : ∀ p : Int32, (p = 0 ∨ p = 1) → vp_in (f_X7_of M k1 p 4) 64) : Met l yX7_stepOn wsX7_stepOn (rmF 4) (bPc D E [.ref (o + k1), .int x2] (fun H => bk D E LRR o M H)) (bQ (aI fun r H => ∃ M1 : bM, (r = (f_X7_stepOn M k1 x2).1 ∧ M1 = (f_X7_stepOn M k1 x2).2) ∧ bk D E LRR o M1 H) (rB o)) 0 0 (rB o) := by
  refine Met.ofW (cc := cX7_stepOn) (maxL := 6) (ret := (some .int)) (by decide) rfl ?_
  intro p e s m args below meth c s₁ B hml hv
  obtain ⟨rfl, hB, hK⟩ := hv
  have hx := B.exec
  have hb := B.bytes
  have hr := B.returns
  have hts := atoms_spec (ws := wsX7_stepOn) B.pre
  have hown : s.vm.findClass RX7 = some m.cls := findClass_of_methodNamed B.named
  have hlocks := B.notSynchronized
  have hS : bS (rB o) s.heap s.heap [] := bS.rf
  have hl := lv_entry ([.ref (o + k1), .int x2]) (n := 6) (Nat.le_of_ble_eq_true rfl)
  rw [lg_entry_eq]
  generalize (lg_sl ([.ref (o + k1), .int x2]) ++ List.replicate (6 - (lg_sl ([.ref (o + k1), .int x2])).length) Slot.unset).toArray = ls at hl ⊢
  have hl : lv_has ls 6 [(0, .ref (o + k1)), (1, .int x2)] := hl
  have hB : bk D E LRR o M s.heap := hB
  refine lv_aload_n hx hb dX7_stepOn_0 rfl (lv_at hl 0 rfl) ?_
  refine lv_iload_n hx hb dX7_stepOn_1 rfl (lv_at hl 1 rfl) ?_
  refine b_pI (b_runS (As := [.ref (o + k1), .int x2]) (rest := []) ⟨hx, hb, hml, hown, hts⟩ (c_X7_reason l D E o M k1 x2 hk1 hw) (va_cwS 2 hts gX7_stepOn_X7_reason rfl rfl rfl (by decide +kernel) ⟨Nat.le_of_ble_eq_true rfl, Nat.le_of_ble_eq_true rfl⟩) hK hB rfl hl rfl (Nat.le_of_ble_eq_true rfl) dX7_stepOn_2 ⟨Nat.zero_le _, Nat.zero_le _⟩) hS (fun r11 hr11 locs hS => ?_)
  refine lv_istore_n (lv' := [(2, .int r11), (0, .ref (o + k1)), (1, .int x2)]) hx hb dX7_stepOn_5 rfl hl (by decide) rfl (fun ls hl => ?_)
  refine lv_iload_n hx hb dX7_stepOn_6 rfl (lv_at hl 0 rfl) ?_
  refine lv_if_le (tgt := 20) hx hb dX7_stepOn_7 (by decide) (fun c12 => ?_) (fun c12 => ?_)
  · refine lv_aload_n hx hb dX7_stepOn_20 rfl (lv_at hl 1 rfl) ?_
    refine lv_iconst (v := 2) hx hb dX7_stepOn_21 (by decide) ?_
    refine b_iald hx hb hK.1 hB k1 hk1 (vp_in_nI (n := 2) (by decide) (by decide)) dX7_stepOn_22 ?_
    refine lv_const (y := M k1 2) (by rfl) ?_
    refine lv_topi (fun x13 hx13 => ?_)
    refine lv_istore_n (lv' := [(3, .int x13), (2, .int r11), (0, .ref (o + k1)), (1, .int x2)]) hx hb dX7_stepOn_23 rfl hl (by decide) rfl (fun ls hl => ?_)
    refine lv_aload_n hx hb dX7_stepOn_24 rfl (lv_at hl 2 rfl) ?_
    refine lv_iload_n hx hb dX7_stepOn_25 rfl (lv_at hl 0 rfl) ?_
    refine b_pI (b_runS (As := [.ref (o + k1), .int x13]) (rest := []) ⟨hx, hb, hml, hown, hts⟩ (c_X7_head l D E o M k1 x13 hk1 (by rw [hx13]; exact (wf_tb (M := M) (k := k1) hw)) (len_of (by rw [hx13]; exact (wf_tb (M := M) (k := k1) hw)) (wf_ln (M := M) (k := k1) hw))) (va_cwS 2 hts gX7_stepOn_X7_head rfl rfl rfl (by decide +kernel) ⟨Nat.le_of_ble_eq_true rfl, Nat.le_of_ble_eq_true rfl⟩) hK hB rfl hl rfl (Nat.le_of_ble_eq_true rfl) dX7_stepOn_26 ⟨Nat.zero_le _, Nat.zero_le _⟩) hS (fun r14 hr14 locs hS => ?_)
    refine lv_iload_n hx hb dX7_stepOn_29 rfl (lv_at hl 3 rfl) ?_
    refine b_pI (b_runS (As := [.int r14, .int x2]) (rest := []) ⟨hx, hb, hml, hown, hts⟩ (c_X7_stepFrom l D E r14 x2) (va_cwS 2 hts gX7_stepOn_X7_stepFrom rfl rfl rfl (by decide +kernel) ⟨Nat.le_of_ble_eq_true rfl, Nat.le_of_ble_eq_true rfl⟩) hK trivial rfl hl rfl (Nat.le_of_ble_eq_true rfl) dX7_stepOn_30 ⟨Nat.zero_le _, Nat.zero_le _⟩) hS (fun r15 hr15 locs hS => ?_)
    refine lv_istore (lv' := [(4, .int r15), (3, .int x13), (2, .int r11), (0, .ref (o + k1)), (1, .int x2)]) hx hb dX7_stepOn_33 hl (by decide) rfl (fun ls hl => ?_)
    refine lv_aload_n hx hb dX7_stepOn_35 rfl (lv_at hl 3 rfl) ?_
    refine lv_iconst (v := 1) hx hb dX7_stepOn_36 (by decide) ?_
    refine lv_iload_n hx hb dX7_stepOn_37 rfl (lv_at hl 1 rfl) ?_
    refine lv_isub hx hb dX7_stepOn_38 ?_
    refine lv_iload hx hb dX7_stepOn_39 (lv_at hl 0 rfl) ?_
    refine b_pI (b_runS (As := [.ref (o + k1), .int ((1 : Int32) - x13), .int r15]) (rest := []) ⟨hx, hb, hml, hown, hts⟩ (c_X7_isRiver l D E o M k1 ((1 : Int32) - x13) r15 hk1 (by rw [hr15, hr14, hx13]; exact reason_cell (hr11 ▸ c12))) (va_cwS 3 hts gX7_stepOn_X7_isRiver rfl rfl rfl (by decide +kernel) ⟨Nat.le_of_ble_eq_true rfl, Nat.le_of_ble_eq_true rfl⟩) hK hB rfl hl rfl (Nat.le_of_ble_eq_true rfl) dX7_stepOn_41 ⟨Nat.zero_le _, Nat.zero_le _⟩) hS (fun r16 hr16 locs hS => ?_)
    refine lv_istore (lv' := [(5, .int r16), (4, .int r15), (3, .int x13), (2, .int r11), (0, .ref (o + k1)), (1, .int x2)]) hx hb dX7_stepOn_44 hl (by decide) rfl (fun ls hl => ?_)
    refine lv_aload_n hx hb dX7_stepOn_46 rfl (lv_at hl 4 rfl) ?_
    refine lv_iload_n hx hb dX7_stepOn_47 rfl (lv_at hl 2 rfl) ?_
    refine lv_iload hx hb dX7_stepOn_48 (lv_at hl 1 rfl) ?_
    refine b_mV (b_runS (As := [.ref (o + k1), .int x13, .int r15]) (rest := []) ⟨hx, hb, hml, hown, hts⟩ (c_X7_flows l D E o M k1 x13 r15 hk1 (by rw [hx13]; exact (wf_tb (M := M) (k := k1) hw)) (hroom _ (by rw [hx13]; exact (wf_tb (M := M) (k := k1) hw))) (by rw [hr15, hr14, hx13]; exact reason_cell (hr11 ▸ c12))) (va_cwS 3 hts gX7_stepOn_X7_flows rfl rfl rfl (by decide +kernel) ⟨Nat.le_of_ble_eq_true rfl, Nat.le_of_ble_eq_true rfl⟩) hK hB rfl hl rfl (Nat.le_of_ble_eq_true rfl) dX7_stepOn_50 ⟨Nat.zero_le _, Nat.zero_le _⟩) hS (fun q h => h) (fun M17 hM17 H locs hB _ hS => ?_)
    refine lv_iload hx hb dX7_stepOn_53 (lv_at hl 0 rfl) ?_
    refine lv_if_eq (tgt := 67) hx hb dX7_stepOn_55 (by decide) (fun c18 => ?_) (fun c18 => ?_)
    · refine lv_aload_n hx hb dX7_stepOn_67 rfl (lv_at hl 4 rfl) ?_
      refine lv_iload_n hx hb dX7_stepOn_68 rfl (lv_at hl 2 rfl) ?_
      refine lv_aload_n hx hb dX7_stepOn_69 rfl (lv_at hl 4 rfl) ?_
      refine lv_iload_n hx hb dX7_stepOn_70 rfl (lv_at hl 2 rfl) ?_
      refine lv_iload hx hb dX7_stepOn_71 (lv_at hl 1 rfl) ?_
      refine b_pI (b_runS (As := [.ref (o + k1), .int x13, .int r15]) (rest := [.int x13, .ref (o + k1)]) ⟨hx, hb, hml, hown, hts⟩ (c_X7_cost l D E o M17 k1 x13 r15 hk1 (by rw [hx13]; exact (wf_tb (M := M) (k := k1) hw)) (by rw [hr15, hr14, hx13]; exact reason_cell (hr11 ▸ c12))) (va_cwS 3 hts gX7_stepOn_X7_cost rfl rfl rfl (by decide +kernel) ⟨Nat.le_of_ble_eq_true rfl, Nat.le_of_ble_eq_true rfl⟩) hK hB rfl hl rfl (Nat.le_of_ble_eq_true rfl) dX7_stepOn_73 ⟨Nat.zero_le _, Nat.zero_le _⟩) hS (fun r19 hr19 locs hS => ?_)
      refine b_mV (b_runS (As := [.ref (o + k1), .int x13, .int r19]) (rest := []) ⟨hx, hb, hml, hown, hts⟩ (c_X7_pays l D E o M17 k1 x13 r19 hk1 (by rw [hx13]; exact (wf_tb (M := M) (k := k1) hw))) (va_cwS 3 hts gX7_stepOn_X7_pays rfl rfl rfl (by decide +kernel) ⟨Nat.le_of_ble_eq_true rfl, Nat.le_of_ble_eq_true rfl⟩) hK hB rfl hl rfl (Nat.le_of_ble_eq_true rfl) dX7_stepOn_76 ⟨Nat.zero_le _, Nat.zero_le _⟩) hS (fun q h => h) (fun M20 hM20 H locs hB _ hS => ?_)
      refine lv_aload_n hx hb dX7_stepOn_79 rfl (lv_at hl 4 rfl) ?_
      refine b_mV (b_runS (As := [.ref (o + k1)]) (rest := []) ⟨hx, hb, hml, hown, hts⟩ (c_X7_turnEnds l D E o M20 k1 hk1) (va_cwS 1 hts gX7_stepOn_X7_turnEnds rfl rfl rfl (by decide +kernel) ⟨Nat.le_of_ble_eq_true rfl, Nat.le_of_ble_eq_true rfl⟩) hK hB rfl hl rfl (Nat.le_of_ble_eq_true rfl) dX7_stepOn_80 ⟨Nat.zero_le _, Nat.zero_le _⟩) hS (fun q h => h) (fun M21 hM21 H locs hB _ hS => ?_)
      refine lv_iconst (v := 0) hx hb dX7_stepOn_83 (by decide) ?_
      have e22 := p_X7_stepOn_e22 M k1 x2 r11 hr11.symm c12 x13 hx13.symm r14 hr14.symm r15 hr15.symm r16 hr16.symm M17 hM17.symm c18 r19 hr19.symm M20 hM20.symm M21 hM21.symm
      exact b_iret hx hb hr hlocks hS ⟨_, rfl, _, ⟨(congrArg Prod.fst e22).symm, (congrArg Prod.snd e22).symm⟩, hB⟩ dX7_stepOn_84
    · refine lv_aload_n hx hb dX7_stepOn_58 rfl (lv_at hl 4 rfl) ?_
      refine lv_iload hx hb dX7_stepOn_59 (lv_at hl 1 rfl) ?_
      refine b_mV (b_runS (As := [.ref (o + k1), .int r15]) (rest := []) ⟨hx, hb, hml, hown, hts⟩ (c_X7_meet l D E o M17 k1 r15 hk1 (by rw [hr15, hr14, hx13]; exact reason_cell (hr11 ▸ c12))) (va_cwS 2 hts gX7_stepOn_X7_meet rfl rfl rfl (by decide +kernel) ⟨Nat.le_of_ble_eq_true rfl, Nat.le_of_ble_eq_true rfl⟩) hK hB rfl hl rfl (Nat.le_of_ble_eq_true rfl) dX7_stepOn_61 ⟨Nat.zero_le _, Nat.zero_le _⟩) hS (fun q h => h) (fun M23 hM23 H locs hB _ hS => ?_)
      refine lv_goto (tgt := 79) hx hb dX7_stepOn_64 (by decide) ?_
      refine lv_aload_n hx hb dX7_stepOn_79 rfl (lv_at hl 4 rfl) ?_
      refine b_mV (b_runS (As := [.ref (o + k1)]) (rest := []) ⟨hx, hb, hml, hown, hts⟩ (c_X7_turnEnds l D E o M23 k1 hk1) (va_cwS 1 hts gX7_stepOn_X7_turnEnds rfl rfl rfl (by decide +kernel) ⟨Nat.le_of_ble_eq_true rfl, Nat.le_of_ble_eq_true rfl⟩) hK hB rfl hl rfl (Nat.le_of_ble_eq_true rfl) dX7_stepOn_80 ⟨Nat.zero_le _, Nat.zero_le _⟩) hS (fun q h => h) (fun M24 hM24 H locs hB _ hS => ?_)
      refine lv_iconst (v := 0) hx hb dX7_stepOn_83 (by decide) ?_
      have e25 := p_X7_stepOn_e25 M k1 x2 r11 hr11.symm c12 x13 hx13.symm r14 hr14.symm r15 hr15.symm r16 hr16.symm M17 hM17.symm c18 M23 hM23.symm M24 hM24.symm
      exact b_iret hx hb hr hlocks hS ⟨_, rfl, _, ⟨(congrArg Prod.fst e25).symm, (congrArg Prod.snd e25).symm⟩, hB⟩ dX7_stepOn_84
  · refine lv_aload_n hx hb dX7_stepOn_10 rfl (lv_at hl 1 rfl) ?_
    refine lv_bipush (v := 6) hx hb dX7_stepOn_11 (by decide) ?_
    refine lv_dup2_11 hx hb dX7_stepOn_13 rfl rfl ?_
    refine b_iald hx hb hK.1 hB k1 hk1 (vp_in_nI (n := 6) (by decide) (by decide)) dX7_stepOn_14 ?_
    refine lv_const (y := M k1 6) (by rfl) ?_
    refine lv_iconst (v := 1) hx hb dX7_stepOn_15 (by decide) ?_
    refine lv_iadd hx hb dX7_stepOn_16 ?_
    refine b_iast hx hb hK.1 hB hS k1 (rB_of hk1) hk1 (vp_in_nI (n := 6) (by decide) (by decide)) dX7_stepOn_17 (fun M26 hM26 H locs hB _ hS => ?_)
    rw [show (6 : Int32).toNatClampNeg = 6 from rfl] at hM26
    refine lv_iload_n hx hb dX7_stepOn_18 rfl (lv_at hl 0 rfl) ?_
    have e27 := p_X7_stepOn_e27 M k1 x2 r11 hr11.symm c12 M26 hM26.symm
    exact b_iret hx hb hr hlocks hS ⟨_, rfl, _, ⟨(congrArg Prod.fst e27).symm, (congrArg Prod.snd e27).symm⟩, hB⟩ dX7_stepOn_19

def f_X7_change (M : bM) (k1 : Nat) (x2 : Int32) (x3 : Int32) : Int32 × bM := (let x11 : Int32 := (M k1 ((8 : Int32) + x2).toNatClampNeg); (let M12 : bM := up2 M k1 ((8 : Int32) + x2).toNatClampNeg x3; (x11, M12)))
theorem u_f_X7_change (M : bM) (k1 : Nat) (x2 : Int32) (x3 : Int32) : f_X7_change M k1 x2 x3 = (let x11 : Int32 := (M k1 ((8 : Int32) + x2).toNatClampNeg); (let M12 : bM := up2 M k1 ((8 : Int32) + x2).toNatClampNeg x3; (x11, M12))) := rfl
theorem p_X7_change_e13 (M : bM) (k1 : Nat) (x2 : Int32) (x3 : Int32) (x11 : Int32) (hx11 : (M k1 ((8 : Int32) + x2).toNatClampNeg) = x11) (M12 : bM) (hM12 : up2 M k1 ((8 : Int32) + x2).toNatClampNeg x3 = M12) : f_X7_change M k1 x2 x3 = (x11, M12) := by subst hM12 hx11; exact u_f_X7_change M k1 x2 x3
theorem fr_X7_change (M : bM) (k1 : Nat) (x2 : Int32) (x3 : Int32) (k : Nat) (hk : k ≠ k1) : (f_X7_change M k1 x2 x3).2 k = M k := by
  obtain ⟨x11, hx11⟩ : ∃ y : Int32, y = (M k1 ((8 : Int32) + x2).toNatClampNeg) := ⟨_, rfl⟩
  obtain ⟨M12, hM12⟩ : ∃ y : bM, y = up2 M k1 ((8 : Int32) + x2).toNatClampNeg x3 := ⟨_, rfl⟩
  rw [p_X7_change_e13 M k1 x2 x3 x11 hx11.symm M12 hM12.symm]
  try dsimp only
  rw [hM12, up2_row (by omega)]
set_option maxHeartbeats 4000000 in
set_option maxRecDepth 100000 in
theorem c_X7_change (l : Launch) (D : va_G) (E : Nat → ClassId) (o : Nat) (M : bM) (k1 : Nat) (x2 : Int32) (x3 : Int32) (hk1 : LRR[k1]? = some (.inl (0, 404))) (hp : x2 = 0 ∨ x2 = 1) : Met l yX7_change wsX7_change (rmF 0) (bPc D E [.ref (o + k1), .int x2, .int x3] (fun H => bk D E LRR o M H)) (bQ (aI fun r H => ∃ M1 : bM, (r = (f_X7_change M k1 x2 x3).1 ∧ M1 = (f_X7_change M k1 x2 x3).2) ∧ bk D E LRR o M1 H) (rB o)) 0 0 (rB o) := by
  refine Met.ofW (cc := cX7_change) (maxL := 4) (ret := (some .int)) (by decide) rfl ?_
  intro p e s m args below meth c s₁ B hml hv
  obtain ⟨rfl, hB, hK⟩ := hv
  have hx := B.exec
  have hb := B.bytes
  have hr := B.returns
  have hts := atoms_spec (ws := wsX7_change) B.pre
  have hown : s.vm.findClass RX7 = some m.cls := findClass_of_methodNamed B.named
  have hlocks := B.notSynchronized
  have hS : bS (rB o) s.heap s.heap [] := bS.rf
  have hl := lv_entry ([.ref (o + k1), .int x2, .int x3]) (n := 4) (Nat.le_of_ble_eq_true rfl)
  rw [lg_entry_eq]
  generalize (lg_sl ([.ref (o + k1), .int x2, .int x3]) ++ List.replicate (4 - (lg_sl ([.ref (o + k1), .int x2, .int x3])).length) Slot.unset).toArray = ls at hl ⊢
  have hl : lv_has ls 4 [(0, .ref (o + k1)), (1, .int x2), (2, .int x3)] := hl
  have hB : bk D E LRR o M s.heap := hB
  refine lv_aload_n hx hb dX7_change_0 rfl (lv_at hl 0 rfl) ?_
  refine lv_bipush (v := 8) hx hb dX7_change_1 (by decide) ?_
  refine lv_iload_n hx hb dX7_change_3 rfl (lv_at hl 1 rfl) ?_
  refine lv_iadd hx hb dX7_change_4 ?_
  refine b_iald hx hb hK.1 hB k1 hk1 (in_addX 8 (pb_in hp) (by decide) (by decide)) dX7_change_5 ?_
  refine lv_topi (fun x11 hx11 => ?_)
  refine lv_istore_n (lv' := [(3, .int x11), (0, .ref (o + k1)), (1, .int x2), (2, .int x3)]) hx hb dX7_change_6 rfl hl (by decide) rfl (fun ls hl => ?_)
  refine lv_aload_n hx hb dX7_change_7 rfl (lv_at hl 1 rfl) ?_
  refine lv_bipush (v := 8) hx hb dX7_change_8 (by decide) ?_
  refine lv_iload_n hx hb dX7_change_10 rfl (lv_at hl 2 rfl) ?_
  refine lv_iadd hx hb dX7_change_11 ?_
  refine lv_iload_n hx hb dX7_change_12 rfl (lv_at hl 3 rfl) ?_
  refine b_iast hx hb hK.1 hB hS k1 (rB_of hk1) hk1 (in_addX 8 (pb_in hp) (by decide) (by decide)) dX7_change_13 (fun M12 hM12 H locs hB _ hS => ?_)
  refine lv_iload_n hx hb dX7_change_14 rfl (lv_at hl 0 rfl) ?_
  have e13 := p_X7_change_e13 M k1 x2 x3 x11 hx11.symm M12 hM12.symm
  exact b_iret hx hb hr hlocks hS ⟨_, rfl, _, ⟨(congrArg Prod.fst e13).symm, (congrArg Prod.snd e13).symm⟩, hB⟩ dX7_change_15

def lp_X7_gameOn_5 (k1 : Nat) : Nat → Nat → Int64 → bM → (Int64 × bM)
  | 0, i11, x12, M13 => (x12, M13)
  | n11 + 1, i11, x12, M13 => (let x17 : Int64 := ((x12 * 6364136223846793005) + 1442695040888963407); (let x18 : Int32 := ((x17.toUInt64 >>> ((33 : Int32).toInt64.toUInt64 &&& Int64.toUInt64 63)).toInt64).toInt32; (let M19 : bM := up2 M13 k1 (20 + i11) (x18 - x18 / 10 * 10); (let M20 : bM := up2 M19 k1 (84 + i11) ((x18 / 10) - (x18 / 10) / 10 * 10); (let M21 : bM := up2 M20 k1 (148 + i11) (-1); (let M22 : bM := up2 M21 k1 (212 + i11) 0; (let M23 : bM := up2 M22 k1 (276 + i11) 0; (let M24 : bM := up2 M23 k1 (340 + i11) 0; lp_X7_gameOn_5 k1 n11 (i11 + 1) x17 M24))))))))
theorem u0_lp_X7_gameOn_5 (k1 : Nat) (i11 : Nat) (x12 : Int64) (M13 : bM) : lp_X7_gameOn_5 k1 0 i11 x12 M13 = (x12, M13) := rfl
theorem u1_lp_X7_gameOn_5 (k1 : Nat) (n11 i11 : Nat) (x12 : Int64) (M13 : bM) : lp_X7_gameOn_5 k1 (n11 + 1) i11 x12 M13 = (let x17 : Int64 := ((x12 * 6364136223846793005) + 1442695040888963407); (let x18 : Int32 := ((x17.toUInt64 >>> ((33 : Int32).toInt64.toUInt64 &&& Int64.toUInt64 63)).toInt64).toInt32; (let M19 : bM := up2 M13 k1 (20 + i11) (x18 - x18 / 10 * 10); (let M20 : bM := up2 M19 k1 (84 + i11) ((x18 / 10) - (x18 / 10) / 10 * 10); (let M21 : bM := up2 M20 k1 (148 + i11) (-1); (let M22 : bM := up2 M21 k1 (212 + i11) 0; (let M23 : bM := up2 M22 k1 (276 + i11) 0; (let M24 : bM := up2 M23 k1 (340 + i11) 0; lp_X7_gameOn_5 k1 n11 (i11 + 1) x17 M24)))))))) := rfl
def f_X7_gameOn (M : bM) (k1 : Nat) (x2 : Int64) : Int32 × bM := (let x26 : Int64 := (lp_X7_gameOn_5 k1 64 0 x2 M).1; (let M27 : bM := (lp_X7_gameOn_5 k1 64 0 x2 M).2; (let M29 : bM := up2 M27 k1 10 0; (let M30 : bM := up2 M29 k1 11 0; (let M31 : bM := up2 M30 k1 14 0; (let M33 : bM := f_X7_flows M31 k1 0 1; (let M35 : bM := up2 M33 k1 15 0; (let M36 : bM := up2 M35 k1 16 0; (let M37 : bM := up2 M36 k1 19 0; (let M39 : bM := f_X7_flows M37 k1 1 6; (let M41 : bM := up2 M39 k1 0 ((M39 k1 0) + 1); (let M42 : bM := up2 M41 k1 1 1; (let M43 : bM := up2 M42 k1 2 0; (let M44 : bM := up2 M43 k1 3 0; (let M45 : bM := up2 M44 k1 4 (-1); (let M46 : bM := up2 M45 k1 5 (-1); ((M46 k1 0), M46)))))))))))))))))
theorem u_f_X7_gameOn (M : bM) (k1 : Nat) (x2 : Int64) : f_X7_gameOn M k1 x2 = (let x26 : Int64 := (lp_X7_gameOn_5 k1 64 0 x2 M).1; (let M27 : bM := (lp_X7_gameOn_5 k1 64 0 x2 M).2; (let M29 : bM := up2 M27 k1 10 0; (let M30 : bM := up2 M29 k1 11 0; (let M31 : bM := up2 M30 k1 14 0; (let M33 : bM := f_X7_flows M31 k1 0 1; (let M35 : bM := up2 M33 k1 15 0; (let M36 : bM := up2 M35 k1 16 0; (let M37 : bM := up2 M36 k1 19 0; (let M39 : bM := f_X7_flows M37 k1 1 6; (let M41 : bM := up2 M39 k1 0 ((M39 k1 0) + 1); (let M42 : bM := up2 M41 k1 1 1; (let M43 : bM := up2 M42 k1 2 0; (let M44 : bM := up2 M43 k1 3 0; (let M45 : bM := up2 M44 k1 4 (-1); (let M46 : bM := up2 M45 k1 5 (-1); ((M46 k1 0), M46))))))))))))))))) := rfl
theorem p_X7_gameOn_e15 (M : bM) (k1 : Nat) (x2 : Int64) (x12 : Int64) (M13 : bM) (i11 : Nat)  : lp_X7_gameOn_5 k1 0 i11 x12 M13 = (x12, M13) := by exact u0_lp_X7_gameOn_5 k1 i11 x12 M13
theorem p_X7_gameOn_e25 (M : bM) (k1 : Nat) (x2 : Int64) (x12 : Int64) (M13 : bM) (i11 : Nat) (n11 : Nat) (x17 : Int64) (hx17 : ((x12 * 6364136223846793005) + 1442695040888963407) = x17) (x18 : Int32) (hx18 : ((x17.toUInt64 >>> ((33 : Int32).toInt64.toUInt64 &&& Int64.toUInt64 63)).toInt64).toInt32 = x18) (M19 : bM) (hM19 : up2 M13 k1 (20 + i11) (x18 - x18 / 10 * 10) = M19) (M20 : bM) (hM20 : up2 M19 k1 (84 + i11) ((x18 / 10) - (x18 / 10) / 10 * 10) = M20) (M21 : bM) (hM21 : up2 M20 k1 (148 + i11) (-1) = M21) (M22 : bM) (hM22 : up2 M21 k1 (212 + i11) 0 = M22) (M23 : bM) (hM23 : up2 M22 k1 (276 + i11) 0 = M23) (M24 : bM) (hM24 : up2 M23 k1 (340 + i11) 0 = M24) : lp_X7_gameOn_5 k1 (n11 + 1) i11 x12 M13 = lp_X7_gameOn_5 k1 n11 (i11 + 1) x17 M24 := by subst hM24 hM23 hM22 hM21 hM20 hM19 hx18 hx17; exact u1_lp_X7_gameOn_5 k1 n11 i11 x12 M13
theorem p_X7_gameOn_e47 (M : bM) (k1 : Nat) (x2 : Int64) (x26 : Int64) (hx26 : (lp_X7_gameOn_5 k1 64 0 x2 M).1 = x26) (M27 : bM) (hM27 : (lp_X7_gameOn_5 k1 64 0 x2 M).2 = M27) (M29 : bM) (hM29 : up2 M27 k1 10 0 = M29) (M30 : bM) (hM30 : up2 M29 k1 11 0 = M30) (M31 : bM) (hM31 : up2 M30 k1 14 0 = M31) (M33 : bM) (hM33 : f_X7_flows M31 k1 0 1 = M33) (M35 : bM) (hM35 : up2 M33 k1 15 0 = M35) (M36 : bM) (hM36 : up2 M35 k1 16 0 = M36) (M37 : bM) (hM37 : up2 M36 k1 19 0 = M37) (M39 : bM) (hM39 : f_X7_flows M37 k1 1 6 = M39) (M41 : bM) (hM41 : up2 M39 k1 0 ((M39 k1 0) + 1) = M41) (M42 : bM) (hM42 : up2 M41 k1 1 1 = M42) (M43 : bM) (hM43 : up2 M42 k1 2 0 = M43) (M44 : bM) (hM44 : up2 M43 k1 3 0 = M44) (M45 : bM) (hM45 : up2 M44 k1 4 (-1) = M45) (M46 : bM) (hM46 : up2 M45 k1 5 (-1) = M46) : f_X7_gameOn M k1 x2 = ((M46 k1 0), M46) := by subst hM46 hM45 hM44 hM43 hM42 hM41 hM39 hM37 hM36 hM35 hM33 hM31 hM30 hM29 hM27 hx26; exact u_f_X7_gameOn M k1 x2
theorem fr_lp_X7_gameOn_5 (M : bM) (k1 : Nat) (x2 : Int64) (k : Nat) (hk : k ≠ k1) : ∀ (n11 i11 : Nat) (x12 : Int64) (M13 : bM), (lp_X7_gameOn_5 k1 n11 i11 x12 M13).2 k = M13 k := by
  intro n11
  induction n11 with
  | zero =>
    intro i11 x12 M13
    rw [p_X7_gameOn_e15 M k1 x2 x12 M13 i11 ]
  | succ n11 ih11 =>
    intro i11 x12 M13
    obtain ⟨x17, hx17⟩ : ∃ y : Int64, y = ((x12 * 6364136223846793005) + 1442695040888963407) := ⟨_, rfl⟩
    obtain ⟨x18, hx18⟩ : ∃ y : Int32, y = ((x17.toUInt64 >>> ((33 : Int32).toInt64.toUInt64 &&& Int64.toUInt64 63)).toInt64).toInt32 := ⟨_, rfl⟩
    obtain ⟨M19, hM19⟩ : ∃ y : bM, y = up2 M13 k1 (20 + i11) (x18 - x18 / 10 * 10) := ⟨_, rfl⟩
    obtain ⟨M20, hM20⟩ : ∃ y : bM, y = up2 M19 k1 (84 + i11) ((x18 / 10) - (x18 / 10) / 10 * 10) := ⟨_, rfl⟩
    obtain ⟨M21, hM21⟩ : ∃ y : bM, y = up2 M20 k1 (148 + i11) (-1) := ⟨_, rfl⟩
    obtain ⟨M22, hM22⟩ : ∃ y : bM, y = up2 M21 k1 (212 + i11) 0 := ⟨_, rfl⟩
    obtain ⟨M23, hM23⟩ : ∃ y : bM, y = up2 M22 k1 (276 + i11) 0 := ⟨_, rfl⟩
    obtain ⟨M24, hM24⟩ : ∃ y : bM, y = up2 M23 k1 (340 + i11) 0 := ⟨_, rfl⟩
    rw [p_X7_gameOn_e25 M k1 x2 x12 M13 i11 n11 x17 hx17.symm x18 hx18.symm M19 hM19.symm M20 hM20.symm M21 hM21.symm M22 hM22.symm M23 hM23.symm M24 hM24.symm, ih11]
    try dsimp only
    rw [hM24, up2_row (by omega), hM23, up2_row (by omega), hM22, up2_row (by omega), hM21, up2_row (by omega), hM20, up2_row (by omega), hM19, up2_row (by omega)]
theorem fr_X7_gameOn (M : bM) (k1 : Nat) (x2 : Int64) (k : Nat) (hk : k ≠ k1) : (f_X7_gameOn M k1 x2).2 k = M k := by
  obtain ⟨x26, hx26⟩ : ∃ y : Int64, y = (lp_X7_gameOn_5 k1 64 0 x2 M).1 := ⟨_, rfl⟩
  obtain ⟨M27, hM27⟩ : ∃ y : bM, y = (lp_X7_gameOn_5 k1 64 0 x2 M).2 := ⟨_, rfl⟩
  obtain ⟨M29, hM29⟩ : ∃ y : bM, y = up2 M27 k1 10 0 := ⟨_, rfl⟩
  obtain ⟨M30, hM30⟩ : ∃ y : bM, y = up2 M29 k1 11 0 := ⟨_, rfl⟩
  obtain ⟨M31, hM31⟩ : ∃ y : bM, y = up2 M30 k1 14 0 := ⟨_, rfl⟩
  obtain ⟨M33, hM33⟩ : ∃ y : bM, y = f_X7_flows M31 k1 0 1 := ⟨_, rfl⟩
  obtain ⟨M35, hM35⟩ : ∃ y : bM, y = up2 M33 k1 15 0 := ⟨_, rfl⟩
  obtain ⟨M36, hM36⟩ : ∃ y : bM, y = up2 M35 k1 16 0 := ⟨_, rfl⟩
  obtain ⟨M37, hM37⟩ : ∃ y : bM, y = up2 M36 k1 19 0 := ⟨_, rfl⟩
  obtain ⟨M39, hM39⟩ : ∃ y : bM, y = f_X7_flows M37 k1 1 6 := ⟨_, rfl⟩
  obtain ⟨M41, hM41⟩ : ∃ y : bM, y = up2 M39 k1 0 ((M39 k1 0) + 1) := ⟨_, rfl⟩
  obtain ⟨M42, hM42⟩ : ∃ y : bM, y = up2 M41 k1 1 1 := ⟨_, rfl⟩
  obtain ⟨M43, hM43⟩ : ∃ y : bM, y = up2 M42 k1 2 0 := ⟨_, rfl⟩
  obtain ⟨M44, hM44⟩ : ∃ y : bM, y = up2 M43 k1 3 0 := ⟨_, rfl⟩
  obtain ⟨M45, hM45⟩ : ∃ y : bM, y = up2 M44 k1 4 (-1) := ⟨_, rfl⟩
  obtain ⟨M46, hM46⟩ : ∃ y : bM, y = up2 M45 k1 5 (-1) := ⟨_, rfl⟩
  rw [p_X7_gameOn_e47 M k1 x2 x26 hx26.symm M27 hM27.symm M29 hM29.symm M30 hM30.symm M31 hM31.symm M33 hM33.symm M35 hM35.symm M36 hM36.symm M37 hM37.symm M39 hM39.symm M41 hM41.symm M42 hM42.symm M43 hM43.symm M44 hM44.symm M45 hM45.symm M46 hM46.symm]
  try dsimp only
  rw [hM46, up2_row (by omega), hM45, up2_row (by omega), hM44, up2_row (by omega), hM43, up2_row (by omega), hM42, up2_row (by omega), hM41, up2_row (by omega), hM39, fr_X7_flows M37 k1 1 6 k (by omega), hM37, up2_row (by omega), hM36, up2_row (by omega), hM35, up2_row (by omega), hM33, fr_X7_flows M31 k1 0 1 k (by omega), hM31, up2_row (by omega), hM30, up2_row (by omega), hM29, up2_row (by omega), hM27, fr_lp_X7_gameOn_5 M k1 x2 k hk 64 0 x2 M]
set_option maxHeartbeats 4000000 in
set_option maxRecDepth 100000 in
theorem c_X7_gameOn (l : Launch) (D : va_G) (E : Nat → ClassId) (o : Nat) (M : bM) (k1 : Nat) (x2 : Int64) (hk1 : LRR[k1]? = some (.inl (0, 404))) : Met l yX7_gameOn wsX7_gameOn (rmF 2) (bPc D E [.ref (o + k1), .long x2] (fun H => bk D E LRR o M H)) (bQ (aI fun r H => ∃ M1 : bM, (r = (f_X7_gameOn M k1 x2).1 ∧ M1 = (f_X7_gameOn M k1 x2).2) ∧ bk D E LRR o M1 H) (rB o)) 0 0 (rB o) := by
  refine Met.ofW (cc := cX7_gameOn) (maxL := 7) (ret := (some .int)) (by decide) rfl ?_
  intro p e s m args below meth c s₁ B hml hv
  obtain ⟨rfl, hB, hK⟩ := hv
  have hx := B.exec
  have hb := B.bytes
  have hr := B.returns
  have hts := atoms_spec (ws := wsX7_gameOn) B.pre
  have hown : s.vm.findClass RX7 = some m.cls := findClass_of_methodNamed B.named
  have hlocks := B.notSynchronized
  have hS : bS (rB o) s.heap s.heap [] := bS.rf
  have hl := lv_entry ([.ref (o + k1), .long x2]) (n := 7) (Nat.le_of_ble_eq_true rfl)
  rw [lg_entry_eq]
  generalize (lg_sl ([.ref (o + k1), .long x2]) ++ List.replicate (7 - (lg_sl ([.ref (o + k1), .long x2])).length) Slot.unset).toArray = ls at hl ⊢
  have hl : lv_has ls 7 [(0, .ref (o + k1)), (1, .long x2)] := hl
  have hB : bk D E LRR o M s.heap := hB
  refine lv_lload_n hx hb dX7_gameOn_0 rfl (lv_at hl 1 rfl) ?_
  refine lv_lstore_n (lv' := [(3, .long x2), (0, .ref (o + k1)), (1, .long x2)]) hx hb dX7_gameOn_1 rfl hl (by decide) rfl (fun ls hl => ?_)
  refine lv_iconst (v := 0) hx hb dX7_gameOn_2 (by decide) ?_
  refine lv_istore (lv' := [(5, .int 0), (3, .long x2), (0, .ref (o + k1)), (1, .long x2)]) hx hb dX7_gameOn_3 hl (by decide) rfl (fun ls hl => ?_)
  have lp11 : ∀ (n11 i11 : Nat) (x12 : Int64) (M13 : bM), i11 + n11 = 64 → ∀ (H : Heap) (locs : List Loc), bk D E LRR o M13 H → bS (rB o) s.heap H locs → ∀ ls : Array Slot, lv_has ls 7 [(5, .int (nI i11)), (3, .long x12), (0, .ref (o + k1)), (1, .long x2)] → (∀ (H : Heap) (locs : List Loc), bk D E LRR o ((lp_X7_gameOn_5 k1 n11 i11 x12 M13).2) H → bS (rB o) s.heap H locs → ∀ ls : Array Slot, lv_has ls 7 [(3, .long ((lp_X7_gameOn_5 k1 n11 i11 x12 M13).1)), (0, .ref (o + k1)), (1, .long x2)] → W p l e (headSpec wsX7_gameOn (rmF 2)).room s m ([.ref (o + k1), .long x2] : List Value).toArray below meth c H locs 0 0 (MQ below (bQ (aI fun r H => ∃ M1 : bM, (r = (f_X7_gameOn M k1 x2).1 ∧ M1 = (f_X7_gameOn M k1 x2).2) ∧ bk D E LRR o M1 H) (rB o)) ([.ref (o + k1), .long x2] : List Value).toArray s 0 0 (rB o)) (F0 m 98 ls [])) → W p l e (headSpec wsX7_gameOn (rmF 2)).room s m ([.ref (o + k1), .long x2] : List Value).toArray below meth c H locs 0 0 (MQ below (bQ (aI fun r H => ∃ M1 : bM, (r = (f_X7_gameOn M k1 x2).1 ∧ M1 = (f_X7_gameOn M k1 x2).2) ∧ bk D E LRR o M1 H) (rB o)) ([.ref (o + k1), .long x2] : List Value).toArray s 0 0 (rB o)) (F0 m 5 ls []) := by
    intro n11
    induction n11 with
    | zero =>
      intro i11 x12 M13 hi11 H locs hB hS ls hl hexit11
      have hz11 : i11 = 64 := by omega
      refine lv_iload hx hb dX7_gameOn_5 (lv_at hl 0 rfl) ?_
      refine lv_bipush (v := 64) hx hb dX7_gameOn_7 (by decide) ?_
      refine lv_icmp_ge (tgt := 98) hx hb dX7_gameOn_9 (by decide) (fun c14 => ?_) (fun c14 => absurd (by rw [hz11]; exact Int32.le_refl _) c14)
      have e15 := p_X7_gameOn_e15 M k1 x2 x12 M13 i11 
      rw [e15] at hexit11
      exact hexit11 _ _  hB hS ls (lv_sub hl [1, 2, 3] rfl)
    | succ n11 ih11 =>
      intro i11 x12 M13 hi11 H locs hB hS ls hl hexit11
      refine lv_iload hx hb dX7_gameOn_5 (lv_at hl 0 rfl) ?_
      refine lv_bipush (v := 64) hx hb dX7_gameOn_7 (by decide) ?_
      refine lv_icmp_ge (tgt := 98) hx hb dX7_gameOn_9 (by decide) (fun c16 => absurd c16 (nI_ge (a := i11) (b := 64) (by omega) (by decide))) (fun c16 => ?_)
      refine lv_lload_n hx hb dX7_gameOn_12 rfl (lv_at hl 1 rfl) ?_
      refine lv_ldc2 (v := 6364136223846793005) hx hb hown (hts (.constantLong RX7 73 (6364136223846793005)) (List.mem_of_getElem? (i := 1) rfl)) dX7_gameOn_13 ?_
      refine lv_lmul hx hb dX7_gameOn_16 ?_
      refine lv_ldc2 (v := 1442695040888963407) hx hb hown (hts (.constantLong RX7 75 (1442695040888963407)) (List.mem_of_getElem? (i := 2) rfl)) dX7_gameOn_17 ?_
      refine lv_ladd hx hb dX7_gameOn_20 ?_
      refine lv_topl (fun x17 hx17 => ?_)
      refine lv_lstore_n (lv' := [(3, .long x17), (5, .int (nI i11)), (0, .ref (o + k1)), (1, .long x2)]) hx hb dX7_gameOn_21 rfl hl (by decide) rfl (fun ls hl => ?_)
      refine lv_lload_n hx hb dX7_gameOn_22 rfl (lv_at hl 0 rfl) ?_
      refine lv_bipush (v := 33) hx hb dX7_gameOn_23 (by decide) ?_
      refine lv_lushr hx hb dX7_gameOn_25 rfl ?_
      refine lv_l2i hx hb dX7_gameOn_26 rfl ?_
      refine lv_topi (fun x18 hx18 => ?_)
      refine lv_istore (lv' := [(6, .int x18), (3, .long x17), (5, .int (nI i11)), (0, .ref (o + k1)), (1, .long x2)]) hx hb dX7_gameOn_27 hl (by decide) rfl (fun ls hl => ?_)
      refine lv_aload_n hx hb dX7_gameOn_29 rfl (lv_at hl 3 rfl) ?_
      refine lv_bipush (v := 20) hx hb dX7_gameOn_30 (by decide) ?_
      refine lv_iload hx hb dX7_gameOn_32 (lv_at hl 2 rfl) ?_
      refine lv_iadd hx hb dX7_gameOn_34 ?_
      refine lv_iload hx hb dX7_gameOn_35 (lv_at hl 0 rfl) ?_
      refine lv_bipush (v := 10) hx hb dX7_gameOn_37 (by decide) ?_
      refine lv_irem hx hb dX7_gameOn_39 (by decide) ?_
      refine b_iast hx hb hK.1 hB hS k1 (rB_of hk1) hk1 (in_addN 20 (by omega) (by decide)) dX7_gameOn_40 (fun M19 hM19 H locs hB _ hS => ?_)
      rw [idx_add 20 (i := i11) (by omega)] at hM19
      refine lv_aload_n hx hb dX7_gameOn_41 rfl (lv_at hl 3 rfl) ?_
      refine lv_bipush (v := 84) hx hb dX7_gameOn_42 (by decide) ?_
      refine lv_iload hx hb dX7_gameOn_44 (lv_at hl 2 rfl) ?_
      refine lv_iadd hx hb dX7_gameOn_46 ?_
      refine lv_iload hx hb dX7_gameOn_47 (lv_at hl 0 rfl) ?_
      refine lv_bipush (v := 10) hx hb dX7_gameOn_49 (by decide) ?_
      refine lv_idiv hx hb dX7_gameOn_51 (by decide) ?_
      refine lv_bipush (v := 10) hx hb dX7_gameOn_52 (by decide) ?_
      refine lv_irem hx hb dX7_gameOn_54 (by decide) ?_
      refine b_iast hx hb hK.1 hB hS k1 (rB_of hk1) hk1 (in_addN 84 (by omega) (by decide)) dX7_gameOn_55 (fun M20 hM20 H locs hB _ hS => ?_)
      rw [idx_add 84 (i := i11) (by omega)] at hM20
      refine lv_aload_n hx hb dX7_gameOn_56 rfl (lv_at hl 3 rfl) ?_
      refine lv_sipush (v := 148) hx hb dX7_gameOn_57 (by decide) ?_
      refine lv_iload hx hb dX7_gameOn_60 (lv_at hl 2 rfl) ?_
      refine lv_iadd hx hb dX7_gameOn_62 ?_
      refine lv_iconst (v := (-1)) hx hb dX7_gameOn_63 (by decide) ?_
      refine b_iast hx hb hK.1 hB hS k1 (rB_of hk1) hk1 (in_addN 148 (by omega) (by decide)) dX7_gameOn_64 (fun M21 hM21 H locs hB _ hS => ?_)
      rw [idx_add 148 (i := i11) (by omega)] at hM21
      refine lv_aload_n hx hb dX7_gameOn_65 rfl (lv_at hl 3 rfl) ?_
      refine lv_sipush (v := 212) hx hb dX7_gameOn_66 (by decide) ?_
      refine lv_iload hx hb dX7_gameOn_69 (lv_at hl 2 rfl) ?_
      refine lv_iadd hx hb dX7_gameOn_71 ?_
      refine lv_iconst (v := 0) hx hb dX7_gameOn_72 (by decide) ?_
      refine b_iast hx hb hK.1 hB hS k1 (rB_of hk1) hk1 (in_addN 212 (by omega) (by decide)) dX7_gameOn_73 (fun M22 hM22 H locs hB _ hS => ?_)
      rw [idx_add 212 (i := i11) (by omega)] at hM22
      refine lv_aload_n hx hb dX7_gameOn_74 rfl (lv_at hl 3 rfl) ?_
      refine lv_sipush (v := 276) hx hb dX7_gameOn_75 (by decide) ?_
      refine lv_iload hx hb dX7_gameOn_78 (lv_at hl 2 rfl) ?_
      refine lv_iadd hx hb dX7_gameOn_80 ?_
      refine lv_iconst (v := 0) hx hb dX7_gameOn_81 (by decide) ?_
      refine b_iast hx hb hK.1 hB hS k1 (rB_of hk1) hk1 (in_addN 276 (by omega) (by decide)) dX7_gameOn_82 (fun M23 hM23 H locs hB _ hS => ?_)
      rw [idx_add 276 (i := i11) (by omega)] at hM23
      refine lv_aload_n hx hb dX7_gameOn_83 rfl (lv_at hl 3 rfl) ?_
      refine lv_sipush (v := 340) hx hb dX7_gameOn_84 (by decide) ?_
      refine lv_iload hx hb dX7_gameOn_87 (lv_at hl 2 rfl) ?_
      refine lv_iadd hx hb dX7_gameOn_89 ?_
      refine lv_iconst (v := 0) hx hb dX7_gameOn_90 (by decide) ?_
      refine b_iast hx hb hK.1 hB hS k1 (rB_of hk1) hk1 (in_addN 340 (by omega) (by decide)) dX7_gameOn_91 (fun M24 hM24 H locs hB _ hS => ?_)
      rw [idx_add 340 (i := i11) (by omega)] at hM24
      refine lv_iinc (v := nI (i11 + 1)) (lv' := [(5, .int (nI (i11 + 1))), (6, .int x18), (3, .long x17), (0, .ref (o + k1)), (1, .long x2)]) hx hb dX7_gameOn_92 hl (k := 2) rfl (nI_1 i11) (by decide) rfl (fun ls hl => ?_)
      refine lv_goto (tgt := 5) hx hb dX7_gameOn_95 (by decide) ?_
      have e25 := p_X7_gameOn_e25 M k1 x2 x12 M13 i11 n11 x17 hx17.symm x18 hx18.symm M19 hM19.symm M20 hM20.symm M21 hM21.symm M22 hM22.symm M23 hM23.symm M24 hM24.symm
      rw [e25] at hexit11
      exact ih11 (i11 + 1) x17 M24 (by omega) _ _ hB hS ls (lv_sub hl [0, 2, 3, 4] rfl) hexit11
  refine lp11 64 0 x2 M (by omega) _ _ hB hS ls (lv_sub hl [0, 1, 2, 3] rfl) ?_
  intro H locs hB hS ls hl
  obtain ⟨x26, hx26⟩ : ∃ y : Int64, y = (lp_X7_gameOn_5 k1 64 0 x2 M).1 := ⟨_, rfl⟩
  rw [← hx26] at hl
  obtain ⟨M27, hM27⟩ : ∃ y : bM, y = (lp_X7_gameOn_5 k1 64 0 x2 M).2 := ⟨_, rfl⟩
  rw [← hM27] at hB
  have hl : lv_has ls 7 [(3, .long x26), (0, .ref (o + k1)), (1, .long x2)] := hl
  refine lv_iconst (v := 0) hx hb dX7_gameOn_98 (by decide) ?_
  refine lv_istore (lv' := [(5, .int 0), (3, .long x26), (0, .ref (o + k1)), (1, .long x2)]) hx hb dX7_gameOn_99 hl (by decide) rfl (fun ls hl => ?_)
  refine lv_iload hx hb dX7_gameOn_101 (lv_at hl 0 rfl) ?_
  refine lv_iconst (v := 2) hx hb dX7_gameOn_103 (by decide) ?_
  refine lv_icmp_ge (tgt := 166) hx hb dX7_gameOn_104 (by decide) (fun c28 => absurd c28 (by decide)) (fun c28 => ?_)
  refine lv_aload_n hx hb dX7_gameOn_107 rfl (lv_at hl 2 rfl) ?_
  refine lv_bipush (v := 10) hx hb dX7_gameOn_108 (by decide) ?_
  refine lv_iconst (v := 5) hx hb dX7_gameOn_110 (by decide) ?_
  refine lv_iload hx hb dX7_gameOn_111 (lv_at hl 0 rfl) ?_
  refine lv_imul hx hb dX7_gameOn_113 ?_
  refine lv_const (y := 0) (by decide) ?_
  refine lv_iadd hx hb dX7_gameOn_114 ?_
  refine lv_const (y := 10) (by decide) ?_
  refine lv_iconst (v := 0) hx hb dX7_gameOn_115 (by decide) ?_
  refine lv_iadd hx hb dX7_gameOn_116 ?_
  refine lv_const (y := 10) (by decide) ?_
  refine lv_iconst (v := 0) hx hb dX7_gameOn_117 (by decide) ?_
  refine b_iast hx hb hK.1 hB hS k1 (rB_of hk1) hk1 (vp_in_nI (n := 10) (by decide) (by decide)) dX7_gameOn_118 (fun M29 hM29 H locs hB _ hS => ?_)
  rw [show (10 : Int32).toNatClampNeg = 10 from rfl] at hM29
  refine lv_aload_n hx hb dX7_gameOn_119 rfl (lv_at hl 2 rfl) ?_
  refine lv_bipush (v := 10) hx hb dX7_gameOn_120 (by decide) ?_
  refine lv_iconst (v := 5) hx hb dX7_gameOn_122 (by decide) ?_
  refine lv_iload hx hb dX7_gameOn_123 (lv_at hl 0 rfl) ?_
  refine lv_imul hx hb dX7_gameOn_125 ?_
  refine lv_const (y := 0) (by decide) ?_
  refine lv_iadd hx hb dX7_gameOn_126 ?_
  refine lv_const (y := 10) (by decide) ?_
  refine lv_iconst (v := 1) hx hb dX7_gameOn_127 (by decide) ?_
  refine lv_iadd hx hb dX7_gameOn_128 ?_
  refine lv_const (y := 11) (by decide) ?_
  refine lv_iconst (v := 0) hx hb dX7_gameOn_129 (by decide) ?_
  refine b_iast hx hb hK.1 hB hS k1 (rB_of hk1) hk1 (vp_in_nI (n := 11) (by decide) (by decide)) dX7_gameOn_130 (fun M30 hM30 H locs hB _ hS => ?_)
  rw [show (11 : Int32).toNatClampNeg = 11 from rfl] at hM30
  refine lv_aload_n hx hb dX7_gameOn_131 rfl (lv_at hl 2 rfl) ?_
  refine lv_bipush (v := 10) hx hb dX7_gameOn_132 (by decide) ?_
  refine lv_iconst (v := 5) hx hb dX7_gameOn_134 (by decide) ?_
  refine lv_iload hx hb dX7_gameOn_135 (lv_at hl 0 rfl) ?_
  refine lv_imul hx hb dX7_gameOn_137 ?_
  refine lv_const (y := 0) (by decide) ?_
  refine lv_iadd hx hb dX7_gameOn_138 ?_
  refine lv_const (y := 10) (by decide) ?_
  refine lv_iconst (v := 4) hx hb dX7_gameOn_139 (by decide) ?_
  refine lv_iadd hx hb dX7_gameOn_140 ?_
  refine lv_const (y := 14) (by decide) ?_
  refine lv_iconst (v := 0) hx hb dX7_gameOn_141 (by decide) ?_
  refine b_iast hx hb hK.1 hB hS k1 (rB_of hk1) hk1 (vp_in_nI (n := 14) (by decide) (by decide)) dX7_gameOn_142 (fun M31 hM31 H locs hB _ hS => ?_)
  rw [show (14 : Int32).toNatClampNeg = 14 from rfl] at hM31
  refine lv_aload_n hx hb dX7_gameOn_143 rfl (lv_at hl 2 rfl) ?_
  refine lv_iload hx hb dX7_gameOn_144 (lv_at hl 0 rfl) ?_
  refine lv_iload hx hb dX7_gameOn_146 (lv_at hl 0 rfl) ?_
  refine lv_if_ne (tgt := 155) hx hb dX7_gameOn_148 (by decide) (fun c32 => absurd rfl c32) (fun c32 => ?_)
  refine lv_iconst (v := 1) hx hb dX7_gameOn_151 (by decide) ?_
  refine lv_goto (tgt := 157) hx hb dX7_gameOn_152 (by decide) ?_
  refine b_mV (b_runS (As := [.ref (o + k1), .int 0, .int 1]) (rest := []) ⟨hx, hb, hml, hown, hts⟩ (c_X7_flows l D E o M31 k1 0 1 hk1 (Or.inl rfl) (by rw [hM31]; exact len_z0) (vp_in_nI (n := 1) (by decide) (by decide))) (va_cwS 3 hts gX7_gameOn_X7_flows rfl rfl rfl (by decide +kernel) ⟨Nat.le_of_ble_eq_true rfl, Nat.le_of_ble_eq_true rfl⟩) hK hB rfl hl rfl (Nat.le_of_ble_eq_true rfl) dX7_gameOn_157 ⟨Nat.zero_le _, Nat.zero_le _⟩) hS (fun q h => h) (fun M33 hM33 H locs hB _ hS => ?_)
  refine lv_iinc (v := 1) (lv' := [(5, .int 1), (3, .long x26), (0, .ref (o + k1)), (1, .long x2)]) hx hb dX7_gameOn_160 hl (k := 0) rfl (by decide) (by decide) rfl (fun ls hl => ?_)
  refine lv_goto (tgt := 101) hx hb dX7_gameOn_163 (by decide) ?_
  refine lv_iload hx hb dX7_gameOn_101 (lv_at hl 0 rfl) ?_
  refine lv_iconst (v := 2) hx hb dX7_gameOn_103 (by decide) ?_
  refine lv_icmp_ge (tgt := 166) hx hb dX7_gameOn_104 (by decide) (fun c34 => absurd c34 (by decide)) (fun c34 => ?_)
  refine lv_aload_n hx hb dX7_gameOn_107 rfl (lv_at hl 2 rfl) ?_
  refine lv_bipush (v := 10) hx hb dX7_gameOn_108 (by decide) ?_
  refine lv_iconst (v := 5) hx hb dX7_gameOn_110 (by decide) ?_
  refine lv_iload hx hb dX7_gameOn_111 (lv_at hl 0 rfl) ?_
  refine lv_imul hx hb dX7_gameOn_113 ?_
  refine lv_const (y := 5) (by decide) ?_
  refine lv_iadd hx hb dX7_gameOn_114 ?_
  refine lv_const (y := 15) (by decide) ?_
  refine lv_iconst (v := 0) hx hb dX7_gameOn_115 (by decide) ?_
  refine lv_iadd hx hb dX7_gameOn_116 ?_
  refine lv_const (y := 15) (by decide) ?_
  refine lv_iconst (v := 0) hx hb dX7_gameOn_117 (by decide) ?_
  refine b_iast hx hb hK.1 hB hS k1 (rB_of hk1) hk1 (vp_in_nI (n := 15) (by decide) (by decide)) dX7_gameOn_118 (fun M35 hM35 H locs hB _ hS => ?_)
  rw [show (15 : Int32).toNatClampNeg = 15 from rfl] at hM35
  refine lv_aload_n hx hb dX7_gameOn_119 rfl (lv_at hl 2 rfl) ?_
  refine lv_bipush (v := 10) hx hb dX7_gameOn_120 (by decide) ?_
  refine lv_iconst (v := 5) hx hb dX7_gameOn_122 (by decide) ?_
  refine lv_iload hx hb dX7_gameOn_123 (lv_at hl 0 rfl) ?_
  refine lv_imul hx hb dX7_gameOn_125 ?_
  refine lv_const (y := 5) (by decide) ?_
  refine lv_iadd hx hb dX7_gameOn_126 ?_
  refine lv_const (y := 15) (by decide) ?_
  refine lv_iconst (v := 1) hx hb dX7_gameOn_127 (by decide) ?_
  refine lv_iadd hx hb dX7_gameOn_128 ?_
  refine lv_const (y := 16) (by decide) ?_
  refine lv_iconst (v := 0) hx hb dX7_gameOn_129 (by decide) ?_
  refine b_iast hx hb hK.1 hB hS k1 (rB_of hk1) hk1 (vp_in_nI (n := 16) (by decide) (by decide)) dX7_gameOn_130 (fun M36 hM36 H locs hB _ hS => ?_)
  rw [show (16 : Int32).toNatClampNeg = 16 from rfl] at hM36
  refine lv_aload_n hx hb dX7_gameOn_131 rfl (lv_at hl 2 rfl) ?_
  refine lv_bipush (v := 10) hx hb dX7_gameOn_132 (by decide) ?_
  refine lv_iconst (v := 5) hx hb dX7_gameOn_134 (by decide) ?_
  refine lv_iload hx hb dX7_gameOn_135 (lv_at hl 0 rfl) ?_
  refine lv_imul hx hb dX7_gameOn_137 ?_
  refine lv_const (y := 5) (by decide) ?_
  refine lv_iadd hx hb dX7_gameOn_138 ?_
  refine lv_const (y := 15) (by decide) ?_
  refine lv_iconst (v := 4) hx hb dX7_gameOn_139 (by decide) ?_
  refine lv_iadd hx hb dX7_gameOn_140 ?_
  refine lv_const (y := 19) (by decide) ?_
  refine lv_iconst (v := 0) hx hb dX7_gameOn_141 (by decide) ?_
  refine b_iast hx hb hK.1 hB hS k1 (rB_of hk1) hk1 (vp_in_nI (n := 19) (by decide) (by decide)) dX7_gameOn_142 (fun M37 hM37 H locs hB _ hS => ?_)
  rw [show (19 : Int32).toNatClampNeg = 19 from rfl] at hM37
  refine lv_aload_n hx hb dX7_gameOn_143 rfl (lv_at hl 2 rfl) ?_
  refine lv_iload hx hb dX7_gameOn_144 (lv_at hl 0 rfl) ?_
  refine lv_iload hx hb dX7_gameOn_146 (lv_at hl 0 rfl) ?_
  refine lv_if_ne (tgt := 155) hx hb dX7_gameOn_148 (by decide) (fun c38 => ?_) (fun c38 => absurd c38 (by decide))
  refine lv_bipush (v := 6) hx hb dX7_gameOn_155 (by decide) ?_
  refine b_mV (b_runS (As := [.ref (o + k1), .int 1, .int 6]) (rest := []) ⟨hx, hb, hml, hown, hts⟩ (c_X7_flows l D E o M37 k1 1 6 hk1 (Or.inr rfl) (by rw [hM37]; exact len_z1) (vp_in_nI (n := 6) (by decide) (by decide))) (va_cwS 3 hts gX7_gameOn_X7_flows rfl rfl rfl (by decide +kernel) ⟨Nat.le_of_ble_eq_true rfl, Nat.le_of_ble_eq_true rfl⟩) hK hB rfl hl rfl (Nat.le_of_ble_eq_true rfl) dX7_gameOn_157 ⟨Nat.zero_le _, Nat.zero_le _⟩) hS (fun q h => h) (fun M39 hM39 H locs hB _ hS => ?_)
  refine lv_iinc (v := 2) (lv' := [(5, .int 2), (3, .long x26), (0, .ref (o + k1)), (1, .long x2)]) hx hb dX7_gameOn_160 hl (k := 0) rfl (by decide) (by decide) rfl (fun ls hl => ?_)
  refine lv_goto (tgt := 101) hx hb dX7_gameOn_163 (by decide) ?_
  refine lv_iload hx hb dX7_gameOn_101 (lv_at hl 0 rfl) ?_
  refine lv_iconst (v := 2) hx hb dX7_gameOn_103 (by decide) ?_
  refine lv_icmp_ge (tgt := 166) hx hb dX7_gameOn_104 (by decide) (fun c40 => ?_) (fun c40 => absurd (by decide) c40)
  refine lv_aload_n hx hb dX7_gameOn_166 rfl (lv_at hl 2 rfl) ?_
  refine lv_iconst (v := 0) hx hb dX7_gameOn_167 (by decide) ?_
  refine lv_dup2_11 hx hb dX7_gameOn_168 rfl rfl ?_
  refine b_iald hx hb hK.1 hB k1 hk1 (vp_in_nI (n := 0) (by decide) (by decide)) dX7_gameOn_169 ?_
  refine lv_const (y := M39 k1 0) (by rfl) ?_
  refine lv_iconst (v := 1) hx hb dX7_gameOn_170 (by decide) ?_
  refine lv_iadd hx hb dX7_gameOn_171 ?_
  refine b_iast hx hb hK.1 hB hS k1 (rB_of hk1) hk1 (vp_in_nI (n := 0) (by decide) (by decide)) dX7_gameOn_172 (fun M41 hM41 H locs hB _ hS => ?_)
  rw [show (0 : Int32).toNatClampNeg = 0 from rfl] at hM41
  refine lv_aload_n hx hb dX7_gameOn_173 rfl (lv_at hl 2 rfl) ?_
  refine lv_iconst (v := 1) hx hb dX7_gameOn_174 (by decide) ?_
  refine lv_iconst (v := 1) hx hb dX7_gameOn_175 (by decide) ?_
  refine b_iast hx hb hK.1 hB hS k1 (rB_of hk1) hk1 (vp_in_nI (n := 1) (by decide) (by decide)) dX7_gameOn_176 (fun M42 hM42 H locs hB _ hS => ?_)
  rw [show (1 : Int32).toNatClampNeg = 1 from rfl] at hM42
  refine lv_aload_n hx hb dX7_gameOn_177 rfl (lv_at hl 2 rfl) ?_
  refine lv_iconst (v := 2) hx hb dX7_gameOn_178 (by decide) ?_
  refine lv_iconst (v := 0) hx hb dX7_gameOn_179 (by decide) ?_
  refine b_iast hx hb hK.1 hB hS k1 (rB_of hk1) hk1 (vp_in_nI (n := 2) (by decide) (by decide)) dX7_gameOn_180 (fun M43 hM43 H locs hB _ hS => ?_)
  rw [show (2 : Int32).toNatClampNeg = 2 from rfl] at hM43
  refine lv_aload_n hx hb dX7_gameOn_181 rfl (lv_at hl 2 rfl) ?_
  refine lv_iconst (v := 3) hx hb dX7_gameOn_182 (by decide) ?_
  refine lv_iconst (v := 0) hx hb dX7_gameOn_183 (by decide) ?_
  refine b_iast hx hb hK.1 hB hS k1 (rB_of hk1) hk1 (vp_in_nI (n := 3) (by decide) (by decide)) dX7_gameOn_184 (fun M44 hM44 H locs hB _ hS => ?_)
  rw [show (3 : Int32).toNatClampNeg = 3 from rfl] at hM44
  refine lv_aload_n hx hb dX7_gameOn_185 rfl (lv_at hl 2 rfl) ?_
  refine lv_iconst (v := 4) hx hb dX7_gameOn_186 (by decide) ?_
  refine lv_iconst (v := (-1)) hx hb dX7_gameOn_187 (by decide) ?_
  refine b_iast hx hb hK.1 hB hS k1 (rB_of hk1) hk1 (vp_in_nI (n := 4) (by decide) (by decide)) dX7_gameOn_188 (fun M45 hM45 H locs hB _ hS => ?_)
  rw [show (4 : Int32).toNatClampNeg = 4 from rfl] at hM45
  refine lv_aload_n hx hb dX7_gameOn_189 rfl (lv_at hl 2 rfl) ?_
  refine lv_iconst (v := 5) hx hb dX7_gameOn_190 (by decide) ?_
  refine lv_iconst (v := (-1)) hx hb dX7_gameOn_191 (by decide) ?_
  refine b_iast hx hb hK.1 hB hS k1 (rB_of hk1) hk1 (vp_in_nI (n := 5) (by decide) (by decide)) dX7_gameOn_192 (fun M46 hM46 H locs hB _ hS => ?_)
  rw [show (5 : Int32).toNatClampNeg = 5 from rfl] at hM46
  refine lv_aload_n hx hb dX7_gameOn_193 rfl (lv_at hl 2 rfl) ?_
  refine lv_iconst (v := 0) hx hb dX7_gameOn_194 (by decide) ?_
  refine b_iald hx hb hK.1 hB k1 hk1 (vp_in_nI (n := 0) (by decide) (by decide)) dX7_gameOn_195 ?_
  refine lv_const (y := M46 k1 0) (by rfl) ?_
  have e47 := p_X7_gameOn_e47 M k1 x2 x26 hx26.symm M27 hM27.symm M29 hM29.symm M30 hM30.symm M31 hM31.symm M33 hM33.symm M35 hM35.symm M36 hM36.symm M37 hM37.symm M39 hM39.symm M41 hM41.symm M42 hM42.symm M43 hM43.symm M44 hM44.symm M45 hM45.symm M46 hM46.symm
  exact b_iret hx hb hr hlocks hS ⟨_, rfl, _, ⟨(congrArg Prod.fst e47).symm, (congrArg Prod.snd e47).symm⟩, hB⟩ dX7_gameOn_196

def lp_X7_clear_2 (k1 : Nat) : Nat → Nat → bM → (bM)
  | 0, i11, M12 => M12
  | n11 + 1, i11, M12 => (let M16 : bM := up2 M12 k1 i11 0; lp_X7_clear_2 k1 n11 (i11 + 1) M16)
theorem u0_lp_X7_clear_2 (k1 : Nat) (i11 : Nat) (M12 : bM) : lp_X7_clear_2 k1 0 i11 M12 = M12 := rfl
theorem u1_lp_X7_clear_2 (k1 : Nat) (n11 i11 : Nat) (M12 : bM) : lp_X7_clear_2 k1 (n11 + 1) i11 M12 = (let M16 : bM := up2 M12 k1 i11 0; lp_X7_clear_2 k1 n11 (i11 + 1) M16) := rfl
def f_X7_clear (M : bM) (k1 : Nat) : bM := (let M18 : bM := (lp_X7_clear_2 k1 404 0 M); (let M19 : bM := up2 M18 k1 8 20; (let M20 : bM := up2 M19 k1 9 3; (let r22 : Int32 := (f_X7_gameOn M20 k1 0).1; (let M21 : bM := (f_X7_gameOn M20 k1 0).2; M21)))))
theorem u_f_X7_clear (M : bM) (k1 : Nat) : f_X7_clear M k1 = (let M18 : bM := (lp_X7_clear_2 k1 404 0 M); (let M19 : bM := up2 M18 k1 8 20; (let M20 : bM := up2 M19 k1 9 3; (let r22 : Int32 := (f_X7_gameOn M20 k1 0).1; (let M21 : bM := (f_X7_gameOn M20 k1 0).2; M21))))) := rfl
theorem p_X7_clear_e14 (M : bM) (k1 : Nat) (M12 : bM) (i11 : Nat)  : lp_X7_clear_2 k1 0 i11 M12 = M12 := by exact u0_lp_X7_clear_2 k1 i11 M12
theorem p_X7_clear_e17 (M : bM) (k1 : Nat) (M12 : bM) (i11 : Nat) (n11 : Nat) (M16 : bM) (hM16 : up2 M12 k1 i11 0 = M16) : lp_X7_clear_2 k1 (n11 + 1) i11 M12 = lp_X7_clear_2 k1 n11 (i11 + 1) M16 := by subst hM16; exact u1_lp_X7_clear_2 k1 n11 i11 M12
theorem p_X7_clear_e23 (M : bM) (k1 : Nat) (M18 : bM) (hM18 : (lp_X7_clear_2 k1 404 0 M) = M18) (M19 : bM) (hM19 : up2 M18 k1 8 20 = M19) (M20 : bM) (hM20 : up2 M19 k1 9 3 = M20) (r22 : Int32) (hr22 : (f_X7_gameOn M20 k1 0).1 = r22) (M21 : bM) (hM21 : (f_X7_gameOn M20 k1 0).2 = M21) : f_X7_clear M k1 = M21 := by subst hM21 hr22 hM20 hM19 hM18; exact u_f_X7_clear M k1
theorem fr_lp_X7_clear_2 (M : bM) (k1 : Nat) (k : Nat) (hk : k ≠ k1) : ∀ (n11 i11 : Nat) (M12 : bM), (lp_X7_clear_2 k1 n11 i11 M12) k = M12 k := by
  intro n11
  induction n11 with
  | zero =>
    intro i11 M12
    rw [p_X7_clear_e14 M k1 M12 i11 ]
  | succ n11 ih11 =>
    intro i11 M12
    obtain ⟨M16, hM16⟩ : ∃ y : bM, y = up2 M12 k1 i11 0 := ⟨_, rfl⟩
    rw [p_X7_clear_e17 M k1 M12 i11 n11 M16 hM16.symm, ih11]
    try dsimp only
    rw [hM16, up2_row (by omega)]
theorem fr_X7_clear (M : bM) (k1 : Nat) (k : Nat) (hk : k ≠ k1) : f_X7_clear M k1 k = M k := by
  obtain ⟨M18, hM18⟩ : ∃ y : bM, y = (lp_X7_clear_2 k1 404 0 M) := ⟨_, rfl⟩
  obtain ⟨M19, hM19⟩ : ∃ y : bM, y = up2 M18 k1 8 20 := ⟨_, rfl⟩
  obtain ⟨M20, hM20⟩ : ∃ y : bM, y = up2 M19 k1 9 3 := ⟨_, rfl⟩
  obtain ⟨r22, hr22⟩ : ∃ y : Int32, y = (f_X7_gameOn M20 k1 0).1 := ⟨_, rfl⟩
  obtain ⟨M21, hM21⟩ : ∃ y : bM, y = (f_X7_gameOn M20 k1 0).2 := ⟨_, rfl⟩
  rw [p_X7_clear_e23 M k1 M18 hM18.symm M19 hM19.symm M20 hM20.symm r22 hr22.symm M21 hM21.symm]
  try dsimp only
  rw [hM21, fr_X7_gameOn M20 k1 0 k (by omega), hM20, up2_row (by omega), hM19, up2_row (by omega), hM18, fr_lp_X7_clear_2 M k1 k hk 404 0 M]
set_option maxHeartbeats 4000000 in
set_option maxRecDepth 100000 in
theorem c_X7_clear (l : Launch) (D : va_G) (E : Nat → ClassId) (o : Nat) (M : bM) (k1 : Nat) (hk1 : LRR[k1]? = some (.inl (0, 404))) : Met l yX7_clear wsX7_clear (rmF 3) (bPc D E [.ref (o + k1)] (fun H => bk D E LRR o M H)) (bQ (aV fun H => ∃ M1 : bM, M1 = f_X7_clear M k1 ∧ bk D E LRR o M1 H) (rB o)) 0 0 (rB o) := by
  refine Met.ofW (cc := cX7_clear) (maxL := 2) (ret := none) (by decide) rfl ?_
  intro p e s m args below meth c s₁ B hml hv
  obtain ⟨rfl, hB, hK⟩ := hv
  have hx := B.exec
  have hb := B.bytes
  have hr := B.returns
  have hts := atoms_spec (ws := wsX7_clear) B.pre
  have hown : s.vm.findClass RX7 = some m.cls := findClass_of_methodNamed B.named
  have hlocks := B.notSynchronized
  have hS : bS (rB o) s.heap s.heap [] := bS.rf
  have hl := lv_entry ([.ref (o + k1)]) (n := 2) (Nat.le_of_ble_eq_true rfl)
  rw [lg_entry_eq]
  generalize (lg_sl ([.ref (o + k1)]) ++ List.replicate (2 - (lg_sl ([.ref (o + k1)])).length) Slot.unset).toArray = ls at hl ⊢
  have hl : lv_has ls 2 [(0, .ref (o + k1))] := hl
  have hB : bk D E LRR o M s.heap := hB
  refine lv_iconst (v := 0) hx hb dX7_clear_0 (by decide) ?_
  refine lv_istore_n (lv' := [(1, .int 0), (0, .ref (o + k1))]) hx hb dX7_clear_1 rfl hl (by decide) rfl (fun ls hl => ?_)
  have lp11 : ∀ (n11 i11 : Nat) (M12 : bM), i11 + n11 = 404 → ∀ (H : Heap) (locs : List Loc), bk D E LRR o M12 H → bS (rB o) s.heap H locs → ∀ ls : Array Slot, lv_has ls 2 [(1, .int (nI i11)), (0, .ref (o + k1))] → (∀ (H : Heap) (locs : List Loc), bk D E LRR o (lp_X7_clear_2 k1 n11 i11 M12) H → bS (rB o) s.heap H locs → ∀ ls : Array Slot, lv_has ls 2 [(0, .ref (o + k1))] → W p l e (headSpec wsX7_clear (rmF 3)).room s m ([.ref (o + k1)] : List Value).toArray below meth c H locs 0 0 (MQ below (bQ (aV fun H => ∃ M1 : bM, M1 = f_X7_clear M k1 ∧ bk D E LRR o M1 H) (rB o)) ([.ref (o + k1)] : List Value).toArray s 0 0 (rB o)) (F0 m 19 ls [])) → W p l e (headSpec wsX7_clear (rmF 3)).room s m ([.ref (o + k1)] : List Value).toArray below meth c H locs 0 0 (MQ below (bQ (aV fun H => ∃ M1 : bM, M1 = f_X7_clear M k1 ∧ bk D E LRR o M1 H) (rB o)) ([.ref (o + k1)] : List Value).toArray s 0 0 (rB o)) (F0 m 2 ls []) := by
    intro n11
    induction n11 with
    | zero =>
      intro i11 M12 hi11 H locs hB hS ls hl hexit11
      have hz11 : i11 = 404 := by omega
      refine lv_iload_n hx hb dX7_clear_2 rfl (lv_at hl 0 rfl) ?_
      refine lv_sipush (v := 404) hx hb dX7_clear_3 (by decide) ?_
      refine lv_icmp_ge (tgt := 19) hx hb dX7_clear_6 (by decide) (fun c13 => ?_) (fun c13 => absurd (by rw [hz11]; exact Int32.le_refl _) c13)
      have e14 := p_X7_clear_e14 M k1 M12 i11 
      rw [e14] at hexit11
      exact hexit11 _ _  hB hS ls (lv_sub hl [1] rfl)
    | succ n11 ih11 =>
      intro i11 M12 hi11 H locs hB hS ls hl hexit11
      refine lv_iload_n hx hb dX7_clear_2 rfl (lv_at hl 0 rfl) ?_
      refine lv_sipush (v := 404) hx hb dX7_clear_3 (by decide) ?_
      refine lv_icmp_ge (tgt := 19) hx hb dX7_clear_6 (by decide) (fun c15 => absurd c15 (nI_ge (a := i11) (b := 404) (by omega) (by decide))) (fun c15 => ?_)
      refine lv_aload_n hx hb dX7_clear_9 rfl (lv_at hl 1 rfl) ?_
      refine lv_iload_n hx hb dX7_clear_10 rfl (lv_at hl 0 rfl) ?_
      refine lv_iconst (v := 0) hx hb dX7_clear_11 (by decide) ?_
      refine b_iast hx hb hK.1 hB hS k1 (rB_of hk1) hk1 (vp_in_nI (by omega) (by decide)) dX7_clear_12 (fun M16 hM16 H locs hB _ hS => ?_)
      rw [nI_clamp (n := i11) (by omega)] at hM16
      refine lv_iinc (v := nI (i11 + 1)) (lv' := [(1, .int (nI (i11 + 1))), (0, .ref (o + k1))]) hx hb dX7_clear_13 hl (k := 0) rfl (nI_1 i11) (by decide) rfl (fun ls hl => ?_)
      refine lv_goto (tgt := 2) hx hb dX7_clear_16 (by decide) ?_
      have e17 := p_X7_clear_e17 M k1 M12 i11 n11 M16 hM16.symm
      rw [e17] at hexit11
      exact ih11 (i11 + 1) M16 (by omega) _ _ hB hS ls (lv_sub hl [0, 1] rfl) hexit11
  refine lp11 404 0 M (by omega) _ _ hB hS ls (lv_sub hl [0, 1] rfl) ?_
  intro H locs hB hS ls hl
  obtain ⟨M18, hM18⟩ : ∃ y : bM, y = (lp_X7_clear_2 k1 404 0 M) := ⟨_, rfl⟩
  rw [← hM18] at hB
  have hl : lv_has ls 2 [(0, .ref (o + k1))] := hl
  refine lv_aload_n hx hb dX7_clear_19 rfl (lv_at hl 0 rfl) ?_
  refine lv_bipush (v := 8) hx hb dX7_clear_20 (by decide) ?_
  refine lv_bipush (v := 20) hx hb dX7_clear_22 (by decide) ?_
  refine b_iast hx hb hK.1 hB hS k1 (rB_of hk1) hk1 (vp_in_nI (n := 8) (by decide) (by decide)) dX7_clear_24 (fun M19 hM19 H locs hB _ hS => ?_)
  rw [show (8 : Int32).toNatClampNeg = 8 from rfl] at hM19
  refine lv_aload_n hx hb dX7_clear_25 rfl (lv_at hl 0 rfl) ?_
  refine lv_bipush (v := 9) hx hb dX7_clear_26 (by decide) ?_
  refine lv_iconst (v := 3) hx hb dX7_clear_28 (by decide) ?_
  refine b_iast hx hb hK.1 hB hS k1 (rB_of hk1) hk1 (vp_in_nI (n := 9) (by decide) (by decide)) dX7_clear_29 (fun M20 hM20 H locs hB _ hS => ?_)
  rw [show (9 : Int32).toNatClampNeg = 9 from rfl] at hM20
  refine lv_aload_n hx hb dX7_clear_30 rfl (lv_at hl 0 rfl) ?_
  refine lv_lconst (v := 0) hx hb dX7_clear_31 (by decide) ?_
  refine b_mI (b_runS (As := [.ref (o + k1), .long 0]) (rest := []) ⟨hx, hb, hml, hown, hts⟩ (c_X7_gameOn l D E o M20 k1 0 hk1) (va_cwS 2 hts gX7_clear_X7_gameOn rfl rfl rfl (by decide +kernel) ⟨Nat.le_of_ble_eq_true rfl, Nat.le_of_ble_eq_true rfl⟩) hK hB rfl hl rfl (Nat.le_of_ble_eq_true rfl) dX7_clear_32 ⟨Nat.zero_le _, Nat.zero_le _⟩) hS (fun q h => h) (fun r22 M21 hM21 H locs hB _ hS => ?_)
  obtain ⟨hr22, hM21⟩ := hM21
  refine lv_pop hx hb dX7_clear_35 rfl ?_
  have e23 := p_X7_clear_e23 M k1 M18 hM18.symm M19 hM19.symm M20 hM20.symm r22 hr22.symm M21 hM21.symm
  exact b_vret hx hb hr hlocks hS ⟨rfl, _, e23.symm, hB⟩ dX7_clear_36

def lp_X7_copyState_3 (k1 : Nat) (x2 : Int32) (k3 : Nat) (x4 : Int32) : Nat → Nat → bM → (bM)
  | 0, i11, M12 => M12
  | n11 + 1, i11, M12 => (let M16 : bM := up2 M12 k3 (x4 + nI i11).toNatClampNeg (M12 k1 (x2 + nI i11).toNatClampNeg); lp_X7_copyState_3 k1 x2 k3 x4 n11 (i11 + 1) M16)
theorem u0_lp_X7_copyState_3 (k1 : Nat) (x2 : Int32) (k3 : Nat) (x4 : Int32) (i11 : Nat) (M12 : bM) : lp_X7_copyState_3 k1 x2 k3 x4 0 i11 M12 = M12 := rfl
theorem u1_lp_X7_copyState_3 (k1 : Nat) (x2 : Int32) (k3 : Nat) (x4 : Int32) (n11 i11 : Nat) (M12 : bM) : lp_X7_copyState_3 k1 x2 k3 x4 (n11 + 1) i11 M12 = (let M16 : bM := up2 M12 k3 (x4 + nI i11).toNatClampNeg (M12 k1 (x2 + nI i11).toNatClampNeg); lp_X7_copyState_3 k1 x2 k3 x4 n11 (i11 + 1) M16) := rfl
def f_X7_copyState (M : bM) (k1 : Nat) (n1 : Nat) (x2 : Int32) (k3 : Nat) (n3 : Nat) (x4 : Int32) : bM := (let M18 : bM := (lp_X7_copyState_3 k1 x2 k3 x4 404 0 M); M18)
theorem u_f_X7_copyState (M : bM) (k1 : Nat) (n1 : Nat) (x2 : Int32) (k3 : Nat) (n3 : Nat) (x4 : Int32) : f_X7_copyState M k1 n1 x2 k3 n3 x4 = (let M18 : bM := (lp_X7_copyState_3 k1 x2 k3 x4 404 0 M); M18) := rfl
theorem p_X7_copyState_e14 (M : bM) (k1 : Nat) (n1 : Nat) (x2 : Int32) (k3 : Nat) (n3 : Nat) (x4 : Int32) (M12 : bM) (i11 : Nat)  : lp_X7_copyState_3 k1 x2 k3 x4 0 i11 M12 = M12 := by exact u0_lp_X7_copyState_3 k1 x2 k3 x4 i11 M12
theorem p_X7_copyState_e17 (M : bM) (k1 : Nat) (n1 : Nat) (x2 : Int32) (k3 : Nat) (n3 : Nat) (x4 : Int32) (M12 : bM) (i11 : Nat) (n11 : Nat) (M16 : bM) (hM16 : up2 M12 k3 (x4 + nI i11).toNatClampNeg (M12 k1 (x2 + nI i11).toNatClampNeg) = M16) : lp_X7_copyState_3 k1 x2 k3 x4 (n11 + 1) i11 M12 = lp_X7_copyState_3 k1 x2 k3 x4 n11 (i11 + 1) M16 := by subst hM16; exact u1_lp_X7_copyState_3 k1 x2 k3 x4 n11 i11 M12
theorem p_X7_copyState_e19 (M : bM) (k1 : Nat) (n1 : Nat) (x2 : Int32) (k3 : Nat) (n3 : Nat) (x4 : Int32) (M18 : bM) (hM18 : (lp_X7_copyState_3 k1 x2 k3 x4 404 0 M) = M18) : f_X7_copyState M k1 n1 x2 k3 n3 x4 = M18 := by subst hM18; exact u_f_X7_copyState M k1 n1 x2 k3 n3 x4
theorem fr_lp_X7_copyState_3 (M : bM) (k1 : Nat) (n1 : Nat) (x2 : Int32) (k3 : Nat) (n3 : Nat) (x4 : Int32) (k : Nat) (hk : k ≠ k3) : ∀ (n11 i11 : Nat) (M12 : bM), (lp_X7_copyState_3 k1 x2 k3 x4 n11 i11 M12) k = M12 k := by
  intro n11
  induction n11 with
  | zero =>
    intro i11 M12
    rw [p_X7_copyState_e14 M k1 n1 x2 k3 n3 x4 M12 i11 ]
  | succ n11 ih11 =>
    intro i11 M12
    obtain ⟨M16, hM16⟩ : ∃ y : bM, y = up2 M12 k3 (x4 + nI i11).toNatClampNeg (M12 k1 (x2 + nI i11).toNatClampNeg) := ⟨_, rfl⟩
    rw [p_X7_copyState_e17 M k1 n1 x2 k3 n3 x4 M12 i11 n11 M16 hM16.symm, ih11]
    try dsimp only
    rw [hM16, up2_row (by omega)]
theorem fr_X7_copyState (M : bM) (k1 : Nat) (n1 : Nat) (x2 : Int32) (k3 : Nat) (n3 : Nat) (x4 : Int32) (k : Nat) (hk : k ≠ k3) : f_X7_copyState M k1 n1 x2 k3 n3 x4 k = M k := by
  obtain ⟨M18, hM18⟩ : ∃ y : bM, y = (lp_X7_copyState_3 k1 x2 k3 x4 404 0 M) := ⟨_, rfl⟩
  rw [p_X7_copyState_e19 M k1 n1 x2 k3 n3 x4 M18 hM18.symm]
  try dsimp only
  rw [hM18, fr_lp_X7_copyState_3 M k1 n1 x2 k3 n3 x4 k hk 404 0 M]
set_option maxHeartbeats 4000000 in
set_option maxRecDepth 100000 in
theorem c_X7_copyState (l : Launch) (D : va_G) (E : Nat → ClassId) (o : Nat) (M : bM) (k1 : Nat) (n1 : Nat) (x2 : Int32) (k3 : Nat) (n3 : Nat) (x4 : Int32) (hk1 : LRR[k1]? = some (.inl (0, n1))) (hk3 : LRR[k3]? = some (.inl (0, n3))) (h2 : ∀ j : Nat, j < 404 → vp_in (x2 + nI j) n1) (h4 : ∀ j : Nat, j < 404 → vp_in (x4 + nI j) n3) : Met l yX7_copyState wsX7_copyState (rmF 0) (bPc D E [.ref (o + k1), .int x2, .ref (o + k3), .int x4] (fun H => bk D E LRR o M H)) (bQ (aV fun H => ∃ M1 : bM, M1 = f_X7_copyState M k1 n1 x2 k3 n3 x4 ∧ bk D E LRR o M1 H) (rB o)) 0 0 (rB o) := by
  refine Met.ofW (cc := cX7_copyState) (maxL := 5) (ret := none) (by decide) rfl ?_
  intro p e s m args below meth c s₁ B hml hv
  obtain ⟨rfl, hB, hK⟩ := hv
  have hx := B.exec
  have hb := B.bytes
  have hr := B.returns
  have hts := atoms_spec (ws := wsX7_copyState) B.pre
  have hown : s.vm.findClass RX7 = some m.cls := findClass_of_methodNamed B.named
  have hlocks := B.notSynchronized
  have hS : bS (rB o) s.heap s.heap [] := bS.rf
  have hl := lv_entry ([.ref (o + k1), .int x2, .ref (o + k3), .int x4]) (n := 5) (Nat.le_of_ble_eq_true rfl)
  rw [lg_entry_eq]
  generalize (lg_sl ([.ref (o + k1), .int x2, .ref (o + k3), .int x4]) ++ List.replicate (5 - (lg_sl ([.ref (o + k1), .int x2, .ref (o + k3), .int x4])).length) Slot.unset).toArray = ls at hl ⊢
  have hl : lv_has ls 5 [(0, .ref (o + k1)), (1, .int x2), (2, .ref (o + k3)), (3, .int x4)] := hl
  have hB : bk D E LRR o M s.heap := hB
  refine lv_iconst (v := 0) hx hb dX7_copyState_0 (by decide) ?_
  refine lv_istore (lv' := [(4, .int 0), (0, .ref (o + k1)), (1, .int x2), (2, .ref (o + k3)), (3, .int x4)]) hx hb dX7_copyState_1 hl (by decide) rfl (fun ls hl => ?_)
  have lp11 : ∀ (n11 i11 : Nat) (M12 : bM), i11 + n11 = 404 → ∀ (H : Heap) (locs : List Loc), bk D E LRR o M12 H → bS (rB o) s.heap H locs → ∀ ls : Array Slot, lv_has ls 5 [(4, .int (nI i11)), (0, .ref (o + k1)), (1, .int x2), (2, .ref (o + k3)), (3, .int x4)] → (∀ (H : Heap) (locs : List Loc), bk D E LRR o (lp_X7_copyState_3 k1 x2 k3 x4 n11 i11 M12) H → bS (rB o) s.heap H locs → ∀ ls : Array Slot, lv_has ls 5 [(0, .ref (o + k1)), (1, .int x2), (2, .ref (o + k3)), (3, .int x4)] → W p l e (headSpec wsX7_copyState (rmF 0)).room s m ([.ref (o + k1), .int x2, .ref (o + k3), .int x4] : List Value).toArray below meth c H locs 0 0 (MQ below (bQ (aV fun H => ∃ M1 : bM, M1 = f_X7_copyState M k1 n1 x2 k3 n3 x4 ∧ bk D E LRR o M1 H) (rB o)) ([.ref (o + k1), .int x2, .ref (o + k3), .int x4] : List Value).toArray s 0 0 (rB o)) (F0 m 29 ls [])) → W p l e (headSpec wsX7_copyState (rmF 0)).room s m ([.ref (o + k1), .int x2, .ref (o + k3), .int x4] : List Value).toArray below meth c H locs 0 0 (MQ below (bQ (aV fun H => ∃ M1 : bM, M1 = f_X7_copyState M k1 n1 x2 k3 n3 x4 ∧ bk D E LRR o M1 H) (rB o)) ([.ref (o + k1), .int x2, .ref (o + k3), .int x4] : List Value).toArray s 0 0 (rB o)) (F0 m 3 ls []) := by
    intro n11
    induction n11 with
    | zero =>
      intro i11 M12 hi11 H locs hB hS ls hl hexit11
      have hz11 : i11 = 404 := by omega
      refine lv_iload hx hb dX7_copyState_3 (lv_at hl 0 rfl) ?_
      refine lv_sipush (v := 404) hx hb dX7_copyState_5 (by decide) ?_
      refine lv_icmp_ge (tgt := 29) hx hb dX7_copyState_8 (by decide) (fun c13 => ?_) (fun c13 => absurd (by rw [hz11]; exact Int32.le_refl _) c13)
      have e14 := p_X7_copyState_e14 M k1 n1 x2 k3 n3 x4 M12 i11 
      rw [e14] at hexit11
      exact hexit11 _ _  hB hS ls (lv_sub hl [1, 2, 3, 4] rfl)
    | succ n11 ih11 =>
      intro i11 M12 hi11 H locs hB hS ls hl hexit11
      refine lv_iload hx hb dX7_copyState_3 (lv_at hl 0 rfl) ?_
      refine lv_sipush (v := 404) hx hb dX7_copyState_5 (by decide) ?_
      refine lv_icmp_ge (tgt := 29) hx hb dX7_copyState_8 (by decide) (fun c15 => absurd c15 (nI_ge (a := i11) (b := 404) (by omega) (by decide))) (fun c15 => ?_)
      refine lv_aload_n hx hb dX7_copyState_11 rfl (lv_at hl 3 rfl) ?_
      refine lv_iload_n hx hb dX7_copyState_12 rfl (lv_at hl 4 rfl) ?_
      refine lv_iload hx hb dX7_copyState_13 (lv_at hl 0 rfl) ?_
      refine lv_iadd hx hb dX7_copyState_15 ?_
      refine lv_aload_n hx hb dX7_copyState_16 rfl (lv_at hl 1 rfl) ?_
      refine lv_iload_n hx hb dX7_copyState_17 rfl (lv_at hl 2 rfl) ?_
      refine lv_iload hx hb dX7_copyState_18 (lv_at hl 0 rfl) ?_
      refine lv_iadd hx hb dX7_copyState_20 ?_
      refine b_iald hx hb hK.1 hB k1 hk1 (h2 i11 (by omega)) dX7_copyState_21 ?_
      refine b_iast hx hb hK.1 hB hS k3 (rB_of hk3) hk3 (h4 i11 (by omega)) dX7_copyState_22 (fun M16 hM16 H locs hB _ hS => ?_)
      refine lv_iinc (v := nI (i11 + 1)) (lv' := [(4, .int (nI (i11 + 1))), (0, .ref (o + k1)), (1, .int x2), (2, .ref (o + k3)), (3, .int x4)]) hx hb dX7_copyState_23 hl (k := 0) rfl (nI_1 i11) (by decide) rfl (fun ls hl => ?_)
      refine lv_goto (tgt := 3) hx hb dX7_copyState_26 (by decide) ?_
      have e17 := p_X7_copyState_e17 M k1 n1 x2 k3 n3 x4 M12 i11 n11 M16 hM16.symm
      rw [e17] at hexit11
      exact ih11 (i11 + 1) M16 (by omega) _ _ hB hS ls (lv_sub hl [0, 1, 2, 3, 4] rfl) hexit11
  refine lp11 404 0 M (by omega) _ _ hB hS ls (lv_sub hl [0, 1, 2, 3, 4] rfl) ?_
  intro H locs hB hS ls hl
  obtain ⟨M18, hM18⟩ : ∃ y : bM, y = (lp_X7_copyState_3 k1 x2 k3 x4 404 0 M) := ⟨_, rfl⟩
  rw [← hM18] at hB
  have hl : lv_has ls 5 [(0, .ref (o + k1)), (1, .int x2), (2, .ref (o + k3)), (3, .int x4)] := hl
  have e19 := p_X7_copyState_e19 M k1 n1 x2 k3 n3 x4 M18 hM18.symm
  exact b_vret hx hb hr hlocks hS ⟨rfl, _, e19.symm, hB⟩ dX7_copyState_29

def lp_X7_floodOn_4 (k1 : Nat) : Nat → Nat → Int32 → bM → (Int32 × bM)
  | 0, i11, x12, M13 => (x12, M13)
  | n11 + 1, i11, x12, M13 => (let r17 : Int32 := f_X7_head M13 k1 (M13 k1 2); (let r18 : Int32 := f_X7_stepFrom r17 (nI i11); (if r18 = (-1) then lp_X7_floodOn_4 k1 n11 (i11 + 1) x12 M13 else (let r21 : Int32 := f_X7_isDam M13 k1 r18; (if r21 = 0 then lp_X7_floodOn_4 k1 n11 (i11 + 1) x12 M13 else (let M24 : bM := up2 M13 k1 ((148 : Int32) + r18).toNatClampNeg (-1); (let x25 : Int32 := x12 + 1; lp_X7_floodOn_4 k1 n11 (i11 + 1) x25 M24)))))))
theorem u0_lp_X7_floodOn_4 (k1 : Nat) (i11 : Nat) (x12 : Int32) (M13 : bM) : lp_X7_floodOn_4 k1 0 i11 x12 M13 = (x12, M13) := rfl
theorem u1_lp_X7_floodOn_4 (k1 : Nat) (n11 i11 : Nat) (x12 : Int32) (M13 : bM) : lp_X7_floodOn_4 k1 (n11 + 1) i11 x12 M13 = (let r17 : Int32 := f_X7_head M13 k1 (M13 k1 2); (let r18 : Int32 := f_X7_stepFrom r17 (nI i11); (if r18 = (-1) then lp_X7_floodOn_4 k1 n11 (i11 + 1) x12 M13 else (let r21 : Int32 := f_X7_isDam M13 k1 r18; (if r21 = 0 then lp_X7_floodOn_4 k1 n11 (i11 + 1) x12 M13 else (let M24 : bM := up2 M13 k1 ((148 : Int32) + r18).toNatClampNeg (-1); (let x25 : Int32 := x12 + 1; lp_X7_floodOn_4 k1 n11 (i11 + 1) x25 M24))))))) := rfl
def f_X7_floodOn (M : bM) (k1 : Nat) : Int32 × bM := (let x27 : Int32 := (lp_X7_floodOn_4 k1 3 0 0 M).1; (let M28 : bM := (lp_X7_floodOn_4 k1 3 0 0 M).2; (let M29 : bM := f_X7_pays M28 k1 (M28 k1 2) 5; (let M30 : bM := up2 M29 k1 7 ((M29 k1 7) + 1); (let M31 : bM := f_X7_turnEnds M30 k1; (x27, M31))))))
theorem u_f_X7_floodOn (M : bM) (k1 : Nat) : f_X7_floodOn M k1 = (let x27 : Int32 := (lp_X7_floodOn_4 k1 3 0 0 M).1; (let M28 : bM := (lp_X7_floodOn_4 k1 3 0 0 M).2; (let M29 : bM := f_X7_pays M28 k1 (M28 k1 2) 5; (let M30 : bM := up2 M29 k1 7 ((M29 k1 7) + 1); (let M31 : bM := f_X7_turnEnds M30 k1; (x27, M31)))))) := rfl
theorem p_X7_floodOn_e15 (M : bM) (k1 : Nat) (x12 : Int32) (M13 : bM) (i11 : Nat)  : lp_X7_floodOn_4 k1 0 i11 x12 M13 = (x12, M13) := by exact u0_lp_X7_floodOn_4 k1 i11 x12 M13
theorem p_X7_floodOn_e20 (M : bM) (k1 : Nat) (x12 : Int32) (M13 : bM) (i11 : Nat) (n11 : Nat) (r17 : Int32) (hr17 : f_X7_head M13 k1 (M13 k1 2) = r17) (r18 : Int32) (hr18 : f_X7_stepFrom r17 (nI i11) = r18) (c19 : r18 = (-1)) : lp_X7_floodOn_4 k1 (n11 + 1) i11 x12 M13 = lp_X7_floodOn_4 k1 n11 (i11 + 1) x12 M13 := by subst hr18 hr17; exact Eq.trans (u1_lp_X7_floodOn_4 k1 n11 i11 x12 M13) (if_pos c19)
theorem p_X7_floodOn_e23 (M : bM) (k1 : Nat) (x12 : Int32) (M13 : bM) (i11 : Nat) (n11 : Nat) (r17 : Int32) (hr17 : f_X7_head M13 k1 (M13 k1 2) = r17) (r18 : Int32) (hr18 : f_X7_stepFrom r17 (nI i11) = r18) (c19 : ¬ r18 = (-1)) (r21 : Int32) (hr21 : f_X7_isDam M13 k1 r18 = r21) (c22 : r21 = 0) : lp_X7_floodOn_4 k1 (n11 + 1) i11 x12 M13 = lp_X7_floodOn_4 k1 n11 (i11 + 1) x12 M13 := by subst hr21 hr18 hr17; exact Eq.trans (u1_lp_X7_floodOn_4 k1 n11 i11 x12 M13) (Eq.trans (if_neg c19) (if_pos c22))
theorem p_X7_floodOn_e26 (M : bM) (k1 : Nat) (x12 : Int32) (M13 : bM) (i11 : Nat) (n11 : Nat) (r17 : Int32) (hr17 : f_X7_head M13 k1 (M13 k1 2) = r17) (r18 : Int32) (hr18 : f_X7_stepFrom r17 (nI i11) = r18) (c19 : ¬ r18 = (-1)) (r21 : Int32) (hr21 : f_X7_isDam M13 k1 r18 = r21) (c22 : ¬ r21 = 0) (M24 : bM) (hM24 : up2 M13 k1 ((148 : Int32) + r18).toNatClampNeg (-1) = M24) (x25 : Int32) (hx25 : x12 + 1 = x25) : lp_X7_floodOn_4 k1 (n11 + 1) i11 x12 M13 = lp_X7_floodOn_4 k1 n11 (i11 + 1) x25 M24 := by subst hx25 hM24 hr21 hr18 hr17; exact Eq.trans (u1_lp_X7_floodOn_4 k1 n11 i11 x12 M13) (Eq.trans (if_neg c19) (if_neg c22))
theorem p_X7_floodOn_e32 (M : bM) (k1 : Nat) (x27 : Int32) (hx27 : (lp_X7_floodOn_4 k1 3 0 0 M).1 = x27) (M28 : bM) (hM28 : (lp_X7_floodOn_4 k1 3 0 0 M).2 = M28) (M29 : bM) (hM29 : f_X7_pays M28 k1 (M28 k1 2) 5 = M29) (M30 : bM) (hM30 : up2 M29 k1 7 ((M29 k1 7) + 1) = M30) (M31 : bM) (hM31 : f_X7_turnEnds M30 k1 = M31) : f_X7_floodOn M k1 = (x27, M31) := by subst hM31 hM30 hM29 hM28 hx27; exact u_f_X7_floodOn M k1
theorem fr_lp_X7_floodOn_4 (M : bM) (k1 : Nat) (k : Nat) (hk : k ≠ k1) : ∀ (n11 i11 : Nat) (x12 : Int32) (M13 : bM), (lp_X7_floodOn_4 k1 n11 i11 x12 M13).2 k = M13 k := by
  intro n11
  induction n11 with
  | zero =>
    intro i11 x12 M13
    rw [p_X7_floodOn_e15 M k1 x12 M13 i11 ]
  | succ n11 ih11 =>
    intro i11 x12 M13
    obtain ⟨r17, hr17⟩ : ∃ y : Int32, y = f_X7_head M13 k1 (M13 k1 2) := ⟨_, rfl⟩
    obtain ⟨r18, hr18⟩ : ∃ y : Int32, y = f_X7_stepFrom r17 (nI i11) := ⟨_, rfl⟩
    by_cases c19 : r18 = (-1)
    · rw [p_X7_floodOn_e20 M k1 x12 M13 i11 n11 r17 hr17.symm r18 hr18.symm c19, ih11]
    · obtain ⟨r21, hr21⟩ : ∃ y : Int32, y = f_X7_isDam M13 k1 r18 := ⟨_, rfl⟩
      by_cases c22 : r21 = 0
      · rw [p_X7_floodOn_e23 M k1 x12 M13 i11 n11 r17 hr17.symm r18 hr18.symm c19 r21 hr21.symm c22, ih11]
      · obtain ⟨M24, hM24⟩ : ∃ y : bM, y = up2 M13 k1 ((148 : Int32) + r18).toNatClampNeg (-1) := ⟨_, rfl⟩
        obtain ⟨x25, hx25⟩ : ∃ y : Int32, y = x12 + 1 := ⟨_, rfl⟩
        rw [p_X7_floodOn_e26 M k1 x12 M13 i11 n11 r17 hr17.symm r18 hr18.symm c19 r21 hr21.symm c22 M24 hM24.symm x25 hx25.symm, ih11]
        try dsimp only
        rw [hM24, up2_row (by omega)]
theorem fr_X7_floodOn (M : bM) (k1 : Nat) (k : Nat) (hk : k ≠ k1) : (f_X7_floodOn M k1).2 k = M k := by
  obtain ⟨x27, hx27⟩ : ∃ y : Int32, y = (lp_X7_floodOn_4 k1 3 0 0 M).1 := ⟨_, rfl⟩
  obtain ⟨M28, hM28⟩ : ∃ y : bM, y = (lp_X7_floodOn_4 k1 3 0 0 M).2 := ⟨_, rfl⟩
  obtain ⟨M29, hM29⟩ : ∃ y : bM, y = f_X7_pays M28 k1 (M28 k1 2) 5 := ⟨_, rfl⟩
  obtain ⟨M30, hM30⟩ : ∃ y : bM, y = up2 M29 k1 7 ((M29 k1 7) + 1) := ⟨_, rfl⟩
  obtain ⟨M31, hM31⟩ : ∃ y : bM, y = f_X7_turnEnds M30 k1 := ⟨_, rfl⟩
  rw [p_X7_floodOn_e32 M k1 x27 hx27.symm M28 hM28.symm M29 hM29.symm M30 hM30.symm M31 hM31.symm]
  try dsimp only
  rw [hM31, fr_X7_turnEnds M30 k1 k (by omega), hM30, up2_row (by omega), hM29, fr_X7_pays M28 k1 (M28 k1 2) 5 k (by omega), hM28, fr_lp_X7_floodOn_4 M k1 k hk 3 0 0 M]
set_option maxHeartbeats 4000000 in
set_option maxRecDepth 100000 in
theorem c_X7_floodOn (l : Launch) (D : va_G) (E : Nat → ClassId) (o : Nat) (M : bM) (k1 : Nat) (hk1 : LRR[k1]? = some (.inl (0, 404))) (hw : wfR M k1) : Met l yX7_floodOn wsX7_floodOn (rmF 3) (bPc D E [.ref (o + k1)] (fun H => bk D E LRR o M H)) (bQ (aI fun r H => ∃ M1 : bM, (r = (f_X7_floodOn M k1).1 ∧ M1 = (f_X7_floodOn M k1).2) ∧ bk D E LRR o M1 H) (rB o)) 0 0 (rB o) := by
  refine Met.ofW (cc := cX7_floodOn) (maxL := 4) (ret := (some .int)) (by decide) rfl ?_
  intro p e s m args below meth c s₁ B hml hv
  obtain ⟨rfl, hB, hK⟩ := hv
  have hx := B.exec
  have hb := B.bytes
  have hr := B.returns
  have hts := atoms_spec (ws := wsX7_floodOn) B.pre
  have hown : s.vm.findClass RX7 = some m.cls := findClass_of_methodNamed B.named
  have hlocks := B.notSynchronized
  have hS : bS (rB o) s.heap s.heap [] := bS.rf
  have hl := lv_entry ([.ref (o + k1)]) (n := 4) (Nat.le_of_ble_eq_true rfl)
  rw [lg_entry_eq]
  generalize (lg_sl ([.ref (o + k1)]) ++ List.replicate (4 - (lg_sl ([.ref (o + k1)])).length) Slot.unset).toArray = ls at hl ⊢
  have hl : lv_has ls 4 [(0, .ref (o + k1))] := hl
  have hB : bk D E LRR o M s.heap := hB
  refine lv_iconst (v := 0) hx hb dX7_floodOn_0 (by decide) ?_
  refine lv_istore_n (lv' := [(1, .int 0), (0, .ref (o + k1))]) hx hb dX7_floodOn_1 rfl hl (by decide) rfl (fun ls hl => ?_)
  refine lv_iconst (v := 0) hx hb dX7_floodOn_2 (by decide) ?_
  refine lv_istore_n (lv' := [(2, .int 0), (1, .int 0), (0, .ref (o + k1))]) hx hb dX7_floodOn_3 rfl hl (by decide) rfl (fun ls hl => ?_)
  have lp11 : ∀ (n11 i11 : Nat) (x12 : Int32) (M13 : bM), i11 + n11 = 3 → (wfR M13 k1) → ∀ (H : Heap) (locs : List Loc), bk D E LRR o M13 H → bS (rB o) s.heap H locs → ∀ ls : Array Slot, lv_has ls 4 [(2, .int (nI i11)), (1, .int x12), (0, .ref (o + k1))] → (∀ (H : Heap) (locs : List Loc), (wfR ((lp_X7_floodOn_4 k1 n11 i11 x12 M13).2) k1) → bk D E LRR o ((lp_X7_floodOn_4 k1 n11 i11 x12 M13).2) H → bS (rB o) s.heap H locs → ∀ ls : Array Slot, lv_has ls 4 [(1, .int ((lp_X7_floodOn_4 k1 n11 i11 x12 M13).1)), (0, .ref (o + k1))] → W p l e (headSpec wsX7_floodOn (rmF 3)).room s m ([.ref (o + k1)] : List Value).toArray below meth c H locs 0 0 (MQ below (bQ (aI fun r H => ∃ M1 : bM, (r = (f_X7_floodOn M k1).1 ∧ M1 = (f_X7_floodOn M k1).2) ∧ bk D E LRR o M1 H) (rB o)) ([.ref (o + k1)] : List Value).toArray s 0 0 (rB o)) (F0 m 51 ls [])) → W p l e (headSpec wsX7_floodOn (rmF 3)).room s m ([.ref (o + k1)] : List Value).toArray below meth c H locs 0 0 (MQ below (bQ (aI fun r H => ∃ M1 : bM, (r = (f_X7_floodOn M k1).1 ∧ M1 = (f_X7_floodOn M k1).2) ∧ bk D E LRR o M1 H) (rB o)) ([.ref (o + k1)] : List Value).toArray s 0 0 (rB o)) (F0 m 4 ls []) := by
    intro n11
    induction n11 with
    | zero =>
      intro i11 x12 M13 hi11 hv0_11 H locs hB hS ls hl hexit11
      have hz11 : i11 = 3 := by omega
      refine lv_iload_n hx hb dX7_floodOn_4 rfl (lv_at hl 0 rfl) ?_
      refine lv_iconst (v := 3) hx hb dX7_floodOn_5 (by decide) ?_
      refine lv_icmp_ge (tgt := 51) hx hb dX7_floodOn_6 (by decide) (fun c14 => ?_) (fun c14 => absurd (by rw [hz11]; exact Int32.le_refl _) c14)
      have e15 := p_X7_floodOn_e15 M k1 x12 M13 i11 
      rw [e15] at hexit11
      exact hexit11 _ _  hv0_11 hB hS ls (lv_sub hl [1, 2] rfl)
    | succ n11 ih11 =>
      intro i11 x12 M13 hi11 hv0_11 H locs hB hS ls hl hexit11
      refine lv_iload_n hx hb dX7_floodOn_4 rfl (lv_at hl 0 rfl) ?_
      refine lv_iconst (v := 3) hx hb dX7_floodOn_5 (by decide) ?_
      refine lv_icmp_ge (tgt := 51) hx hb dX7_floodOn_6 (by decide) (fun c16 => absurd c16 (nI_ge (a := i11) (b := 3) (by omega) (by decide))) (fun c16 => ?_)
      refine lv_aload_n hx hb dX7_floodOn_9 rfl (lv_at hl 2 rfl) ?_
      refine lv_aload_n hx hb dX7_floodOn_10 rfl (lv_at hl 2 rfl) ?_
      refine lv_iconst (v := 2) hx hb dX7_floodOn_11 (by decide) ?_
      refine b_iald hx hb hK.1 hB k1 hk1 (vp_in_nI (n := 2) (by decide) (by decide)) dX7_floodOn_12 ?_
      refine lv_const (y := M13 k1 2) (by rfl) ?_
      refine b_pI (b_runS (As := [.ref (o + k1), .int (M13 k1 2)]) (rest := []) ⟨hx, hb, hml, hown, hts⟩ (c_X7_head l D E o M13 k1 (M13 k1 2) hk1 (wf_tb (M := M13) (k := k1) hv0_11) (len_of (wf_tb (M := M13) (k := k1) hv0_11) (wf_ln (M := M13) (k := k1) hv0_11))) (va_cwS 2 hts gX7_floodOn_X7_head rfl rfl rfl (by decide +kernel) ⟨Nat.le_of_ble_eq_true rfl, Nat.le_of_ble_eq_true rfl⟩) hK hB rfl hl rfl (Nat.le_of_ble_eq_true rfl) dX7_floodOn_13 ⟨Nat.zero_le _, Nat.zero_le _⟩) hS (fun r17 hr17 locs hS => ?_)
      refine lv_iload_n hx hb dX7_floodOn_16 rfl (lv_at hl 0 rfl) ?_
      refine b_pI (b_runS (As := [.int r17, .int (nI i11)]) (rest := []) ⟨hx, hb, hml, hown, hts⟩ (c_X7_stepFrom l D E r17 (nI i11)) (va_cwS 2 hts gX7_floodOn_X7_stepFrom rfl rfl rfl (by decide +kernel) ⟨Nat.le_of_ble_eq_true rfl, Nat.le_of_ble_eq_true rfl⟩) hK trivial rfl hl rfl (Nat.le_of_ble_eq_true rfl) dX7_floodOn_17 ⟨Nat.zero_le _, Nat.zero_le _⟩) hS (fun r18 hr18 locs hS => ?_)
      refine lv_istore_n (lv' := [(3, .int r18), (2, .int (nI i11)), (1, .int x12), (0, .ref (o + k1))]) hx hb dX7_floodOn_20 rfl hl (by decide) rfl (fun ls hl => ?_)
      refine lv_iload_n hx hb dX7_floodOn_21 rfl (lv_at hl 0 rfl) ?_
      refine lv_iconst (v := (-1)) hx hb dX7_floodOn_22 (by decide) ?_
      refine lv_icmp_eq (tgt := 45) hx hb dX7_floodOn_23 (by decide) (fun c19 => ?_) (fun c19 => ?_)
      · refine lv_iinc (v := nI (i11 + 1)) (lv' := [(2, .int (nI (i11 + 1))), (3, .int r18), (1, .int x12), (0, .ref (o + k1))]) hx hb dX7_floodOn_45 hl (k := 1) rfl (nI_1 i11) (by decide) rfl (fun ls hl => ?_)
        refine lv_goto (tgt := 4) hx hb dX7_floodOn_48 (by decide) ?_
        have e20 := p_X7_floodOn_e20 M k1 x12 M13 i11 n11 r17 hr17.symm r18 hr18.symm c19
        rw [e20] at hexit11
        exact ih11 (i11 + 1) x12 M13 (by omega) hv0_11 _ _ hB hS ls (lv_sub hl [0, 2, 3] rfl) hexit11
      · refine lv_aload_n hx hb dX7_floodOn_26 rfl (lv_at hl 3 rfl) ?_
        refine lv_iload_n hx hb dX7_floodOn_27 rfl (lv_at hl 0 rfl) ?_
        refine b_pI (b_runS (As := [.ref (o + k1), .int r18]) (rest := []) ⟨hx, hb, hml, hown, hts⟩ (c_X7_isDam l D E o M13 k1 r18 hk1 (by rw [hr18]; exact stepFrom_in (hr18 ▸ c19))) (va_cwS 2 hts gX7_floodOn_X7_isDam rfl rfl rfl (by decide +kernel) ⟨Nat.le_of_ble_eq_true rfl, Nat.le_of_ble_eq_true rfl⟩) hK hB rfl hl rfl (Nat.le_of_ble_eq_true rfl) dX7_floodOn_28 ⟨Nat.zero_le _, Nat.zero_le _⟩) hS (fun r21 hr21 locs hS => ?_)
        refine lv_if_eq (tgt := 45) hx hb dX7_floodOn_31 (by decide) (fun c22 => ?_) (fun c22 => ?_)
        · refine lv_iinc (v := nI (i11 + 1)) (lv' := [(2, .int (nI (i11 + 1))), (3, .int r18), (1, .int x12), (0, .ref (o + k1))]) hx hb dX7_floodOn_45 hl (k := 1) rfl (nI_1 i11) (by decide) rfl (fun ls hl => ?_)
          refine lv_goto (tgt := 4) hx hb dX7_floodOn_48 (by decide) ?_
          have e23 := p_X7_floodOn_e23 M k1 x12 M13 i11 n11 r17 hr17.symm r18 hr18.symm c19 r21 hr21.symm c22
          rw [e23] at hexit11
          exact ih11 (i11 + 1) x12 M13 (by omega) hv0_11 _ _ hB hS ls (lv_sub hl [0, 2, 3] rfl) hexit11
        · refine lv_aload_n hx hb dX7_floodOn_34 rfl (lv_at hl 3 rfl) ?_
          refine lv_sipush (v := 148) hx hb dX7_floodOn_35 (by decide) ?_
          refine lv_iload_n hx hb dX7_floodOn_38 rfl (lv_at hl 0 rfl) ?_
          refine lv_iadd hx hb dX7_floodOn_39 ?_
          refine lv_iconst (v := (-1)) hx hb dX7_floodOn_40 (by decide) ?_
          refine b_iast hx hb hK.1 hB hS k1 (rB_of hk1) hk1 (in_addX 148 (by rw [hr18]; exact stepFrom_in (hr18 ▸ c19)) (by decide) (by decide)) dX7_floodOn_41 (fun M24 hM24 H locs hB _ hS => ?_)
          obtain ⟨x25, hx25⟩ : ∃ y : Int32, y = x12 + 1 := ⟨_, rfl⟩
          refine lv_iinc (v := x25) (lv' := [(1, .int x25), (3, .int r18), (2, .int (nI i11)), (0, .ref (o + k1))]) hx hb dX7_floodOn_42 hl (k := 2) rfl (by rw [hx25]; rfl) (by decide) rfl (fun ls hl => ?_)
          refine lv_iinc (v := nI (i11 + 1)) (lv' := [(2, .int (nI (i11 + 1))), (1, .int x25), (3, .int r18), (0, .ref (o + k1))]) hx hb dX7_floodOn_45 hl (k := 2) rfl (nI_1 i11) (by decide) rfl (fun ls hl => ?_)
          refine lv_goto (tgt := 4) hx hb dX7_floodOn_48 (by decide) ?_
          have e26 := p_X7_floodOn_e26 M k1 x12 M13 i11 n11 r17 hr17.symm r18 hr18.symm c19 r21 hr21.symm c22 M24 hM24.symm x25 hx25.symm
          rw [e26] at hexit11
          exact ih11 (i11 + 1) x25 M24 (by omega) (by rw [hM24]; exact wf_upx 148 (by rw [hr18]; exact stepFrom_in (hr18 ▸ c19)) (by decide) (by decide) hv0_11) _ _ hB hS ls (lv_sub hl [0, 1, 3] rfl) hexit11
  refine lp11 3 0 0 M (by omega) hw _ _ hB hS ls (lv_sub hl [0, 1, 2] rfl) ?_
  intro H locs hw0_11 hB hS ls hl
  obtain ⟨x27, hx27⟩ : ∃ y : Int32, y = (lp_X7_floodOn_4 k1 3 0 0 M).1 := ⟨_, rfl⟩
  rw [← hx27] at hl
  obtain ⟨M28, hM28⟩ : ∃ y : bM, y = (lp_X7_floodOn_4 k1 3 0 0 M).2 := ⟨_, rfl⟩
  rw [← hM28] at hB hw0_11
  have hl : lv_has ls 4 [(1, .int x27), (0, .ref (o + k1))] := hl
  refine lv_aload_n hx hb dX7_floodOn_51 rfl (lv_at hl 1 rfl) ?_
  refine lv_aload_n hx hb dX7_floodOn_52 rfl (lv_at hl 1 rfl) ?_
  refine lv_iconst (v := 2) hx hb dX7_floodOn_53 (by decide) ?_
  refine b_iald hx hb hK.1 hB k1 hk1 (vp_in_nI (n := 2) (by decide) (by decide)) dX7_floodOn_54 ?_
  refine lv_const (y := M28 k1 2) (by rfl) ?_
  refine lv_iconst (v := 5) hx hb dX7_floodOn_55 (by decide) ?_
  refine b_mV (b_runS (As := [.ref (o + k1), .int (M28 k1 2), .int 5]) (rest := []) ⟨hx, hb, hml, hown, hts⟩ (c_X7_pays l D E o M28 k1 (M28 k1 2) 5 hk1 (wf_tb (M := M28) (k := k1) hw0_11)) (va_cwS 3 hts gX7_floodOn_X7_pays rfl rfl rfl (by decide +kernel) ⟨Nat.le_of_ble_eq_true rfl, Nat.le_of_ble_eq_true rfl⟩) hK hB rfl hl rfl (Nat.le_of_ble_eq_true rfl) dX7_floodOn_56 ⟨Nat.zero_le _, Nat.zero_le _⟩) hS (fun q h => h) (fun M29 hM29 H locs hB _ hS => ?_)
  refine lv_aload_n hx hb dX7_floodOn_59 rfl (lv_at hl 1 rfl) ?_
  refine lv_bipush (v := 7) hx hb dX7_floodOn_60 (by decide) ?_
  refine lv_dup2_11 hx hb dX7_floodOn_62 rfl rfl ?_
  refine b_iald hx hb hK.1 hB k1 hk1 (vp_in_nI (n := 7) (by decide) (by decide)) dX7_floodOn_63 ?_
  refine lv_const (y := M29 k1 7) (by rfl) ?_
  refine lv_iconst (v := 1) hx hb dX7_floodOn_64 (by decide) ?_
  refine lv_iadd hx hb dX7_floodOn_65 ?_
  refine b_iast hx hb hK.1 hB hS k1 (rB_of hk1) hk1 (vp_in_nI (n := 7) (by decide) (by decide)) dX7_floodOn_66 (fun M30 hM30 H locs hB _ hS => ?_)
  rw [show (7 : Int32).toNatClampNeg = 7 from rfl] at hM30
  refine lv_aload_n hx hb dX7_floodOn_67 rfl (lv_at hl 1 rfl) ?_
  refine b_mV (b_runS (As := [.ref (o + k1)]) (rest := []) ⟨hx, hb, hml, hown, hts⟩ (c_X7_turnEnds l D E o M30 k1 hk1) (va_cwS 1 hts gX7_floodOn_X7_turnEnds rfl rfl rfl (by decide +kernel) ⟨Nat.le_of_ble_eq_true rfl, Nat.le_of_ble_eq_true rfl⟩) hK hB rfl hl rfl (Nat.le_of_ble_eq_true rfl) dX7_floodOn_68 ⟨Nat.zero_le _, Nat.zero_le _⟩) hS (fun q h => h) (fun M31 hM31 H locs hB _ hS => ?_)
  refine lv_iload_n hx hb dX7_floodOn_71 rfl (lv_at hl 0 rfl) ?_
  have e32 := p_X7_floodOn_e32 M k1 x27 hx27.symm M28 hM28.symm M29 hM29.symm M30 hM30.symm M31 hM31.symm
  exact b_iret hx hb hr hlocks hS ⟨_, rfl, _, ⟨(congrArg Prod.fst e32).symm, (congrArg Prod.snd e32).symm⟩, hB⟩ dX7_floodOn_72
