theorem fr_X7_add (M : bM) (k1 : Nat) (x2 : Int32) (x3 : Int32) (x4 : Int32) (k : Nat) (hk : k ≠ k1) : f_X7_add M k1 x2 x3 x4 k = M k := by
  obtain ⟨M11, hM11⟩ : ∃ y : bM, y = up2 M k1 (((10 : Int32) + ((5 : Int32) * x2)) + x3).toNatClampNeg ((M k1 (((10 : Int32) + ((5 : Int32) * x2)) + x3).toNatClampNeg) + x4) := ⟨_, rfl⟩
  rw [p_X7_add_e12 M k1 x2 x3 x4 M11 hM11.symm]
  try dsimp only
  rw [hM11, up2_row (by omega)]
theorem fr_X7_flows (M : bM) (k1 : Nat) (x2 : Int32) (x3 : Int32) (k : Nat) (hk : k ≠ k1) : f_X7_flows M k1 x2 x3 k = M k := by
  obtain ⟨r11, hr11⟩ : ∃ y : Int32, y = f_X7_of M k1 x2 4 := ⟨_, rfl⟩
  obtain ⟨M12, hM12⟩ : ∃ y : bM, y = up2 M k1 (((276 : Int32) + ((64 : Int32) * x2)) + r11).toNatClampNeg x3 := ⟨_, rfl⟩
  obtain ⟨M13, hM13⟩ : ∃ y : bM, y = f_X7_add M12 k1 x2 4 1 := ⟨_, rfl⟩
  obtain ⟨M14, hM14⟩ : ∃ y : bM, y = up2 M13 k1 ((212 : Int32) + x3).toNatClampNeg ((M13 k1 ((212 : Int32) + x3).toNatClampNeg) ||| ((1 : Int32) <<< (x2 &&& 31))) := ⟨_, rfl⟩
  rw [p_X7_flows_e15 M k1 x2 x3 r11 hr11.symm M12 hM12.symm M13 hM13.symm M14 hM14.symm]
  try dsimp only
  rw [hM14, up2_row (by omega), hM13, fr_X7_add M12 k1 x2 4 1 k (by omega), hM12, up2_row (by omega)]
theorem fr_X7_pays (M : bM) (k1 : Nat) (x2 : Int32) (x3 : Int32) (k : Nat) (hk : k ≠ k1) : f_X7_pays M k1 x2 x3 k = M k := by
  obtain ⟨M11, hM11⟩ : ∃ y : bM, y = f_X7_add M k1 x2 0 x3 := ⟨_, rfl⟩
  obtain ⟨M12, hM12⟩ : ∃ y : bM, y = f_X7_add M11 k1 x2 3 x3 := ⟨_, rfl⟩
  rw [p_X7_pays_e13 M k1 x2 x3 M11 hM11.symm M12 hM12.symm]
  try dsimp only
  rw [hM12, fr_X7_add M11 k1 x2 3 x3 k (by omega), hM11, fr_X7_add M k1 x2 0 x3 k (by omega)]
theorem fr_lp_X7_turnEnds_9 (M : bM) (k1 : Nat) (M11 : bM) (k : Nat) (hk : k ≠ k1) : ∀ (n12 i12 : Nat) (M13 : bM), (lp_X7_turnEnds_9 k1 n12 i12 M13) k = M13 k := by
  intro n12
  induction n12 with
  | zero =>
    intro i12 M13
    rw [p_X7_turnEnds_e15 M k1 M11 M13 i12 ]
  | succ n12 ih12 =>
    intro i12 M13
    obtain ⟨r17, hr17⟩ : ∃ y : Int32, y = f_X7_isDam M13 k1 (nI i12) := ⟨_, rfl⟩
    by_cases c18 : r17 = 0
    · rw [p_X7_turnEnds_e19 M k1 M11 M13 i12 n12 r17 hr17.symm c18, ih12]
    · obtain ⟨M20, hM20⟩ : ∃ y : bM, y = up2 M13 k1 (148 + i12) ((M13 k1 (148 + i12)) + 1) := ⟨_, rfl⟩
      by_cases c21 : (M20 k1 (148 + i12)) < (M20 k1 8)
      · obtain ⟨M22, hM22⟩ : ∃ y : bM, y = up2 M20 k1 (148 + i12) (M20 k1 (148 + i12)) := ⟨_, rfl⟩
        rw [p_X7_turnEnds_e23 M k1 M11 M13 i12 n12 r17 hr17.symm c18 M20 hM20.symm c21 M22 hM22.symm, ih12]
        try dsimp only
        rw [hM22, up2_row (by omega), hM20, up2_row (by omega)]
      · obtain ⟨M24, hM24⟩ : ∃ y : bM, y = up2 M20 k1 (148 + i12) (-1) := ⟨_, rfl⟩
        rw [p_X7_turnEnds_e25 M k1 M11 M13 i12 n12 r17 hr17.symm c18 M20 hM20.symm c21 M24 hM24.symm, ih12]
        try dsimp only
        rw [hM24, up2_row (by omega), hM20, up2_row (by omega)]
theorem fr_X7_turnEnds (M : bM) (k1 : Nat) (k : Nat) (hk : k ≠ k1) : f_X7_turnEnds M k1 k = M k := by
  obtain ⟨M11, hM11⟩ : ∃ y : bM, y = up2 M k1 3 ((M k1 3) + 1) := ⟨_, rfl⟩
  obtain ⟨M26, hM26⟩ : ∃ y : bM, y = (lp_X7_turnEnds_9 k1 64 0 M11) := ⟨_, rfl⟩
  obtain ⟨M27, hM27⟩ : ∃ y : bM, y = up2 M26 k1 2 ((1 : Int32) - (M26 k1 2)) := ⟨_, rfl⟩
  obtain ⟨r28, hr28⟩ : ∃ y : Int32, y = f_X7_isUnderWay M27 k1 := ⟨_, rfl⟩
  by_cases c29 : r28 = 0
  · obtain ⟨M30, hM30⟩ : ∃ y : bM, y = up2 M27 k1 1 (M27 k1 1) := ⟨_, rfl⟩
    rw [p_X7_turnEnds_e31 M k1 M11 hM11.symm M26 hM26.symm M27 hM27.symm r28 hr28.symm c29 M30 hM30.symm]
    try dsimp only
    rw [hM30, up2_row (by omega), hM27, up2_row (by omega), hM26, fr_lp_X7_turnEnds_9 M k1 M11 k hk 64 0 M11, hM11, up2_row (by omega)]
  · by_cases c32 : (M27 k1 3) = 80
    · obtain ⟨M35, hM35⟩ : ∃ y : bM, y = up2 M27 k1 1 3 := ⟨_, rfl⟩
      rw [p_X7_turnEnds_e36 M k1 M11 hM11.symm M26 hM26.symm M27 hM27.symm r28 hr28.symm c29 c32 M35 hM35.symm]
      try dsimp only
      rw [hM35, up2_row (by omega), hM27, up2_row (by omega), hM26, fr_lp_X7_turnEnds_9 M k1 M11 k hk 64 0 M11, hM11, up2_row (by omega)]
    · obtain ⟨M33, hM33⟩ : ∃ y : bM, y = up2 M27 k1 1 (M27 k1 1) := ⟨_, rfl⟩
      rw [p_X7_turnEnds_e34 M k1 M11 hM11.symm M26 hM26.symm M27 hM27.symm r28 hr28.symm c29 c32 M33 hM33.symm]
      try dsimp only
      rw [hM33, up2_row (by omega), hM27, up2_row (by omega), hM26, fr_lp_X7_turnEnds_9 M k1 M11 k hk 64 0 M11, hM11, up2_row (by omega)]
theorem fr_X7_meet (M : bM) (k1 : Nat) (x2 : Int32) (k : Nat) (hk : k ≠ k1) : f_X7_meet M k1 x2 k = M k := by
  obtain ⟨r12, hr12⟩ : ∃ y : Int32, y = f_X7_cost M k1 0 x2 := ⟨_, rfl⟩
  obtain ⟨M13, hM13⟩ : ∃ y : bM, y = f_X7_pays M k1 0 ((M k1 9) * r12) := ⟨_, rfl⟩
  obtain ⟨r15, hr15⟩ : ∃ y : Int32, y = f_X7_cost M13 k1 1 x2 := ⟨_, rfl⟩
  obtain ⟨M16, hM16⟩ : ∃ y : bM, y = f_X7_pays M13 k1 1 ((M13 k1 9) * r15) := ⟨_, rfl⟩
  obtain ⟨M18, hM18⟩ : ∃ y : bM, y = up2 M16 k1 1 2 := ⟨_, rfl⟩
  obtain ⟨M19, hM19⟩ : ∃ y : bM, y = up2 M18 k1 4 x2 := ⟨_, rfl⟩
  obtain ⟨r20, hr20⟩ : ∃ y : Int32, y = f_X7_of M19 k1 0 0 := ⟨_, rfl⟩
  obtain ⟨r21, hr21⟩ : ∃ y : Int32, y = f_X7_of M19 k1 1 0 := ⟨_, rfl⟩
  obtain ⟨x22, hx22⟩ : ∃ y : Int32, y = (r20 - r21) := ⟨_, rfl⟩
  by_cases c23 : 0 ≤ x22
  · by_cases c24 : x22 ≤ 0
    · obtain ⟨M25, hM25⟩ : ∃ y : bM, y = up2 M19 k1 5 (-1) := ⟨_, rfl⟩
      by_cases c26 : x22 = 0
      · rw [p_X7_meet_e27 M k1 x2 r12 hr12.symm M13 hM13.symm r15 hr15.symm M16 hM16.symm M18 hM18.symm M19 hM19.symm r20 hr20.symm r21 hr21.symm x22 hx22.symm c23 c24 M25 hM25.symm c26]
        try dsimp only
        rw [hM25, up2_row (by omega), hM19, up2_row (by omega), hM18, up2_row (by omega), hM16, fr_X7_pays M13 k1 1 ((M13 k1 9) * r15) k (by omega), hM13, fr_X7_pays M k1 0 ((M k1 9) * r12) k (by omega)]
      · obtain ⟨M28, hM28⟩ : ∃ y : bM, y = f_X7_add M25 k1 (M25 k1 5) 2 1 := ⟨_, rfl⟩
        rw [p_X7_meet_e29 M k1 x2 r12 hr12.symm M13 hM13.symm r15 hr15.symm M16 hM16.symm M18 hM18.symm M19 hM19.symm r20 hr20.symm r21 hr21.symm x22 hx22.symm c23 c24 M25 hM25.symm c26 M28 hM28.symm]
        try dsimp only
        rw [hM28, fr_X7_add M25 k1 (M25 k1 5) 2 1 k (by omega), hM25, up2_row (by omega), hM19, up2_row (by omega), hM18, up2_row (by omega), hM16, fr_X7_pays M13 k1 1 ((M13 k1 9) * r15) k (by omega), hM13, fr_X7_pays M k1 0 ((M k1 9) * r12) k (by omega)]
    · obtain ⟨M30, hM30⟩ : ∃ y : bM, y = up2 M19 k1 5 1 := ⟨_, rfl⟩
      by_cases c31 : x22 = 0
      · rw [p_X7_meet_e32 M k1 x2 r12 hr12.symm M13 hM13.symm r15 hr15.symm M16 hM16.symm M18 hM18.symm M19 hM19.symm r20 hr20.symm r21 hr21.symm x22 hx22.symm c23 c24 M30 hM30.symm c31]
        try dsimp only
        rw [hM30, up2_row (by omega), hM19, up2_row (by omega), hM18, up2_row (by omega), hM16, fr_X7_pays M13 k1 1 ((M13 k1 9) * r15) k (by omega), hM13, fr_X7_pays M k1 0 ((M k1 9) * r12) k (by omega)]
      · obtain ⟨M33, hM33⟩ : ∃ y : bM, y = f_X7_add M30 k1 (M30 k1 5) 2 1 := ⟨_, rfl⟩
        rw [p_X7_meet_e34 M k1 x2 r12 hr12.symm M13 hM13.symm r15 hr15.symm M16 hM16.symm M18 hM18.symm M19 hM19.symm r20 hr20.symm r21 hr21.symm x22 hx22.symm c23 c24 M30 hM30.symm c31 M33 hM33.symm]
        try dsimp only
        rw [hM33, fr_X7_add M30 k1 (M30 k1 5) 2 1 k (by omega), hM30, up2_row (by omega), hM19, up2_row (by omega), hM18, up2_row (by omega), hM16, fr_X7_pays M13 k1 1 ((M13 k1 9) * r15) k (by omega), hM13, fr_X7_pays M k1 0 ((M k1 9) * r12) k (by omega)]
  · obtain ⟨M35, hM35⟩ : ∃ y : bM, y = up2 M19 k1 5 0 := ⟨_, rfl⟩
    by_cases c36 : x22 = 0
    · rw [p_X7_meet_e37 M k1 x2 r12 hr12.symm M13 hM13.symm r15 hr15.symm M16 hM16.symm M18 hM18.symm M19 hM19.symm r20 hr20.symm r21 hr21.symm x22 hx22.symm c23 M35 hM35.symm c36]
      try dsimp only
      rw [hM35, up2_row (by omega), hM19, up2_row (by omega), hM18, up2_row (by omega), hM16, fr_X7_pays M13 k1 1 ((M13 k1 9) * r15) k (by omega), hM13, fr_X7_pays M k1 0 ((M k1 9) * r12) k (by omega)]
    · obtain ⟨M38, hM38⟩ : ∃ y : bM, y = f_X7_add M35 k1 (M35 k1 5) 2 1 := ⟨_, rfl⟩
      rw [p_X7_meet_e39 M k1 x2 r12 hr12.symm M13 hM13.symm r15 hr15.symm M16 hM16.symm M18 hM18.symm M19 hM19.symm r20 hr20.symm r21 hr21.symm x22 hx22.symm c23 M35 hM35.symm c36 M38 hM38.symm]
      try dsimp only
      rw [hM38, fr_X7_add M35 k1 (M35 k1 5) 2 1 k (by omega), hM35, up2_row (by omega), hM19, up2_row (by omega), hM18, up2_row (by omega), hM16, fr_X7_pays M13 k1 1 ((M13 k1 9) * r15) k (by omega), hM13, fr_X7_pays M k1 0 ((M k1 9) * r12) k (by omega)]
def f_X7_reason (M : bM) (k1 : Nat) (x2 : Int32) : Int32 := (let x11 : Int32 := (M k1 2); (let r12 : Int32 := f_X7_head M k1 x11; (let r13 : Int32 := f_X7_stepFrom r12 x2; (if r13 = (-1) then 1 else (let r15 : Int32 := f_X7_isDam M k1 r13; (if r15 = 0 then (let r17 : Int32 := f_X7_isRiver M k1 x11 r13; (if r17 = 0 then 0 else 3)) else 2))))))
theorem u_f_X7_reason (M : bM) (k1 : Nat) (x2 : Int32) : f_X7_reason M k1 x2 = (let x11 : Int32 := (M k1 2); (let r12 : Int32 := f_X7_head M k1 x11; (let r13 : Int32 := f_X7_stepFrom r12 x2; (if r13 = (-1) then 1 else (let r15 : Int32 := f_X7_isDam M k1 r13; (if r15 = 0 then (let r17 : Int32 := f_X7_isRiver M k1 x11 r13; (if r17 = 0 then 0 else 3)) else 2)))))) := rfl
def f_X7_canStep (M : bM) (k1 : Nat) : Int32 := (let r11 : Int32 := f_X7_reason M k1 0; (if r11 = 0 then 1 else (let r14 : Int32 := f_X7_reason M k1 1; (if r14 = 0 then 1 else (let r17 : Int32 := f_X7_reason M k1 2; (if r17 = 0 then 1 else 0))))))
theorem u_f_X7_canStep (M : bM) (k1 : Nat) : f_X7_canStep M k1 = (let r11 : Int32 := f_X7_reason M k1 0; (if r11 = 0 then 1 else (let r14 : Int32 := f_X7_reason M k1 1; (if r14 = 0 then 1 else (let r17 : Int32 := f_X7_reason M k1 2; (if r17 = 0 then 1 else 0)))))) := rfl
def f_X7_stepOn (M : bM) (k1 : Nat) (x2 : Int32) : Int32 × bM := (let r11 : Int32 := f_X7_reason M k1 x2; (if r11 ≤ 0 then (let x13 : Int32 := (M k1 2); (let r14 : Int32 := f_X7_head M k1 x13; (let r15 : Int32 := f_X7_stepFrom r14 x2; (let r16 : Int32 := f_X7_isRiver M k1 ((1 : Int32) - x13) r15; (let M17 : bM := f_X7_flows M k1 x13 r15; (if r16 = 0 then (let r19 : Int32 := f_X7_cost M17 k1 x13 r15; (let M20 : bM := f_X7_pays M17 k1 x13 r19; (let M21 : bM := f_X7_turnEnds M20 k1; (0, M21)))) else (let M23 : bM := f_X7_meet M17 k1 r15; (let M24 : bM := f_X7_turnEnds M23 k1; (0, M24))))))))) else (let M26 : bM := up2 M k1 6 ((M k1 6) + 1); (r11, M26))))
theorem u_f_X7_stepOn (M : bM) (k1 : Nat) (x2 : Int32) : f_X7_stepOn M k1 x2 = (let r11 : Int32 := f_X7_reason M k1 x2; (if r11 ≤ 0 then (let x13 : Int32 := (M k1 2); (let r14 : Int32 := f_X7_head M k1 x13; (let r15 : Int32 := f_X7_stepFrom r14 x2; (let r16 : Int32 := f_X7_isRiver M k1 ((1 : Int32) - x13) r15; (let M17 : bM := f_X7_flows M k1 x13 r15; (if r16 = 0 then (let r19 : Int32 := f_X7_cost M17 k1 x13 r15; (let M20 : bM := f_X7_pays M17 k1 x13 r19; (let M21 : bM := f_X7_turnEnds M20 k1; (0, M21)))) else (let M23 : bM := f_X7_meet M17 k1 r15; (let M24 : bM := f_X7_turnEnds M23 k1; (0, M24))))))))) else (let M26 : bM := up2 M k1 6 ((M k1 6) + 1); (r11, M26)))) := rfl
theorem p_X7_stepOn_e22 (M : bM) (k1 : Nat) (x2 : Int32) (r11 : Int32) (hr11 : f_X7_reason M k1 x2 = r11) (c12 : r11 ≤ 0) (x13 : Int32) (hx13 : (M k1 2) = x13) (r14 : Int32) (hr14 : f_X7_head M k1 x13 = r14) (r15 : Int32) (hr15 : f_X7_stepFrom r14 x2 = r15) (r16 : Int32) (hr16 : f_X7_isRiver M k1 ((1 : Int32) - x13) r15 = r16) (M17 : bM) (hM17 : f_X7_flows M k1 x13 r15 = M17) (c18 : r16 = 0) (r19 : Int32) (hr19 : f_X7_cost M17 k1 x13 r15 = r19) (M20 : bM) (hM20 : f_X7_pays M17 k1 x13 r19 = M20) (M21 : bM) (hM21 : f_X7_turnEnds M20 k1 = M21) : f_X7_stepOn M k1 x2 = (0, M21) := by subst hM21 hM20 hr19 hM17 hr16 hr15 hr14 hx13 hr11; exact Eq.trans (u_f_X7_stepOn M k1 x2) (Eq.trans (if_pos c12) (if_pos c18))
theorem p_X7_stepOn_e25 (M : bM) (k1 : Nat) (x2 : Int32) (r11 : Int32) (hr11 : f_X7_reason M k1 x2 = r11) (c12 : r11 ≤ 0) (x13 : Int32) (hx13 : (M k1 2) = x13) (r14 : Int32) (hr14 : f_X7_head M k1 x13 = r14) (r15 : Int32) (hr15 : f_X7_stepFrom r14 x2 = r15) (r16 : Int32) (hr16 : f_X7_isRiver M k1 ((1 : Int32) - x13) r15 = r16) (M17 : bM) (hM17 : f_X7_flows M k1 x13 r15 = M17) (c18 : ¬ r16 = 0) (M23 : bM) (hM23 : f_X7_meet M17 k1 r15 = M23) (M24 : bM) (hM24 : f_X7_turnEnds M23 k1 = M24) : f_X7_stepOn M k1 x2 = (0, M24) := by subst hM24 hM23 hM17 hr16 hr15 hr14 hx13 hr11; exact Eq.trans (u_f_X7_stepOn M k1 x2) (Eq.trans (if_pos c12) (if_neg c18))
theorem p_X7_stepOn_e27 (M : bM) (k1 : Nat) (x2 : Int32) (r11 : Int32) (hr11 : f_X7_reason M k1 x2 = r11) (c12 : ¬ r11 ≤ 0) (M26 : bM) (hM26 : up2 M k1 6 ((M k1 6) + 1) = M26) : f_X7_stepOn M k1 x2 = (r11, M26) := by subst hM26 hr11; exact Eq.trans (u_f_X7_stepOn M k1 x2) (if_neg c12)
theorem fr_X7_stepOn (M : bM) (k1 : Nat) (x2 : Int32) (k : Nat) (hk : k ≠ k1) : (f_X7_stepOn M k1 x2).2 k = M k := by
  obtain ⟨r11, hr11⟩ : ∃ y : Int32, y = f_X7_reason M k1 x2 := ⟨_, rfl⟩
  by_cases c12 : r11 ≤ 0
  · obtain ⟨x13, hx13⟩ : ∃ y : Int32, y = (M k1 2) := ⟨_, rfl⟩
    obtain ⟨r14, hr14⟩ : ∃ y : Int32, y = f_X7_head M k1 x13 := ⟨_, rfl⟩
    obtain ⟨r15, hr15⟩ : ∃ y : Int32, y = f_X7_stepFrom r14 x2 := ⟨_, rfl⟩
    obtain ⟨r16, hr16⟩ : ∃ y : Int32, y = f_X7_isRiver M k1 ((1 : Int32) - x13) r15 := ⟨_, rfl⟩
    obtain ⟨M17, hM17⟩ : ∃ y : bM, y = f_X7_flows M k1 x13 r15 := ⟨_, rfl⟩
    by_cases c18 : r16 = 0
    · obtain ⟨r19, hr19⟩ : ∃ y : Int32, y = f_X7_cost M17 k1 x13 r15 := ⟨_, rfl⟩
      obtain ⟨M20, hM20⟩ : ∃ y : bM, y = f_X7_pays M17 k1 x13 r19 := ⟨_, rfl⟩
      obtain ⟨M21, hM21⟩ : ∃ y : bM, y = f_X7_turnEnds M20 k1 := ⟨_, rfl⟩
      rw [p_X7_stepOn_e22 M k1 x2 r11 hr11.symm c12 x13 hx13.symm r14 hr14.symm r15 hr15.symm r16 hr16.symm M17 hM17.symm c18 r19 hr19.symm M20 hM20.symm M21 hM21.symm]
      try dsimp only
      rw [hM21, fr_X7_turnEnds M20 k1 k (by omega), hM20, fr_X7_pays M17 k1 x13 r19 k (by omega), hM17, fr_X7_flows M k1 x13 r15 k (by omega)]
    · obtain ⟨M23, hM23⟩ : ∃ y : bM, y = f_X7_meet M17 k1 r15 := ⟨_, rfl⟩
      obtain ⟨M24, hM24⟩ : ∃ y : bM, y = f_X7_turnEnds M23 k1 := ⟨_, rfl⟩
      rw [p_X7_stepOn_e25 M k1 x2 r11 hr11.symm c12 x13 hx13.symm r14 hr14.symm r15 hr15.symm r16 hr16.symm M17 hM17.symm c18 M23 hM23.symm M24 hM24.symm]
      try dsimp only
      rw [hM24, fr_X7_turnEnds M23 k1 k (by omega), hM23, fr_X7_meet M17 k1 r15 k (by omega), hM17, fr_X7_flows M k1 x13 r15 k (by omega)]
  · obtain ⟨M26, hM26⟩ : ∃ y : bM, y = up2 M k1 6 ((M k1 6) + 1) := ⟨_, rfl⟩
    rw [p_X7_stepOn_e27 M k1 x2 r11 hr11.symm c12 M26 hM26.symm]
    try dsimp only
    rw [hM26, up2_row (by omega)]
def f_X7_change (M : bM) (k1 : Nat) (x2 : Int32) (x3 : Int32) : Int32 × bM := (let x11 : Int32 := (M k1 ((8 : Int32) + x2).toNatClampNeg); (let M12 : bM := up2 M k1 ((8 : Int32) + x2).toNatClampNeg x3; (x11, M12)))
theorem u_f_X7_change (M : bM) (k1 : Nat) (x2 : Int32) (x3 : Int32) : f_X7_change M k1 x2 x3 = (let x11 : Int32 := (M k1 ((8 : Int32) + x2).toNatClampNeg); (let M12 : bM := up2 M k1 ((8 : Int32) + x2).toNatClampNeg x3; (x11, M12))) := rfl
theorem p_X7_change_e13 (M : bM) (k1 : Nat) (x2 : Int32) (x3 : Int32) (x11 : Int32) (hx11 : (M k1 ((8 : Int32) + x2).toNatClampNeg) = x11) (M12 : bM) (hM12 : up2 M k1 ((8 : Int32) + x2).toNatClampNeg x3 = M12) : f_X7_change M k1 x2 x3 = (x11, M12) := by subst hM12 hx11; exact u_f_X7_change M k1 x2 x3
theorem fr_X7_change (M : bM) (k1 : Nat) (x2 : Int32) (x3 : Int32) (k : Nat) (hk : k ≠ k1) : (f_X7_change M k1 x2 x3).2 k = M k := by
  obtain ⟨x11, hx11⟩ : ∃ y : Int32, y = (M k1 ((8 : Int32) + x2).toNatClampNeg) := ⟨_, rfl⟩
  obtain ⟨M12, hM12⟩ : ∃ y : bM, y = up2 M k1 ((8 : Int32) + x2).toNatClampNeg x3 := ⟨_, rfl⟩
  rw [p_X7_change_e13 M k1 x2 x3 x11 hx11.symm M12 hM12.symm]
  try dsimp only
  rw [hM12, up2_row (by omega)]
def lp_X7_gameOn_5 (k1 : Nat) : Nat → Nat → Int64 → bM → (Int64 × bM)
  | 0, i11, x12, M13 => (x12, M13)
  | n11 + 1, i11, x12, M13 => (let x17 : Int64 := ((x12 * 6364136223846793005) + 1442695040888963407); (let x18 : Int32 := ((x17.toUInt64 >>> ((33 : Int32).toInt64.toUInt64 &&& Int64.toUInt64 63)).toInt64).toInt32; (let M19 : bM := up2 M13 k1 (20 + i11) (x18 - x18 / 10 * 10); (let M20 : bM := up2 M19 k1 (84 + i11) ((x18 / 10) - (x18 / 10) / 10 * 10); (let M21 : bM := up2 M20 k1 (148 + i11) (-1); (let M22 : bM := up2 M21 k1 (212 + i11) 0; (let M23 : bM := up2 M22 k1 (276 + i11) 0; (let M24 : bM := up2 M23 k1 (340 + i11) 0; lp_X7_gameOn_5 k1 n11 (i11 + 1) x17 M24))))))))
theorem u0_lp_X7_gameOn_5 (k1 : Nat) (i11 : Nat) (x12 : Int64) (M13 : bM) : lp_X7_gameOn_5 k1 0 i11 x12 M13 = (x12, M13) := rfl
theorem u1_lp_X7_gameOn_5 (k1 : Nat) (n11 i11 : Nat) (x12 : Int64) (M13 : bM) : lp_X7_gameOn_5 k1 (n11 + 1) i11 x12 M13 = (let x17 : Int64 := ((x12 * 6364136223846793005) + 1442695040888963407); (let x18 : Int32 := ((x17.toUInt64 >>> ((33 : Int32).toInt64.toUInt64 &&& Int64.toUInt64 63)).toInt64).toInt32; (let M19 : bM := up2 M13 k1 (20 + i11) (x18 - x18 / 10 * 10); (let M20 : bM := up2 M19 k1 (84 + i11) ((x18 / 10) - (x18 / 10) / 10 * 10); (let M21 : bM := up2 M20 k1 (148 + i11) (-1); (let M22 : bM := up2 M21 k1 (212 + i11) 0; (let M23 : bM := up2 M22 k1 (276 + i11) 0; (let M24 : bM := up2 M23 k1 (340 + i11) 0; lp_X7_gameOn_5 k1 n11 (i11 + 1) x17 M24)))))))) := rfl
def f_X7_gameOn (M : bM) (k1 : Nat) (x2 : Int64) : Int32 × bM := (let x26 : Int64 := (lp_X7_gameOn_5 k1 64 0 x2 M).1; (let M27 : bM := (lp_X7_gameOn_5 k1 64 0 x2 M).2; (let M29 : bM := up2 M27 k1 10 0; (let M30 : bM := up2 M29 k1 11 0; (let M31 : bM := up2 M30 k1 14 0; (let M33 : bM := f_X7_flows M31 k1 0 1; (let M35 : bM := up2 M33 k1 15 0; (let M36 : bM := up2 M35 k1 16 0; (let M37 : bM := up2 M36 k1 19 0; (let M39 : bM := f_X7_flows M37 k1 1 6; (let M41 : bM := up2 M39 k1 0 ((M39 k1 0) + 1); (let M42 : bM := up2 M41 k1 1 1; (let M43 : bM := up2 M42 k1 2 0; (let M44 : bM := up2 M43 k1 3 0; (let M45 : bM := up2 M44 k1 4 (-1); (let M46 : bM := up2 M45 k1 5 (-1); ((M46 k1 0), M46)))))))))))))))))
theorem u_f_X7_gameOn (M : bM) (k1 : Nat) (x2 : Int64) : f_X7_gameOn M k1 x2 = (let x26 : Int64 := (lp_X7_gameOn_5 k1 64 0 x2 M).1; (let M27 : bM := (lp_X7_gameOn_5 k1 64 0 x2 M).2; (let M29 : bM := up2 M27 k1 10 0; (let M30 : bM := up2 M29 k1 11 0; (let M31 : bM := up2 M30 k1 14 0; (let M33 : bM := f_X7_flows M31 k1 0 1; (let M35 : bM := up2 M33 k1 15 0; (let M36 : bM := up2 M35 k1 16 0; (let M37 : bM := up2 M36 k1 19 0; (let M39 : bM := f_X7_flows M37 k1 1 6; (let M41 : bM := up2 M39 k1 0 ((M39 k1 0) + 1); (let M42 : bM := up2 M41 k1 1 1; (let M43 : bM := up2 M42 k1 2 0; (let M44 : bM := up2 M43 k1 3 0; (let M45 : bM := up2 M44 k1 4 (-1); (let M46 : bM := up2 M45 k1 5 (-1); ((M46 k1 0), M46))))))))))))))))) := rfl
theorem p_X7_gameOn_e15 (M : bM) (k1 : Nat) (x2 : Int64) (x12 : Int64) (M13 : bM) (i11 : Nat)  : lp_X7_gameOn_5 k1 0 i11 x12 M13 = (x12, M13) := by exact u0_lp_X7_gameOn_5 k1 i11 x12 M13
theorem p_X7_gameOn_e25 (M : bM) (k1 : Nat) (x2 : Int64) (x12 : Int64) (M13 : bM) (i11 : Nat) (n11 : Nat) (x17 : Int64) (hx17 : ((x12 * 6364136223846793005) + 1442695040888963407) = x17) (x18 : Int32) (hx18 : ((x17.toUInt64 >>> ((33 : Int32).toInt64.toUInt64 &&& Int64.toUInt64 63)).toInt64).toInt32 = x18) (M19 : bM) (hM19 : up2 M13 k1 (20 + i11) (x18 - x18 / 10 * 10) = M19) (M20 : bM) (hM20 : up2 M19 k1 (84 + i11) ((x18 / 10) - (x18 / 10) / 10 * 10) = M20) (M21 : bM) (hM21 : up2 M20 k1 (148 + i11) (-1) = M21) (M22 : bM) (hM22 : up2 M21 k1 (212 + i11) 0 = M22) (M23 : bM) (hM23 : up2 M22 k1 (276 + i11) 0 = M23) (M24 : bM) (hM24 : up2 M23 k1 (340 + i11) 0 = M24) : lp_X7_gameOn_5 k1 (n11 + 1) i11 x12 M13 = lp_X7_gameOn_5 k1 n11 (i11 + 1) x17 M24 := by subst hM24 hM23 hM22 hM21 hM20 hM19 hx18 hx17; exact u1_lp_X7_gameOn_5 k1 n11 i11 x12 M13
theorem p_X7_gameOn_e47 (M : bM) (k1 : Nat) (x2 : Int64) (x26 : Int64) (hx26 : (lp_X7_gameOn_5 k1 64 0 x2 M).1 = x26) (M27 : bM) (hM27 : (lp_X7_gameOn_5 k1 64 0 x2 M).2 = M27) (M29 : bM) (hM29 : up2 M27 k1 10 0 = M29) (M30 : bM) (hM30 : up2 M29 k1 11 0 = M30) (M31 : bM) (hM31 : up2 M30 k1 14 0 = M31) (M33 : bM) (hM33 : f_X7_flows M31 k1 0 1 = M33) (M35 : bM) (hM35 : up2 M33 k1 15 0 = M35) (M36 : bM) (hM36 : up2 M35 k1 16 0 = M36) (M37 : bM) (hM37 : up2 M36 k1 19 0 = M37) (M39 : bM) (hM39 : f_X7_flows M37 k1 1 6 = M39) (M41 : bM) (hM41 : up2 M39 k1 0 ((M39 k1 0) + 1) = M41) (M42 : bM) (hM42 : up2 M41 k1 1 1 = M42) (M43 : bM) (hM43 : up2 M42 k1 2 0 = M43) (M44 : bM) (hM44 : up2 M43 k1 3 0 = M44) (M45 : bM) (hM45 : up2 M44 k1 4 (-1) = M45) (M46 : bM) (hM46 : up2 M45 k1 5 (-1) = M46) : f_X7_gameOn M k1 x2 = ((M46 k1 0), M46) := by subst hM46 hM45 hM44 hM43 hM42 hM41 hM39 hM37 hM36 hM35 hM33 hM31 hM30 hM29 hM27 hx26; exact u_f_X7_gameOn M k1 x2
theorem fr_lp_X7_gameOn_5 (M : bM) (k1 : Nat) (x2 : Int64) (k : Nat) (hk : k ≠ k1) : ∀ (n11 i11 : Nat) (x12 : Int64) (M13 : bM), (lp_X7_gameOn_5 k1 n11 i11 x12 M13).2 k = M13 k := by
  intro n11
  induction n11 with
  | zero =>
    intro i11 x12 M13
    rw [p_X7_gameOn_e15 M k1 x2 x12 M13 i11 ]
  | succ n11 ih11 =>
    intro i11 x12 M13
    obtain ⟨x17, hx17⟩ : ∃ y : Int64, y = ((x12 * 6364136223846793005) + 1442695040888963407) := ⟨_, rfl⟩
    obtain ⟨x18, hx18⟩ : ∃ y : Int32, y = ((x17.toUInt64 >>> ((33 : Int32).toInt64.toUInt64 &&& Int64.toUInt64 63)).toInt64).toInt32 := ⟨_, rfl⟩
    obtain ⟨M19, hM19⟩ : ∃ y : bM, y = up2 M13 k1 (20 + i11) (x18 - x18 / 10 * 10) := ⟨_, rfl⟩
    obtain ⟨M20, hM20⟩ : ∃ y : bM, y = up2 M19 k1 (84 + i11) ((x18 / 10) - (x18 / 10) / 10 * 10) := ⟨_, rfl⟩
    obtain ⟨M21, hM21⟩ : ∃ y : bM, y = up2 M20 k1 (148 + i11) (-1) := ⟨_, rfl⟩
    obtain ⟨M22, hM22⟩ : ∃ y : bM, y = up2 M21 k1 (212 + i11) 0 := ⟨_, rfl⟩
    obtain ⟨M23, hM23⟩ : ∃ y : bM, y = up2 M22 k1 (276 + i11) 0 := ⟨_, rfl⟩
    obtain ⟨M24, hM24⟩ : ∃ y : bM, y = up2 M23 k1 (340 + i11) 0 := ⟨_, rfl⟩
    rw [p_X7_gameOn_e25 M k1 x2 x12 M13 i11 n11 x17 hx17.symm x18 hx18.symm M19 hM19.symm M20 hM20.symm M21 hM21.symm M22 hM22.symm M23 hM23.symm M24 hM24.symm, ih11]
    try dsimp only
    rw [hM24, up2_row (by omega), hM23, up2_row (by omega), hM22, up2_row (by omega), hM21, up2_row (by omega), hM20, up2_row (by omega), hM19, up2_row (by omega)]
theorem fr_X7_gameOn (M : bM) (k1 : Nat) (x2 : Int64) (k : Nat) (hk : k ≠ k1) : (f_X7_gameOn M k1 x2).2 k = M k := by
  obtain ⟨x26, hx26⟩ : ∃ y : Int64, y = (lp_X7_gameOn_5 k1 64 0 x2 M).1 := ⟨_, rfl⟩
  obtain ⟨M27, hM27⟩ : ∃ y : bM, y = (lp_X7_gameOn_5 k1 64 0 x2 M).2 := ⟨_, rfl⟩
  obtain ⟨M29, hM29⟩ : ∃ y : bM, y = up2 M27 k1 10 0 := ⟨_, rfl⟩
  obtain ⟨M30, hM30⟩ : ∃ y : bM, y = up2 M29 k1 11 0 := ⟨_, rfl⟩
  obtain ⟨M31, hM31⟩ : ∃ y : bM, y = up2 M30 k1 14 0 := ⟨_, rfl⟩
  obtain ⟨M33, hM33⟩ : ∃ y : bM, y = f_X7_flows M31 k1 0 1 := ⟨_, rfl⟩
  obtain ⟨M35, hM35⟩ : ∃ y : bM, y = up2 M33 k1 15 0 := ⟨_, rfl⟩
  obtain ⟨M36, hM36⟩ : ∃ y : bM, y = up2 M35 k1 16 0 := ⟨_, rfl⟩
  obtain ⟨M37, hM37⟩ : ∃ y : bM, y = up2 M36 k1 19 0 := ⟨_, rfl⟩
  obtain ⟨M39, hM39⟩ : ∃ y : bM, y = f_X7_flows M37 k1 1 6 := ⟨_, rfl⟩
  obtain ⟨M41, hM41⟩ : ∃ y : bM, y = up2 M39 k1 0 ((M39 k1 0) + 1) := ⟨_, rfl⟩
  obtain ⟨M42, hM42⟩ : ∃ y : bM, y = up2 M41 k1 1 1 := ⟨_, rfl⟩
  obtain ⟨M43, hM43⟩ : ∃ y : bM, y = up2 M42 k1 2 0 := ⟨_, rfl⟩
  obtain ⟨M44, hM44⟩ : ∃ y : bM, y = up2 M43 k1 3 0 := ⟨_, rfl⟩
  obtain ⟨M45, hM45⟩ : ∃ y : bM, y = up2 M44 k1 4 (-1) := ⟨_, rfl⟩
  obtain ⟨M46, hM46⟩ : ∃ y : bM, y = up2 M45 k1 5 (-1) := ⟨_, rfl⟩
  rw [p_X7_gameOn_e47 M k1 x2 x26 hx26.symm M27 hM27.symm M29 hM29.symm M30 hM30.symm M31 hM31.symm M33 hM33.symm M35 hM35.symm M36 hM36.symm M37 hM37.symm M39 hM39.symm M41 hM41.symm M42 hM42.symm M43 hM43.symm M44 hM44.symm M45 hM45.symm M46 hM46.symm]
  try dsimp only
  rw [hM46, up2_row (by omega), hM45, up2_row (by omega), hM44, up2_row (by omega), hM43, up2_row (by omega), hM42, up2_row (by omega), hM41, up2_row (by omega), hM39, fr_X7_flows M37 k1 1 6 k (by omega), hM37, up2_row (by omega), hM36, up2_row (by omega), hM35, up2_row (by omega), hM33, fr_X7_flows M31 k1 0 1 k (by omega), hM31, up2_row (by omega), hM30, up2_row (by omega), hM29, up2_row (by omega), hM27, fr_lp_X7_gameOn_5 M k1 x2 k hk 64 0 x2 M]
def lp_X7_clear_2 (k1 : Nat) : Nat → Nat → bM → (bM)
  | 0, i11, M12 => M12
  | n11 + 1, i11, M12 => (let M16 : bM := up2 M12 k1 i11 0; lp_X7_clear_2 k1 n11 (i11 + 1) M16)
theorem u0_lp_X7_clear_2 (k1 : Nat) (i11 : Nat) (M12 : bM) : lp_X7_clear_2 k1 0 i11 M12 = M12 := rfl
theorem u1_lp_X7_clear_2 (k1 : Nat) (n11 i11 : Nat) (M12 : bM) : lp_X7_clear_2 k1 (n11 + 1) i11 M12 = (let M16 : bM := up2 M12 k1 i11 0; lp_X7_clear_2 k1 n11 (i11 + 1) M16) := rfl
def f_X7_clear (M : bM) (k1 : Nat) : bM := (let M18 : bM := (lp_X7_clear_2 k1 404 0 M); (let M19 : bM := up2 M18 k1 8 20; (let M20 : bM := up2 M19 k1 9 3; (let r22 : Int32 := (f_X7_gameOn M20 k1 0).1; (let M21 : bM := (f_X7_gameOn M20 k1 0).2; M21)))))
theorem u_f_X7_clear (M : bM) (k1 : Nat) : f_X7_clear M k1 = (let M18 : bM := (lp_X7_clear_2 k1 404 0 M); (let M19 : bM := up2 M18 k1 8 20; (let M20 : bM := up2 M19 k1 9 3; (let r22 : Int32 := (f_X7_gameOn M20 k1 0).1; (let M21 : bM := (f_X7_gameOn M20 k1 0).2; M21))))) := rfl
theorem p_X7_clear_e14 (M : bM) (k1 : Nat) (M12 : bM) (i11 : Nat)  : lp_X7_clear_2 k1 0 i11 M12 = M12 := by exact u0_lp_X7_clear_2 k1 i11 M12
theorem p_X7_clear_e17 (M : bM) (k1 : Nat) (M12 : bM) (i11 : Nat) (n11 : Nat) (M16 : bM) (hM16 : up2 M12 k1 i11 0 = M16) : lp_X7_clear_2 k1 (n11 + 1) i11 M12 = lp_X7_clear_2 k1 n11 (i11 + 1) M16 := by subst hM16; exact u1_lp_X7_clear_2 k1 n11 i11 M12
theorem p_X7_clear_e23 (M : bM) (k1 : Nat) (M18 : bM) (hM18 : (lp_X7_clear_2 k1 404 0 M) = M18) (M19 : bM) (hM19 : up2 M18 k1 8 20 = M19) (M20 : bM) (hM20 : up2 M19 k1 9 3 = M20) (r22 : Int32) (hr22 : (f_X7_gameOn M20 k1 0).1 = r22) (M21 : bM) (hM21 : (f_X7_gameOn M20 k1 0).2 = M21) : f_X7_clear M k1 = M21 := by subst hM21 hr22 hM20 hM19 hM18; exact u_f_X7_clear M k1
theorem fr_lp_X7_clear_2 (M : bM) (k1 : Nat) (k : Nat) (hk : k ≠ k1) : ∀ (n11 i11 : Nat) (M12 : bM), (lp_X7_clear_2 k1 n11 i11 M12) k = M12 k := by
  intro n11
  induction n11 with
  | zero =>
    intro i11 M12
    rw [p_X7_clear_e14 M k1 M12 i11 ]
  | succ n11 ih11 =>
    intro i11 M12
    obtain ⟨M16, hM16⟩ : ∃ y : bM, y = up2 M12 k1 i11 0 := ⟨_, rfl⟩
    rw [p_X7_clear_e17 M k1 M12 i11 n11 M16 hM16.symm, ih11]
    try dsimp only
    rw [hM16, up2_row (by omega)]
theorem fr_X7_clear (M : bM) (k1 : Nat) (k : Nat) (hk : k ≠ k1) : f_X7_clear M k1 k = M k := by
  obtain ⟨M18, hM18⟩ : ∃ y : bM, y = (lp_X7_clear_2 k1 404 0 M) := ⟨_, rfl⟩
  obtain ⟨M19, hM19⟩ : ∃ y : bM, y = up2 M18 k1 8 20 := ⟨_, rfl⟩
  obtain ⟨M20, hM20⟩ : ∃ y : bM, y = up2 M19 k1 9 3 := ⟨_, rfl⟩
  obtain ⟨r22, hr22⟩ : ∃ y : Int32, y = (f_X7_gameOn M20 k1 0).1 := ⟨_, rfl⟩
  obtain ⟨M21, hM21⟩ : ∃ y : bM, y = (f_X7_gameOn M20 k1 0).2 := ⟨_, rfl⟩
  rw [p_X7_clear_e23 M k1 M18 hM18.symm M19 hM19.symm M20 hM20.symm r22 hr22.symm M21 hM21.symm]
  try dsimp only
  rw [hM21, fr_X7_gameOn M20 k1 0 k (by omega), hM20, up2_row (by omega), hM19, up2_row (by omega), hM18, fr_lp_X7_clear_2 M k1 k hk 404 0 M]
def lp_X7_copyState_3 (k1 : Nat) (x2 : Int32) (k3 : Nat) (x4 : Int32) : Nat → Nat → bM → (bM)
  | 0, i11, M12 => M12
  | n11 + 1, i11, M12 => (let M16 : bM := up2 M12 k3 (x4 + nI i11).toNatClampNeg (M12 k1 (x2 + nI i11).toNatClampNeg); lp_X7_copyState_3 k1 x2 k3 x4 n11 (i11 + 1) M16)
theorem u0_lp_X7_copyState_3 (k1 : Nat) (x2 : Int32) (k3 : Nat) (x4 : Int32) (i11 : Nat) (M12 : bM) : lp_X7_copyState_3 k1 x2 k3 x4 0 i11 M12 = M12 := rfl
theorem u1_lp_X7_copyState_3 (k1 : Nat) (x2 : Int32) (k3 : Nat) (x4 : Int32) (n11 i11 : Nat) (M12 : bM) : lp_X7_copyState_3 k1 x2 k3 x4 (n11 + 1) i11 M12 = (let M16 : bM := up2 M12 k3 (x4 + nI i11).toNatClampNeg (M12 k1 (x2 + nI i11).toNatClampNeg); lp_X7_copyState_3 k1 x2 k3 x4 n11 (i11 + 1) M16) := rfl
def f_X7_copyState (M : bM) (k1 : Nat) (n1 : Nat) (x2 : Int32) (k3 : Nat) (n3 : Nat) (x4 : Int32) : bM := (let M18 : bM := (lp_X7_copyState_3 k1 x2 k3 x4 404 0 M); M18)
theorem u_f_X7_copyState (M : bM) (k1 : Nat) (n1 : Nat) (x2 : Int32) (k3 : Nat) (n3 : Nat) (x4 : Int32) : f_X7_copyState M k1 n1 x2 k3 n3 x4 = (let M18 : bM := (lp_X7_copyState_3 k1 x2 k3 x4 404 0 M); M18) := rfl
theorem p_X7_copyState_e14 (M : bM) (k1 : Nat) (n1 : Nat) (x2 : Int32) (k3 : Nat) (n3 : Nat) (x4 : Int32) (M12 : bM) (i11 : Nat)  : lp_X7_copyState_3 k1 x2 k3 x4 0 i11 M12 = M12 := by exact u0_lp_X7_copyState_3 k1 x2 k3 x4 i11 M12
theorem p_X7_copyState_e17 (M : bM) (k1 : Nat) (n1 : Nat) (x2 : Int32) (k3 : Nat) (n3 : Nat) (x4 : Int32) (M12 : bM) (i11 : Nat) (n11 : Nat) (M16 : bM) (hM16 : up2 M12 k3 (x4 + nI i11).toNatClampNeg (M12 k1 (x2 + nI i11).toNatClampNeg) = M16) : lp_X7_copyState_3 k1 x2 k3 x4 (n11 + 1) i11 M12 = lp_X7_copyState_3 k1 x2 k3 x4 n11 (i11 + 1) M16 := by subst hM16; exact u1_lp_X7_copyState_3 k1 x2 k3 x4 n11 i11 M12
theorem p_X7_copyState_e19 (M : bM) (k1 : Nat) (n1 : Nat) (x2 : Int32) (k3 : Nat) (n3 : Nat) (x4 : Int32) (M18 : bM) (hM18 : (lp_X7_copyState_3 k1 x2 k3 x4 404 0 M) = M18) : f_X7_copyState M k1 n1 x2 k3 n3 x4 = M18 := by subst hM18; exact u_f_X7_copyState M k1 n1 x2 k3 n3 x4
theorem fr_lp_X7_copyState_3 (M : bM) (k1 : Nat) (n1 : Nat) (x2 : Int32) (k3 : Nat) (n3 : Nat) (x4 : Int32) (k : Nat) (hk : k ≠ k3) : ∀ (n11 i11 : Nat) (M12 : bM), (lp_X7_copyState_3 k1 x2 k3 x4 n11 i11 M12) k = M12 k := by
  intro n11
  induction n11 with
  | zero =>
    intro i11 M12
    rw [p_X7_copyState_e14 M k1 n1 x2 k3 n3 x4 M12 i11 ]
  | succ n11 ih11 =>
    intro i11 M12
    obtain ⟨M16, hM16⟩ : ∃ y : bM, y = up2 M12 k3 (x4 + nI i11).toNatClampNeg (M12 k1 (x2 + nI i11).toNatClampNeg) := ⟨_, rfl⟩
    rw [p_X7_copyState_e17 M k1 n1 x2 k3 n3 x4 M12 i11 n11 M16 hM16.symm, ih11]
    try dsimp only
    rw [hM16, up2_row (by omega)]
theorem fr_X7_copyState (M : bM) (k1 : Nat) (n1 : Nat) (x2 : Int32) (k3 : Nat) (n3 : Nat) (x4 : Int32) (k : Nat) (hk : k ≠ k3) : f_X7_copyState M k1 n1 x2 k3 n3 x4 k = M k := by
  obtain ⟨M18, hM18⟩ : ∃ y : bM, y = (lp_X7_copyState_3 k1 x2 k3 x4 404 0 M) := ⟨_, rfl⟩
  rw [p_X7_copyState_e19 M k1 n1 x2 k3 n3 x4 M18 hM18.symm]
  try dsimp only
  rw [hM18, fr_lp_X7_copyState_3 M k1 n1 x2 k3 n3 x4 k hk 404 0 M]
def lp_X7_floodOn_4 (k1 : Nat) : Nat → Nat → Int32 → bM → (Int32 × bM)
  | 0, i11, x12, M13 => (x12, M13)
  | n11 + 1, i11, x12, M13 => (let r17 : Int32 := f_X7_head M13 k1 (M13 k1 2); (let r18 : Int32 := f_X7_stepFrom r17 (nI i11); (if r18 = (-1) then lp_X7_floodOn_4 k1 n11 (i11 + 1) x12 M13 else (let r21 : Int32 := f_X7_isDam M13 k1 r18; (if r21 = 0 then lp_X7_floodOn_4 k1 n11 (i11 + 1) x12 M13 else (let M24 : bM := up2 M13 k1 ((148 : Int32) + r18).toNatClampNeg (-1); (let x25 : Int32 := x12 + 1; lp_X7_floodOn_4 k1 n11 (i11 + 1) x25 M24)))))))
theorem u0_lp_X7_floodOn_4 (k1 : Nat) (i11 : Nat) (x12 : Int32) (M13 : bM) : lp_X7_floodOn_4 k1 0 i11 x12 M13 = (x12, M13) := rfl
theorem u1_lp_X7_floodOn_4 (k1 : Nat) (n11 i11 : Nat) (x12 : Int32) (M13 : bM) : lp_X7_floodOn_4 k1 (n11 + 1) i11 x12 M13 = (let r17 : Int32 := f_X7_head M13 k1 (M13 k1 2); (let r18 : Int32 := f_X7_stepFrom r17 (nI i11); (if r18 = (-1) then lp_X7_floodOn_4 k1 n11 (i11 + 1) x12 M13 else (let r21 : Int32 := f_X7_isDam M13 k1 r18; (if r21 = 0 then lp_X7_floodOn_4 k1 n11 (i11 + 1) x12 M13 else (let M24 : bM := up2 M13 k1 ((148 : Int32) + r18).toNatClampNeg (-1); (let x25 : Int32 := x12 + 1; lp_X7_floodOn_4 k1 n11 (i11 + 1) x25 M24))))))) := rfl
def f_X7_floodOn (M : bM) (k1 : Nat) : Int32 × bM := (let x27 : Int32 := (lp_X7_floodOn_4 k1 3 0 0 M).1; (let M28 : bM := (lp_X7_floodOn_4 k1 3 0 0 M).2; (let M29 : bM := f_X7_pays M28 k1 (M28 k1 2) 5; (let M30 : bM := up2 M29 k1 7 ((M29 k1 7) + 1); (let M31 : bM := f_X7_turnEnds M30 k1; (x27, M31))))))
theorem u_f_X7_floodOn (M : bM) (k1 : Nat) : f_X7_floodOn M k1 = (let x27 : Int32 := (lp_X7_floodOn_4 k1 3 0 0 M).1; (let M28 : bM := (lp_X7_floodOn_4 k1 3 0 0 M).2; (let M29 : bM := f_X7_pays M28 k1 (M28 k1 2) 5; (let M30 : bM := up2 M29 k1 7 ((M29 k1 7) + 1); (let M31 : bM := f_X7_turnEnds M30 k1; (x27, M31)))))) := rfl
theorem p_X7_floodOn_e15 (M : bM) (k1 : Nat) (x12 : Int32) (M13 : bM) (i11 : Nat)  : lp_X7_floodOn_4 k1 0 i11 x12 M13 = (x12, M13) := by exact u0_lp_X7_floodOn_4 k1 i11 x12 M13
theorem p_X7_floodOn_e20 (M : bM) (k1 : Nat) (x12 : Int32) (M13 : bM) (i11 : Nat) (n11 : Nat) (r17 : Int32) (hr17 : f_X7_head M13 k1 (M13 k1 2) = r17) (r18 : Int32) (hr18 : f_X7_stepFrom r17 (nI i11) = r18) (c19 : r18 = (-1)) : lp_X7_floodOn_4 k1 (n11 + 1) i11 x12 M13 = lp_X7_floodOn_4 k1 n11 (i11 + 1) x12 M13 := by subst hr18 hr17; exact Eq.trans (u1_lp_X7_floodOn_4 k1 n11 i11 x12 M13) (if_pos c19)
theorem p_X7_floodOn_e23 (M : bM) (k1 : Nat) (x12 : Int32) (M13 : bM) (i11 : Nat) (n11 : Nat) (r17 : Int32) (hr17 : f_X7_head M13 k1 (M13 k1 2) = r17) (r18 : Int32) (hr18 : f_X7_stepFrom r17 (nI i11) = r18) (c19 : ¬ r18 = (-1)) (r21 : Int32) (hr21 : f_X7_isDam M13 k1 r18 = r21) (c22 : r21 = 0) : lp_X7_floodOn_4 k1 (n11 + 1) i11 x12 M13 = lp_X7_floodOn_4 k1 n11 (i11 + 1) x12 M13 := by subst hr21 hr18 hr17; exact Eq.trans (u1_lp_X7_floodOn_4 k1 n11 i11 x12 M13) (Eq.trans (if_neg c19) (if_pos c22))
theorem p_X7_floodOn_e26 (M : bM) (k1 : Nat) (x12 : Int32) (M13 : bM) (i11 : Nat) (n11 : Nat) (r17 : Int32) (hr17 : f_X7_head M13 k1 (M13 k1 2) = r17) (r18 : Int32) (hr18 : f_X7_stepFrom r17 (nI i11) = r18) (c19 : ¬ r18 = (-1)) (r21 : Int32) (hr21 : f_X7_isDam M13 k1 r18 = r21) (c22 : ¬ r21 = 0) (M24 : bM) (hM24 : up2 M13 k1 ((148 : Int32) + r18).toNatClampNeg (-1) = M24) (x25 : Int32) (hx25 : x12 + 1 = x25) : lp_X7_floodOn_4 k1 (n11 + 1) i11 x12 M13 = lp_X7_floodOn_4 k1 n11 (i11 + 1) x25 M24 := by subst hx25 hM24 hr21 hr18 hr17; exact Eq.trans (u1_lp_X7_floodOn_4 k1 n11 i11 x12 M13) (Eq.trans (if_neg c19) (if_neg c22))
theorem p_X7_floodOn_e32 (M : bM) (k1 : Nat) (x27 : Int32) (hx27 : (lp_X7_floodOn_4 k1 3 0 0 M).1 = x27) (M28 : bM) (hM28 : (lp_X7_floodOn_4 k1 3 0 0 M).2 = M28) (M29 : bM) (hM29 : f_X7_pays M28 k1 (M28 k1 2) 5 = M29) (M30 : bM) (hM30 : up2 M29 k1 7 ((M29 k1 7) + 1) = M30) (M31 : bM) (hM31 : f_X7_turnEnds M30 k1 = M31) : f_X7_floodOn M k1 = (x27, M31) := by subst hM31 hM30 hM29 hM28 hx27; exact u_f_X7_floodOn M k1
theorem fr_lp_X7_floodOn_4 (M : bM) (k1 : Nat) (k : Nat) (hk : k ≠ k1) : ∀ (n11 i11 : Nat) (x12 : Int32) (M13 : bM), (lp_X7_floodOn_4 k1 n11 i11 x12 M13).2 k = M13 k := by
  intro n11
  induction n11 with
  | zero =>
    intro i11 x12 M13
    rw [p_X7_floodOn_e15 M k1 x12 M13 i11 ]
  | succ n11 ih11 =>
    intro i11 x12 M13
    obtain ⟨r17, hr17⟩ : ∃ y : Int32, y = f_X7_head M13 k1 (M13 k1 2) := ⟨_, rfl⟩
    obtain ⟨r18, hr18⟩ : ∃ y : Int32, y = f_X7_stepFrom r17 (nI i11) := ⟨_, rfl⟩
    by_cases c19 : r18 = (-1)
    · rw [p_X7_floodOn_e20 M k1 x12 M13 i11 n11 r17 hr17.symm r18 hr18.symm c19, ih11]
    · obtain ⟨r21, hr21⟩ : ∃ y : Int32, y = f_X7_isDam M13 k1 r18 := ⟨_, rfl⟩
      by_cases c22 : r21 = 0
      · rw [p_X7_floodOn_e23 M k1 x12 M13 i11 n11 r17 hr17.symm r18 hr18.symm c19 r21 hr21.symm c22, ih11]
      · obtain ⟨M24, hM24⟩ : ∃ y : bM, y = up2 M13 k1 ((148 : Int32) + r18).toNatClampNeg (-1) := ⟨_, rfl⟩
        obtain ⟨x25, hx25⟩ : ∃ y : Int32, y = x12 + 1 := ⟨_, rfl⟩
        rw [p_X7_floodOn_e26 M k1 x12 M13 i11 n11 r17 hr17.symm r18 hr18.symm c19 r21 hr21.symm c22 M24 hM24.symm x25 hx25.symm, ih11]
        try dsimp only
        rw [hM24, up2_row (by omega)]
theorem fr_X7_floodOn (M : bM) (k1 : Nat) (k : Nat) (hk : k ≠ k1) : (f_X7_floodOn M k1).2 k = M k := by
  obtain ⟨x27, hx27⟩ : ∃ y : Int32, y = (lp_X7_floodOn_4 k1 3 0 0 M).1 := ⟨_, rfl⟩
  obtain ⟨M28, hM28⟩ : ∃ y : bM, y = (lp_X7_floodOn_4 k1 3 0 0 M).2 := ⟨_, rfl⟩
  obtain ⟨M29, hM29⟩ : ∃ y : bM, y = f_X7_pays M28 k1 (M28 k1 2) 5 := ⟨_, rfl⟩
  obtain ⟨M30, hM30⟩ : ∃ y : bM, y = up2 M29 k1 7 ((M29 k1 7) + 1) := ⟨_, rfl⟩
  obtain ⟨M31, hM31⟩ : ∃ y : bM, y = f_X7_turnEnds M30 k1 := ⟨_, rfl⟩
  rw [p_X7_floodOn_e32 M k1 x27 hx27.symm M28 hM28.symm M29 hM29.symm M30 hM30.symm M31 hM31.symm]
  try dsimp only
  rw [hM31, fr_X7_turnEnds M30 k1 k (by omega), hM30, up2_row (by omega), hM29, fr_X7_pays M28 k1 (M28 k1 2) 5 k (by omega), hM28, fr_lp_X7_floodOn_4 M k1 k hk 3 0 0 M]
