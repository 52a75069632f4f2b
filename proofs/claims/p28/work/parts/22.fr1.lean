theorem fr_lp_X6_copyRow_2 (M : bM) (k1 : Nat) (k2 : Nat) (k : Nat) (hk : k ≠ k2) : ∀ (n1 i1 : Nat) (M2 : bM), (lp_X6_copyRow_2 k1 k2 n1 i1 M2) k = M2 k := by
  intro n1
  induction n1 with
  | zero =>
    intro i1 M2
    rw [p_X6_copyRow_e4 M k1 k2 M2 i1 ]
  | succ n1 ih1 =>
    intro i1 M2
    obtain ⟨M7, hM7⟩ : ∃ y : bM, y = up2 M2 k2 i1 (M2 k1 i1) := ⟨_, rfl⟩
    rw [p_X6_copyRow_e8 M k1 k2 M2 i1 n1 M7 hM7.symm, ih1]
    try dsimp only
    rw [hM7, up2_row (by omega)]
theorem fr_X6_copyRow (M : bM) (k1 : Nat) (k2 : Nat) (k : Nat) (hk : k ≠ k2) : f_X6_copyRow M k1 k2 k = M k := by
  obtain ⟨M9, hM9⟩ : ∃ y : bM, y = (lp_X6_copyRow_2 k1 k2 64 0 M) := ⟨_, rfl⟩
  rw [p_X6_copyRow_e10 M k1 k2 M9 hM9.symm]
  try dsimp only
  rw [hM9, fr_lp_X6_copyRow_2 M k1 k2 k hk 64 0 M]
theorem fr_X2_flowTo (M : bM) (w : Nat) (x1 : Int32) (k : Nat) (hk : k < w ∨ w + 4 ≤ k) : f_X2_flowTo M w x1 k = M k := by
  obtain ⟨r1, hr1⟩ : ∃ y : Int32, y = f_X6_fits x1 := ⟨_, rfl⟩
  by_cases c2 : r1 = 0
  · rw [p_X2_flowTo_e3 M w x1 r1 hr1.symm c2]
  · obtain ⟨r4, hr4⟩ : ∃ y : Int32, y = f_X6_fits (M w 3) := ⟨_, rfl⟩
    by_cases c5 : r4 = 0
    · rw [p_X2_flowTo_e6 M w x1 r1 hr1.symm c2 r4 hr4.symm c5]
    · obtain ⟨M7, hM7⟩ : ∃ y : bM, y = up2 M (w + 2) (M w 3).toNatClampNeg x1 := ⟨_, rfl⟩
      obtain ⟨M8, hM8⟩ : ∃ y : bM, y = up2 M7 (w + 3) x1.toNatClampNeg 1 := ⟨_, rfl⟩
      obtain ⟨M9, hM9⟩ : ∃ y : bM, y = up2 M8 w 3 ((M8 w 3) + 1) := ⟨_, rfl⟩
      rw [p_X2_flowTo_e10 M w x1 r1 hr1.symm c2 r4 hr4.symm c5 M7 hM7.symm M8 hM8.symm M9 hM9.symm]
      try dsimp only
      rw [hM9, up2_row (by omega), hM8, up2_row (by omega), hM7, up2_row (by omega)]
theorem fr_X2_pay (M : bM) (w : Nat) (x1 : Int32) (k : Nat) (hk : k < w ∨ w + 4 ≤ k) : f_X2_pay M w x1 k = M k := by
  obtain ⟨M1, hM1⟩ : ∃ y : bM, y = up2 M w 4 ((M w 4) + x1) := ⟨_, rfl⟩
  obtain ⟨M2, hM2⟩ : ∃ y : bM, y = up2 M1 w 7 ((M1 w 7) + x1) := ⟨_, rfl⟩
  rw [p_X2_pay_e3 M w x1 M1 hM1.symm M2 hM2.symm]
  try dsimp only
  rw [hM2, up2_row (by omega), hM1, up2_row (by omega)]
theorem fr_lp_X2_beginAt_2 (M : bM) (w : Nat) (x1 : Int32) (k : Nat) (hk : k < w ∨ w + 4 ≤ k) : ∀ (n1 i1 : Nat) (M2 : bM), (lp_X2_beginAt_2 w n1 i1 M2) k = M2 k := by
  intro n1
  induction n1 with
  | zero =>
    intro i1 M2
    rw [p_X2_beginAt_e4 M w x1 M2 i1 ]
  | succ n1 ih1 =>
    intro i1 M2
    obtain ⟨M6, hM6⟩ : ∃ y : bM, y = up2 M2 (w + 3) i1 0 := ⟨_, rfl⟩
    rw [p_X2_beginAt_e7 M w x1 M2 i1 n1 M6 hM6.symm, ih1]
    try dsimp only
    rw [hM6, up2_row (by omega)]
theorem fr_X2_beginAt (M : bM) (w : Nat) (x1 : Int32) (k : Nat) (hk : k < w ∨ w + 4 ≤ k) : f_X2_beginAt M w x1 k = M k := by
  obtain ⟨M8, hM8⟩ : ∃ y : bM, y = (lp_X2_beginAt_2 w 64 0 M) := ⟨_, rfl⟩
  obtain ⟨M9, hM9⟩ : ∃ y : bM, y = up2 M8 w 3 0 := ⟨_, rfl⟩
  obtain ⟨M10, hM10⟩ : ∃ y : bM, y = up2 M9 w 4 0 := ⟨_, rfl⟩
  obtain ⟨M11, hM11⟩ : ∃ y : bM, y = up2 M10 w 5 0 := ⟨_, rfl⟩
  obtain ⟨M12, hM12⟩ : ∃ y : bM, y = f_X2_flowTo M11 w x1 := ⟨_, rfl⟩
  rw [p_X2_beginAt_e13 M w x1 M8 hM8.symm M9 hM9.symm M10 hM10.symm M11 hM11.symm M12 hM12.symm]
  try dsimp only
  rw [hM12, fr_X2_flowTo M11 w x1 k (by omega), hM11, up2_row (by omega), hM10, up2_row (by omega), hM9, up2_row (by omega), hM8, fr_lp_X2_beginAt_2 M w x1 k hk 64 0 M]
theorem fr_lp_X2_copyFrom_24 (M : bM) (w : Nat) (w1 : Nat) (M1 : bM) (M2 : bM) (k : Nat) (hk : k < w ∨ w + 4 ≤ k) : ∀ (n3 i3 : Nat) (M4 : bM), (lp_X2_copyFrom_24 w w1 n3 i3 M4) k = M4 k := by
  intro n3
  induction n3 with
  | zero =>
    intro i3 M4
    rw [p_X2_copyFrom_e6 M w w1 M1 M2 M4 i3 ]
  | succ n3 ih3 =>
    intro i3 M4
    obtain ⟨M8, hM8⟩ : ∃ y : bM, y = up2 M4 (w + 3) i3 (vp_nar .boolean (M4 (w1 + 3) i3)) := ⟨_, rfl⟩
    rw [p_X2_copyFrom_e9 M w w1 M1 M2 M4 i3 n3 M8 hM8.symm, ih3]
    try dsimp only
    rw [hM8, up2_row (by omega)]
theorem fr_X2_copyFrom (M : bM) (w : Nat) (w1 : Nat) (k : Nat) (hk : k < w ∨ w + 4 ≤ k) : f_X2_copyFrom M w w1 k = M k := by
  obtain ⟨M1, hM1⟩ : ∃ y : bM, y = f_X6_copyRow M (w1 + 1) (w + 1) := ⟨_, rfl⟩
  obtain ⟨M2, hM2⟩ : ∃ y : bM, y = f_X6_copyRow M1 (w1 + 2) (w + 2) := ⟨_, rfl⟩
  obtain ⟨M10, hM10⟩ : ∃ y : bM, y = (lp_X2_copyFrom_24 w w1 64 0 M2) := ⟨_, rfl⟩
  obtain ⟨M11, hM11⟩ : ∃ y : bM, y = up2 M10 w 3 (M10 w1 3) := ⟨_, rfl⟩
  obtain ⟨M12, hM12⟩ : ∃ y : bM, y = up2 M11 w 4 (M11 w1 4) := ⟨_, rfl⟩
  obtain ⟨M13, hM13⟩ : ∃ y : bM, y = up2 M12 w 5 (M12 w1 5) := ⟨_, rfl⟩
  obtain ⟨M14, hM14⟩ : ∃ y : bM, y = up2 M13 w 6 (M13 w1 6) := ⟨_, rfl⟩
  obtain ⟨M15, hM15⟩ : ∃ y : bM, y = up2 M14 w 7 (M14 w1 7) := ⟨_, rfl⟩
  rw [p_X2_copyFrom_e16 M w w1 M1 hM1.symm M2 hM2.symm M10 hM10.symm M11 hM11.symm M12 hM12.symm M13 hM13.symm M14 hM14.symm M15 hM15.symm]
  try dsimp only
  rw [hM15, up2_row (by omega), hM14, up2_row (by omega), hM13, up2_row (by omega), hM12, up2_row (by omega), hM11, up2_row (by omega), hM10, fr_lp_X2_copyFrom_24 M w w1 M1 M2 k hk 64 0 M2, hM2, fr_X6_copyRow M1 (w1 + 2) (w + 2) k (by omega), hM1, fr_X6_copyRow M (w1 + 1) (w + 1) k (by omega)]
theorem fr_lp_J7_fill_53178_5 (M : bM) (k1 : Nat) (x2 : Int32) (k : Nat) (hk : k ≠ k1) : ∀ (n1 i1 : Nat) (M2 : bM), (lp_J7_fill_53178_5 k1 x2 n1 i1 M2) k = M2 k := by
  intro n1
  induction n1 with
  | zero =>
    intro i1 M2
    rw [p_J7_fill_53178_e4 M k1 x2 M2 i1 ]
  | succ n1 ih1 =>
    intro i1 M2
    obtain ⟨M6, hM6⟩ : ∃ y : bM, y = up2 M2 k1 i1 x2 := ⟨_, rfl⟩
    rw [p_J7_fill_53178_e7 M k1 x2 M2 i1 n1 M6 hM6.symm, ih1]
    try dsimp only
    rw [hM6, up2_row (by omega)]
theorem fr_J7_fill_53178 (M : bM) (k1 : Nat) (x2 : Int32) (k : Nat) (hk : k ≠ k1) : f_J7_fill_53178 M k1 x2 k = M k := by
  obtain ⟨M8, hM8⟩ : ∃ y : bM, y = (lp_J7_fill_53178_5 k1 x2 64 0 M) := ⟨_, rfl⟩
  rw [p_J7_fill_53178_e9 M k1 x2 M8 hM8.symm]
  try dsimp only
  rw [hM8, fr_lp_J7_fill_53178_5 M k1 x2 k hk 64 0 M]
theorem sideOf_rng {M : bM} {g : Nat} {x : Int32} : g + 1 ≤ f_X0_sideOf M g x ∧ f_X0_sideOf M g x + 4 ≤ g + 9 := by
  rw [u_f_X0_sideOf]
  by_cases c : x = 0
  · rw [if_pos c]; omega
  · rw [if_neg c]; omega
theorem fr_lp_X0_layField_5 (M : bM) (g : Nat) (x1 : Int64) (k : Nat) (hk : k < g ∨ g + 10 ≤ k) : ∀ (n1 i1 : Nat) (x2 : Int64) (M3 : bM), (lp_X0_layField_5 g n1 i1 x2 M3).2 k = M3 k := by
  intro n1
  induction n1 with
  | zero =>
    intro i1 x2 M3
    rw [p_X0_layField_e5 M g x1 x2 M3 i1 ]
  | succ n1 ih1 =>
    intro i1 x2 M3
    obtain ⟨r7, hr7⟩ : ∃ y : Int64, y = f_X6_nextNumber x2 := ⟨_, rfl⟩
    obtain ⟨r8, hr8⟩ : ∃ y : Int32, y = f_X6_drawnFrom r7 := ⟨_, rfl⟩
    obtain ⟨M9, hM9⟩ : ∃ y : bM, y = up2 M3 (g + 2) i1 (r8 - r8 / 10 * 10) := ⟨_, rfl⟩
    obtain ⟨M10, hM10⟩ : ∃ y : bM, y = up2 M9 (g + 6) i1 ((r8 / 10) - (r8 / 10) / 10 * 10) := ⟨_, rfl⟩
    rw [p_X0_layField_e11 M g x1 x2 M3 i1 n1 r7 hr7.symm r8 hr8.symm M9 hM9.symm M10 hM10.symm, ih1]
    try dsimp only
    rw [hM10, up2_row (by omega), hM9, up2_row (by omega)]
theorem fr_X0_layField (M : bM) (g : Nat) (x1 : Int64) (k : Nat) (hk : k < g ∨ g + 10 ≤ k) : f_X0_layField M g x1 k = M k := by
  obtain ⟨x12, hx12⟩ : ∃ y : Int64, y = (lp_X0_layField_5 g 64 0 x1 M).1 := ⟨_, rfl⟩
  obtain ⟨M13, hM13⟩ : ∃ y : bM, y = (lp_X0_layField_5 g 64 0 x1 M).2 := ⟨_, rfl⟩
  rw [p_X0_layField_e14 M g x1 x12 hx12.symm M13 hM13.symm]
  try dsimp only
  rw [hM13, fr_lp_X0_layField_5 M g x1 k hk 64 0 x1 M]
theorem fr_X0_beginGame (M : bM) (g : Nat) (x1 : Int64) (k : Nat) (hk : k < g ∨ g + 10 ≤ k) : f_X0_beginGame M g x1 k = M k := by
  obtain ⟨M1, hM1⟩ : ∃ y : bM, y = f_X0_layField M g x1 := ⟨_, rfl⟩
  obtain ⟨M2, hM2⟩ : ∃ y : bM, y = f_J7_fill_53178 M1 (g + 9) (-1) := ⟨_, rfl⟩
  obtain ⟨M3, hM3⟩ : ∃ y : bM, y = f_X2_beginAt M2 (g + 1) 1 := ⟨_, rfl⟩
  obtain ⟨M4, hM4⟩ : ∃ y : bM, y = f_X2_beginAt M3 (g + 5) 6 := ⟨_, rfl⟩
  obtain ⟨M5, hM5⟩ : ∃ y : bM, y = up2 M4 g 5 ((M4 g 5) + 1) := ⟨_, rfl⟩
  obtain ⟨M6, hM6⟩ : ∃ y : bM, y = up2 M5 g 6 0 := ⟨_, rfl⟩
  obtain ⟨M7, hM7⟩ : ∃ y : bM, y = up2 M6 g 7 0 := ⟨_, rfl⟩
  obtain ⟨M8, hM8⟩ : ∃ y : bM, y = up2 M7 g 8 (-1) := ⟨_, rfl⟩
  obtain ⟨M9, hM9⟩ : ∃ y : bM, y = up2 M8 g 9 (-1) := ⟨_, rfl⟩
  rw [p_X0_beginGame_e10 M g x1 M1 hM1.symm M2 hM2.symm M3 hM3.symm M4 hM4.symm M5 hM5.symm M6 hM6.symm M7 hM7.symm M8 hM8.symm M9 hM9.symm]
  try dsimp only
  rw [hM9, up2_row (by omega), hM8, up2_row (by omega), hM7, up2_row (by omega), hM6, up2_row (by omega), hM5, up2_row (by omega), hM4, fr_X2_beginAt M3 (g + 5) 6 k (by omega), hM3, fr_X2_beginAt M2 (g + 1) 1 k (by omega), hM2, fr_J7_fill_53178 M1 (g + 9) (-1) k (by omega), hM1, fr_X0_layField M g x1 k (by omega)]
theorem fr_X0_startAnew (M : bM) (g : Nat) (k : Nat) (hk : k < g ∨ g + 10 ≤ k) : f_X0_startAnew M g k = M k := by
  obtain ⟨M1, hM1⟩ : ∃ y : bM, y = up2 M g 3 20 := ⟨_, rfl⟩
  obtain ⟨M2, hM2⟩ : ∃ y : bM, y = up2 M1 g 4 3 := ⟨_, rfl⟩
  obtain ⟨M3, hM3⟩ : ∃ y : bM, y = up2 M2 g 5 0 := ⟨_, rfl⟩
  obtain ⟨M4, hM4⟩ : ∃ y : bM, y = up2 M3 g 10 0 := ⟨_, rfl⟩
  obtain ⟨M5, hM5⟩ : ∃ y : bM, y = up2 M4 g 11 0 := ⟨_, rfl⟩
  obtain ⟨M6, hM6⟩ : ∃ y : bM, y = up2 M5 (g + 1) 6 0 := ⟨_, rfl⟩
  obtain ⟨M7, hM7⟩ : ∃ y : bM, y = up2 M6 (g + 1) 7 0 := ⟨_, rfl⟩
  obtain ⟨M8, hM8⟩ : ∃ y : bM, y = up2 M7 (g + 5) 6 0 := ⟨_, rfl⟩
  obtain ⟨M9, hM9⟩ : ∃ y : bM, y = up2 M8 (g + 5) 7 0 := ⟨_, rfl⟩
  obtain ⟨M10, hM10⟩ : ∃ y : bM, y = f_X0_beginGame M9 g 0 := ⟨_, rfl⟩
  rw [p_X0_startAnew_e11 M g M1 hM1.symm M2 hM2.symm M3 hM3.symm M4 hM4.symm M5 hM5.symm M6 hM6.symm M7 hM7.symm M8 hM8.symm M9 hM9.symm M10 hM10.symm]
  try dsimp only
  rw [hM10, fr_X0_beginGame M9 g 0 k (by omega), hM9, up2_row (by omega), hM8, up2_row (by omega), hM7, up2_row (by omega), hM6, up2_row (by omega), hM5, up2_row (by omega), hM4, up2_row (by omega), hM3, up2_row (by omega), hM2, up2_row (by omega), hM1, up2_row (by omega)]
theorem fr_X0_changeSetting (M : bM) (g : Nat) (x1 : Int32) (x2 : Int32) (k : Nat) (hk : k < g ∨ g + 10 ≤ k) : (f_X0_changeSetting M g x1 x2).2 k = M k := by
  obtain ⟨r1, hr1⟩ : ∃ y : Int32, y = f_X0_settingOf M g x1 := ⟨_, rfl⟩
  by_cases c2 : x1 = 0
  · obtain ⟨M5, hM5⟩ : ∃ y : bM, y = up2 M g 3 x2 := ⟨_, rfl⟩
    rw [p_X0_changeSetting_e6 M g x1 x2 r1 hr1.symm c2 M5 hM5.symm]
    try dsimp only
    rw [hM5, up2_row (by omega)]
  · obtain ⟨M3, hM3⟩ : ∃ y : bM, y = up2 M g 4 x2 := ⟨_, rfl⟩
    rw [p_X0_changeSetting_e4 M g x1 x2 r1 hr1.symm c2 M3 hM3.symm]
    try dsimp only
    rw [hM3, up2_row (by omega)]
theorem fr_lp_X0_endTurn_22 (M : bM) (g : Nat) (M1 : bM) (M2 : bM) (k : Nat) (hk : k < g ∨ g + 10 ≤ k) : ∀ (n3 i3 : Nat) (M4 : bM), (lp_X0_endTurn_22 g n3 i3 M4) k = M4 k := by
  intro n3
  induction n3 with
  | zero =>
    intro i3 M4
    rw [p_X0_endTurn_e6 M g M1 M2 M4 i3 ]
  | succ n3 ih3 =>
    intro i3 M4
    by_cases c8 : (M4 (g + 9) i3) = (-1)
    · rw [p_X0_endTurn_e9 M g M1 M2 M4 i3 n3 c8, ih3]
    · obtain ⟨M10, hM10⟩ : ∃ y : bM, y = up2 M4 (g + 9) i3 ((M4 (g + 9) i3) + 1) := ⟨_, rfl⟩
      by_cases c11 : (M10 (g + 9) i3) < (M10 g 3)
      · rw [p_X0_endTurn_e12 M g M1 M2 M4 i3 n3 c8 M10 hM10.symm c11, ih3]
        try dsimp only
        rw [hM10, up2_row (by omega)]
      · obtain ⟨M13, hM13⟩ : ∃ y : bM, y = up2 M10 (g + 9) i3 (-1) := ⟨_, rfl⟩
        rw [p_X0_endTurn_e14 M g M1 M2 M4 i3 n3 c8 M10 hM10.symm c11 M13 hM13.symm, ih3]
        try dsimp only
        rw [hM13, up2_row (by omega), hM10, up2_row (by omega)]
theorem fr_X0_endTurn (M : bM) (g : Nat) (k : Nat) (hk : k < g ∨ g + 10 ≤ k) : f_X0_endTurn M g k = M k := by
  obtain ⟨M1, hM1⟩ : ∃ y : bM, y = up2 M g 6 ((M g 6) + 1) := ⟨_, rfl⟩
  obtain ⟨M2, hM2⟩ : ∃ y : bM, y = up2 M1 g 7 ((1 : Int32) - (M1 g 7)) := ⟨_, rfl⟩
  obtain ⟨M15, hM15⟩ : ∃ y : bM, y = (lp_X0_endTurn_22 g 64 0 M2) := ⟨_, rfl⟩
  rw [p_X0_endTurn_e16 M g M1 hM1.symm M2 hM2.symm M15 hM15.symm]
  try dsimp only
  rw [hM15, fr_lp_X0_endTurn_22 M g M1 M2 k hk 64 0 M2, hM2, up2_row (by omega), hM1, up2_row (by omega)]
theorem fr_X0_meetAt (M : bM) (g : Nat) (x1 : Int32) (k : Nat) (hk : k < g ∨ g + 10 ≤ k) : f_X0_meetAt M g x1 k = M k := by
  obtain ⟨M1, hM1⟩ : ∃ y : bM, y = up2 M g 8 x1 := ⟨_, rfl⟩
  obtain ⟨r2, hr2⟩ : ∃ y : Int32, y = f_X2_costOf M1 (g + 1) x1 := ⟨_, rfl⟩
  obtain ⟨M3, hM3⟩ : ∃ y : bM, y = f_X2_pay M1 (g + 1) ((M1 g 4) * r2) := ⟨_, rfl⟩
  obtain ⟨r4, hr4⟩ : ∃ y : Int32, y = f_X2_costOf M3 (g + 5) x1 := ⟨_, rfl⟩
  obtain ⟨M5, hM5⟩ : ∃ y : bM, y = f_X2_pay M3 (g + 5) ((M3 g 4) * r4) := ⟨_, rfl⟩
  by_cases c6 : (M5 (g + 5) 4) ≤ (M5 (g + 1) 4)
  · by_cases c7 : (M5 (g + 1) 4) ≤ (M5 (g + 5) 4)
    · rw [p_X0_meetAt_e8 M g x1 M1 hM1.symm r2 hr2.symm M3 hM3.symm r4 hr4.symm M5 hM5.symm c6 c7]
      try dsimp only
      rw [hM5, fr_X2_pay M3 (g + 5) ((M3 g 4) * r4) k (by omega), hM3, fr_X2_pay M1 (g + 1) ((M1 g 4) * r2) k (by omega), hM1, up2_row (by omega)]
    · obtain ⟨M9, hM9⟩ : ∃ y : bM, y = up2 M5 g 9 1 := ⟨_, rfl⟩
      obtain ⟨M10, hM10⟩ : ∃ y : bM, y = up2 M9 (g + 5) 6 ((M9 (g + 5) 6) + 1) := ⟨_, rfl⟩
      rw [p_X0_meetAt_e11 M g x1 M1 hM1.symm r2 hr2.symm M3 hM3.symm r4 hr4.symm M5 hM5.symm c6 c7 M9 hM9.symm M10 hM10.symm]
      try dsimp only
      rw [hM10, up2_row (by omega), hM9, up2_row (by omega), hM5, fr_X2_pay M3 (g + 5) ((M3 g 4) * r4) k (by omega), hM3, fr_X2_pay M1 (g + 1) ((M1 g 4) * r2) k (by omega), hM1, up2_row (by omega)]
  · obtain ⟨M12, hM12⟩ : ∃ y : bM, y = up2 M5 g 9 0 := ⟨_, rfl⟩
    obtain ⟨M13, hM13⟩ : ∃ y : bM, y = up2 M12 (g + 1) 6 ((M12 (g + 1) 6) + 1) := ⟨_, rfl⟩
    rw [p_X0_meetAt_e14 M g x1 M1 hM1.symm r2 hr2.symm M3 hM3.symm r4 hr4.symm M5 hM5.symm c6 M12 hM12.symm M13 hM13.symm]
    try dsimp only
    rw [hM13, up2_row (by omega), hM12, up2_row (by omega), hM5, fr_X2_pay M3 (g + 5) ((M3 g 4) * r4) k (by omega), hM3, fr_X2_pay M1 (g + 1) ((M1 g 4) * r2) k (by omega), hM1, up2_row (by omega)]
theorem fr_X0_makeStep (M : bM) (g : Nat) (x1 : Int32) (k : Nat) (hk : k < g ∨ g + 10 ≤ k) : f_X0_makeStep M g x1 k = M k := by
  obtain ⟨k2, hk2⟩ : ∃ y : Nat, y = f_X0_sideOf M g (M g 7) := ⟨_, rfl⟩
  have hqk2 : g + 1 ≤ k2 ∧ k2 + 4 ≤ g + 9 := by rw [hk2]; exact sideOf_rng
  obtain ⟨r3, hr3⟩ : ∃ y : Int32, y = f_X2_head M k2 := ⟨_, rfl⟩
  obtain ⟨r4, hr4⟩ : ∃ y : Int32, y = f_X6_cellBeside r3 x1 := ⟨_, rfl⟩
  obtain ⟨M5, hM5⟩ : ∃ y : bM, y = f_X2_flowTo M k2 r4 := ⟨_, rfl⟩
  obtain ⟨k7, hk7⟩ : ∃ y : Nat, y = f_X0_sideOf M5 g ((1 : Int32) - (M5 g 7)) := ⟨_, rfl⟩
  have hqk7 : g + 1 ≤ k7 ∧ k7 + 4 ≤ g + 9 := by rw [hk7]; exact sideOf_rng
  obtain ⟨r8, hr8⟩ : ∃ y : Int32, y = f_X2_holds M5 k7 r4 := ⟨_, rfl⟩
  by_cases c9 : r8 = 0
  · obtain ⟨r10, hr10⟩ : ∃ y : Int32, y = f_X2_costOf M5 k2 r4 := ⟨_, rfl⟩
    obtain ⟨M11, hM11⟩ : ∃ y : bM, y = f_X2_pay M5 k2 r10 := ⟨_, rfl⟩
    obtain ⟨M12, hM12⟩ : ∃ y : bM, y = f_X0_endTurn M11 g := ⟨_, rfl⟩
    rw [p_X0_makeStep_e13 M g x1 k2 hk2.symm r3 hr3.symm r4 hr4.symm M5 hM5.symm k7 hk7.symm r8 hr8.symm c9 r10 hr10.symm M11 hM11.symm M12 hM12.symm]
    try dsimp only
    rw [hM12, fr_X0_endTurn M11 g k (by omega), hM11, fr_X2_pay M5 k2 r10 k (by omega), hM5, fr_X2_flowTo M k2 r4 k (by omega)]
  · obtain ⟨M14, hM14⟩ : ∃ y : bM, y = f_X0_meetAt M5 g r4 := ⟨_, rfl⟩
    obtain ⟨M15, hM15⟩ : ∃ y : bM, y = f_X0_endTurn M14 g := ⟨_, rfl⟩
    rw [p_X0_makeStep_e16 M g x1 k2 hk2.symm r3 hr3.symm r4 hr4.symm M5 hM5.symm k7 hk7.symm r8 hr8.symm c9 M14 hM14.symm M15 hM15.symm]
    try dsimp only
    rw [hM15, fr_X0_endTurn M14 g k (by omega), hM14, fr_X0_meetAt M5 g r4 k (by omega), hM5, fr_X2_flowTo M k2 r4 k (by omega)]
theorem fr_X0_tryStep (M : bM) (g : Nat) (x1 : Int32) (k : Nat) (hk : k < g ∨ g + 10 ≤ k) : (f_X0_tryStep M g x1).2 k = M k := by
  obtain ⟨r1, hr1⟩ : ∃ y : Int32, y = f_X0_reasonAgainstStep M g x1 := ⟨_, rfl⟩
  by_cases c2 : r1 = 0
  · obtain ⟨M5, hM5⟩ : ∃ y : bM, y = f_X0_makeStep M g x1 := ⟨_, rfl⟩
    rw [p_X0_tryStep_e6 M g x1 r1 hr1.symm c2 M5 hM5.symm]
    try dsimp only
    rw [hM5, fr_X0_makeStep M g x1 k (by omega)]
  · obtain ⟨M3, hM3⟩ : ∃ y : bM, y = up2 M g 10 ((M g 10) + 1) := ⟨_, rfl⟩
    rw [p_X0_tryStep_e4 M g x1 r1 hr1.symm c2 M3 hM3.symm]
    try dsimp only
    rw [hM3, up2_row (by omega)]
