theorem fr_X0_buildDam (M : bM) (g : Nat) (x1 : Int32) (k : Nat) (hk : k < g ∨ g + 10 ≤ k) : f_X0_buildDam M g x1 k = M k := by
  obtain ⟨r1, hr1⟩ : ∃ y : Int32, y = f_X6_fits x1 := ⟨_, rfl⟩
  by_cases c2 : r1 = 0
  · obtain ⟨k4, hk4⟩ : ∃ y : Nat, y = f_X0_sideOf M g (M g 7) := ⟨_, rfl⟩
    have hqk4 : g + 1 ≤ k4 ∧ k4 + 4 ≤ g + 9 := by rw [hk4]; exact sideOf_rng
    obtain ⟨M5, hM5⟩ : ∃ y : bM, y = up2 M k4 5 ((M k4 5) + 1) := ⟨_, rfl⟩
    obtain ⟨M6, hM6⟩ : ∃ y : bM, y = f_X0_endTurn M5 g := ⟨_, rfl⟩
    rw [p_X0_buildDam_e7 M g x1 r1 hr1.symm c2 k4 hk4.symm M5 hM5.symm M6 hM6.symm]
    try dsimp only
    rw [hM6, fr_X0_endTurn M5 g k (by omega), hM5, up2_row (by omega)]
  · obtain ⟨M8, hM8⟩ : ∃ y : bM, y = up2 M (g + 9) x1.toNatClampNeg 0 := ⟨_, rfl⟩
    obtain ⟨k10, hk10⟩ : ∃ y : Nat, y = f_X0_sideOf M8 g (M8 g 7) := ⟨_, rfl⟩
    have hqk10 : g + 1 ≤ k10 ∧ k10 + 4 ≤ g + 9 := by rw [hk10]; exact sideOf_rng
    obtain ⟨M11, hM11⟩ : ∃ y : bM, y = up2 M8 k10 5 ((M8 k10 5) + 1) := ⟨_, rfl⟩
    obtain ⟨M12, hM12⟩ : ∃ y : bM, y = f_X0_endTurn M11 g := ⟨_, rfl⟩
    rw [p_X0_buildDam_e13 M g x1 r1 hr1.symm c2 M8 hM8.symm k10 hk10.symm M11 hM11.symm M12 hM12.symm]
    try dsimp only
    rw [hM12, fr_X0_endTurn M11 g k (by omega), hM11, up2_row (by omega), hM8, up2_row (by omega)]
theorem fr_lp_X0_washAway_13 (M : bM) (g : Nat) (k2 : Nat) (k : Nat) (hk : k < g ∨ g + 10 ≤ k) (hqk2 : g + 1 ≤ k2 ∧ k2 + 4 ≤ g + 9) : ∀ (n3 i3 : Nat) (x4 : Int32) (M5 : bM), (lp_X0_washAway_13 g k2 n3 i3 x4 M5).2 k = M5 k := by
  intro n3
  induction n3 with
  | zero =>
    intro i3 x4 M5
    rw [p_X0_washAway_e7 M g k2 x4 M5 i3 ]
  | succ n3 ih3 =>
    intro i3 x4 M5
    obtain ⟨r9, hr9⟩ : ∃ y : Int32, y = f_X2_head M5 k2 := ⟨_, rfl⟩
    obtain ⟨r10, hr10⟩ : ∃ y : Int32, y = f_X6_cellBeside r9 (nI i3) := ⟨_, rfl⟩
    obtain ⟨r11, hr11⟩ : ∃ y : Int32, y = f_X6_fits r10 := ⟨_, rfl⟩
    by_cases c12 : r11 = 0
    · rw [p_X0_washAway_e13 M g k2 x4 M5 i3 n3 r9 hr9.symm r10 hr10.symm r11 hr11.symm c12, ih3]
    · by_cases c14 : (M5 (g + 9) r10.toNatClampNeg) = (-1)
      · rw [p_X0_washAway_e15 M g k2 x4 M5 i3 n3 r9 hr9.symm r10 hr10.symm r11 hr11.symm c12 c14, ih3]
      · obtain ⟨M16, hM16⟩ : ∃ y : bM, y = up2 M5 (g + 9) r10.toNatClampNeg (-1) := ⟨_, rfl⟩
        obtain ⟨x17, hx17⟩ : ∃ y : Int32, y = x4 + 1 := ⟨_, rfl⟩
        rw [p_X0_washAway_e18 M g k2 x4 M5 i3 n3 r9 hr9.symm r10 hr10.symm r11 hr11.symm c12 c14 M16 hM16.symm x17 hx17.symm, ih3]
        try dsimp only
        rw [hM16, up2_row (by omega)]
theorem fr_X0_washAway (M : bM) (g : Nat) (k : Nat) (hk : k < g ∨ g + 10 ≤ k) : (f_X0_washAway M g).2 k = M k := by
  obtain ⟨k2, hk2⟩ : ∃ y : Nat, y = f_X0_sideOf M g (M g 7) := ⟨_, rfl⟩
  have hqk2 : g + 1 ≤ k2 ∧ k2 + 4 ≤ g + 9 := by rw [hk2]; exact sideOf_rng
  obtain ⟨x19, hx19⟩ : ∃ y : Int32, y = (lp_X0_washAway_13 g k2 3 0 0 M).1 := ⟨_, rfl⟩
  obtain ⟨M20, hM20⟩ : ∃ y : bM, y = (lp_X0_washAway_13 g k2 3 0 0 M).2 := ⟨_, rfl⟩
  obtain ⟨M21, hM21⟩ : ∃ y : bM, y = f_X2_pay M20 k2 5 := ⟨_, rfl⟩
  obtain ⟨M22, hM22⟩ : ∃ y : bM, y = up2 M21 g 11 ((M21 g 11) + 1) := ⟨_, rfl⟩
  obtain ⟨M23, hM23⟩ : ∃ y : bM, y = f_X0_endTurn M22 g := ⟨_, rfl⟩
  rw [p_X0_washAway_e24 M g k2 hk2.symm x19 hx19.symm M20 hM20.symm M21 hM21.symm M22 hM22.symm M23 hM23.symm]
  try dsimp only
  rw [hM23, fr_X0_endTurn M22 g k (by omega), hM22, up2_row (by omega), hM21, fr_X2_pay M20 k2 5 k (by omega), hM20, fr_lp_X0_washAway_13 M g k2 k hk hqk2 3 0 0 M]
theorem fr_X0_copyFrom (M : bM) (g : Nat) (g1 : Nat) (k : Nat) (hk : k < g ∨ g + 10 ≤ k) : f_X0_copyFrom M g g1 k = M k := by
  obtain ⟨M1, hM1⟩ : ∃ y : bM, y = f_X2_copyFrom M (g + 1) (g1 + 1) := ⟨_, rfl⟩
  obtain ⟨M2, hM2⟩ : ∃ y : bM, y = f_X2_copyFrom M1 (g + 5) (g1 + 5) := ⟨_, rfl⟩
  obtain ⟨M3, hM3⟩ : ∃ y : bM, y = f_X6_copyRow M2 (g1 + 9) (g + 9) := ⟨_, rfl⟩
  obtain ⟨M4, hM4⟩ : ∃ y : bM, y = up2 M3 g 3 (M3 g1 3) := ⟨_, rfl⟩
  obtain ⟨M5, hM5⟩ : ∃ y : bM, y = up2 M4 g 4 (M4 g1 4) := ⟨_, rfl⟩
  obtain ⟨M6, hM6⟩ : ∃ y : bM, y = up2 M5 g 5 (M5 g1 5) := ⟨_, rfl⟩
  obtain ⟨M7, hM7⟩ : ∃ y : bM, y = up2 M6 g 6 (M6 g1 6) := ⟨_, rfl⟩
  obtain ⟨M8, hM8⟩ : ∃ y : bM, y = up2 M7 g 7 (M7 g1 7) := ⟨_, rfl⟩
  obtain ⟨M9, hM9⟩ : ∃ y : bM, y = up2 M8 g 8 (M8 g1 8) := ⟨_, rfl⟩
  obtain ⟨M10, hM10⟩ : ∃ y : bM, y = up2 M9 g 9 (M9 g1 9) := ⟨_, rfl⟩
  obtain ⟨M11, hM11⟩ : ∃ y : bM, y = up2 M10 g 10 (M10 g1 10) := ⟨_, rfl⟩
  obtain ⟨M12, hM12⟩ : ∃ y : bM, y = up2 M11 g 11 (M11 g1 11) := ⟨_, rfl⟩
  rw [p_X0_copyFrom_e13 M g g1 M1 hM1.symm M2 hM2.symm M3 hM3.symm M4 hM4.symm M5 hM5.symm M6 hM6.symm M7 hM7.symm M8 hM8.symm M9 hM9.symm M10 hM10.symm M11 hM11.symm M12 hM12.symm]
  try dsimp only
  rw [hM12, up2_row (by omega), hM11, up2_row (by omega), hM10, up2_row (by omega), hM9, up2_row (by omega), hM8, up2_row (by omega), hM7, up2_row (by omega), hM6, up2_row (by omega), hM5, up2_row (by omega), hM4, up2_row (by omega), hM3, fr_X6_copyRow M2 (g1 + 9) (g + 9) k (by omega), hM2, fr_X2_copyFrom M1 (g + 5) (g1 + 5) k (by omega), hM1, fr_X2_copyFrom M (g + 1) (g1 + 1) k (by omega)]
theorem fr_lp_X5_openFree_2 (M : bM) (g1 : Nat) (k : Nat) (hu : k < 23 ∨ 30 ≤ k ∨ k = 24) : ∀ (n1 i1 : Nat) (M2 : bM), (lp_X5_openFree_2 g1 n1 i1 M2) k = M2 k := by
  intro n1
  induction n1 with
  | zero =>
    intro i1 M2
    rw [p_X5_openFree_e4 M g1 M2 i1 ]
  | succ n1 ih1 =>
    intro i1 M2
    by_cases c6 : (M2 (g1 + 9) i1) = (-1)
    · by_cases c9 : (M2 (g1 + 4) i1) = 0
      · by_cases c12 : (M2 (g1 + 8) i1) = 0
        · obtain ⟨M15, hM15⟩ : ∃ y : bM, y = up2 M2 25 i1 1 := ⟨_, rfl⟩
          rw [p_X5_openFree_e16 M g1 M2 i1 n1 c6 c9 c12 M15 hM15.symm, ih1]
          try dsimp only
          rw [hM15, up2_row (by omega)]
        · obtain ⟨M13, hM13⟩ : ∃ y : bM, y = up2 M2 25 i1 0 := ⟨_, rfl⟩
          rw [p_X5_openFree_e14 M g1 M2 i1 n1 c6 c9 c12 M13 hM13.symm, ih1]
          try dsimp only
          rw [hM13, up2_row (by omega)]
      · obtain ⟨M10, hM10⟩ : ∃ y : bM, y = up2 M2 25 i1 0 := ⟨_, rfl⟩
        rw [p_X5_openFree_e11 M g1 M2 i1 n1 c6 c9 M10 hM10.symm, ih1]
        try dsimp only
        rw [hM10, up2_row (by omega)]
    · obtain ⟨M7, hM7⟩ : ∃ y : bM, y = up2 M2 25 i1 0 := ⟨_, rfl⟩
      rw [p_X5_openFree_e8 M g1 M2 i1 n1 c6 M7 hM7.symm, ih1]
      try dsimp only
      rw [hM7, up2_row (by omega)]
theorem fr_X5_openFree (M : bM) (g1 : Nat) (k : Nat) (hu : k < 23 ∨ 30 ≤ k ∨ k = 24) : f_X5_openFree M g1 k = M k := by
  obtain ⟨M17, hM17⟩ : ∃ y : bM, y = (lp_X5_openFree_2 g1 64 0 M) := ⟨_, rfl⟩
  rw [p_X5_openFree_e18 M g1 M17 hM17.symm]
  try dsimp only
  rw [hM17, fr_lp_X5_openFree_2 M g1 k hu 64 0 M]
theorem fr_lp_X5_openBesides_2 (M : bM) (g1 : Nat) (w2 : Nat) (k : Nat) (hu : k < 23 ∨ 30 ≤ k ∨ k = 24) : ∀ (n1 i1 : Nat) (M2 : bM), (lp_X5_openBesides_2 g1 w2 n1 i1 M2) k = M2 k := by
  intro n1
  induction n1 with
  | zero =>
    intro i1 M2
    rw [p_X5_openBesides_e4 M g1 w2 M2 i1 ]
  | succ n1 ih1 =>
    intro i1 M2
    by_cases c6 : (M2 (g1 + 9) i1) = (-1)
    · by_cases c9 : (M2 (w2 + 3) i1) = 0
      · obtain ⟨M12, hM12⟩ : ∃ y : bM, y = up2 M2 25 i1 1 := ⟨_, rfl⟩
        rw [p_X5_openBesides_e13 M g1 w2 M2 i1 n1 c6 c9 M12 hM12.symm, ih1]
        try dsimp only
        rw [hM12, up2_row (by omega)]
      · obtain ⟨M10, hM10⟩ : ∃ y : bM, y = up2 M2 25 i1 0 := ⟨_, rfl⟩
        rw [p_X5_openBesides_e11 M g1 w2 M2 i1 n1 c6 c9 M10 hM10.symm, ih1]
        try dsimp only
        rw [hM10, up2_row (by omega)]
    · obtain ⟨M7, hM7⟩ : ∃ y : bM, y = up2 M2 25 i1 0 := ⟨_, rfl⟩
      rw [p_X5_openBesides_e8 M g1 w2 M2 i1 n1 c6 M7 hM7.symm, ih1]
      try dsimp only
      rw [hM7, up2_row (by omega)]
theorem fr_X5_openBesides (M : bM) (g1 : Nat) (w2 : Nat) (k : Nat) (hu : k < 23 ∨ 30 ≤ k ∨ k = 24) : f_X5_openBesides M g1 w2 k = M k := by
  obtain ⟨M14, hM14⟩ : ∃ y : bM, y = (lp_X5_openBesides_2 g1 w2 64 0 M) := ⟨_, rfl⟩
  rw [p_X5_openBesides_e15 M g1 w2 M14 hM14.symm]
  try dsimp only
  rw [hM14, fr_lp_X5_openBesides_2 M g1 w2 k hu 64 0 M]
theorem fr_lp_X5_beginFrom_2 (M : bM) (x1 : Int32) (k : Nat) (hu : k < 23 ∨ 30 ≤ k ∨ k = 24) : ∀ (n1 i1 : Nat) (M2 : bM), (lp_X5_beginFrom_2 x1 n1 i1 M2) k = M2 k := by
  intro n1
  induction n1 with
  | zero =>
    intro i1 M2
    rw [p_X5_beginFrom_e4 M x1 M2 i1 ]
  | succ n1 ih1 =>
    intro i1 M2
    by_cases c6 : nI i1 = x1
    · obtain ⟨M10, hM10⟩ : ∃ y : bM, y = up2 M2 26 i1 0 := ⟨_, rfl⟩
      obtain ⟨M11, hM11⟩ : ∃ y : bM, y = up2 M10 29 i1 0 := ⟨_, rfl⟩
      rw [p_X5_beginFrom_e12 M x1 M2 i1 n1 c6 M10 hM10.symm M11 hM11.symm, ih1]
      try dsimp only
      rw [hM11, up2_row (by omega), hM10, up2_row (by omega)]
    · obtain ⟨M7, hM7⟩ : ∃ y : bM, y = up2 M2 26 i1 (-1) := ⟨_, rfl⟩
      obtain ⟨M8, hM8⟩ : ∃ y : bM, y = up2 M7 29 i1 0 := ⟨_, rfl⟩
      rw [p_X5_beginFrom_e9 M x1 M2 i1 n1 c6 M7 hM7.symm M8 hM8.symm, ih1]
      try dsimp only
      rw [hM8, up2_row (by omega), hM7, up2_row (by omega)]
theorem fr_X5_beginFrom (M : bM) (x1 : Int32) (k : Nat) (hu : k < 23 ∨ 30 ≤ k ∨ k = 24) : f_X5_beginFrom M x1 k = M k := by
  obtain ⟨M13, hM13⟩ : ∃ y : bM, y = (lp_X5_beginFrom_2 x1 64 0 M) := ⟨_, rfl⟩
  rw [p_X5_beginFrom_e14 M x1 M13 hM13.symm]
  try dsimp only
  rw [hM13, fr_lp_X5_beginFrom_2 M x1 k hu 64 0 M]
theorem fr_lp_X5_spreadFrom_38 (M : bM) (x1 : Int32) (M1 : bM) (M2 : bM) (x4 : Int32) (M5 : bM) (i3 : Nat) (x13 : Int32) (k : Nat) (hu : k < 23 ∨ 30 ≤ k ∨ k = 24) : ∀ (n14 i14 : Nat) (x15 : Int32) (M16 : bM), (lp_X5_spreadFrom_38 x13 n14 i14 x15 M16).2 k = M16 k := by
  intro n14
  induction n14 with
  | zero =>
    intro i14 x15 M16
    obtain ⟨r17, hr17⟩ : ∃ y : Int32, y = f_X6_fits x13 := ⟨_, rfl⟩
    by_cases c18 : r17 = 0
    · rw [p_X5_spreadFrom_e19 M x1 M1 M2 x4 M5 i3 x13 x15 M16 i14 r17 hr17.symm c18]
    · rw [p_X5_spreadFrom_e21 M x1 M1 M2 x4 M5 i3 x13 x15 M16 i14 r17 hr17.symm c18]
  | succ n14 ih14 =>
    intro i14 x15 M16
    obtain ⟨r22, hr22⟩ : ∃ y : Int32, y = f_X6_fits x13 := ⟨_, rfl⟩
    by_cases c23 : r22 = 0
    · rw [p_X5_spreadFrom_e24 M x1 M1 M2 x4 M5 i3 x13 x15 M16 i14 n14 r22 hr22.symm c23]
    · obtain ⟨x26, hx26⟩ : ∃ y : Int32, y = (M16 24 ((x13 * 3) + nI i14).toNatClampNeg) := ⟨_, rfl⟩
      obtain ⟨r27, hr27⟩ : ∃ y : Int32, y = f_X6_fits x26 := ⟨_, rfl⟩
      by_cases c28 : r27 = 0
      · rw [p_X5_spreadFrom_e29 M x1 M1 M2 x4 M5 i3 x13 x15 M16 i14 n14 r22 hr22.symm c23 x26 hx26.symm r27 hr27.symm c28, ih14]
      · by_cases c30 : (M16 25 x26.toNatClampNeg) = 0
        · rw [p_X5_spreadFrom_e31 M x1 M1 M2 x4 M5 i3 x13 x15 M16 i14 n14 r22 hr22.symm c23 x26 hx26.symm r27 hr27.symm c28 c30, ih14]
        · by_cases c32 : (M16 26 x26.toNatClampNeg) = (-1)
          · by_cases c34 : 64 ≤ x15
            · rw [p_X5_spreadFrom_e35 M x1 M1 M2 x4 M5 i3 x13 x15 M16 i14 n14 r22 hr22.symm c23 x26 hx26.symm r27 hr27.symm c28 c30 c32 c34, ih14]
            · obtain ⟨M36, hM36⟩ : ∃ y : bM, y = up2 M16 26 x26.toNatClampNeg ((M16 26 x13.toNatClampNeg) + 1) := ⟨_, rfl⟩
              obtain ⟨M37, hM37⟩ : ∃ y : bM, y = up2 M36 28 x15.toNatClampNeg x26 := ⟨_, rfl⟩
              obtain ⟨x38, hx38⟩ : ∃ y : Int32, y = x15 + 1 := ⟨_, rfl⟩
              rw [p_X5_spreadFrom_e39 M x1 M1 M2 x4 M5 i3 x13 x15 M16 i14 n14 r22 hr22.symm c23 x26 hx26.symm r27 hr27.symm c28 c30 c32 c34 M36 hM36.symm M37 hM37.symm x38 hx38.symm, ih14]
              try dsimp only
              rw [hM37, up2_row (by omega), hM36, up2_row (by omega)]
          · rw [p_X5_spreadFrom_e33 M x1 M1 M2 x4 M5 i3 x13 x15 M16 i14 n14 r22 hr22.symm c23 x26 hx26.symm r27 hr27.symm c28 c30 c32, ih14]
theorem fr_lp_X5_spreadFrom_16 (M : bM) (x1 : Int32) (M1 : bM) (M2 : bM) (k : Nat) (hu : k < 23 ∨ 30 ≤ k ∨ k = 24) : ∀ (n3 i3 : Nat) (x4 : Int32) (M5 : bM), (lp_X5_spreadFrom_16 n3 i3 x4 M5).2 k = M5 k := by
  intro n3
  induction n3 with
  | zero =>
    intro i3 x4 M5
    by_cases c6 : x4 ≤ nI i3
    · rw [p_X5_spreadFrom_e7 M x1 M1 M2 x4 M5 i3 c6]
    · rw [p_X5_spreadFrom_e9 M x1 M1 M2 x4 M5 i3 c6]
  | succ n3 ih3 =>
    intro i3 x4 M5
    by_cases c10 : x4 ≤ nI i3
    · rw [p_X5_spreadFrom_e11 M x1 M1 M2 x4 M5 i3 n3 c10]
    · obtain ⟨x13, hx13⟩ : ∃ y : Int32, y = (M5 28 i3) := ⟨_, rfl⟩
      obtain ⟨x40, hx40⟩ : ∃ y : Int32, y = (lp_X5_spreadFrom_38 x13 3 0 x4 M5).1 := ⟨_, rfl⟩
      obtain ⟨M41, hM41⟩ : ∃ y : bM, y = (lp_X5_spreadFrom_38 x13 3 0 x4 M5).2 := ⟨_, rfl⟩
      rw [p_X5_spreadFrom_e42 M x1 M1 M2 x4 M5 i3 n3 c10 x13 hx13.symm x40 hx40.symm M41 hM41.symm, ih3]
      try dsimp only
      rw [hM41, fr_lp_X5_spreadFrom_38 M x1 M1 M2 x4 M5 i3 x13 k hu 3 0 x4 M5]
theorem fr_X5_spreadFrom (M : bM) (x1 : Int32) (k : Nat) (hu : k < 23 ∨ 30 ≤ k ∨ k = 24) : f_X5_spreadFrom M x1 k = M k := by
  obtain ⟨M1, hM1⟩ : ∃ y : bM, y = f_X5_beginFrom M x1 := ⟨_, rfl⟩
  obtain ⟨M2, hM2⟩ : ∃ y : bM, y = up2 M1 28 0 x1 := ⟨_, rfl⟩
  obtain ⟨x43, hx43⟩ : ∃ y : Int32, y = (lp_X5_spreadFrom_16 64 0 1 M2).1 := ⟨_, rfl⟩
  obtain ⟨M44, hM44⟩ : ∃ y : bM, y = (lp_X5_spreadFrom_16 64 0 1 M2).2 := ⟨_, rfl⟩
  rw [p_X5_spreadFrom_e45 M x1 M1 hM1.symm M2 hM2.symm x43 hx43.symm M44 hM44.symm]
  try dsimp only
  rw [hM44, fr_lp_X5_spreadFrom_16 M x1 M1 M2 k hu 64 0 1 M2, hM2, up2_row (by omega), hM1, fr_X5_beginFrom M x1 k (by omega)]
theorem fr_X5_isShutIn (M : bM) (g1 : Nat) (x2 : Int32) (x3 : Int32) (k : Nat) (hu : k < 23 ∨ 30 ≤ k ∨ k = 24) : (f_X5_isShutIn M g1 x2 x3).2 k = M k := by
  obtain ⟨k2, hk2⟩ : ∃ y : Nat, y = f_X0_sideOf M g1 x2 := ⟨_, rfl⟩
  have hqk2 : g1 + 1 ≤ k2 ∧ k2 + 4 ≤ g1 + 9 := by rw [hk2]; exact sideOf_rng
  obtain ⟨k4, hk4⟩ : ∃ y : Nat, y = f_X0_sideOf M g1 ((1 : Int32) - x2) := ⟨_, rfl⟩
  have hqk4 : g1 + 1 ≤ k4 ∧ k4 + 4 ≤ g1 + 9 := by rw [hk4]; exact sideOf_rng
  obtain ⟨M5, hM5⟩ : ∃ y : bM, y = f_X5_openBesides M g1 k2 := ⟨_, rfl⟩
  obtain ⟨r6, hr6⟩ : ∃ y : Int32, y = f_X6_fits x3 := ⟨_, rfl⟩
  by_cases c7 : r6 = 0
  · obtain ⟨r8, hr8⟩ : ∃ y : Int32, y = f_X2_head M5 k2 := ⟨_, rfl⟩
    obtain ⟨M9, hM9⟩ : ∃ y : bM, y = f_X5_spreadFrom M5 r8 := ⟨_, rfl⟩
    rcases (by cases (lp_X5_isShutIn_49 k4 M9 64 0).1 <;> simp : (lp_X5_isShutIn_49 k4 M9 64 0).1 = true ∨ (lp_X5_isShutIn_49 k4 M9 64 0).1 = false) with hfl10 | hfl10
    · rw [p_X5_isShutIn_e22 M g1 x2 x3 k2 hk2.symm k4 hk4.symm M5 hM5.symm r6 hr6.symm c7 r8 hr8.symm M9 hM9.symm hfl10]
      try dsimp only
      rw [hM9, fr_X5_spreadFrom M5 r8 k (by omega), hM5, fr_X5_openBesides M g1 k2 k (by omega)]
    · rw [p_X5_isShutIn_e23 M g1 x2 x3 k2 hk2.symm k4 hk4.symm M5 hM5.symm r6 hr6.symm c7 r8 hr8.symm M9 hM9.symm hfl10]
      try dsimp only
      rw [hM9, fr_X5_spreadFrom M5 r8 k (by omega), hM5, fr_X5_openBesides M g1 k2 k (by omega)]
  · obtain ⟨M24, hM24⟩ : ∃ y : bM, y = up2 M5 25 x3.toNatClampNeg 0 := ⟨_, rfl⟩
    obtain ⟨r25, hr25⟩ : ∃ y : Int32, y = f_X2_head M24 k2 := ⟨_, rfl⟩
    obtain ⟨M26, hM26⟩ : ∃ y : bM, y = f_X5_spreadFrom M24 r25 := ⟨_, rfl⟩
    rcases (by cases (lp_X5_isShutIn_49 k4 M26 64 0).1 <;> simp : (lp_X5_isShutIn_49 k4 M26 64 0).1 = true ∨ (lp_X5_isShutIn_49 k4 M26 64 0).1 = false) with hfl27 | hfl27
    · rw [p_X5_isShutIn_e39 M g1 x2 x3 k2 hk2.symm k4 hk4.symm M5 hM5.symm r6 hr6.symm c7 M24 hM24.symm r25 hr25.symm M26 hM26.symm hfl27]
      try dsimp only
      rw [hM26, fr_X5_spreadFrom M24 r25 k (by omega), hM24, up2_row (by omega), hM5, fr_X5_openBesides M g1 k2 k (by omega)]
    · rw [p_X5_isShutIn_e40 M g1 x2 x3 k2 hk2.symm k4 hk4.symm M5 hM5.symm r6 hr6.symm c7 M24 hM24.symm r25 hr25.symm M26 hM26.symm hfl27]
      try dsimp only
      rw [hM26, fr_X5_spreadFrom M24 r25 k (by omega), hM24, up2_row (by omega), hM5, fr_X5_openBesides M g1 k2 k (by omega)]
theorem fr_X5_stepsToMeet (M : bM) (g1 : Nat) (x2 : Int32) (k : Nat) (hu : k < 23 ∨ 30 ≤ k ∨ k = 24) : (f_X5_stepsToMeet M g1 x2).2 k = M k := by
  obtain ⟨k2, hk2⟩ : ∃ y : Nat, y = f_X0_sideOf M g1 x2 := ⟨_, rfl⟩
  have hqk2 : g1 + 1 ≤ k2 ∧ k2 + 4 ≤ g1 + 9 := by rw [hk2]; exact sideOf_rng
  obtain ⟨k4, hk4⟩ : ∃ y : Nat, y = f_X0_sideOf M g1 ((1 : Int32) - x2) := ⟨_, rfl⟩
  have hqk4 : g1 + 1 ≤ k4 ∧ k4 + 4 ≤ g1 + 9 := by rw [hk4]; exact sideOf_rng
  obtain ⟨M5, hM5⟩ : ∃ y : bM, y = f_X5_openBesides M g1 k2 := ⟨_, rfl⟩
  obtain ⟨r6, hr6⟩ : ∃ y : Int32, y = f_X2_head M5 k2 := ⟨_, rfl⟩
  obtain ⟨M7, hM7⟩ : ∃ y : bM, y = f_X5_spreadFrom M5 r6 := ⟨_, rfl⟩
  obtain ⟨x25, hx25⟩ : ∃ y : Int32, y = (lp_X5_stepsToMeet_35 k4 M7 64 0 (-1)) := ⟨_, rfl⟩
  rw [p_X5_stepsToMeet_e26 M g1 x2 k2 hk2.symm k4 hk4.symm M5 hM5.symm r6 hr6.symm M7 hM7.symm x25 hx25.symm]
  try dsimp only
  rw [hM7, fr_X5_spreadFrom M5 r6 k (by omega), hM5, fr_X5_openBesides M g1 k2 k (by omega)]
theorem fr_X5_dearestForBoth (M : bM) (g1 : Nat) (k : Nat) (hu : k < 23 ∨ 30 ≤ k ∨ k = 24) : (f_X5_dearestForBoth M g1).2 k = M k := by
  obtain ⟨M1, hM1⟩ : ∃ y : bM, y = f_X5_openFree M g1 := ⟨_, rfl⟩
  obtain ⟨r2, hr2⟩ : ∃ y : Int32, y = f_X2_head M1 (g1 + 1) := ⟨_, rfl⟩
  obtain ⟨M3, hM3⟩ : ∃ y : bM, y = f_X5_spreadFrom M1 r2 := ⟨_, rfl⟩
  obtain ⟨M4, hM4⟩ : ∃ y : bM, y = f_X6_copyRow M3 26 27 := ⟨_, rfl⟩
  obtain ⟨r5, hr5⟩ : ∃ y : Int32, y = f_X2_head M4 (g1 + 5) := ⟨_, rfl⟩
  obtain ⟨M6, hM6⟩ : ∃ y : bM, y = f_X5_spreadFrom M4 r5 := ⟨_, rfl⟩
  obtain ⟨x25, hx25⟩ : ∃ y : Int32, y = (lp_X5_dearestForBoth_45 g1 M6 64 0 (-1) (-1)).1 := ⟨_, rfl⟩
  obtain ⟨x26, hx26⟩ : ∃ y : Int32, y = (lp_X5_dearestForBoth_45 g1 M6 64 0 (-1) (-1)).2 := ⟨_, rfl⟩
  rw [p_X5_dearestForBoth_e27 M g1 M1 hM1.symm r2 hr2.symm M3 hM3.symm M4 hM4.symm r5 hr5.symm M6 hM6.symm x25 hx25.symm x26 hx26.symm]
  try dsimp only
  rw [hM6, fr_X5_spreadFrom M4 r5 k (by omega), hM4, fr_X6_copyRow M3 26 27 k (by omega), hM3, fr_X5_spreadFrom M1 r2 k (by omega), hM1, fr_X5_openFree M g1 k (by omega)]
theorem fr_lp_X5_cheapenBeside_17 (M : bM) (k1 : Nat) (x2 : Int32) (k : Nat) (hu : k < 23 ∨ 30 ≤ k ∨ k = 24) : ∀ (n4 i4 : Nat) (x5 : Int32) (M6 : bM), (lp_X5_cheapenBeside_17 k1 x2 n4 i4 x5 M6).2 k = M6 k := by
  intro n4
  induction n4 with
  | zero =>
    intro i4 x5 M6
    rw [p_X5_cheapenBeside_e8 M k1 x2 x5 M6 i4 ]
  | succ n4 ih4 =>
    intro i4 x5 M6
    obtain ⟨x10, hx10⟩ : ∃ y : Int32, y = (M6 24 ((x2 * 3) + nI i4).toNatClampNeg) := ⟨_, rfl⟩
    by_cases c11 : x10 < 0
    · rw [p_X5_cheapenBeside_e12 M k1 x2 x5 M6 i4 n4 x10 hx10.symm c11, ih4]
    · by_cases c13 : 64 ≤ x10
      · rw [p_X5_cheapenBeside_e14 M k1 x2 x5 M6 i4 n4 x10 hx10.symm c11 c13, ih4]
      · by_cases c15 : 64 ≤ x10
        · rw [p_X5_cheapenBeside_e16 M k1 x2 x5 M6 i4 n4 x10 hx10.symm c11 c13 c15, ih4]
        · by_cases c17 : (M6 25 x10.toNatClampNeg) = 0
          · rw [p_X5_cheapenBeside_e18 M k1 x2 x5 M6 i4 n4 x10 hx10.symm c11 c13 c15 c17, ih4]
          · obtain ⟨x19, hx19⟩ : ∃ y : Int32, y = ((M6 26 x2.toNatClampNeg) + (M6 k1 x10.toNatClampNeg)) := ⟨_, rfl⟩
            by_cases c20 : (M6 26 x10.toNatClampNeg) = (-1)
            · obtain ⟨M21, hM21⟩ : ∃ y : bM, y = up2 M6 26 x10.toNatClampNeg x19 := ⟨_, rfl⟩
              rw [p_X5_cheapenBeside_e22 M k1 x2 x5 M6 i4 n4 x10 hx10.symm c11 c13 c15 c17 x19 hx19.symm c20 M21 hM21.symm, ih4]
              try dsimp only
              rw [hM21, up2_row (by omega)]
            · by_cases c23 : (M6 26 x10.toNatClampNeg) ≤ x19
              · rw [p_X5_cheapenBeside_e24 M k1 x2 x5 M6 i4 n4 x10 hx10.symm c11 c13 c15 c17 x19 hx19.symm c20 c23, ih4]
              · obtain ⟨M25, hM25⟩ : ∃ y : bM, y = up2 M6 26 x10.toNatClampNeg x19 := ⟨_, rfl⟩
                rw [p_X5_cheapenBeside_e26 M k1 x2 x5 M6 i4 n4 x10 hx10.symm c11 c13 c15 c17 x19 hx19.symm c20 c23 M25 hM25.symm, ih4]
                try dsimp only
                rw [hM25, up2_row (by omega)]
theorem fr_X5_cheapenBeside (M : bM) (k1 : Nat) (x2 : Int32) (k : Nat) (hu : k < 23 ∨ 30 ≤ k ∨ k = 24) : (f_X5_cheapenBeside M k1 x2).2 k = M k := by
  by_cases c1 : x2 < 0
  · rw [p_X5_cheapenBeside_e2 M k1 x2 c1]
  · by_cases c3 : x2 < 64
    · obtain ⟨x27, hx27⟩ : ∃ y : Int32, y = (lp_X5_cheapenBeside_17 k1 x2 3 0 0 M).1 := ⟨_, rfl⟩
      obtain ⟨M28, hM28⟩ : ∃ y : bM, y = (lp_X5_cheapenBeside_17 k1 x2 3 0 0 M).2 := ⟨_, rfl⟩
      rw [p_X5_cheapenBeside_e29 M k1 x2 c1 c3 x27 hx27.symm M28 hM28.symm]
      try dsimp only
      rw [hM28, fr_lp_X5_cheapenBeside_17 M k1 x2 k hu 3 0 0 M]
    · rw [p_X5_cheapenBeside_e30 M k1 x2 c1 c3]
theorem fr_lp_X5_cheapestCellFirst_7 (M : bM) (k1 : Nat) (x2 : Int32) (M1 : bM) (k : Nat) (hu : k < 23 ∨ 30 ≤ k ∨ k = 24) : ∀ (n2 i2 : Nat) (M3 : bM), (lp_X5_cheapestCellFirst_7 k1 n2 i2 M3).2.2 k = M3 k := by
  intro n2
  induction n2 with
  | zero =>
    intro i2 M3
    rw [p_X5_cheapestCellFirst_e5 M k1 x2 M1 M3 i2 ]
  | succ n2 ih2 =>
    intro i2 M3
    obtain ⟨r7, hr7⟩ : ∃ y : Int32, y = f_X5_cheapestUnsettled M3 := ⟨_, rfl⟩
    obtain ⟨r8, hr8⟩ : ∃ y : Int32, y = f_X6_fits r7 := ⟨_, rfl⟩
    by_cases c9 : r8 = 0
    · rw [p_X5_cheapestCellFirst_e16 M k1 x2 M1 M3 i2 n2 r7 hr7.symm r8 hr8.symm c9]
    · by_cases c10 : (r7 / 8) = 7
      · rw [p_X5_cheapestCellFirst_e15 M k1 x2 M1 M3 i2 n2 r7 hr7.symm r8 hr8.symm c9 c10]
      · obtain ⟨M11, hM11⟩ : ∃ y : bM, y = up2 M3 29 r7.toNatClampNeg 1 := ⟨_, rfl⟩
        obtain ⟨r13, hr13⟩ : ∃ y : Int32, y = (f_X5_cheapenBeside M11 k1 r7).1 := ⟨_, rfl⟩
        obtain ⟨M12, hM12⟩ : ∃ y : bM, y = (f_X5_cheapenBeside M11 k1 r7).2 := ⟨_, rfl⟩
        rw [p_X5_cheapestCellFirst_e14 M k1 x2 M1 M3 i2 n2 r7 hr7.symm r8 hr8.symm c9 c10 M11 hM11.symm r13 hr13.symm M12 hM12.symm, ih2]
        try dsimp only
        rw [hM12, fr_X5_cheapenBeside M11 k1 r7 k (by omega), hM11, up2_row (by omega)]
theorem fr_X5_cheapestCellFirst (M : bM) (k1 : Nat) (x2 : Int32) (k : Nat) (hu : k < 23 ∨ 30 ≤ k ∨ k = 24) : (f_X5_cheapestCellFirst M k1 x2).2 k = M k := by
  obtain ⟨M1, hM1⟩ : ∃ y : bM, y = f_X5_beginFrom M x2 := ⟨_, rfl⟩
  rcases (by cases (lp_X5_cheapestCellFirst_7 k1 64 0 M1).1 <;> simp : (lp_X5_cheapestCellFirst_7 k1 64 0 M1).1 = true ∨ (lp_X5_cheapestCellFirst_7 k1 64 0 M1).1 = false) with hfl2 | hfl2
  · rw [p_X5_cheapestCellFirst_e17 M k1 x2 M1 hM1.symm hfl2]
    try dsimp only
    rw [fr_lp_X5_cheapestCellFirst_7 M k1 x2 M1 k hu 64 0 M1, hM1, fr_X5_beginFrom M x2 k (by omega)]
  · obtain ⟨M18, hM18⟩ : ∃ y : bM, y = (lp_X5_cheapestCellFirst_7 k1 64 0 M1).2.2 := ⟨_, rfl⟩
    rw [p_X5_cheapestCellFirst_e19 M k1 x2 M1 hM1.symm hfl2 M18 hM18.symm]
    try dsimp only
    rw [hM18, fr_lp_X5_cheapestCellFirst_7 M k1 x2 M1 k hu 64 0 M1, hM1, fr_X5_beginFrom M x2 k (by omega)]
theorem fr_X5_priceOfStep (M : bM) (g1 : Nat) (x2 : Int32) (k : Nat) (hu : k < 23 ∨ 30 ≤ k ∨ k = 24) : (f_X5_priceOfStep M g1 x2).2 k = M k := by
  obtain ⟨k2, hk2⟩ : ∃ y : Nat, y = f_X0_sideOf M g1 (M g1 7) := ⟨_, rfl⟩
  have hqk2 : g1 + 1 ≤ k2 ∧ k2 + 4 ≤ g1 + 9 := by rw [hk2]; exact sideOf_rng
  obtain ⟨r3, hr3⟩ : ∃ y : Int32, y = f_X2_head M k2 := ⟨_, rfl⟩
  obtain ⟨r4, hr4⟩ : ∃ y : Int32, y = f_X6_cellBeside r3 x2 := ⟨_, rfl⟩
  obtain ⟨k6, hk6⟩ : ∃ y : Nat, y = f_X0_sideOf M g1 ((1 : Int32) - (M g1 7)) := ⟨_, rfl⟩
  have hqk6 : g1 + 1 ≤ k6 ∧ k6 + 4 ≤ g1 + 9 := by rw [hk6]; exact sideOf_rng
  obtain ⟨r7, hr7⟩ : ∃ y : Int32, y = f_X2_holds M k6 r4 := ⟨_, rfl⟩
  by_cases c8 : r7 = 0
  · obtain ⟨r10, hr10⟩ : ∃ y : Int32, y = (f_X5_cheapestCellFirst M (k2 + 1) r4).1 := ⟨_, rfl⟩
    obtain ⟨M9, hM9⟩ : ∃ y : bM, y = (f_X5_cheapestCellFirst M (k2 + 1) r4).2 := ⟨_, rfl⟩
    by_cases c11 : r10 = (-1)
    · rw [p_X5_priceOfStep_e14 M g1 x2 k2 hk2.symm r3 hr3.symm r4 hr4.symm k6 hk6.symm r7 hr7.symm c8 r10 hr10.symm M9 hM9.symm c11]
      try dsimp only
      rw [hM9, fr_X5_cheapestCellFirst M (k2 + 1) r4 k (by omega)]
    · obtain ⟨r12, hr12⟩ : ∃ y : Int32, y = f_X2_costOf M9 k2 r4 := ⟨_, rfl⟩
      rw [p_X5_priceOfStep_e13 M g1 x2 k2 hk2.symm r3 hr3.symm r4 hr4.symm k6 hk6.symm r7 hr7.symm c8 r10 hr10.symm M9 hM9.symm c11 r12 hr12.symm]
      try dsimp only
      rw [hM9, fr_X5_cheapestCellFirst M (k2 + 1) r4 k (by omega)]
  · obtain ⟨r15, hr15⟩ : ∃ y : Int32, y = f_X2_costOf M k2 r4 := ⟨_, rfl⟩
    rw [p_X5_priceOfStep_e16 M g1 x2 k2 hk2.symm r3 hr3.symm r4 hr4.symm k6 hk6.symm r7 hr7.symm c8 r15 hr15.symm]
theorem fr_lp_X5_bestStep_22 (M : bM) (g1 : Nat) (r1 : Int32) (M3 : bM) (k : Nat) (hu : k < 23 ∨ 30 ≤ k ∨ k = 24) : ∀ (n4 i4 : Nat) (x5 : Int32) (x6 : Int32) (M7 : bM), (lp_X5_bestStep_22 g1 n4 i4 x5 x6 M7).2.2 k = M7 k := by
  intro n4
  induction n4 with
  | zero =>
    intro i4 x5 x6 M7
    rw [p_X5_bestStep_e9 M g1 r1 M3 x5 x6 M7 i4 ]
  | succ n4 ih4 =>
    intro i4 x5 x6 M7
    obtain ⟨r11, hr11⟩ : ∃ y : Int32, y = f_X0_reasonAgainstStep M7 g1 (nI i4) := ⟨_, rfl⟩
    by_cases c12 : r11 = 0
    · obtain ⟨r15, hr15⟩ : ∃ y : Int32, y = (f_X5_priceOfStep M7 g1 (nI i4)).1 := ⟨_, rfl⟩
      obtain ⟨M14, hM14⟩ : ∃ y : bM, y = (f_X5_priceOfStep M7 g1 (nI i4)).2 := ⟨_, rfl⟩
      by_cases c16 : x6 = (-1)
      · rw [p_X5_bestStep_e17 M g1 r1 M3 x5 x6 M7 i4 n4 r11 hr11.symm c12 r15 hr15.symm M14 hM14.symm c16, ih4]
        try dsimp only
        rw [hM14, fr_X5_priceOfStep M7 g1 (nI i4) k (by omega)]
      · by_cases c18 : x5 ≤ r15
        · rw [p_X5_bestStep_e19 M g1 r1 M3 x5 x6 M7 i4 n4 r11 hr11.symm c12 r15 hr15.symm M14 hM14.symm c16 c18, ih4]
          try dsimp only
          rw [hM14, fr_X5_priceOfStep M7 g1 (nI i4) k (by omega)]
        · rw [p_X5_bestStep_e20 M g1 r1 M3 x5 x6 M7 i4 n4 r11 hr11.symm c12 r15 hr15.symm M14 hM14.symm c16 c18, ih4]
          try dsimp only
          rw [hM14, fr_X5_priceOfStep M7 g1 (nI i4) k (by omega)]
    · rw [p_X5_bestStep_e13 M g1 r1 M3 x5 x6 M7 i4 n4 r11 hr11.symm c12, ih4]
theorem fr_X5_bestStep (M : bM) (g1 : Nat) (k : Nat) (hu : k < 23 ∨ 30 ≤ k ∨ k = 24) : (f_X5_bestStep M g1).2 k = M k := by
  obtain ⟨r1, hr1⟩ : ∃ y : Int32, y = f_X0_isOver M g1 := ⟨_, rfl⟩
  by_cases c2 : r1 = 0
  · obtain ⟨M3, hM3⟩ : ∃ y : bM, y = f_X5_openFree M g1 := ⟨_, rfl⟩
    obtain ⟨x21, hx21⟩ : ∃ y : Int32, y = (lp_X5_bestStep_22 g1 3 0 1000000 (-1) M3).1 := ⟨_, rfl⟩
    obtain ⟨x22, hx22⟩ : ∃ y : Int32, y = (lp_X5_bestStep_22 g1 3 0 1000000 (-1) M3).2.1 := ⟨_, rfl⟩
    obtain ⟨M23, hM23⟩ : ∃ y : bM, y = (lp_X5_bestStep_22 g1 3 0 1000000 (-1) M3).2.2 := ⟨_, rfl⟩
    rw [p_X5_bestStep_e24 M g1 r1 hr1.symm c2 M3 hM3.symm x21 hx21.symm x22 hx22.symm M23 hM23.symm]
    try dsimp only
    rw [hM23, fr_lp_X5_bestStep_22 M g1 r1 M3 k hu 3 0 1000000 (-1) M3, hM3, fr_X5_openFree M g1 k (by omega)]
  · rw [p_X5_bestStep_e25 M g1 r1 hr1.symm c2]
theorem fr_X0_reasonAgainstDam (M : bM) (g : Nat) (x1 : Int32) (k : Nat) (hk : k < g ∨ g + 10 ≤ k) (hu : k < 23 ∨ 30 ≤ k ∨ k = 24) : (f_X0_reasonAgainstDam M g x1).2 k = M k := by
  obtain ⟨r1, hr1⟩ : ∃ y : Int32, y = f_X0_contentOf M g x1 := ⟨_, rfl⟩
  by_cases c2 : r1 = 0
  · obtain ⟨k4, hk4⟩ : ∃ y : Nat, y = f_X0_sideOf M g (M g 7) := ⟨_, rfl⟩
    have hqk4 : g + 1 ≤ k4 ∧ k4 + 4 ≤ g + 9 := by rw [hk4]; exact sideOf_rng
    by_cases c5 : (M k4 5) < 3
    · obtain ⟨r7, hr7⟩ : ∃ y : Int32, y = (f_X5_isShutIn M g 0 x1).1 := ⟨_, rfl⟩
      obtain ⟨M6, hM6⟩ : ∃ y : bM, y = (f_X5_isShutIn M g 0 x1).2 := ⟨_, rfl⟩
      by_cases c8 : r7 = 0
      · obtain ⟨r11, hr11⟩ : ∃ y : Int32, y = (f_X5_isShutIn M6 g 1 x1).1 := ⟨_, rfl⟩
        obtain ⟨M10, hM10⟩ : ∃ y : bM, y = (f_X5_isShutIn M6 g 1 x1).2 := ⟨_, rfl⟩
        by_cases c12 : r11 = 0
        · rw [p_X0_reasonAgainstDam_e13 M g x1 r1 hr1.symm c2 k4 hk4.symm c5 r7 hr7.symm M6 hM6.symm c8 r11 hr11.symm M10 hM10.symm c12]
          try dsimp only
          rw [hM10, fr_X5_isShutIn M6 g 1 x1 k (by omega), hM6, fr_X5_isShutIn M g 0 x1 k (by omega)]
        · rw [p_X0_reasonAgainstDam_e14 M g x1 r1 hr1.symm c2 k4 hk4.symm c5 r7 hr7.symm M6 hM6.symm c8 r11 hr11.symm M10 hM10.symm c12]
          try dsimp only
          rw [hM10, fr_X5_isShutIn M6 g 1 x1 k (by omega), hM6, fr_X5_isShutIn M g 0 x1 k (by omega)]
      · rw [p_X0_reasonAgainstDam_e9 M g x1 r1 hr1.symm c2 k4 hk4.symm c5 r7 hr7.symm M6 hM6.symm c8]
        try dsimp only
        rw [hM6, fr_X5_isShutIn M g 0 x1 k (by omega)]
    · rw [p_X0_reasonAgainstDam_e15 M g x1 r1 hr1.symm c2 k4 hk4.symm c5]
  · rw [p_X0_reasonAgainstDam_e16 M g x1 r1 hr1.symm c2]
theorem fr_X0_tryDam (M : bM) (g : Nat) (x1 : Int32) (k : Nat) (hk : k < g ∨ g + 10 ≤ k) (hu : k < 23 ∨ 30 ≤ k ∨ k = 24) : (f_X0_tryDam M g x1).2 k = M k := by
  obtain ⟨r2, hr2⟩ : ∃ y : Int32, y = (f_X0_reasonAgainstDam M g x1).1 := ⟨_, rfl⟩
  obtain ⟨M1, hM1⟩ : ∃ y : bM, y = (f_X0_reasonAgainstDam M g x1).2 := ⟨_, rfl⟩
  by_cases c3 : r2 = 0
  · obtain ⟨M6, hM6⟩ : ∃ y : bM, y = f_X0_buildDam M1 g x1 := ⟨_, rfl⟩
    rw [p_X0_tryDam_e7 M g x1 r2 hr2.symm M1 hM1.symm c3 M6 hM6.symm]
    try dsimp only
    rw [hM6, fr_X0_buildDam M1 g x1 k (by omega), hM1, fr_X0_reasonAgainstDam M g x1 k (by omega) (by omega)]
  · obtain ⟨M4, hM4⟩ : ∃ y : bM, y = up2 M1 g 10 ((M1 g 10) + 1) := ⟨_, rfl⟩
    rw [p_X0_tryDam_e5 M g x1 r2 hr2.symm M1 hM1.symm c3 M4 hM4.symm]
    try dsimp only
    rw [hM4, up2_row (by omega), hM1, fr_X0_reasonAgainstDam M g x1 k (by omega) (by omega)]
theorem fr_X6_simulateTurn (M : bM) (x1 : Int32) (k : Nat) (hk : k < 13 ∨ 23 ≤ k) (hu : k < 23 ∨ 30 ≤ k ∨ k = 24) : f_X6_simulateTurn M x1 k = M k := by
  obtain ⟨x11, hx11⟩ : ∃ y : Int32, y = (x1 / 8) := ⟨_, rfl⟩
  obtain ⟨x12, hx12⟩ : ∃ y : Int32, y = (x1 - x1 / 8 * 8) := ⟨_, rfl⟩
  obtain ⟨r13, hr13⟩ : ∃ y : Int32, y = f_X0_isOver M 13 := ⟨_, rfl⟩
  by_cases c14 : r13 = 0
  · obtain ⟨r15, hr15⟩ : ∃ y : Int32, y = f_X0_canFlood M 13 := ⟨_, rfl⟩
    by_cases c16 : r15 = 0
    · by_cases c17 : x12 = 0
      · obtain ⟨r27, hr27⟩ : ∃ y : Int32, y = f_X6_cellAt (x11 - x11 / 8 * 8) ((x11 / 8) - (x11 / 8) / 8 * 8) := ⟨_, rfl⟩
        obtain ⟨r29, hr29⟩ : ∃ y : Int32, y = (f_X0_tryDam M 13 r27).1 := ⟨_, rfl⟩
        obtain ⟨M28, hM28⟩ : ∃ y : bM, y = (f_X0_tryDam M 13 r27).2 := ⟨_, rfl⟩
        rw [p_X6_simulateTurn_e30 M x1 x11 hx11.symm x12 hx12.symm r13 hr13.symm c14 r15 hr15.symm c16 c17 r27 hr27.symm r29 hr29.symm M28 hM28.symm]
        try dsimp only
        rw [hM28, fr_X0_tryDam M 13 r27 k (by omega) (by omega)]
      · by_cases c18 : 4 < x12
        · obtain ⟨r20, hr20⟩ : ∃ y : Int32, y = (f_X5_bestStep M 13).1 := ⟨_, rfl⟩
          obtain ⟨M19, hM19⟩ : ∃ y : bM, y = (f_X5_bestStep M 13).2 := ⟨_, rfl⟩
          obtain ⟨r22, hr22⟩ : ∃ y : Int32, y = (f_X0_tryStep M19 13 r20).1 := ⟨_, rfl⟩
          obtain ⟨M21, hM21⟩ : ∃ y : bM, y = (f_X0_tryStep M19 13 r20).2 := ⟨_, rfl⟩
          rw [p_X6_simulateTurn_e23 M x1 x11 hx11.symm x12 hx12.symm r13 hr13.symm c14 r15 hr15.symm c16 c17 c18 r20 hr20.symm M19 hM19.symm r22 hr22.symm M21 hM21.symm]
          try dsimp only
          rw [hM21, fr_X0_tryStep M19 13 r20 k (by omega), hM19, fr_X5_bestStep M 13 k (by omega)]
        · obtain ⟨r25, hr25⟩ : ∃ y : Int32, y = (f_X0_tryStep M 13 (x11 - x11 / 3 * 3)).1 := ⟨_, rfl⟩
          obtain ⟨M24, hM24⟩ : ∃ y : bM, y = (f_X0_tryStep M 13 (x11 - x11 / 3 * 3)).2 := ⟨_, rfl⟩
          rw [p_X6_simulateTurn_e26 M x1 x11 hx11.symm x12 hx12.symm r13 hr13.symm c14 r15 hr15.symm c16 c17 c18 r25 hr25.symm M24 hM24.symm]
          try dsimp only
          rw [hM24, fr_X0_tryStep M 13 (x11 - x11 / 3 * 3) k (by omega)]
    · obtain ⟨r32, hr32⟩ : ∃ y : Int32, y = (f_X0_washAway M 13).1 := ⟨_, rfl⟩
      obtain ⟨M31, hM31⟩ : ∃ y : bM, y = (f_X0_washAway M 13).2 := ⟨_, rfl⟩
      rw [p_X6_simulateTurn_e33 M x1 x11 hx11.symm x12 hx12.symm r13 hr13.symm c14 r15 hr15.symm c16 r32 hr32.symm M31 hM31.symm]
      try dsimp only
      rw [hM31, fr_X0_washAway M 13 k (by omega)]
  · obtain ⟨M34, hM34⟩ : ∃ y : bM, y = f_X0_beginGame M 13 x11.toInt64 := ⟨_, rfl⟩
    rw [p_X6_simulateTurn_e35 M x1 x11 hx11.symm x12 hx12.symm r13 hr13.symm c14 M34 hM34.symm]
    try dsimp only
    rw [hM34, fr_X0_beginGame M 13 x11.toInt64 k (by omega)]
