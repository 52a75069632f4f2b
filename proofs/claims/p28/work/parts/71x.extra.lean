theorem fr_lp_X5_cheapestByRounds_26 (M : bM) (k1 : Nat) (x2 : Int32) (M1 : bM) (x3 : Int32) (M4 : bM) (i2 : Nat) (k : Nat) (hu : k < 23 ∨ 30 ≤ k ∨ k = 24) : ∀ (n10 i10 : Nat) (x11 : Int32) (M12 : bM), (lp_X5_cheapestByRounds_26 k1 n10 i10 x11 M12).2 k = M12 k := by
  intro n10
  induction n10 with
  | zero =>
    intro i10 x11 M12
    rw [p_X5_cheapestByRounds_e14 M k1 x2 M1 x3 M4 i2 x11 M12 i10 ]
  | succ n10 ih10 =>
    intro i10 x11 M12
    by_cases c16 : (M12 26 i10) = (-1)
    · rw [p_X5_cheapestByRounds_e17 M k1 x2 M1 x3 M4 i2 x11 M12 i10 n10 c16, ih10]
    · obtain ⟨r19, hr19⟩ : ∃ y : Int32, y = (f_X5_cheapenBeside M12 k1 (nI i10)).1 := ⟨_, rfl⟩
      obtain ⟨M18, hM18⟩ : ∃ y : bM, y = (f_X5_cheapenBeside M12 k1 (nI i10)).2 := ⟨_, rfl⟩
      by_cases c20 : r19 = 0
      · rw [p_X5_cheapestByRounds_e21 M k1 x2 M1 x3 M4 i2 x11 M12 i10 n10 c16 r19 hr19.symm M18 hM18.symm c20, ih10]
        try dsimp only
        rw [hM18, fr_X5_cheapenBeside M12 k1 (nI i10) k (by omega)]
      · rw [p_X5_cheapestByRounds_e22 M k1 x2 M1 x3 M4 i2 x11 M12 i10 n10 c16 r19 hr19.symm M18 hM18.symm c20, ih10]
        try dsimp only
        rw [hM18, fr_X5_cheapenBeside M12 k1 (nI i10) k (by omega)]
theorem fr_lp_X5_cheapestByRounds_10 (M : bM) (k1 : Nat) (x2 : Int32) (M1 : bM) (k : Nat) (hu : k < 23 ∨ 30 ≤ k ∨ k = 24) : ∀ (n2 i2 : Nat) (x3 : Int32) (M4 : bM), (lp_X5_cheapestByRounds_10 k1 n2 i2 x3 M4).2 k = M4 k := by
  intro n2
  induction n2 with
  | zero =>
    intro i2 x3 M4
    rw [p_X5_cheapestByRounds_e6 M k1 x2 M1 x3 M4 i2 ]
  | succ n2 ih2 =>
    intro i2 x3 M4
    by_cases c8 : x3 = 0
    · rw [p_X5_cheapestByRounds_e9 M k1 x2 M1 x3 M4 i2 n2 c8]
    · obtain ⟨x23, hx23⟩ : ∃ y : Int32, y = (lp_X5_cheapestByRounds_26 k1 64 0 0 M4).1 := ⟨_, rfl⟩
      obtain ⟨M24, hM24⟩ : ∃ y : bM, y = (lp_X5_cheapestByRounds_26 k1 64 0 0 M4).2 := ⟨_, rfl⟩
      rw [p_X5_cheapestByRounds_e25 M k1 x2 M1 x3 M4 i2 n2 c8 x23 hx23.symm M24 hM24.symm, ih2]
      try dsimp only
      rw [hM24, fr_lp_X5_cheapestByRounds_26 M k1 x2 M1 x3 M4 i2 k hu 64 0 0 M4]
theorem fr_X5_cheapestByRounds (M : bM) (k1 : Nat) (x2 : Int32) (k : Nat) (hu : k < 23 ∨ 30 ≤ k ∨ k = 24) : (f_X5_cheapestByRounds M k1 x2).2 k = M k := by
  obtain ⟨M1, hM1⟩ : ∃ y : bM, y = f_X5_beginFrom M x2 := ⟨_, rfl⟩
  obtain ⟨x26, hx26⟩ : ∃ y : Int32, y = (lp_X5_cheapestByRounds_10 k1 64 0 1 M1).1 := ⟨_, rfl⟩
  obtain ⟨M27, hM27⟩ : ∃ y : bM, y = (lp_X5_cheapestByRounds_10 k1 64 0 1 M1).2 := ⟨_, rfl⟩
  obtain ⟨x42, hx42⟩ : ∃ y : Int32, y = (lp_X5_cheapestByRounds_75 M27 8 56 (-1)) := ⟨_, rfl⟩
  rw [p_X5_cheapestByRounds_e43 M k1 x2 M1 hM1.symm x26 hx26.symm M27 hM27.symm x42 hx42.symm]
  try dsimp only
  rw [hM27, fr_lp_X5_cheapestByRounds_10 M k1 x2 M1 k hu 64 0 1 M1, hM1, fr_X5_beginFrom M x2 k (by omega)]
