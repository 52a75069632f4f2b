def f_X7_turnOf (M : bM) (k1 : Nat) (x2 : Int32) (x3 : Int32) : bM := (let r11 : Int32 := f_X7_isUnderWay M k1; (if r11 = 0 then (let r32 : Int32 := (f_X7_gameOn M k1 x3.toInt64).1; (let M31 : bM := (f_X7_gameOn M k1 x3.toInt64).2; M31)) else (let r13 : Int32 := f_X7_canStep M k1; (if r13 = 0 then (let r29 : Int32 := (f_X7_floodOn M k1).1; (let M28 : bM := (f_X7_floodOn M k1).2; M28)) else (if x2 = 0 then (let r26 : Int32 := (f_X7_damOn M k1 ((x3 - x3 / 8 * 8) + ((8 : Int32) * ((x3 / 8) - (x3 / 8) / 8 * 8)))).1; (let M25 : bM := (f_X7_damOn M k1 ((x3 - x3 / 8 * 8) + ((8 : Int32) * ((x3 / 8) - (x3 / 8) / 8 * 8)))).2; M25)) else (if 5 ≤ x2 then (let r18 : Int32 := (f_X7_bestOf M k1).1; (let M17 : bM := (f_X7_bestOf M k1).2; (let r20 : Int32 := (f_X7_stepOn M17 k1 r18).1; (let M19 : bM := (f_X7_stepOn M17 k1 r18).2; M19)))) else (let r23 : Int32 := (f_X7_stepOn M k1 (x3 - x3 / 3 * 3)).1; (let M22 : bM := (f_X7_stepOn M k1 (x3 - x3 / 3 * 3)).2; M22))))))))
theorem u_f_X7_turnOf (M : bM) (k1 : Nat) (x2 : Int32) (x3 : Int32) : f_X7_turnOf M k1 x2 x3 = (let r11 : Int32 := f_X7_isUnderWay M k1; (if r11 = 0 then (let r32 : Int32 := (f_X7_gameOn M k1 x3.toInt64).1; (let M31 : bM := (f_X7_gameOn M k1 x3.toInt64).2; M31)) else (let r13 : Int32 := f_X7_canStep M k1; (if r13 = 0 then (let r29 : Int32 := (f_X7_floodOn M k1).1; (let M28 : bM := (f_X7_floodOn M k1).2; M28)) else (if x2 = 0 then (let r26 : Int32 := (f_X7_damOn M k1 ((x3 - x3 / 8 * 8) + ((8 : Int32) * ((x3 / 8) - (x3 / 8) / 8 * 8)))).1; (let M25 : bM := (f_X7_damOn M k1 ((x3 - x3 / 8 * 8) + ((8 : Int32) * ((x3 / 8) - (x3 / 8) / 8 * 8)))).2; M25)) else (if 5 ≤ x2 then (let r18 : Int32 := (f_X7_bestOf M k1).1; (let M17 : bM := (f_X7_bestOf M k1).2; (let r20 : Int32 := (f_X7_stepOn M17 k1 r18).1; (let M19 : bM := (f_X7_stepOn M17 k1 r18).2; M19)))) else (let r23 : Int32 := (f_X7_stepOn M k1 (x3 - x3 / 3 * 3)).1; (let M22 : bM := (f_X7_stepOn M k1 (x3 - x3 / 3 * 3)).2; M22)))))))) := rfl
theorem p_X7_turnOf_e21 (M : bM) (k1 : Nat) (x2 : Int32) (x3 : Int32) (r11 : Int32) (hr11 : f_X7_isUnderWay M k1 = r11) (c12 : ¬ r11 = 0) (r13 : Int32) (hr13 : f_X7_canStep M k1 = r13) (c14 : ¬ r13 = 0) (c15 : ¬ x2 = 0) (c16 : 5 ≤ x2) (r18 : Int32) (hr18 : (f_X7_bestOf M k1).1 = r18) (M17 : bM) (hM17 : (f_X7_bestOf M k1).2 = M17) (r20 : Int32) (hr20 : (f_X7_stepOn M17 k1 r18).1 = r20) (M19 : bM) (hM19 : (f_X7_stepOn M17 k1 r18).2 = M19) : f_X7_turnOf M k1 x2 x3 = M19 := by subst hM19 hr20 hM17 hr18 hr13 hr11; exact Eq.trans (u_f_X7_turnOf M k1 x2 x3) (Eq.trans (if_neg c12) (Eq.trans (if_neg c14) (Eq.trans (if_neg c15) (if_pos c16))))
theorem p_X7_turnOf_e24 (M : bM) (k1 : Nat) (x2 : Int32) (x3 : Int32) (r11 : Int32) (hr11 : f_X7_isUnderWay M k1 = r11) (c12 : ¬ r11 = 0) (r13 : Int32) (hr13 : f_X7_canStep M k1 = r13) (c14 : ¬ r13 = 0) (c15 : ¬ x2 = 0) (c16 : ¬ 5 ≤ x2) (r23 : Int32) (hr23 : (f_X7_stepOn M k1 (x3 - x3 / 3 * 3)).1 = r23) (M22 : bM) (hM22 : (f_X7_stepOn M k1 (x3 - x3 / 3 * 3)).2 = M22) : f_X7_turnOf M k1 x2 x3 = M22 := by subst hM22 hr23 hr13 hr11; exact Eq.trans (u_f_X7_turnOf M k1 x2 x3) (Eq.trans (if_neg c12) (Eq.trans (if_neg c14) (Eq.trans (if_neg c15) (if_neg c16))))
theorem p_X7_turnOf_e27 (M : bM) (k1 : Nat) (x2 : Int32) (x3 : Int32) (r11 : Int32) (hr11 : f_X7_isUnderWay M k1 = r11) (c12 : ¬ r11 = 0) (r13 : Int32) (hr13 : f_X7_canStep M k1 = r13) (c14 : ¬ r13 = 0) (c15 : x2 = 0) (r26 : Int32) (hr26 : (f_X7_damOn M k1 ((x3 - x3 / 8 * 8) + ((8 : Int32) * ((x3 / 8) - (x3 / 8) / 8 * 8)))).1 = r26) (M25 : bM) (hM25 : (f_X7_damOn M k1 ((x3 - x3 / 8 * 8) + ((8 : Int32) * ((x3 / 8) - (x3 / 8) / 8 * 8)))).2 = M25) : f_X7_turnOf M k1 x2 x3 = M25 := by subst hM25 hr26 hr13 hr11; exact Eq.trans (u_f_X7_turnOf M k1 x2 x3) (Eq.trans (if_neg c12) (Eq.trans (if_neg c14) (if_pos c15)))
theorem p_X7_turnOf_e30 (M : bM) (k1 : Nat) (x2 : Int32) (x3 : Int32) (r11 : Int32) (hr11 : f_X7_isUnderWay M k1 = r11) (c12 : ¬ r11 = 0) (r13 : Int32) (hr13 : f_X7_canStep M k1 = r13) (c14 : r13 = 0) (r29 : Int32) (hr29 : (f_X7_floodOn M k1).1 = r29) (M28 : bM) (hM28 : (f_X7_floodOn M k1).2 = M28) : f_X7_turnOf M k1 x2 x3 = M28 := by subst hM28 hr29 hr13 hr11; exact Eq.trans (u_f_X7_turnOf M k1 x2 x3) (Eq.trans (if_neg c12) (if_pos c14))
theorem p_X7_turnOf_e33 (M : bM) (k1 : Nat) (x2 : Int32) (x3 : Int32) (r11 : Int32) (hr11 : f_X7_isUnderWay M k1 = r11) (c12 : r11 = 0) (r32 : Int32) (hr32 : (f_X7_gameOn M k1 x3.toInt64).1 = r32) (M31 : bM) (hM31 : (f_X7_gameOn M k1 x3.toInt64).2 = M31) : f_X7_turnOf M k1 x2 x3 = M31 := by subst hM31 hr32 hr11; exact Eq.trans (u_f_X7_turnOf M k1 x2 x3) (if_pos c12)
theorem fr_X7_turnOf (M : bM) (k1 : Nat) (x2 : Int32) (x3 : Int32) (k : Nat) (hk : k ≠ k1) (hf : k ≠ 7) : f_X7_turnOf M k1 x2 x3 k = M k := by
  obtain ⟨r11, hr11⟩ : ∃ y : Int32, y = f_X7_isUnderWay M k1 := ⟨_, rfl⟩
  by_cases c12 : r11 = 0
  · obtain ⟨r32, hr32⟩ : ∃ y : Int32, y = (f_X7_gameOn M k1 x3.toInt64).1 := ⟨_, rfl⟩
    obtain ⟨M31, hM31⟩ : ∃ y : bM, y = (f_X7_gameOn M k1 x3.toInt64).2 := ⟨_, rfl⟩
    rw [p_X7_turnOf_e33 M k1 x2 x3 r11 hr11.symm c12 r32 hr32.symm M31 hM31.symm]
    try dsimp only
    rw [hM31, fr_X7_gameOn M k1 x3.toInt64 k (by omega)]
  · obtain ⟨r13, hr13⟩ : ∃ y : Int32, y = f_X7_canStep M k1 := ⟨_, rfl⟩
    by_cases c14 : r13 = 0
    · obtain ⟨r29, hr29⟩ : ∃ y : Int32, y = (f_X7_floodOn M k1).1 := ⟨_, rfl⟩
      obtain ⟨M28, hM28⟩ : ∃ y : bM, y = (f_X7_floodOn M k1).2 := ⟨_, rfl⟩
      rw [p_X7_turnOf_e30 M k1 x2 x3 r11 hr11.symm c12 r13 hr13.symm c14 r29 hr29.symm M28 hM28.symm]
      try dsimp only
      rw [hM28, fr_X7_floodOn M k1 k (by omega)]
    · by_cases c15 : x2 = 0
      · obtain ⟨r26, hr26⟩ : ∃ y : Int32, y = (f_X7_damOn M k1 ((x3 - x3 / 8 * 8) + ((8 : Int32) * ((x3 / 8) - (x3 / 8) / 8 * 8)))).1 := ⟨_, rfl⟩
        obtain ⟨M25, hM25⟩ : ∃ y : bM, y = (f_X7_damOn M k1 ((x3 - x3 / 8 * 8) + ((8 : Int32) * ((x3 / 8) - (x3 / 8) / 8 * 8)))).2 := ⟨_, rfl⟩
        rw [p_X7_turnOf_e27 M k1 x2 x3 r11 hr11.symm c12 r13 hr13.symm c14 c15 r26 hr26.symm M25 hM25.symm]
        try dsimp only
        rw [hM25, fr_X7_damOn M k1 ((x3 - x3 / 8 * 8) + ((8 : Int32) * ((x3 / 8) - (x3 / 8) / 8 * 8))) k (by omega) (by omega)]
      · by_cases c16 : 5 ≤ x2
        · obtain ⟨r18, hr18⟩ : ∃ y : Int32, y = (f_X7_bestOf M k1).1 := ⟨_, rfl⟩
          obtain ⟨M17, hM17⟩ : ∃ y : bM, y = (f_X7_bestOf M k1).2 := ⟨_, rfl⟩
          obtain ⟨r20, hr20⟩ : ∃ y : Int32, y = (f_X7_stepOn M17 k1 r18).1 := ⟨_, rfl⟩
          obtain ⟨M19, hM19⟩ : ∃ y : bM, y = (f_X7_stepOn M17 k1 r18).2 := ⟨_, rfl⟩
          rw [p_X7_turnOf_e21 M k1 x2 x3 r11 hr11.symm c12 r13 hr13.symm c14 c15 c16 r18 hr18.symm M17 hM17.symm r20 hr20.symm M19 hM19.symm]
          try dsimp only
          rw [hM19, fr_X7_stepOn M17 k1 r18 k (by omega), hM17, fr_X7_bestOf M k1 k (by omega)]
        · obtain ⟨r23, hr23⟩ : ∃ y : Int32, y = (f_X7_stepOn M k1 (x3 - x3 / 3 * 3)).1 := ⟨_, rfl⟩
          obtain ⟨M22, hM22⟩ : ∃ y : bM, y = (f_X7_stepOn M k1 (x3 - x3 / 3 * 3)).2 := ⟨_, rfl⟩
          rw [p_X7_turnOf_e24 M k1 x2 x3 r11 hr11.symm c12 r13 hr13.symm c14 c15 c16 r23 hr23.symm M22 hM22.symm]
          try dsimp only
          rw [hM22, fr_X7_stepOn M k1 (x3 - x3 / 3 * 3) k (by omega)]
