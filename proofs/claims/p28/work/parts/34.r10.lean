def f_X7_course (M : bM) (x1 : Int32) (x2 : Int32) : Int32 × bM := (let r11 : Int32 := f_X7_in x1.toInt64 0 1; (if r11 = 0 then (let r14 : Int32 := (f_X7_refused M 1).1; (let M13 : bM := (f_X7_refused M 1).2; (0, M13))) else (let r17 : Int32 := f_X7_of M 2 (x1 &&& 1) 4; (let r18 : Int32 := f_X7_in x2.toInt64 0 ((r17 - 1).toInt64); (if r18 = 0 then (let r21 : Int32 := (f_X7_refused M 1).1; (let M20 : bM := (f_X7_refused M 1).2; (0, M20))) else (let r25 : Int32 := (f_X7_refused M 0).1; (let M24 : bM := (f_X7_refused M 0).2; ((M24 2 (((276 : Int32) + ((64 : Int32) * x1)) + x2).toNatClampNeg), M24))))))))
theorem u_f_X7_course (M : bM) (x1 : Int32) (x2 : Int32) : f_X7_course M x1 x2 = (let r11 : Int32 := f_X7_in x1.toInt64 0 1; (if r11 = 0 then (let r14 : Int32 := (f_X7_refused M 1).1; (let M13 : bM := (f_X7_refused M 1).2; (0, M13))) else (let r17 : Int32 := f_X7_of M 2 (x1 &&& 1) 4; (let r18 : Int32 := f_X7_in x2.toInt64 0 ((r17 - 1).toInt64); (if r18 = 0 then (let r21 : Int32 := (f_X7_refused M 1).1; (let M20 : bM := (f_X7_refused M 1).2; (0, M20))) else (let r25 : Int32 := (f_X7_refused M 0).1; (let M24 : bM := (f_X7_refused M 0).2; ((M24 2 (((276 : Int32) + ((64 : Int32) * x1)) + x2).toNatClampNeg), M24)))))))) := rfl
theorem p_X7_course_e16 (M : bM) (x1 : Int32) (x2 : Int32) (r11 : Int32) (hr11 : f_X7_in x1.toInt64 0 1 = r11) (c12 : r11 = 0) (r14 : Int32) (hr14 : (f_X7_refused M 1).1 = r14) (M13 : bM) (hM13 : (f_X7_refused M 1).2 = M13) : f_X7_course M x1 x2 = (0, M13) := by subst hM13 hr14 hr11; exact Eq.trans (u_f_X7_course M x1 x2) (if_pos c12)
theorem p_X7_course_e23 (M : bM) (x1 : Int32) (x2 : Int32) (r11 : Int32) (hr11 : f_X7_in x1.toInt64 0 1 = r11) (c12 : ¬ r11 = 0) (r17 : Int32) (hr17 : f_X7_of M 2 (x1 &&& 1) 4 = r17) (r18 : Int32) (hr18 : f_X7_in x2.toInt64 0 ((r17 - 1).toInt64) = r18) (c19 : r18 = 0) (r21 : Int32) (hr21 : (f_X7_refused M 1).1 = r21) (M20 : bM) (hM20 : (f_X7_refused M 1).2 = M20) : f_X7_course M x1 x2 = (0, M20) := by subst hM20 hr21 hr18 hr17 hr11; exact Eq.trans (u_f_X7_course M x1 x2) (Eq.trans (if_neg c12) (if_pos c19))
theorem p_X7_course_e27 (M : bM) (x1 : Int32) (x2 : Int32) (r11 : Int32) (hr11 : f_X7_in x1.toInt64 0 1 = r11) (c12 : ¬ r11 = 0) (r17 : Int32) (hr17 : f_X7_of M 2 (x1 &&& 1) 4 = r17) (r18 : Int32) (hr18 : f_X7_in x2.toInt64 0 ((r17 - 1).toInt64) = r18) (c19 : ¬ r18 = 0) (r25 : Int32) (hr25 : (f_X7_refused M 0).1 = r25) (M24 : bM) (hM24 : (f_X7_refused M 0).2 = M24) : f_X7_course M x1 x2 = ((M24 2 (((276 : Int32) + ((64 : Int32) * x1)) + x2).toNatClampNeg), M24) := by subst hM24 hr25 hr18 hr17 hr11; exact Eq.trans (u_f_X7_course M x1 x2) (Eq.trans (if_neg c12) (if_neg c19))
theorem fr_X7_course (M : bM) (x1 : Int32) (x2 : Int32) (k : Nat) (hk0 : k ≠ 0) : (f_X7_course M x1 x2).2 k = M k := by
  obtain ⟨r11, hr11⟩ : ∃ y : Int32, y = f_X7_in x1.toInt64 0 1 := ⟨_, rfl⟩
  by_cases c12 : r11 = 0
  · obtain ⟨r14, hr14⟩ : ∃ y : Int32, y = (f_X7_refused M 1).1 := ⟨_, rfl⟩
    obtain ⟨M13, hM13⟩ : ∃ y : bM, y = (f_X7_refused M 1).2 := ⟨_, rfl⟩
    rw [p_X7_course_e16 M x1 x2 r11 hr11.symm c12 r14 hr14.symm M13 hM13.symm]
    try dsimp only
    rw [hM13, fr_X7_refused M 1 k (by omega)]
  · obtain ⟨r17, hr17⟩ : ∃ y : Int32, y = f_X7_of M 2 (x1 &&& 1) 4 := ⟨_, rfl⟩
    obtain ⟨r18, hr18⟩ : ∃ y : Int32, y = f_X7_in x2.toInt64 0 ((r17 - 1).toInt64) := ⟨_, rfl⟩
    by_cases c19 : r18 = 0
    · obtain ⟨r21, hr21⟩ : ∃ y : Int32, y = (f_X7_refused M 1).1 := ⟨_, rfl⟩
      obtain ⟨M20, hM20⟩ : ∃ y : bM, y = (f_X7_refused M 1).2 := ⟨_, rfl⟩
      rw [p_X7_course_e23 M x1 x2 r11 hr11.symm c12 r17 hr17.symm r18 hr18.symm c19 r21 hr21.symm M20 hM20.symm]
      try dsimp only
      rw [hM20, fr_X7_refused M 1 k (by omega)]
    · obtain ⟨r25, hr25⟩ : ∃ y : Int32, y = (f_X7_refused M 0).1 := ⟨_, rfl⟩
      obtain ⟨M24, hM24⟩ : ∃ y : bM, y = (f_X7_refused M 0).2 := ⟨_, rfl⟩
      rw [p_X7_course_e27 M x1 x2 r11 hr11.symm c12 r17 hr17.symm r18 hr18.symm c19 r25 hr25.symm M24 hM24.symm]
      try dsimp only
      rw [hM24, fr_X7_refused M 0 k (by omega)]
def lp_X7_remember_11  : Nat → Nat → bM → (bM)
  | 0, i15, M16 => M16
  | n15 + 1, i15, M16 => (let M20 : bM := up2 M16 4 i15 (M16 4 (nI i15 + 404).toNatClampNeg); lp_X7_remember_11 n15 (i15 + 1) M20)
theorem u0_lp_X7_remember_11  (i15 : Nat) (M16 : bM) : lp_X7_remember_11 0 i15 M16 = M16 := rfl
theorem u1_lp_X7_remember_11  (n15 i15 : Nat) (M16 : bM) : lp_X7_remember_11 (n15 + 1) i15 M16 = (let M20 : bM := up2 M16 4 i15 (M16 4 (nI i15 + 404).toNatClampNeg); lp_X7_remember_11 n15 (i15 + 1) M20) := rfl
def f_X7_remember (M : bM) : bM := (if (M 0 6) = 14 then (let M22 : bM := (lp_X7_remember_11 5252 0 M); (let M23 : bM := up2 M22 0 6 ((M22 0 6) - 1); (let M24 : bM := f_X7_copyState M23 2 404 0 4 5656 ((404 : Int32) * (M23 0 6)); (let M25 : bM := up2 M24 0 6 ((M24 0 6) + 1); M25)))) else (let M12 : bM := f_X7_copyState M 2 404 0 4 5656 ((404 : Int32) * (M 0 6)); (let M13 : bM := up2 M12 0 6 ((M12 0 6) + 1); M13)))
theorem u_f_X7_remember (M : bM) : f_X7_remember M = (if (M 0 6) = 14 then (let M22 : bM := (lp_X7_remember_11 5252 0 M); (let M23 : bM := up2 M22 0 6 ((M22 0 6) - 1); (let M24 : bM := f_X7_copyState M23 2 404 0 4 5656 ((404 : Int32) * (M23 0 6)); (let M25 : bM := up2 M24 0 6 ((M24 0 6) + 1); M25)))) else (let M12 : bM := f_X7_copyState M 2 404 0 4 5656 ((404 : Int32) * (M 0 6)); (let M13 : bM := up2 M12 0 6 ((M12 0 6) + 1); M13))) := rfl
theorem p_X7_remember_e14 (M : bM) (c11 : ¬ (M 0 6) = 14) (M12 : bM) (hM12 : f_X7_copyState M 2 404 0 4 5656 ((404 : Int32) * (M 0 6)) = M12) (M13 : bM) (hM13 : up2 M12 0 6 ((M12 0 6) + 1) = M13) : f_X7_remember M = M13 := by subst hM13 hM12; exact Eq.trans (u_f_X7_remember M) (if_neg c11)
theorem p_X7_remember_e18 (M : bM) (M16 : bM) (i15 : Nat)  : lp_X7_remember_11 0 i15 M16 = M16 := by exact u0_lp_X7_remember_11 i15 M16
theorem p_X7_remember_e21 (M : bM) (M16 : bM) (i15 : Nat) (n15 : Nat) (M20 : bM) (hM20 : up2 M16 4 i15 (M16 4 (nI i15 + 404).toNatClampNeg) = M20) : lp_X7_remember_11 (n15 + 1) i15 M16 = lp_X7_remember_11 n15 (i15 + 1) M20 := by subst hM20; exact u1_lp_X7_remember_11 n15 i15 M16
theorem p_X7_remember_e26 (M : bM) (c11 : (M 0 6) = 14) (M22 : bM) (hM22 : (lp_X7_remember_11 5252 0 M) = M22) (M23 : bM) (hM23 : up2 M22 0 6 ((M22 0 6) - 1) = M23) (M24 : bM) (hM24 : f_X7_copyState M23 2 404 0 4 5656 ((404 : Int32) * (M23 0 6)) = M24) (M25 : bM) (hM25 : up2 M24 0 6 ((M24 0 6) + 1) = M25) : f_X7_remember M = M25 := by subst hM25 hM24 hM23 hM22; exact Eq.trans (u_f_X7_remember M) (if_pos c11)
theorem fr_lp_X7_remember_11 (M : bM) (k : Nat) (hk4 : k ≠ 4) (hk0 : k ≠ 0) : ∀ (n15 i15 : Nat) (M16 : bM), (lp_X7_remember_11 n15 i15 M16) k = M16 k := by
  intro n15
  induction n15 with
  | zero =>
    intro i15 M16
    rw [p_X7_remember_e18 M M16 i15 ]
  | succ n15 ih15 =>
    intro i15 M16
    obtain ⟨M20, hM20⟩ : ∃ y : bM, y = up2 M16 4 i15 (M16 4 (nI i15 + 404).toNatClampNeg) := ⟨_, rfl⟩
    rw [p_X7_remember_e21 M M16 i15 n15 M20 hM20.symm, ih15]
    try dsimp only
    rw [hM20, up2_row (by omega)]
theorem fr_X7_remember (M : bM) (k : Nat) (hk4 : k ≠ 4) (hk0 : k ≠ 0) : f_X7_remember M k = M k := by
  by_cases c11 : (M 0 6) = 14
  · obtain ⟨M22, hM22⟩ : ∃ y : bM, y = (lp_X7_remember_11 5252 0 M) := ⟨_, rfl⟩
    obtain ⟨M23, hM23⟩ : ∃ y : bM, y = up2 M22 0 6 ((M22 0 6) - 1) := ⟨_, rfl⟩
    obtain ⟨M24, hM24⟩ : ∃ y : bM, y = f_X7_copyState M23 2 404 0 4 5656 ((404 : Int32) * (M23 0 6)) := ⟨_, rfl⟩
    obtain ⟨M25, hM25⟩ : ∃ y : bM, y = up2 M24 0 6 ((M24 0 6) + 1) := ⟨_, rfl⟩
    rw [p_X7_remember_e26 M c11 M22 hM22.symm M23 hM23.symm M24 hM24.symm M25 hM25.symm]
    try dsimp only
    rw [hM25, up2_row (by omega), hM24, fr_X7_copyState M23 2 404 0 4 5656 ((404 : Int32) * (M23 0 6)) k (by omega), hM23, up2_row (by omega), hM22, fr_lp_X7_remember_11 M k hk4 hk0 5252 0 M]
  · obtain ⟨M12, hM12⟩ : ∃ y : bM, y = f_X7_copyState M 2 404 0 4 5656 ((404 : Int32) * (M 0 6)) := ⟨_, rfl⟩
    obtain ⟨M13, hM13⟩ : ∃ y : bM, y = up2 M12 0 6 ((M12 0 6) + 1) := ⟨_, rfl⟩
    rw [p_X7_remember_e14 M c11 M12 hM12.symm M13 hM13.symm]
    try dsimp only
    rw [hM13, up2_row (by omega), hM12, fr_X7_copyState M 2 404 0 4 5656 ((404 : Int32) * (M 0 6)) k (by omega)]
def f_X7_game (M : bM) (x1 : Int64) : Int32 × bM := (let M11 : bM := up2 M 0 0 0; (let M12 : bM := f_X7_remember M11; (let r14 : Int32 := (f_X7_gameOn M12 2 x1).1; (let M13 : bM := (f_X7_gameOn M12 2 x1).2; (r14, M13)))))
theorem u_f_X7_game (M : bM) (x1 : Int64) : f_X7_game M x1 = (let M11 : bM := up2 M 0 0 0; (let M12 : bM := f_X7_remember M11; (let r14 : Int32 := (f_X7_gameOn M12 2 x1).1; (let M13 : bM := (f_X7_gameOn M12 2 x1).2; (r14, M13))))) := rfl
theorem p_X7_game_e15 (M : bM) (x1 : Int64) (M11 : bM) (hM11 : up2 M 0 0 0 = M11) (M12 : bM) (hM12 : f_X7_remember M11 = M12) (r14 : Int32) (hr14 : (f_X7_gameOn M12 2 x1).1 = r14) (M13 : bM) (hM13 : (f_X7_gameOn M12 2 x1).2 = M13) : f_X7_game M x1 = (r14, M13) := by subst hM13 hr14 hM12 hM11; exact u_f_X7_game M x1
theorem fr_X7_game (M : bM) (x1 : Int64) (k : Nat) (hk2 : k ≠ 2) (hk4 : k ≠ 4) (hk0 : k ≠ 0) : (f_X7_game M x1).2 k = M k := by
  obtain ⟨M11, hM11⟩ : ∃ y : bM, y = up2 M 0 0 0 := ⟨_, rfl⟩
  obtain ⟨M12, hM12⟩ : ∃ y : bM, y = f_X7_remember M11 := ⟨_, rfl⟩
  obtain ⟨r14, hr14⟩ : ∃ y : Int32, y = (f_X7_gameOn M12 2 x1).1 := ⟨_, rfl⟩
  obtain ⟨M13, hM13⟩ : ∃ y : bM, y = (f_X7_gameOn M12 2 x1).2 := ⟨_, rfl⟩
  rw [p_X7_game_e15 M x1 M11 hM11.symm M12 hM12.symm r14 hr14.symm M13 hM13.symm]
  try dsimp only
  rw [hM13, fr_X7_gameOn M12 2 x1 k (by omega), hM12, fr_X7_remember M11  k (by omega) (by omega), hM11, up2_row (by omega)]
def f_X7_step (M : bM) (x1 : Int32) : Int32 × bM := (let r11 : Int32 := f_X7_in x1.toInt64 0 2; (if r11 = 0 then (let r27 : Int32 := (f_X7_refused M 1).1; (let M26 : bM := (f_X7_refused M 1).2; (0, M26))) else (let r13 : Int32 := f_X7_isUnderWay M 2; (if r13 = 0 then (let r16 : Int32 := (f_X7_refused M 2).1; (let M15 : bM := (f_X7_refused M 2).2; (0, M15))) else (let r20 : Int32 := (f_X7_refused M 0).1; (let M19 : bM := (f_X7_refused M 0).2; (let M22 : bM := f_X7_remember M19; (let r24 : Int32 := (f_X7_stepOn M22 2 x1).1; (let M23 : bM := (f_X7_stepOn M22 2 x1).2; (r24, M23))))))))))
theorem u_f_X7_step (M : bM) (x1 : Int32) : f_X7_step M x1 = (let r11 : Int32 := f_X7_in x1.toInt64 0 2; (if r11 = 0 then (let r27 : Int32 := (f_X7_refused M 1).1; (let M26 : bM := (f_X7_refused M 1).2; (0, M26))) else (let r13 : Int32 := f_X7_isUnderWay M 2; (if r13 = 0 then (let r16 : Int32 := (f_X7_refused M 2).1; (let M15 : bM := (f_X7_refused M 2).2; (0, M15))) else (let r20 : Int32 := (f_X7_refused M 0).1; (let M19 : bM := (f_X7_refused M 0).2; (let M22 : bM := f_X7_remember M19; (let r24 : Int32 := (f_X7_stepOn M22 2 x1).1; (let M23 : bM := (f_X7_stepOn M22 2 x1).2; (r24, M23)))))))))) := rfl
theorem p_X7_step_e18 (M : bM) (x1 : Int32) (r11 : Int32) (hr11 : f_X7_in x1.toInt64 0 2 = r11) (c12 : ¬ r11 = 0) (r13 : Int32) (hr13 : f_X7_isUnderWay M 2 = r13) (c14 : r13 = 0) (r16 : Int32) (hr16 : (f_X7_refused M 2).1 = r16) (M15 : bM) (hM15 : (f_X7_refused M 2).2 = M15) : f_X7_step M x1 = (0, M15) := by subst hM15 hr16 hr13 hr11; exact Eq.trans (u_f_X7_step M x1) (Eq.trans (if_neg c12) (if_pos c14))
theorem p_X7_step_e25 (M : bM) (x1 : Int32) (r11 : Int32) (hr11 : f_X7_in x1.toInt64 0 2 = r11) (c12 : ¬ r11 = 0) (r13 : Int32) (hr13 : f_X7_isUnderWay M 2 = r13) (c14 : ¬ r13 = 0) (r20 : Int32) (hr20 : (f_X7_refused M 0).1 = r20) (M19 : bM) (hM19 : (f_X7_refused M 0).2 = M19) (M22 : bM) (hM22 : f_X7_remember M19 = M22) (r24 : Int32) (hr24 : (f_X7_stepOn M22 2 x1).1 = r24) (M23 : bM) (hM23 : (f_X7_stepOn M22 2 x1).2 = M23) : f_X7_step M x1 = (r24, M23) := by subst hM23 hr24 hM22 hM19 hr20 hr13 hr11; exact Eq.trans (u_f_X7_step M x1) (Eq.trans (if_neg c12) (if_neg c14))
theorem p_X7_step_e29 (M : bM) (x1 : Int32) (r11 : Int32) (hr11 : f_X7_in x1.toInt64 0 2 = r11) (c12 : r11 = 0) (r27 : Int32) (hr27 : (f_X7_refused M 1).1 = r27) (M26 : bM) (hM26 : (f_X7_refused M 1).2 = M26) : f_X7_step M x1 = (0, M26) := by subst hM26 hr27 hr11; exact Eq.trans (u_f_X7_step M x1) (if_pos c12)
theorem fr_X7_step (M : bM) (x1 : Int32) (k : Nat) (hk2 : k ≠ 2) (hk4 : k ≠ 4) (hk0 : k ≠ 0) : (f_X7_step M x1).2 k = M k := by
  obtain ⟨r11, hr11⟩ : ∃ y : Int32, y = f_X7_in x1.toInt64 0 2 := ⟨_, rfl⟩
  by_cases c12 : r11 = 0
  · obtain ⟨r27, hr27⟩ : ∃ y : Int32, y = (f_X7_refused M 1).1 := ⟨_, rfl⟩
    obtain ⟨M26, hM26⟩ : ∃ y : bM, y = (f_X7_refused M 1).2 := ⟨_, rfl⟩
    rw [p_X7_step_e29 M x1 r11 hr11.symm c12 r27 hr27.symm M26 hM26.symm]
    try dsimp only
    rw [hM26, fr_X7_refused M 1 k (by omega)]
  · obtain ⟨r13, hr13⟩ : ∃ y : Int32, y = f_X7_isUnderWay M 2 := ⟨_, rfl⟩
    by_cases c14 : r13 = 0
    · obtain ⟨r16, hr16⟩ : ∃ y : Int32, y = (f_X7_refused M 2).1 := ⟨_, rfl⟩
      obtain ⟨M15, hM15⟩ : ∃ y : bM, y = (f_X7_refused M 2).2 := ⟨_, rfl⟩
      rw [p_X7_step_e18 M x1 r11 hr11.symm c12 r13 hr13.symm c14 r16 hr16.symm M15 hM15.symm]
      try dsimp only
      rw [hM15, fr_X7_refused M 2 k (by omega)]
    · obtain ⟨r20, hr20⟩ : ∃ y : Int32, y = (f_X7_refused M 0).1 := ⟨_, rfl⟩
      obtain ⟨M19, hM19⟩ : ∃ y : bM, y = (f_X7_refused M 0).2 := ⟨_, rfl⟩
      obtain ⟨M22, hM22⟩ : ∃ y : bM, y = f_X7_remember M19 := ⟨_, rfl⟩
      obtain ⟨r24, hr24⟩ : ∃ y : Int32, y = (f_X7_stepOn M22 2 x1).1 := ⟨_, rfl⟩
      obtain ⟨M23, hM23⟩ : ∃ y : bM, y = (f_X7_stepOn M22 2 x1).2 := ⟨_, rfl⟩
      rw [p_X7_step_e25 M x1 r11 hr11.symm c12 r13 hr13.symm c14 r20 hr20.symm M19 hM19.symm M22 hM22.symm r24 hr24.symm M23 hM23.symm]
      try dsimp only
      rw [hM23, fr_X7_stepOn M22 2 x1 k (by omega), hM22, fr_X7_remember M19  k (by omega) (by omega), hM19, fr_X7_refused M 0 k (by omega)]
def f_X7_dam (M : bM) (x1 : Int32) (x2 : Int32) : Int32 × bM := (let r11 : Int32 := f_X7_isCell x1 x2; (if r11 = 0 then (let r27 : Int32 := (f_X7_refused M 1).1; (let M26 : bM := (f_X7_refused M 1).2; (0, M26))) else (let r13 : Int32 := f_X7_isUnderWay M 2; (if r13 = 0 then (let r16 : Int32 := (f_X7_refused M 2).1; (let M15 : bM := (f_X7_refused M 2).2; (0, M15))) else (let r20 : Int32 := (f_X7_refused M 0).1; (let M19 : bM := (f_X7_refused M 0).2; (let M22 : bM := f_X7_remember M19; (let r24 : Int32 := (f_X7_damOn M22 2 (((8 : Int32) * x2) + x1)).1; (let M23 : bM := (f_X7_damOn M22 2 (((8 : Int32) * x2) + x1)).2; (r24, M23))))))))))
theorem u_f_X7_dam (M : bM) (x1 : Int32) (x2 : Int32) : f_X7_dam M x1 x2 = (let r11 : Int32 := f_X7_isCell x1 x2; (if r11 = 0 then (let r27 : Int32 := (f_X7_refused M 1).1; (let M26 : bM := (f_X7_refused M 1).2; (0, M26))) else (let r13 : Int32 := f_X7_isUnderWay M 2; (if r13 = 0 then (let r16 : Int32 := (f_X7_refused M 2).1; (let M15 : bM := (f_X7_refused M 2).2; (0, M15))) else (let r20 : Int32 := (f_X7_refused M 0).1; (let M19 : bM := (f_X7_refused M 0).2; (let M22 : bM := f_X7_remember M19; (let r24 : Int32 := (f_X7_damOn M22 2 (((8 : Int32) * x2) + x1)).1; (let M23 : bM := (f_X7_damOn M22 2 (((8 : Int32) * x2) + x1)).2; (r24, M23)))))))))) := rfl
theorem p_X7_dam_e18 (M : bM) (x1 : Int32) (x2 : Int32) (r11 : Int32) (hr11 : f_X7_isCell x1 x2 = r11) (c12 : ¬ r11 = 0) (r13 : Int32) (hr13 : f_X7_isUnderWay M 2 = r13) (c14 : r13 = 0) (r16 : Int32) (hr16 : (f_X7_refused M 2).1 = r16) (M15 : bM) (hM15 : (f_X7_refused M 2).2 = M15) : f_X7_dam M x1 x2 = (0, M15) := by subst hM15 hr16 hr13 hr11; exact Eq.trans (u_f_X7_dam M x1 x2) (Eq.trans (if_neg c12) (if_pos c14))
theorem p_X7_dam_e25 (M : bM) (x1 : Int32) (x2 : Int32) (r11 : Int32) (hr11 : f_X7_isCell x1 x2 = r11) (c12 : ¬ r11 = 0) (r13 : Int32) (hr13 : f_X7_isUnderWay M 2 = r13) (c14 : ¬ r13 = 0) (r20 : Int32) (hr20 : (f_X7_refused M 0).1 = r20) (M19 : bM) (hM19 : (f_X7_refused M 0).2 = M19) (M22 : bM) (hM22 : f_X7_remember M19 = M22) (r24 : Int32) (hr24 : (f_X7_damOn M22 2 (((8 : Int32) * x2) + x1)).1 = r24) (M23 : bM) (hM23 : (f_X7_damOn M22 2 (((8 : Int32) * x2) + x1)).2 = M23) : f_X7_dam M x1 x2 = (r24, M23) := by subst hM23 hr24 hM22 hM19 hr20 hr13 hr11; exact Eq.trans (u_f_X7_dam M x1 x2) (Eq.trans (if_neg c12) (if_neg c14))
theorem p_X7_dam_e29 (M : bM) (x1 : Int32) (x2 : Int32) (r11 : Int32) (hr11 : f_X7_isCell x1 x2 = r11) (c12 : r11 = 0) (r27 : Int32) (hr27 : (f_X7_refused M 1).1 = r27) (M26 : bM) (hM26 : (f_X7_refused M 1).2 = M26) : f_X7_dam M x1 x2 = (0, M26) := by subst hM26 hr27 hr11; exact Eq.trans (u_f_X7_dam M x1 x2) (if_pos c12)
theorem fr_X7_dam (M : bM) (x1 : Int32) (x2 : Int32) (k : Nat) (hk2 : k ≠ 2) (hk4 : k ≠ 4) (hk0 : k ≠ 0) (hf : k ≠ 7) : (f_X7_dam M x1 x2).2 k = M k := by
  obtain ⟨r11, hr11⟩ : ∃ y : Int32, y = f_X7_isCell x1 x2 := ⟨_, rfl⟩
  by_cases c12 : r11 = 0
  · obtain ⟨r27, hr27⟩ : ∃ y : Int32, y = (f_X7_refused M 1).1 := ⟨_, rfl⟩
    obtain ⟨M26, hM26⟩ : ∃ y : bM, y = (f_X7_refused M 1).2 := ⟨_, rfl⟩
    rw [p_X7_dam_e29 M x1 x2 r11 hr11.symm c12 r27 hr27.symm M26 hM26.symm]
    try dsimp only
    rw [hM26, fr_X7_refused M 1 k (by omega)]
  · obtain ⟨r13, hr13⟩ : ∃ y : Int32, y = f_X7_isUnderWay M 2 := ⟨_, rfl⟩
    by_cases c14 : r13 = 0
    · obtain ⟨r16, hr16⟩ : ∃ y : Int32, y = (f_X7_refused M 2).1 := ⟨_, rfl⟩
      obtain ⟨M15, hM15⟩ : ∃ y : bM, y = (f_X7_refused M 2).2 := ⟨_, rfl⟩
      rw [p_X7_dam_e18 M x1 x2 r11 hr11.symm c12 r13 hr13.symm c14 r16 hr16.symm M15 hM15.symm]
      try dsimp only
      rw [hM15, fr_X7_refused M 2 k (by omega)]
    · obtain ⟨r20, hr20⟩ : ∃ y : Int32, y = (f_X7_refused M 0).1 := ⟨_, rfl⟩
      obtain ⟨M19, hM19⟩ : ∃ y : bM, y = (f_X7_refused M 0).2 := ⟨_, rfl⟩
      obtain ⟨M22, hM22⟩ : ∃ y : bM, y = f_X7_remember M19 := ⟨_, rfl⟩
      obtain ⟨r24, hr24⟩ : ∃ y : Int32, y = (f_X7_damOn M22 2 (((8 : Int32) * x2) + x1)).1 := ⟨_, rfl⟩
      obtain ⟨M23, hM23⟩ : ∃ y : bM, y = (f_X7_damOn M22 2 (((8 : Int32) * x2) + x1)).2 := ⟨_, rfl⟩
      rw [p_X7_dam_e25 M x1 x2 r11 hr11.symm c12 r13 hr13.symm c14 r20 hr20.symm M19 hM19.symm M22 hM22.symm r24 hr24.symm M23 hM23.symm]
      try dsimp only
      rw [hM23, fr_X7_damOn M22 2 (((8 : Int32) * x2) + x1) k (by omega) (by omega), hM22, fr_X7_remember M19  k (by omega) (by omega), hM19, fr_X7_refused M 0 k (by omega)]
def f_X7_flood (M : bM) : Int32 × bM := (let r11 : Int32 := f_X7_isUnderWay M 2; (if r11 = 0 then (let r14 : Int32 := (f_X7_refused M 1).1; (let M13 : bM := (f_X7_refused M 1).2; (0, M13))) else (let r17 : Int32 := f_X7_canStep M 2; (if r17 = 0 then (let r24 : Int32 := (f_X7_refused M 0).1; (let M23 : bM := (f_X7_refused M 0).2; (let M26 : bM := f_X7_remember M23; (let r28 : Int32 := (f_X7_floodOn M26 2).1; (let M27 : bM := (f_X7_floodOn M26 2).2; (r28, M27)))))) else (let r20 : Int32 := (f_X7_refused M 1).1; (let M19 : bM := (f_X7_refused M 1).2; (0, M19)))))))
theorem u_f_X7_flood (M : bM) : f_X7_flood M = (let r11 : Int32 := f_X7_isUnderWay M 2; (if r11 = 0 then (let r14 : Int32 := (f_X7_refused M 1).1; (let M13 : bM := (f_X7_refused M 1).2; (0, M13))) else (let r17 : Int32 := f_X7_canStep M 2; (if r17 = 0 then (let r24 : Int32 := (f_X7_refused M 0).1; (let M23 : bM := (f_X7_refused M 0).2; (let M26 : bM := f_X7_remember M23; (let r28 : Int32 := (f_X7_floodOn M26 2).1; (let M27 : bM := (f_X7_floodOn M26 2).2; (r28, M27)))))) else (let r20 : Int32 := (f_X7_refused M 1).1; (let M19 : bM := (f_X7_refused M 1).2; (0, M19))))))) := rfl
theorem p_X7_flood_e16 (M : bM) (r11 : Int32) (hr11 : f_X7_isUnderWay M 2 = r11) (c12 : r11 = 0) (r14 : Int32) (hr14 : (f_X7_refused M 1).1 = r14) (M13 : bM) (hM13 : (f_X7_refused M 1).2 = M13) : f_X7_flood M = (0, M13) := by subst hM13 hr14 hr11; exact Eq.trans (u_f_X7_flood M) (if_pos c12)
theorem p_X7_flood_e22 (M : bM) (r11 : Int32) (hr11 : f_X7_isUnderWay M 2 = r11) (c12 : ¬ r11 = 0) (r17 : Int32) (hr17 : f_X7_canStep M 2 = r17) (c18 : ¬ r17 = 0) (r20 : Int32) (hr20 : (f_X7_refused M 1).1 = r20) (M19 : bM) (hM19 : (f_X7_refused M 1).2 = M19) : f_X7_flood M = (0, M19) := by subst hM19 hr20 hr17 hr11; exact Eq.trans (u_f_X7_flood M) (Eq.trans (if_neg c12) (if_neg c18))
theorem p_X7_flood_e29 (M : bM) (r11 : Int32) (hr11 : f_X7_isUnderWay M 2 = r11) (c12 : ¬ r11 = 0) (r17 : Int32) (hr17 : f_X7_canStep M 2 = r17) (c18 : r17 = 0) (r24 : Int32) (hr24 : (f_X7_refused M 0).1 = r24) (M23 : bM) (hM23 : (f_X7_refused M 0).2 = M23) (M26 : bM) (hM26 : f_X7_remember M23 = M26) (r28 : Int32) (hr28 : (f_X7_floodOn M26 2).1 = r28) (M27 : bM) (hM27 : (f_X7_floodOn M26 2).2 = M27) : f_X7_flood M = (r28, M27) := by subst hM27 hr28 hM26 hM23 hr24 hr17 hr11; exact Eq.trans (u_f_X7_flood M) (Eq.trans (if_neg c12) (if_pos c18))
theorem fr_X7_flood (M : bM) (k : Nat) (hk2 : k ≠ 2) (hk4 : k ≠ 4) (hk0 : k ≠ 0) : (f_X7_flood M).2 k = M k := by
  obtain ⟨r11, hr11⟩ : ∃ y : Int32, y = f_X7_isUnderWay M 2 := ⟨_, rfl⟩
  by_cases c12 : r11 = 0
  · obtain ⟨r14, hr14⟩ : ∃ y : Int32, y = (f_X7_refused M 1).1 := ⟨_, rfl⟩
    obtain ⟨M13, hM13⟩ : ∃ y : bM, y = (f_X7_refused M 1).2 := ⟨_, rfl⟩
    rw [p_X7_flood_e16 M r11 hr11.symm c12 r14 hr14.symm M13 hM13.symm]
    try dsimp only
    rw [hM13, fr_X7_refused M 1 k (by omega)]
  · obtain ⟨r17, hr17⟩ : ∃ y : Int32, y = f_X7_canStep M 2 := ⟨_, rfl⟩
    by_cases c18 : r17 = 0
    · obtain ⟨r24, hr24⟩ : ∃ y : Int32, y = (f_X7_refused M 0).1 := ⟨_, rfl⟩
      obtain ⟨M23, hM23⟩ : ∃ y : bM, y = (f_X7_refused M 0).2 := ⟨_, rfl⟩
      obtain ⟨M26, hM26⟩ : ∃ y : bM, y = f_X7_remember M23 := ⟨_, rfl⟩
      obtain ⟨r28, hr28⟩ : ∃ y : Int32, y = (f_X7_floodOn M26 2).1 := ⟨_, rfl⟩
      obtain ⟨M27, hM27⟩ : ∃ y : bM, y = (f_X7_floodOn M26 2).2 := ⟨_, rfl⟩
      rw [p_X7_flood_e29 M r11 hr11.symm c12 r17 hr17.symm c18 r24 hr24.symm M23 hM23.symm M26 hM26.symm r28 hr28.symm M27 hM27.symm]
      try dsimp only
      rw [hM27, fr_X7_floodOn M26 2 k (by omega), hM26, fr_X7_remember M23  k (by omega) (by omega), hM23, fr_X7_refused M 0 k (by omega)]
    · obtain ⟨r20, hr20⟩ : ∃ y : Int32, y = (f_X7_refused M 1).1 := ⟨_, rfl⟩
      obtain ⟨M19, hM19⟩ : ∃ y : bM, y = (f_X7_refused M 1).2 := ⟨_, rfl⟩
      rw [p_X7_flood_e22 M r11 hr11.symm c12 r17 hr17.symm c18 r20 hr20.symm M19 hM19.symm]
      try dsimp only
      rw [hM19, fr_X7_refused M 1 k (by omega)]
def f_X7_set (M : bM) (x1 : Int32) (x2 : Int32) : Int32 × bM := (let r11 : Int32 := f_X7_isSetting x1 x2; (if r11 = 0 then (let r14 : Int32 := (f_X7_refused M 1).1; (let M13 : bM := (f_X7_refused M 1).2; (0, M13))) else (let r18 : Int32 := (f_X7_refused M 0).1; (let M17 : bM := (f_X7_refused M 0).2; (let M20 : bM := f_X7_remember M17; (let r22 : Int32 := (f_X7_change M20 2 x1 x2).1; (let M21 : bM := (f_X7_change M20 2 x1 x2).2; (r22, M21))))))))
theorem u_f_X7_set (M : bM) (x1 : Int32) (x2 : Int32) : f_X7_set M x1 x2 = (let r11 : Int32 := f_X7_isSetting x1 x2; (if r11 = 0 then (let r14 : Int32 := (f_X7_refused M 1).1; (let M13 : bM := (f_X7_refused M 1).2; (0, M13))) else (let r18 : Int32 := (f_X7_refused M 0).1; (let M17 : bM := (f_X7_refused M 0).2; (let M20 : bM := f_X7_remember M17; (let r22 : Int32 := (f_X7_change M20 2 x1 x2).1; (let M21 : bM := (f_X7_change M20 2 x1 x2).2; (r22, M21)))))))) := rfl
theorem p_X7_set_e16 (M : bM) (x1 : Int32) (x2 : Int32) (r11 : Int32) (hr11 : f_X7_isSetting x1 x2 = r11) (c12 : r11 = 0) (r14 : Int32) (hr14 : (f_X7_refused M 1).1 = r14) (M13 : bM) (hM13 : (f_X7_refused M 1).2 = M13) : f_X7_set M x1 x2 = (0, M13) := by subst hM13 hr14 hr11; exact Eq.trans (u_f_X7_set M x1 x2) (if_pos c12)
theorem p_X7_set_e23 (M : bM) (x1 : Int32) (x2 : Int32) (r11 : Int32) (hr11 : f_X7_isSetting x1 x2 = r11) (c12 : ¬ r11 = 0) (r18 : Int32) (hr18 : (f_X7_refused M 0).1 = r18) (M17 : bM) (hM17 : (f_X7_refused M 0).2 = M17) (M20 : bM) (hM20 : f_X7_remember M17 = M20) (r22 : Int32) (hr22 : (f_X7_change M20 2 x1 x2).1 = r22) (M21 : bM) (hM21 : (f_X7_change M20 2 x1 x2).2 = M21) : f_X7_set M x1 x2 = (r22, M21) := by subst hM21 hr22 hM20 hM17 hr18 hr11; exact Eq.trans (u_f_X7_set M x1 x2) (if_neg c12)
theorem fr_X7_set (M : bM) (x1 : Int32) (x2 : Int32) (k : Nat) (hk2 : k ≠ 2) (hk4 : k ≠ 4) (hk0 : k ≠ 0) : (f_X7_set M x1 x2).2 k = M k := by
  obtain ⟨r11, hr11⟩ : ∃ y : Int32, y = f_X7_isSetting x1 x2 := ⟨_, rfl⟩
  by_cases c12 : r11 = 0
  · obtain ⟨r14, hr14⟩ : ∃ y : Int32, y = (f_X7_refused M 1).1 := ⟨_, rfl⟩
    obtain ⟨M13, hM13⟩ : ∃ y : bM, y = (f_X7_refused M 1).2 := ⟨_, rfl⟩
    rw [p_X7_set_e16 M x1 x2 r11 hr11.symm c12 r14 hr14.symm M13 hM13.symm]
    try dsimp only
    rw [hM13, fr_X7_refused M 1 k (by omega)]
  · obtain ⟨r18, hr18⟩ : ∃ y : Int32, y = (f_X7_refused M 0).1 := ⟨_, rfl⟩
    obtain ⟨M17, hM17⟩ : ∃ y : bM, y = (f_X7_refused M 0).2 := ⟨_, rfl⟩
    obtain ⟨M20, hM20⟩ : ∃ y : bM, y = f_X7_remember M17 := ⟨_, rfl⟩
    obtain ⟨r22, hr22⟩ : ∃ y : Int32, y = (f_X7_change M20 2 x1 x2).1 := ⟨_, rfl⟩
    obtain ⟨M21, hM21⟩ : ∃ y : bM, y = (f_X7_change M20 2 x1 x2).2 := ⟨_, rfl⟩
    rw [p_X7_set_e23 M x1 x2 r11 hr11.symm c12 r18 hr18.symm M17 hM17.symm M20 hM20.symm r22 hr22.symm M21 hM21.symm]
    try dsimp only
    rw [hM21, fr_X7_change M20 2 x1 x2 k (by omega), hM20, fr_X7_remember M17  k (by omega) (by omega), hM17, fr_X7_refused M 0 k (by omega)]
def f_X7_undo (M : bM) : Int32 × bM := (if (M 0 6) = 0 then (let r19 : Int32 := (f_X7_refused M 1).1; (let M18 : bM := (f_X7_refused M 1).2; (0, M18))) else (let r13 : Int32 := (f_X7_refused M 0).1; (let M12 : bM := (f_X7_refused M 0).2; (let M15 : bM := up2 M12 0 6 ((M12 0 6) - 1); (let M16 : bM := f_X7_copyState M15 4 5656 ((404 : Int32) * (M15 0 6)) 2 404 0; ((M16 0 6), M16))))))
theorem u_f_X7_undo (M : bM) : f_X7_undo M = (if (M 0 6) = 0 then (let r19 : Int32 := (f_X7_refused M 1).1; (let M18 : bM := (f_X7_refused M 1).2; (0, M18))) else (let r13 : Int32 := (f_X7_refused M 0).1; (let M12 : bM := (f_X7_refused M 0).2; (let M15 : bM := up2 M12 0 6 ((M12 0 6) - 1); (let M16 : bM := f_X7_copyState M15 4 5656 ((404 : Int32) * (M15 0 6)) 2 404 0; ((M16 0 6), M16)))))) := rfl
theorem p_X7_undo_e17 (M : bM) (c11 : ¬ (M 0 6) = 0) (r13 : Int32) (hr13 : (f_X7_refused M 0).1 = r13) (M12 : bM) (hM12 : (f_X7_refused M 0).2 = M12) (M15 : bM) (hM15 : up2 M12 0 6 ((M12 0 6) - 1) = M15) (M16 : bM) (hM16 : f_X7_copyState M15 4 5656 ((404 : Int32) * (M15 0 6)) 2 404 0 = M16) : f_X7_undo M = ((M16 0 6), M16) := by subst hM16 hM15 hM12 hr13; exact Eq.trans (u_f_X7_undo M) (if_neg c11)
theorem p_X7_undo_e21 (M : bM) (c11 : (M 0 6) = 0) (r19 : Int32) (hr19 : (f_X7_refused M 1).1 = r19) (M18 : bM) (hM18 : (f_X7_refused M 1).2 = M18) : f_X7_undo M = (0, M18) := by subst hM18 hr19; exact Eq.trans (u_f_X7_undo M) (if_pos c11)
theorem fr_X7_undo (M : bM) (k : Nat) (hk2 : k ≠ 2) (hk0 : k ≠ 0) : (f_X7_undo M).2 k = M k := by
  by_cases c11 : (M 0 6) = 0
  · obtain ⟨r19, hr19⟩ : ∃ y : Int32, y = (f_X7_refused M 1).1 := ⟨_, rfl⟩
    obtain ⟨M18, hM18⟩ : ∃ y : bM, y = (f_X7_refused M 1).2 := ⟨_, rfl⟩
    rw [p_X7_undo_e21 M c11 r19 hr19.symm M18 hM18.symm]
    try dsimp only
    rw [hM18, fr_X7_refused M 1 k (by omega)]
  · obtain ⟨r13, hr13⟩ : ∃ y : Int32, y = (f_X7_refused M 0).1 := ⟨_, rfl⟩
    obtain ⟨M12, hM12⟩ : ∃ y : bM, y = (f_X7_refused M 0).2 := ⟨_, rfl⟩
    obtain ⟨M15, hM15⟩ : ∃ y : bM, y = up2 M12 0 6 ((M12 0 6) - 1) := ⟨_, rfl⟩
    obtain ⟨M16, hM16⟩ : ∃ y : bM, y = f_X7_copyState M15 4 5656 ((404 : Int32) * (M15 0 6)) 2 404 0 := ⟨_, rfl⟩
    rw [p_X7_undo_e17 M c11 r13 hr13.symm M12 hM12.symm M15 hM15.symm M16 hM16.symm]
    try dsimp only
    rw [hM16, fr_X7_copyState M15 4 5656 ((404 : Int32) * (M15 0 6)) 2 404 0 k (by omega), hM15, up2_row (by omega), hM12, fr_X7_refused M 0 k (by omega)]
def f_X7_why (M : bM) (x1 : Int32) : Int32 × bM := (let r11 : Int32 := f_X7_in x1.toInt64 0 2; (if r11 = 0 then (let r14 : Int32 := (f_X7_refused M 1).1; (let M13 : bM := (f_X7_refused M 1).2; (0, M13))) else (let r18 : Int32 := (f_X7_refused M 0).1; (let M17 : bM := (f_X7_refused M 0).2; (let r20 : Int32 := f_X7_isUnderWay M17 2; (if r20 = 0 then ((-1), M17) else (let r23 : Int32 := f_X7_reason M17 2 x1; (r23, M17))))))))
theorem u_f_X7_why (M : bM) (x1 : Int32) : f_X7_why M x1 = (let r11 : Int32 := f_X7_in x1.toInt64 0 2; (if r11 = 0 then (let r14 : Int32 := (f_X7_refused M 1).1; (let M13 : bM := (f_X7_refused M 1).2; (0, M13))) else (let r18 : Int32 := (f_X7_refused M 0).1; (let M17 : bM := (f_X7_refused M 0).2; (let r20 : Int32 := f_X7_isUnderWay M17 2; (if r20 = 0 then ((-1), M17) else (let r23 : Int32 := f_X7_reason M17 2 x1; (r23, M17)))))))) := rfl
theorem p_X7_why_e16 (M : bM) (x1 : Int32) (r11 : Int32) (hr11 : f_X7_in x1.toInt64 0 2 = r11) (c12 : r11 = 0) (r14 : Int32) (hr14 : (f_X7_refused M 1).1 = r14) (M13 : bM) (hM13 : (f_X7_refused M 1).2 = M13) : f_X7_why M x1 = (0, M13) := by subst hM13 hr14 hr11; exact Eq.trans (u_f_X7_why M x1) (if_pos c12)
theorem p_X7_why_e22 (M : bM) (x1 : Int32) (r11 : Int32) (hr11 : f_X7_in x1.toInt64 0 2 = r11) (c12 : ¬ r11 = 0) (r18 : Int32) (hr18 : (f_X7_refused M 0).1 = r18) (M17 : bM) (hM17 : (f_X7_refused M 0).2 = M17) (r20 : Int32) (hr20 : f_X7_isUnderWay M17 2 = r20) (c21 : r20 = 0) : f_X7_why M x1 = ((-1), M17) := by subst hr20 hM17 hr18 hr11; exact Eq.trans (u_f_X7_why M x1) (Eq.trans (if_neg c12) (if_pos c21))
theorem p_X7_why_e24 (M : bM) (x1 : Int32) (r11 : Int32) (hr11 : f_X7_in x1.toInt64 0 2 = r11) (c12 : ¬ r11 = 0) (r18 : Int32) (hr18 : (f_X7_refused M 0).1 = r18) (M17 : bM) (hM17 : (f_X7_refused M 0).2 = M17) (r20 : Int32) (hr20 : f_X7_isUnderWay M17 2 = r20) (c21 : ¬ r20 = 0) (r23 : Int32) (hr23 : f_X7_reason M17 2 x1 = r23) : f_X7_why M x1 = (r23, M17) := by subst hr23 hr20 hM17 hr18 hr11; exact Eq.trans (u_f_X7_why M x1) (Eq.trans (if_neg c12) (if_neg c21))
theorem fr_X7_why (M : bM) (x1 : Int32) (k : Nat) (hk0 : k ≠ 0) : (f_X7_why M x1).2 k = M k := by
  obtain ⟨r11, hr11⟩ : ∃ y : Int32, y = f_X7_in x1.toInt64 0 2 := ⟨_, rfl⟩
  by_cases c12 : r11 = 0
  · obtain ⟨r14, hr14⟩ : ∃ y : Int32, y = (f_X7_refused M 1).1 := ⟨_, rfl⟩
    obtain ⟨M13, hM13⟩ : ∃ y : bM, y = (f_X7_refused M 1).2 := ⟨_, rfl⟩
    rw [p_X7_why_e16 M x1 r11 hr11.symm c12 r14 hr14.symm M13 hM13.symm]
    try dsimp only
    rw [hM13, fr_X7_refused M 1 k (by omega)]
  · obtain ⟨r18, hr18⟩ : ∃ y : Int32, y = (f_X7_refused M 0).1 := ⟨_, rfl⟩
    obtain ⟨M17, hM17⟩ : ∃ y : bM, y = (f_X7_refused M 0).2 := ⟨_, rfl⟩
    obtain ⟨r20, hr20⟩ : ∃ y : Int32, y = f_X7_isUnderWay M17 2 := ⟨_, rfl⟩
    by_cases c21 : r20 = 0
    · rw [p_X7_why_e22 M x1 r11 hr11.symm c12 r18 hr18.symm M17 hM17.symm r20 hr20.symm c21]
      try dsimp only
      rw [hM17, fr_X7_refused M 0 k (by omega)]
    · obtain ⟨r23, hr23⟩ : ∃ y : Int32, y = f_X7_reason M17 2 x1 := ⟨_, rfl⟩
      rw [p_X7_why_e24 M x1 r11 hr11.symm c12 r18 hr18.symm M17 hM17.symm r20 hr20.symm c21 r23 hr23.symm]
      try dsimp only
      rw [hM17, fr_X7_refused M 0 k (by omega)]
def f_X7_whyDam (M : bM) (x1 : Int32) (x2 : Int32) : Int32 × bM := (let r11 : Int32 := f_X7_isCell x1 x2; (if r11 = 0 then (let r14 : Int32 := (f_X7_refused M 1).1; (let M13 : bM := (f_X7_refused M 1).2; (0, M13))) else (let r18 : Int32 := (f_X7_refused M 0).1; (let M17 : bM := (f_X7_refused M 0).2; (let r20 : Int32 := f_X7_isUnderWay M17 2; (if r20 = 0 then ((-1), M17) else (let r24 : Int32 := (f_X7_damReason M17 2 (((8 : Int32) * x2) + x1)).1; (let M23 : bM := (f_X7_damReason M17 2 (((8 : Int32) * x2) + x1)).2; (r24, M23)))))))))
theorem u_f_X7_whyDam (M : bM) (x1 : Int32) (x2 : Int32) : f_X7_whyDam M x1 x2 = (let r11 : Int32 := f_X7_isCell x1 x2; (if r11 = 0 then (let r14 : Int32 := (f_X7_refused M 1).1; (let M13 : bM := (f_X7_refused M 1).2; (0, M13))) else (let r18 : Int32 := (f_X7_refused M 0).1; (let M17 : bM := (f_X7_refused M 0).2; (let r20 : Int32 := f_X7_isUnderWay M17 2; (if r20 = 0 then ((-1), M17) else (let r24 : Int32 := (f_X7_damReason M17 2 (((8 : Int32) * x2) + x1)).1; (let M23 : bM := (f_X7_damReason M17 2 (((8 : Int32) * x2) + x1)).2; (r24, M23))))))))) := rfl
theorem p_X7_whyDam_e16 (M : bM) (x1 : Int32) (x2 : Int32) (r11 : Int32) (hr11 : f_X7_isCell x1 x2 = r11) (c12 : r11 = 0) (r14 : Int32) (hr14 : (f_X7_refused M 1).1 = r14) (M13 : bM) (hM13 : (f_X7_refused M 1).2 = M13) : f_X7_whyDam M x1 x2 = (0, M13) := by subst hM13 hr14 hr11; exact Eq.trans (u_f_X7_whyDam M x1 x2) (if_pos c12)
theorem p_X7_whyDam_e22 (M : bM) (x1 : Int32) (x2 : Int32) (r11 : Int32) (hr11 : f_X7_isCell x1 x2 = r11) (c12 : ¬ r11 = 0) (r18 : Int32) (hr18 : (f_X7_refused M 0).1 = r18) (M17 : bM) (hM17 : (f_X7_refused M 0).2 = M17) (r20 : Int32) (hr20 : f_X7_isUnderWay M17 2 = r20) (c21 : r20 = 0) : f_X7_whyDam M x1 x2 = ((-1), M17) := by subst hr20 hM17 hr18 hr11; exact Eq.trans (u_f_X7_whyDam M x1 x2) (Eq.trans (if_neg c12) (if_pos c21))
theorem p_X7_whyDam_e25 (M : bM) (x1 : Int32) (x2 : Int32) (r11 : Int32) (hr11 : f_X7_isCell x1 x2 = r11) (c12 : ¬ r11 = 0) (r18 : Int32) (hr18 : (f_X7_refused M 0).1 = r18) (M17 : bM) (hM17 : (f_X7_refused M 0).2 = M17) (r20 : Int32) (hr20 : f_X7_isUnderWay M17 2 = r20) (c21 : ¬ r20 = 0) (r24 : Int32) (hr24 : (f_X7_damReason M17 2 (((8 : Int32) * x2) + x1)).1 = r24) (M23 : bM) (hM23 : (f_X7_damReason M17 2 (((8 : Int32) * x2) + x1)).2 = M23) : f_X7_whyDam M x1 x2 = (r24, M23) := by subst hM23 hr24 hr20 hM17 hr18 hr11; exact Eq.trans (u_f_X7_whyDam M x1 x2) (Eq.trans (if_neg c12) (if_neg c21))
theorem fr_X7_whyDam (M : bM) (x1 : Int32) (x2 : Int32) (k : Nat) (hk2 : k ≠ 2) (hk0 : k ≠ 0) (hf : k ≠ 7) : (f_X7_whyDam M x1 x2).2 k = M k := by
  obtain ⟨r11, hr11⟩ : ∃ y : Int32, y = f_X7_isCell x1 x2 := ⟨_, rfl⟩
  by_cases c12 : r11 = 0
  · obtain ⟨r14, hr14⟩ : ∃ y : Int32, y = (f_X7_refused M 1).1 := ⟨_, rfl⟩
    obtain ⟨M13, hM13⟩ : ∃ y : bM, y = (f_X7_refused M 1).2 := ⟨_, rfl⟩
    rw [p_X7_whyDam_e16 M x1 x2 r11 hr11.symm c12 r14 hr14.symm M13 hM13.symm]
    try dsimp only
    rw [hM13, fr_X7_refused M 1 k (by omega)]
  · obtain ⟨r18, hr18⟩ : ∃ y : Int32, y = (f_X7_refused M 0).1 := ⟨_, rfl⟩
    obtain ⟨M17, hM17⟩ : ∃ y : bM, y = (f_X7_refused M 0).2 := ⟨_, rfl⟩
    obtain ⟨r20, hr20⟩ : ∃ y : Int32, y = f_X7_isUnderWay M17 2 := ⟨_, rfl⟩
    by_cases c21 : r20 = 0
    · rw [p_X7_whyDam_e22 M x1 x2 r11 hr11.symm c12 r18 hr18.symm M17 hM17.symm r20 hr20.symm c21]
      try dsimp only
      rw [hM17, fr_X7_refused M 0 k (by omega)]
    · obtain ⟨r24, hr24⟩ : ∃ y : Int32, y = (f_X7_damReason M17 2 (((8 : Int32) * x2) + x1)).1 := ⟨_, rfl⟩
      obtain ⟨M23, hM23⟩ : ∃ y : bM, y = (f_X7_damReason M17 2 (((8 : Int32) * x2) + x1)).2 := ⟨_, rfl⟩
      rw [p_X7_whyDam_e25 M x1 x2 r11 hr11.symm c12 r18 hr18.symm M17 hM17.symm r20 hr20.symm c21 r24 hr24.symm M23 hM23.symm]
      try dsimp only
      rw [hM23, fr_X7_damReason M17 2 (((8 : Int32) * x2) + x1) k (by omega) (by omega), hM17, fr_X7_refused M 0 k (by omega)]
def f_X7_save (M : bM) (x1 : Int32) : Int32 × bM := (let r11 : Int32 := f_X7_in x1.toInt64 0 1; (if r11 = 0 then (let r14 : Int32 := (f_X7_refused M 1).1; (let M13 : bM := (f_X7_refused M 1).2; (0, M13))) else (let r18 : Int32 := (f_X7_refused M 0).1; (let M17 : bM := (f_X7_refused M 0).2; (let M20 : bM := f_X7_copyState M17 2 404 0 5 808 ((404 : Int32) * x1); (let M21 : bM := up2 M20 6 x1.toNatClampNeg 1; ((M21 2 3), M21)))))))
theorem u_f_X7_save (M : bM) (x1 : Int32) : f_X7_save M x1 = (let r11 : Int32 := f_X7_in x1.toInt64 0 1; (if r11 = 0 then (let r14 : Int32 := (f_X7_refused M 1).1; (let M13 : bM := (f_X7_refused M 1).2; (0, M13))) else (let r18 : Int32 := (f_X7_refused M 0).1; (let M17 : bM := (f_X7_refused M 0).2; (let M20 : bM := f_X7_copyState M17 2 404 0 5 808 ((404 : Int32) * x1); (let M21 : bM := up2 M20 6 x1.toNatClampNeg 1; ((M21 2 3), M21))))))) := rfl
theorem p_X7_save_e16 (M : bM) (x1 : Int32) (r11 : Int32) (hr11 : f_X7_in x1.toInt64 0 1 = r11) (c12 : r11 = 0) (r14 : Int32) (hr14 : (f_X7_refused M 1).1 = r14) (M13 : bM) (hM13 : (f_X7_refused M 1).2 = M13) : f_X7_save M x1 = (0, M13) := by subst hM13 hr14 hr11; exact Eq.trans (u_f_X7_save M x1) (if_pos c12)
theorem p_X7_save_e22 (M : bM) (x1 : Int32) (r11 : Int32) (hr11 : f_X7_in x1.toInt64 0 1 = r11) (c12 : ¬ r11 = 0) (r18 : Int32) (hr18 : (f_X7_refused M 0).1 = r18) (M17 : bM) (hM17 : (f_X7_refused M 0).2 = M17) (M20 : bM) (hM20 : f_X7_copyState M17 2 404 0 5 808 ((404 : Int32) * x1) = M20) (M21 : bM) (hM21 : up2 M20 6 x1.toNatClampNeg 1 = M21) : f_X7_save M x1 = ((M21 2 3), M21) := by subst hM21 hM20 hM17 hr18 hr11; exact Eq.trans (u_f_X7_save M x1) (if_neg c12)
theorem fr_X7_save (M : bM) (x1 : Int32) (k : Nat) (hk5 : k ≠ 5) (hk6 : k ≠ 6) (hk0 : k ≠ 0) : (f_X7_save M x1).2 k = M k := by
  obtain ⟨r11, hr11⟩ : ∃ y : Int32, y = f_X7_in x1.toInt64 0 1 := ⟨_, rfl⟩
  by_cases c12 : r11 = 0
  · obtain ⟨r14, hr14⟩ : ∃ y : Int32, y = (f_X7_refused M 1).1 := ⟨_, rfl⟩
    obtain ⟨M13, hM13⟩ : ∃ y : bM, y = (f_X7_refused M 1).2 := ⟨_, rfl⟩
    rw [p_X7_save_e16 M x1 r11 hr11.symm c12 r14 hr14.symm M13 hM13.symm]
    try dsimp only
    rw [hM13, fr_X7_refused M 1 k (by omega)]
  · obtain ⟨r18, hr18⟩ : ∃ y : Int32, y = (f_X7_refused M 0).1 := ⟨_, rfl⟩
    obtain ⟨M17, hM17⟩ : ∃ y : bM, y = (f_X7_refused M 0).2 := ⟨_, rfl⟩
    obtain ⟨M20, hM20⟩ : ∃ y : bM, y = f_X7_copyState M17 2 404 0 5 808 ((404 : Int32) * x1) := ⟨_, rfl⟩
    obtain ⟨M21, hM21⟩ : ∃ y : bM, y = up2 M20 6 x1.toNatClampNeg 1 := ⟨_, rfl⟩
    rw [p_X7_save_e22 M x1 r11 hr11.symm c12 r18 hr18.symm M17 hM17.symm M20 hM20.symm M21 hM21.symm]
    try dsimp only
    rw [hM21, up2_row (by omega), hM20, fr_X7_copyState M17 2 404 0 5 808 ((404 : Int32) * x1) k (by omega), hM17, fr_X7_refused M 0 k (by omega)]
def f_X7_restore (M : bM) (x1 : Int32) : Int32 × bM := (let r11 : Int32 := f_X7_in x1.toInt64 0 1; (if r11 = 0 then (let r25 : Int32 := (f_X7_refused M 1).1; (let M24 : bM := (f_X7_refused M 1).2; (0, M24))) else (if (M 6 x1.toNatClampNeg) = 0 then (let r21 : Int32 := (f_X7_refused M 2).1; (let M20 : bM := (f_X7_refused M 2).2; (0, M20))) else (let r15 : Int32 := (f_X7_refused M 0).1; (let M14 : bM := (f_X7_refused M 0).2; (let M17 : bM := f_X7_copyState M14 5 808 ((404 : Int32) * x1) 2 404 0; (let M18 : bM := up2 M17 0 6 0; ((M18 2 3), M18))))))))
theorem u_f_X7_restore (M : bM) (x1 : Int32) : f_X7_restore M x1 = (let r11 : Int32 := f_X7_in x1.toInt64 0 1; (if r11 = 0 then (let r25 : Int32 := (f_X7_refused M 1).1; (let M24 : bM := (f_X7_refused M 1).2; (0, M24))) else (if (M 6 x1.toNatClampNeg) = 0 then (let r21 : Int32 := (f_X7_refused M 2).1; (let M20 : bM := (f_X7_refused M 2).2; (0, M20))) else (let r15 : Int32 := (f_X7_refused M 0).1; (let M14 : bM := (f_X7_refused M 0).2; (let M17 : bM := f_X7_copyState M14 5 808 ((404 : Int32) * x1) 2 404 0; (let M18 : bM := up2 M17 0 6 0; ((M18 2 3), M18)))))))) := rfl
theorem p_X7_restore_e19 (M : bM) (x1 : Int32) (r11 : Int32) (hr11 : f_X7_in x1.toInt64 0 1 = r11) (c12 : ¬ r11 = 0) (c13 : ¬ (M 6 x1.toNatClampNeg) = 0) (r15 : Int32) (hr15 : (f_X7_refused M 0).1 = r15) (M14 : bM) (hM14 : (f_X7_refused M 0).2 = M14) (M17 : bM) (hM17 : f_X7_copyState M14 5 808 ((404 : Int32) * x1) 2 404 0 = M17) (M18 : bM) (hM18 : up2 M17 0 6 0 = M18) : f_X7_restore M x1 = ((M18 2 3), M18) := by subst hM18 hM17 hM14 hr15 hr11; exact Eq.trans (u_f_X7_restore M x1) (Eq.trans (if_neg c12) (if_neg c13))
theorem p_X7_restore_e23 (M : bM) (x1 : Int32) (r11 : Int32) (hr11 : f_X7_in x1.toInt64 0 1 = r11) (c12 : ¬ r11 = 0) (c13 : (M 6 x1.toNatClampNeg) = 0) (r21 : Int32) (hr21 : (f_X7_refused M 2).1 = r21) (M20 : bM) (hM20 : (f_X7_refused M 2).2 = M20) : f_X7_restore M x1 = (0, M20) := by subst hM20 hr21 hr11; exact Eq.trans (u_f_X7_restore M x1) (Eq.trans (if_neg c12) (if_pos c13))
theorem p_X7_restore_e27 (M : bM) (x1 : Int32) (r11 : Int32) (hr11 : f_X7_in x1.toInt64 0 1 = r11) (c12 : r11 = 0) (r25 : Int32) (hr25 : (f_X7_refused M 1).1 = r25) (M24 : bM) (hM24 : (f_X7_refused M 1).2 = M24) : f_X7_restore M x1 = (0, M24) := by subst hM24 hr25 hr11; exact Eq.trans (u_f_X7_restore M x1) (if_pos c12)
theorem fr_X7_restore (M : bM) (x1 : Int32) (k : Nat) (hk2 : k ≠ 2) (hk0 : k ≠ 0) : (f_X7_restore M x1).2 k = M k := by
  obtain ⟨r11, hr11⟩ : ∃ y : Int32, y = f_X7_in x1.toInt64 0 1 := ⟨_, rfl⟩
  by_cases c12 : r11 = 0
  · obtain ⟨r25, hr25⟩ : ∃ y : Int32, y = (f_X7_refused M 1).1 := ⟨_, rfl⟩
    obtain ⟨M24, hM24⟩ : ∃ y : bM, y = (f_X7_refused M 1).2 := ⟨_, rfl⟩
    rw [p_X7_restore_e27 M x1 r11 hr11.symm c12 r25 hr25.symm M24 hM24.symm]
    try dsimp only
    rw [hM24, fr_X7_refused M 1 k (by omega)]
  · by_cases c13 : (M 6 x1.toNatClampNeg) = 0
    · obtain ⟨r21, hr21⟩ : ∃ y : Int32, y = (f_X7_refused M 2).1 := ⟨_, rfl⟩
      obtain ⟨M20, hM20⟩ : ∃ y : bM, y = (f_X7_refused M 2).2 := ⟨_, rfl⟩
      rw [p_X7_restore_e23 M x1 r11 hr11.symm c12 c13 r21 hr21.symm M20 hM20.symm]
      try dsimp only
      rw [hM20, fr_X7_refused M 2 k (by omega)]
    · obtain ⟨r15, hr15⟩ : ∃ y : Int32, y = (f_X7_refused M 0).1 := ⟨_, rfl⟩
      obtain ⟨M14, hM14⟩ : ∃ y : bM, y = (f_X7_refused M 0).2 := ⟨_, rfl⟩
      obtain ⟨M17, hM17⟩ : ∃ y : bM, y = f_X7_copyState M14 5 808 ((404 : Int32) * x1) 2 404 0 := ⟨_, rfl⟩
      obtain ⟨M18, hM18⟩ : ∃ y : bM, y = up2 M17 0 6 0 := ⟨_, rfl⟩
      rw [p_X7_restore_e19 M x1 r11 hr11.symm c12 c13 r15 hr15.symm M14 hM14.symm M17 hM17.symm M18 hM18.symm]
      try dsimp only
      rw [hM18, up2_row (by omega), hM17, fr_X7_copyState M14 5 808 ((404 : Int32) * x1) 2 404 0 k (by omega), hM14, fr_X7_refused M 0 k (by omega)]
