def f_X7_append (M : bM) (x1 : Int32) : Int32 × bM := (let r11 : Int32 := f_X7_in x1.toInt64 0 255; (if r11 = 0 then (let r25 : Int32 := (f_X7_refused M 1).1; (let M24 : bM := (f_X7_refused M 1).2; (0, M24))) else (if (M 0 2) = 120 then (let r21 : Int32 := (f_X7_refused M 2).1; (let M20 : bM := (f_X7_refused M 2).2; (0, M20))) else (let r15 : Int32 := (f_X7_refused M 0).1; (let M14 : bM := (f_X7_refused M 0).2; (let M17 : bM := up2 M14 1 (M14 0 2).toNatClampNeg x1; (let M18 : bM := up2 M17 0 2 ((M17 0 2) + 1); ((M18 0 2), M18))))))))
theorem u_f_X7_append (M : bM) (x1 : Int32) : f_X7_append M x1 = (let r11 : Int32 := f_X7_in x1.toInt64 0 255; (if r11 = 0 then (let r25 : Int32 := (f_X7_refused M 1).1; (let M24 : bM := (f_X7_refused M 1).2; (0, M24))) else (if (M 0 2) = 120 then (let r21 : Int32 := (f_X7_refused M 2).1; (let M20 : bM := (f_X7_refused M 2).2; (0, M20))) else (let r15 : Int32 := (f_X7_refused M 0).1; (let M14 : bM := (f_X7_refused M 0).2; (let M17 : bM := up2 M14 1 (M14 0 2).toNatClampNeg x1; (let M18 : bM := up2 M17 0 2 ((M17 0 2) + 1); ((M18 0 2), M18)))))))) := rfl
theorem p_X7_append_e19 (M : bM) (x1 : Int32) (r11 : Int32) (hr11 : f_X7_in x1.toInt64 0 255 = r11) (c12 : ¬ r11 = 0) (c13 : ¬ (M 0 2) = 120) (r15 : Int32) (hr15 : (f_X7_refused M 0).1 = r15) (M14 : bM) (hM14 : (f_X7_refused M 0).2 = M14) (M17 : bM) (hM17 : up2 M14 1 (M14 0 2).toNatClampNeg x1 = M17) (M18 : bM) (hM18 : up2 M17 0 2 ((M17 0 2) + 1) = M18) : f_X7_append M x1 = ((M18 0 2), M18) := by subst hM18 hM17 hM14 hr15 hr11; exact Eq.trans (u_f_X7_append M x1) (Eq.trans (if_neg c12) (if_neg c13))
theorem p_X7_append_e23 (M : bM) (x1 : Int32) (r11 : Int32) (hr11 : f_X7_in x1.toInt64 0 255 = r11) (c12 : ¬ r11 = 0) (c13 : (M 0 2) = 120) (r21 : Int32) (hr21 : (f_X7_refused M 2).1 = r21) (M20 : bM) (hM20 : (f_X7_refused M 2).2 = M20) : f_X7_append M x1 = (0, M20) := by subst hM20 hr21 hr11; exact Eq.trans (u_f_X7_append M x1) (Eq.trans (if_neg c12) (if_pos c13))
theorem p_X7_append_e27 (M : bM) (x1 : Int32) (r11 : Int32) (hr11 : f_X7_in x1.toInt64 0 255 = r11) (c12 : r11 = 0) (r25 : Int32) (hr25 : (f_X7_refused M 1).1 = r25) (M24 : bM) (hM24 : (f_X7_refused M 1).2 = M24) : f_X7_append M x1 = (0, M24) := by subst hM24 hr25 hr11; exact Eq.trans (u_f_X7_append M x1) (if_pos c12)
theorem fr_X7_append (M : bM) (x1 : Int32) (k : Nat) (hk : k ≠ 0) (hk1 : k ≠ 1) : (f_X7_append M x1).2 k = M k := by
  obtain ⟨r11, hr11⟩ : ∃ y : Int32, y = f_X7_in x1.toInt64 0 255 := ⟨_, rfl⟩
  by_cases c12 : r11 = 0
  · obtain ⟨r25, hr25⟩ : ∃ y : Int32, y = (f_X7_refused M 1).1 := ⟨_, rfl⟩
    obtain ⟨M24, hM24⟩ : ∃ y : bM, y = (f_X7_refused M 1).2 := ⟨_, rfl⟩
    rw [p_X7_append_e27 M x1 r11 hr11.symm c12 r25 hr25.symm M24 hM24.symm]
    try dsimp only
    rw [hM24, fr_X7_refused M 1 k (by omega)]
  · by_cases c13 : (M 0 2) = 120
    · obtain ⟨r21, hr21⟩ : ∃ y : Int32, y = (f_X7_refused M 2).1 := ⟨_, rfl⟩
      obtain ⟨M20, hM20⟩ : ∃ y : bM, y = (f_X7_refused M 2).2 := ⟨_, rfl⟩
      rw [p_X7_append_e23 M x1 r11 hr11.symm c12 c13 r21 hr21.symm M20 hM20.symm]
      try dsimp only
      rw [hM20, fr_X7_refused M 2 k (by omega)]
    · obtain ⟨r15, hr15⟩ : ∃ y : Int32, y = (f_X7_refused M 0).1 := ⟨_, rfl⟩
      obtain ⟨M14, hM14⟩ : ∃ y : bM, y = (f_X7_refused M 0).2 := ⟨_, rfl⟩
      obtain ⟨M17, hM17⟩ : ∃ y : bM, y = up2 M14 1 (M14 0 2).toNatClampNeg x1 := ⟨_, rfl⟩
      obtain ⟨M18, hM18⟩ : ∃ y : bM, y = up2 M17 0 2 ((M17 0 2) + 1) := ⟨_, rfl⟩
      rw [p_X7_append_e19 M x1 r11 hr11.symm c12 c13 r15 hr15.symm M14 hM14.symm M17 hM17.symm M18 hM18.symm]
      try dsimp only
      rw [hM18, up2_row (by omega), hM17, up2_row (by omega), hM14, fr_X7_refused M 0 k (by omega)]
