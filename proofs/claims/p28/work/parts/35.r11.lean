def f_X7_best (M : bM) : Int32 × bM := (let M11 : bM := up2 M 0 0 0; (let r13 : Int32 := (f_X7_bestOf M11 2).1; (let M12 : bM := (f_X7_bestOf M11 2).2; (r13, M12))))
theorem u_f_X7_best (M : bM) : f_X7_best M = (let M11 : bM := up2 M 0 0 0; (let r13 : Int32 := (f_X7_bestOf M11 2).1; (let M12 : bM := (f_X7_bestOf M11 2).2; (r13, M12)))) := rfl
theorem p_X7_best_e14 (M : bM) (M11 : bM) (hM11 : up2 M 0 0 0 = M11) (r13 : Int32) (hr13 : (f_X7_bestOf M11 2).1 = r13) (M12 : bM) (hM12 : (f_X7_bestOf M11 2).2 = M12) : f_X7_best M = (r13, M12) := by subst hM12 hr13 hM11; exact u_f_X7_best M
theorem fr_X7_best (M : bM) (k : Nat) (hk0 : k ≠ 0) (hf : k ≠ 7) : (f_X7_best M).2 k = M k := by
  obtain ⟨M11, hM11⟩ : ∃ y : bM, y = up2 M 0 0 0 := ⟨_, rfl⟩
  obtain ⟨r13, hr13⟩ : ∃ y : Int32, y = (f_X7_bestOf M11 2).1 := ⟨_, rfl⟩
  obtain ⟨M12, hM12⟩ : ∃ y : bM, y = (f_X7_bestOf M11 2).2 := ⟨_, rfl⟩
  rw [p_X7_best_e14 M M11 hM11.symm r13 hr13.symm M12 hM12.symm]
  try dsimp only
  rw [hM12, fr_X7_bestOf M11 2 k (by omega), hM11, up2_row (by omega)]
def f_X7_cheapest (M : bM) (x1 : Int32) (x2 : Int32) : Int32 × bM := (let r11 : Int32 := f_X7_in x1.toInt64 0 1; (if r11 = 0 then (let r29 : Int32 := (f_X7_refused M 1).1; (let M28 : bM := (f_X7_refused M 1).2; (0, M28))) else (let r13 : Int32 := f_X7_in x2.toInt64 0 1; (if r13 = 0 then (let r16 : Int32 := (f_X7_refused M 2).1; (let M15 : bM := (f_X7_refused M 2).2; (0, M15))) else (let r20 : Int32 := (f_X7_refused M 0).1; (let M19 : bM := (f_X7_refused M 0).2; (let r22 : Int32 := f_X7_head M19 2 x1; (let r24 : Int32 := (f_X7_cheapestFrom M19 2 x1 r22).1; (let M23 : bM := (f_X7_cheapestFrom M19 2 x1 r22).2; (if r24 = 99999 then ((-1), M23) else (r24, M23)))))))))))
theorem u_f_X7_cheapest (M : bM) (x1 : Int32) (x2 : Int32) : f_X7_cheapest M x1 x2 = (let r11 : Int32 := f_X7_in x1.toInt64 0 1; (if r11 = 0 then (let r29 : Int32 := (f_X7_refused M 1).1; (let M28 : bM := (f_X7_refused M 1).2; (0, M28))) else (let r13 : Int32 := f_X7_in x2.toInt64 0 1; (if r13 = 0 then (let r16 : Int32 := (f_X7_refused M 2).1; (let M15 : bM := (f_X7_refused M 2).2; (0, M15))) else (let r20 : Int32 := (f_X7_refused M 0).1; (let M19 : bM := (f_X7_refused M 0).2; (let r22 : Int32 := f_X7_head M19 2 x1; (let r24 : Int32 := (f_X7_cheapestFrom M19 2 x1 r22).1; (let M23 : bM := (f_X7_cheapestFrom M19 2 x1 r22).2; (if r24 = 99999 then ((-1), M23) else (r24, M23))))))))))) := rfl
theorem p_X7_cheapest_e18 (M : bM) (x1 : Int32) (x2 : Int32) (r11 : Int32) (hr11 : f_X7_in x1.toInt64 0 1 = r11) (c12 : ¬ r11 = 0) (r13 : Int32) (hr13 : f_X7_in x2.toInt64 0 1 = r13) (c14 : r13 = 0) (r16 : Int32) (hr16 : (f_X7_refused M 2).1 = r16) (M15 : bM) (hM15 : (f_X7_refused M 2).2 = M15) : f_X7_cheapest M x1 x2 = (0, M15) := by subst hM15 hr16 hr13 hr11; exact Eq.trans (u_f_X7_cheapest M x1 x2) (Eq.trans (if_neg c12) (if_pos c14))
theorem p_X7_cheapest_e26 (M : bM) (x1 : Int32) (x2 : Int32) (r11 : Int32) (hr11 : f_X7_in x1.toInt64 0 1 = r11) (c12 : ¬ r11 = 0) (r13 : Int32) (hr13 : f_X7_in x2.toInt64 0 1 = r13) (c14 : ¬ r13 = 0) (r20 : Int32) (hr20 : (f_X7_refused M 0).1 = r20) (M19 : bM) (hM19 : (f_X7_refused M 0).2 = M19) (r22 : Int32) (hr22 : f_X7_head M19 2 x1 = r22) (r24 : Int32) (hr24 : (f_X7_cheapestFrom M19 2 x1 r22).1 = r24) (M23 : bM) (hM23 : (f_X7_cheapestFrom M19 2 x1 r22).2 = M23) (c25 : ¬ r24 = 99999) : f_X7_cheapest M x1 x2 = (r24, M23) := by subst hM23 hr24 hr22 hM19 hr20 hr13 hr11; exact Eq.trans (u_f_X7_cheapest M x1 x2) (Eq.trans (if_neg c12) (Eq.trans (if_neg c14) (if_neg c25)))
theorem p_X7_cheapest_e27 (M : bM) (x1 : Int32) (x2 : Int32) (r11 : Int32) (hr11 : f_X7_in x1.toInt64 0 1 = r11) (c12 : ¬ r11 = 0) (r13 : Int32) (hr13 : f_X7_in x2.toInt64 0 1 = r13) (c14 : ¬ r13 = 0) (r20 : Int32) (hr20 : (f_X7_refused M 0).1 = r20) (M19 : bM) (hM19 : (f_X7_refused M 0).2 = M19) (r22 : Int32) (hr22 : f_X7_head M19 2 x1 = r22) (r24 : Int32) (hr24 : (f_X7_cheapestFrom M19 2 x1 r22).1 = r24) (M23 : bM) (hM23 : (f_X7_cheapestFrom M19 2 x1 r22).2 = M23) (c25 : r24 = 99999) : f_X7_cheapest M x1 x2 = ((-1), M23) := by subst hM23 hr24 hr22 hM19 hr20 hr13 hr11; exact Eq.trans (u_f_X7_cheapest M x1 x2) (Eq.trans (if_neg c12) (Eq.trans (if_neg c14) (if_pos c25)))
theorem p_X7_cheapest_e31 (M : bM) (x1 : Int32) (x2 : Int32) (r11 : Int32) (hr11 : f_X7_in x1.toInt64 0 1 = r11) (c12 : r11 = 0) (r29 : Int32) (hr29 : (f_X7_refused M 1).1 = r29) (M28 : bM) (hM28 : (f_X7_refused M 1).2 = M28) : f_X7_cheapest M x1 x2 = (0, M28) := by subst hM28 hr29 hr11; exact Eq.trans (u_f_X7_cheapest M x1 x2) (if_pos c12)
theorem fr_X7_cheapest (M : bM) (x1 : Int32) (x2 : Int32) (k : Nat) (hk0 : k ≠ 0) (hf : k ≠ 7) : (f_X7_cheapest M x1 x2).2 k = M k := by
  obtain ⟨r11, hr11⟩ : ∃ y : Int32, y = f_X7_in x1.toInt64 0 1 := ⟨_, rfl⟩
  by_cases c12 : r11 = 0
  · obtain ⟨r29, hr29⟩ : ∃ y : Int32, y = (f_X7_refused M 1).1 := ⟨_, rfl⟩
    obtain ⟨M28, hM28⟩ : ∃ y : bM, y = (f_X7_refused M 1).2 := ⟨_, rfl⟩
    rw [p_X7_cheapest_e31 M x1 x2 r11 hr11.symm c12 r29 hr29.symm M28 hM28.symm]
    try dsimp only
    rw [hM28, fr_X7_refused M 1 k (by omega)]
  · obtain ⟨r13, hr13⟩ : ∃ y : Int32, y = f_X7_in x2.toInt64 0 1 := ⟨_, rfl⟩
    by_cases c14 : r13 = 0
    · obtain ⟨r16, hr16⟩ : ∃ y : Int32, y = (f_X7_refused M 2).1 := ⟨_, rfl⟩
      obtain ⟨M15, hM15⟩ : ∃ y : bM, y = (f_X7_refused M 2).2 := ⟨_, rfl⟩
      rw [p_X7_cheapest_e18 M x1 x2 r11 hr11.symm c12 r13 hr13.symm c14 r16 hr16.symm M15 hM15.symm]
      try dsimp only
      rw [hM15, fr_X7_refused M 2 k (by omega)]
    · obtain ⟨r20, hr20⟩ : ∃ y : Int32, y = (f_X7_refused M 0).1 := ⟨_, rfl⟩
      obtain ⟨M19, hM19⟩ : ∃ y : bM, y = (f_X7_refused M 0).2 := ⟨_, rfl⟩
      obtain ⟨r22, hr22⟩ : ∃ y : Int32, y = f_X7_head M19 2 x1 := ⟨_, rfl⟩
      obtain ⟨r24, hr24⟩ : ∃ y : Int32, y = (f_X7_cheapestFrom M19 2 x1 r22).1 := ⟨_, rfl⟩
      obtain ⟨M23, hM23⟩ : ∃ y : bM, y = (f_X7_cheapestFrom M19 2 x1 r22).2 := ⟨_, rfl⟩
      by_cases c25 : r24 = 99999
      · rw [p_X7_cheapest_e27 M x1 x2 r11 hr11.symm c12 r13 hr13.symm c14 r20 hr20.symm M19 hM19.symm r22 hr22.symm r24 hr24.symm M23 hM23.symm c25]
        try dsimp only
        rw [hM23, fr_X7_cheapestFrom M19 2 x1 r22 k (by omega), hM19, fr_X7_refused M 0 k (by omega)]
      · rw [p_X7_cheapest_e26 M x1 x2 r11 hr11.symm c12 r13 hr13.symm c14 r20 hr20.symm M19 hM19.symm r22 hr22.symm r24 hr24.symm M23 hM23.symm c25]
        try dsimp only
        rw [hM23, fr_X7_cheapestFrom M19 2 x1 r22 k (by omega), hM19, fr_X7_refused M 0 k (by omega)]
def lp_X7_meetsIn_38 (x1 : Int32) : Nat → Nat → bM → (bM)
  | 0, i21, M22 => M22
  | n21 + 1, i21, M22 => (let r26 : Int32 := f_X7_head M22 2 x1; (if nI i21 = r26 then (let M30 : bM := up2 M22 7 i21 0; lp_X7_meetsIn_38 x1 n21 (i21 + 1) M30) else (let M28 : bM := up2 M22 7 i21 99999; lp_X7_meetsIn_38 x1 n21 (i21 + 1) M28)))
theorem u0_lp_X7_meetsIn_38 (x1 : Int32) (i21 : Nat) (M22 : bM) : lp_X7_meetsIn_38 x1 0 i21 M22 = M22 := rfl
theorem u1_lp_X7_meetsIn_38 (x1 : Int32) (n21 i21 : Nat) (M22 : bM) : lp_X7_meetsIn_38 x1 (n21 + 1) i21 M22 = (let r26 : Int32 := f_X7_head M22 2 x1; (if nI i21 = r26 then (let M30 : bM := up2 M22 7 i21 0; lp_X7_meetsIn_38 x1 n21 (i21 + 1) M30) else (let M28 : bM := up2 M22 7 i21 99999; lp_X7_meetsIn_38 x1 n21 (i21 + 1) M28))) := rfl
def lp_X7_meetsIn_84 (x1 : Int32) (i33 : Nat) : Nat → Nat → bM → (Bool × Int32 × bM)
  | 0, i38, M39 => (false, 0, M39)
  | n38 + 1, i38, M39 => (let r43 : Int32 := f_X7_stepFrom (nI i38 / 3) (nI i38 - nI i38 / 3 * 3); (if (M39 7 (nI i38 / 3).toNatClampNeg) = nI i33 then (if r43 = (-1) then lp_X7_meetsIn_84 x1 i33 n38 (i38 + 1) M39 else (if (M39 7 r43.toNatClampNeg) = 99999 then (let r50 : Int32 := f_X7_isDam M39 2 r43; (if r50 = 0 then (let r53 : Int32 := f_X7_isRiver M39 2 x1 r43; (if r53 = 0 then (let r56 : Int32 := f_X7_isRiver M39 2 ((1 : Int32) - x1) r43; (if r56 = 0 then (let M58 : bM := up2 M39 7 r43.toNatClampNeg (nI i33 + 1); lp_X7_meetsIn_84 x1 i33 n38 (i38 + 1) M58) else (true, (nI i33 + 1), M39))) else lp_X7_meetsIn_84 x1 i33 n38 (i38 + 1) M39)) else lp_X7_meetsIn_84 x1 i33 n38 (i38 + 1) M39)) else lp_X7_meetsIn_84 x1 i33 n38 (i38 + 1) M39)) else lp_X7_meetsIn_84 x1 i33 n38 (i38 + 1) M39))
theorem u0_lp_X7_meetsIn_84 (x1 : Int32) (i33 : Nat) (i38 : Nat) (M39 : bM) : lp_X7_meetsIn_84 x1 i33 0 i38 M39 = (false, 0, M39) := rfl
theorem u1_lp_X7_meetsIn_84 (x1 : Int32) (i33 : Nat) (n38 i38 : Nat) (M39 : bM) : lp_X7_meetsIn_84 x1 i33 (n38 + 1) i38 M39 = (let r43 : Int32 := f_X7_stepFrom (nI i38 / 3) (nI i38 - nI i38 / 3 * 3); (if (M39 7 (nI i38 / 3).toNatClampNeg) = nI i33 then (if r43 = (-1) then lp_X7_meetsIn_84 x1 i33 n38 (i38 + 1) M39 else (if (M39 7 r43.toNatClampNeg) = 99999 then (let r50 : Int32 := f_X7_isDam M39 2 r43; (if r50 = 0 then (let r53 : Int32 := f_X7_isRiver M39 2 x1 r43; (if r53 = 0 then (let r56 : Int32 := f_X7_isRiver M39 2 ((1 : Int32) - x1) r43; (if r56 = 0 then (let M58 : bM := up2 M39 7 r43.toNatClampNeg (nI i33 + 1); lp_X7_meetsIn_84 x1 i33 n38 (i38 + 1) M58) else (true, (nI i33 + 1), M39))) else lp_X7_meetsIn_84 x1 i33 n38 (i38 + 1) M39)) else lp_X7_meetsIn_84 x1 i33 n38 (i38 + 1) M39)) else lp_X7_meetsIn_84 x1 i33 n38 (i38 + 1) M39)) else lp_X7_meetsIn_84 x1 i33 n38 (i38 + 1) M39)) := rfl
def lp_X7_meetsIn_76 (x1 : Int32) : Nat → Nat → bM → (Bool × Int32 × bM)
  | 0, i33, M34 => (false, 0, M34)
  | n33 + 1, i33, M34 => (if (lp_X7_meetsIn_84 x1 i33 192 0 M34).1 = true then (true, (lp_X7_meetsIn_84 x1 i33 192 0 M34).2.1, (lp_X7_meetsIn_84 x1 i33 192 0 M34).2.2) else (let M62 : bM := (lp_X7_meetsIn_84 x1 i33 192 0 M34).2.2; lp_X7_meetsIn_76 x1 n33 (i33 + 1) M62))
theorem u0_lp_X7_meetsIn_76 (x1 : Int32) (i33 : Nat) (M34 : bM) : lp_X7_meetsIn_76 x1 0 i33 M34 = (false, 0, M34) := rfl
theorem u1_lp_X7_meetsIn_76 (x1 : Int32) (n33 i33 : Nat) (M34 : bM) : lp_X7_meetsIn_76 x1 (n33 + 1) i33 M34 = (if (lp_X7_meetsIn_84 x1 i33 192 0 M34).1 = true then (true, (lp_X7_meetsIn_84 x1 i33 192 0 M34).2.1, (lp_X7_meetsIn_84 x1 i33 192 0 M34).2.2) else (let M62 : bM := (lp_X7_meetsIn_84 x1 i33 192 0 M34).2.2; lp_X7_meetsIn_76 x1 n33 (i33 + 1) M62)) := rfl
def f_X7_meetsIn (M : bM) (x1 : Int32) : Int32 × bM := (let r11 : Int32 := f_X7_in x1.toInt64 0 1; (if r11 = 0 then (let r14 : Int32 := (f_X7_refused M 1).1; (let M13 : bM := (f_X7_refused M 1).2; (0, M13))) else (let r18 : Int32 := (f_X7_refused M 0).1; (let M17 : bM := (f_X7_refused M 0).2; (if (M17 2 1) = 2 then (0, M17) else (let M32 : bM := (lp_X7_meetsIn_38 x1 64 0 M17); (if (lp_X7_meetsIn_76 x1 64 0 M32).1 = true then ((lp_X7_meetsIn_76 x1 64 0 M32).2.1, (lp_X7_meetsIn_76 x1 64 0 M32).2.2) else (let M65 : bM := (lp_X7_meetsIn_76 x1 64 0 M32).2.2; ((-1), M65)))))))))
theorem u_f_X7_meetsIn (M : bM) (x1 : Int32) : f_X7_meetsIn M x1 = (let r11 : Int32 := f_X7_in x1.toInt64 0 1; (if r11 = 0 then (let r14 : Int32 := (f_X7_refused M 1).1; (let M13 : bM := (f_X7_refused M 1).2; (0, M13))) else (let r18 : Int32 := (f_X7_refused M 0).1; (let M17 : bM := (f_X7_refused M 0).2; (if (M17 2 1) = 2 then (0, M17) else (let M32 : bM := (lp_X7_meetsIn_38 x1 64 0 M17); (if (lp_X7_meetsIn_76 x1 64 0 M32).1 = true then ((lp_X7_meetsIn_76 x1 64 0 M32).2.1, (lp_X7_meetsIn_76 x1 64 0 M32).2.2) else (let M65 : bM := (lp_X7_meetsIn_76 x1 64 0 M32).2.2; ((-1), M65))))))))) := rfl
theorem p_X7_meetsIn_e16 (M : bM) (x1 : Int32) (r11 : Int32) (hr11 : f_X7_in x1.toInt64 0 1 = r11) (c12 : r11 = 0) (r14 : Int32) (hr14 : (f_X7_refused M 1).1 = r14) (M13 : bM) (hM13 : (f_X7_refused M 1).2 = M13) : f_X7_meetsIn M x1 = (0, M13) := by subst hM13 hr14 hr11; exact Eq.trans (u_f_X7_meetsIn M x1) (if_pos c12)
theorem p_X7_meetsIn_e24 (M : bM) (x1 : Int32) (r11 : Int32) (r18 : Int32) (M17 : bM) (M22 : bM) (i21 : Nat)  : lp_X7_meetsIn_38 x1 0 i21 M22 = M22 := by exact u0_lp_X7_meetsIn_38 x1 i21 M22
theorem p_X7_meetsIn_e29 (M : bM) (x1 : Int32) (r11 : Int32) (r18 : Int32) (M17 : bM) (M22 : bM) (i21 : Nat) (n21 : Nat) (r26 : Int32) (hr26 : f_X7_head M22 2 x1 = r26) (c27 : ¬ nI i21 = r26) (M28 : bM) (hM28 : up2 M22 7 i21 99999 = M28) : lp_X7_meetsIn_38 x1 (n21 + 1) i21 M22 = lp_X7_meetsIn_38 x1 n21 (i21 + 1) M28 := by subst hM28 hr26; exact Eq.trans (u1_lp_X7_meetsIn_38 x1 n21 i21 M22) (if_neg c27)
theorem p_X7_meetsIn_e31 (M : bM) (x1 : Int32) (r11 : Int32) (r18 : Int32) (M17 : bM) (M22 : bM) (i21 : Nat) (n21 : Nat) (r26 : Int32) (hr26 : f_X7_head M22 2 x1 = r26) (c27 : nI i21 = r26) (M30 : bM) (hM30 : up2 M22 7 i21 0 = M30) : lp_X7_meetsIn_38 x1 (n21 + 1) i21 M22 = lp_X7_meetsIn_38 x1 n21 (i21 + 1) M30 := by subst hM30 hr26; exact Eq.trans (u1_lp_X7_meetsIn_38 x1 n21 i21 M22) (if_pos c27)
theorem p_X7_meetsIn_e36 (M : bM) (x1 : Int32) (r11 : Int32) (r18 : Int32) (M17 : bM) (M32 : bM) (M34 : bM) (i33 : Nat)  : lp_X7_meetsIn_76 x1 0 i33 M34 = (false, 0, M34) := by exact u0_lp_X7_meetsIn_76 x1 i33 M34
theorem p_X7_meetsIn_e41 (M : bM) (x1 : Int32) (r11 : Int32) (r18 : Int32) (M17 : bM) (M32 : bM) (M34 : bM) (i33 : Nat) (M39 : bM) (i38 : Nat)  : lp_X7_meetsIn_84 x1 i33 0 i38 M39 = (false, 0, M39) := by exact u0_lp_X7_meetsIn_84 x1 i33 i38 M39
theorem p_X7_meetsIn_e45 (M : bM) (x1 : Int32) (r11 : Int32) (r18 : Int32) (M17 : bM) (M32 : bM) (M34 : bM) (i33 : Nat) (M39 : bM) (i38 : Nat) (n38 : Nat) (r43 : Int32) (hr43 : f_X7_stepFrom (nI i38 / 3) (nI i38 - nI i38 / 3 * 3) = r43) (c44 : ¬ (M39 7 (nI i38 / 3).toNatClampNeg) = nI i33) : lp_X7_meetsIn_84 x1 i33 (n38 + 1) i38 M39 = lp_X7_meetsIn_84 x1 i33 n38 (i38 + 1) M39 := by subst hr43; exact Eq.trans (u1_lp_X7_meetsIn_84 x1 i33 n38 i38 M39) (if_neg c44)
theorem p_X7_meetsIn_e47 (M : bM) (x1 : Int32) (r11 : Int32) (r18 : Int32) (M17 : bM) (M32 : bM) (M34 : bM) (i33 : Nat) (M39 : bM) (i38 : Nat) (n38 : Nat) (r43 : Int32) (hr43 : f_X7_stepFrom (nI i38 / 3) (nI i38 - nI i38 / 3 * 3) = r43) (c44 : (M39 7 (nI i38 / 3).toNatClampNeg) = nI i33) (c46 : r43 = (-1)) : lp_X7_meetsIn_84 x1 i33 (n38 + 1) i38 M39 = lp_X7_meetsIn_84 x1 i33 n38 (i38 + 1) M39 := by subst hr43; exact Eq.trans (u1_lp_X7_meetsIn_84 x1 i33 n38 i38 M39) (Eq.trans (if_pos c44) (if_pos c46))
theorem p_X7_meetsIn_e49 (M : bM) (x1 : Int32) (r11 : Int32) (r18 : Int32) (M17 : bM) (M32 : bM) (M34 : bM) (i33 : Nat) (M39 : bM) (i38 : Nat) (n38 : Nat) (r43 : Int32) (hr43 : f_X7_stepFrom (nI i38 / 3) (nI i38 - nI i38 / 3 * 3) = r43) (c44 : (M39 7 (nI i38 / 3).toNatClampNeg) = nI i33) (c46 : ¬ r43 = (-1)) (c48 : ¬ (M39 7 r43.toNatClampNeg) = 99999) : lp_X7_meetsIn_84 x1 i33 (n38 + 1) i38 M39 = lp_X7_meetsIn_84 x1 i33 n38 (i38 + 1) M39 := by subst hr43; exact Eq.trans (u1_lp_X7_meetsIn_84 x1 i33 n38 i38 M39) (Eq.trans (if_pos c44) (Eq.trans (if_neg c46) (if_neg c48)))
theorem p_X7_meetsIn_e52 (M : bM) (x1 : Int32) (r11 : Int32) (r18 : Int32) (M17 : bM) (M32 : bM) (M34 : bM) (i33 : Nat) (M39 : bM) (i38 : Nat) (n38 : Nat) (r43 : Int32) (hr43 : f_X7_stepFrom (nI i38 / 3) (nI i38 - nI i38 / 3 * 3) = r43) (c44 : (M39 7 (nI i38 / 3).toNatClampNeg) = nI i33) (c46 : ¬ r43 = (-1)) (c48 : (M39 7 r43.toNatClampNeg) = 99999) (r50 : Int32) (hr50 : f_X7_isDam M39 2 r43 = r50) (c51 : ¬ r50 = 0) : lp_X7_meetsIn_84 x1 i33 (n38 + 1) i38 M39 = lp_X7_meetsIn_84 x1 i33 n38 (i38 + 1) M39 := by subst hr50 hr43; exact Eq.trans (u1_lp_X7_meetsIn_84 x1 i33 n38 i38 M39) (Eq.trans (if_pos c44) (Eq.trans (if_neg c46) (Eq.trans (if_pos c48) (if_neg c51))))
theorem p_X7_meetsIn_e55 (M : bM) (x1 : Int32) (r11 : Int32) (r18 : Int32) (M17 : bM) (M32 : bM) (M34 : bM) (i33 : Nat) (M39 : bM) (i38 : Nat) (n38 : Nat) (r43 : Int32) (hr43 : f_X7_stepFrom (nI i38 / 3) (nI i38 - nI i38 / 3 * 3) = r43) (c44 : (M39 7 (nI i38 / 3).toNatClampNeg) = nI i33) (c46 : ¬ r43 = (-1)) (c48 : (M39 7 r43.toNatClampNeg) = 99999) (r50 : Int32) (hr50 : f_X7_isDam M39 2 r43 = r50) (c51 : r50 = 0) (r53 : Int32) (hr53 : f_X7_isRiver M39 2 x1 r43 = r53) (c54 : ¬ r53 = 0) : lp_X7_meetsIn_84 x1 i33 (n38 + 1) i38 M39 = lp_X7_meetsIn_84 x1 i33 n38 (i38 + 1) M39 := by subst hr53 hr50 hr43; exact Eq.trans (u1_lp_X7_meetsIn_84 x1 i33 n38 i38 M39) (Eq.trans (if_pos c44) (Eq.trans (if_neg c46) (Eq.trans (if_pos c48) (Eq.trans (if_pos c51) (if_neg c54)))))
theorem p_X7_meetsIn_e59 (M : bM) (x1 : Int32) (r11 : Int32) (r18 : Int32) (M17 : bM) (M32 : bM) (M34 : bM) (i33 : Nat) (M39 : bM) (i38 : Nat) (n38 : Nat) (r43 : Int32) (hr43 : f_X7_stepFrom (nI i38 / 3) (nI i38 - nI i38 / 3 * 3) = r43) (c44 : (M39 7 (nI i38 / 3).toNatClampNeg) = nI i33) (c46 : ¬ r43 = (-1)) (c48 : (M39 7 r43.toNatClampNeg) = 99999) (r50 : Int32) (hr50 : f_X7_isDam M39 2 r43 = r50) (c51 : r50 = 0) (r53 : Int32) (hr53 : f_X7_isRiver M39 2 x1 r43 = r53) (c54 : r53 = 0) (r56 : Int32) (hr56 : f_X7_isRiver M39 2 ((1 : Int32) - x1) r43 = r56) (c57 : r56 = 0) (M58 : bM) (hM58 : up2 M39 7 r43.toNatClampNeg (nI i33 + 1) = M58) : lp_X7_meetsIn_84 x1 i33 (n38 + 1) i38 M39 = lp_X7_meetsIn_84 x1 i33 n38 (i38 + 1) M58 := by subst hM58 hr56 hr53 hr50 hr43; exact Eq.trans (u1_lp_X7_meetsIn_84 x1 i33 n38 i38 M39) (Eq.trans (if_pos c44) (Eq.trans (if_neg c46) (Eq.trans (if_pos c48) (Eq.trans (if_pos c51) (Eq.trans (if_pos c54) (if_pos c57))))))
theorem p_X7_meetsIn_e60 (M : bM) (x1 : Int32) (r11 : Int32) (r18 : Int32) (M17 : bM) (M32 : bM) (M34 : bM) (i33 : Nat) (M39 : bM) (i38 : Nat) (n38 : Nat) (r43 : Int32) (hr43 : f_X7_stepFrom (nI i38 / 3) (nI i38 - nI i38 / 3 * 3) = r43) (c44 : (M39 7 (nI i38 / 3).toNatClampNeg) = nI i33) (c46 : ¬ r43 = (-1)) (c48 : (M39 7 r43.toNatClampNeg) = 99999) (r50 : Int32) (hr50 : f_X7_isDam M39 2 r43 = r50) (c51 : r50 = 0) (r53 : Int32) (hr53 : f_X7_isRiver M39 2 x1 r43 = r53) (c54 : r53 = 0) (r56 : Int32) (hr56 : f_X7_isRiver M39 2 ((1 : Int32) - x1) r43 = r56) (c57 : ¬ r56 = 0) : lp_X7_meetsIn_84 x1 i33 (n38 + 1) i38 M39 = (true, (nI i33 + 1), M39) := by subst hr56 hr53 hr50 hr43; exact Eq.trans (u1_lp_X7_meetsIn_84 x1 i33 n38 i38 M39) (Eq.trans (if_pos c44) (Eq.trans (if_neg c46) (Eq.trans (if_pos c48) (Eq.trans (if_pos c51) (Eq.trans (if_pos c54) (if_neg c57))))))
theorem p_X7_meetsIn_e61 (M : bM) (x1 : Int32) (r11 : Int32) (r18 : Int32) (M17 : bM) (M32 : bM) (M34 : bM) (i33 : Nat) (n33 : Nat) (hfl38 : (lp_X7_meetsIn_84 x1 i33 192 0 M34).1 = true) : lp_X7_meetsIn_76 x1 (n33 + 1) i33 M34 = (true, (lp_X7_meetsIn_84 x1 i33 192 0 M34).2.1, (lp_X7_meetsIn_84 x1 i33 192 0 M34).2.2) := by exact Eq.trans (u1_lp_X7_meetsIn_76 x1 n33 i33 M34) (if_pos hfl38)
theorem p_X7_meetsIn_e63 (M : bM) (x1 : Int32) (r11 : Int32) (r18 : Int32) (M17 : bM) (M32 : bM) (M34 : bM) (i33 : Nat) (n33 : Nat) (hfl38 : (lp_X7_meetsIn_84 x1 i33 192 0 M34).1 = false) (M62 : bM) (hM62 : (lp_X7_meetsIn_84 x1 i33 192 0 M34).2.2 = M62) : lp_X7_meetsIn_76 x1 (n33 + 1) i33 M34 = lp_X7_meetsIn_76 x1 n33 (i33 + 1) M62 := by subst hM62; exact Eq.trans (u1_lp_X7_meetsIn_76 x1 n33 i33 M34) (if_neg (fun h9 => Bool.noConfusion (h9.symm.trans hfl38)))
theorem p_X7_meetsIn_e64 (M : bM) (x1 : Int32) (r11 : Int32) (hr11 : f_X7_in x1.toInt64 0 1 = r11) (c12 : ¬ r11 = 0) (r18 : Int32) (hr18 : (f_X7_refused M 0).1 = r18) (M17 : bM) (hM17 : (f_X7_refused M 0).2 = M17) (c20 : ¬ (M17 2 1) = 2) (M32 : bM) (hM32 : (lp_X7_meetsIn_38 x1 64 0 M17) = M32) (hfl33 : (lp_X7_meetsIn_76 x1 64 0 M32).1 = true) : f_X7_meetsIn M x1 = ((lp_X7_meetsIn_76 x1 64 0 M32).2.1, (lp_X7_meetsIn_76 x1 64 0 M32).2.2) := by subst hM32 hM17 hr18 hr11; exact Eq.trans (u_f_X7_meetsIn M x1) (Eq.trans (if_neg c12) (Eq.trans (if_neg c20) (if_pos hfl33)))
theorem p_X7_meetsIn_e66 (M : bM) (x1 : Int32) (r11 : Int32) (hr11 : f_X7_in x1.toInt64 0 1 = r11) (c12 : ¬ r11 = 0) (r18 : Int32) (hr18 : (f_X7_refused M 0).1 = r18) (M17 : bM) (hM17 : (f_X7_refused M 0).2 = M17) (c20 : ¬ (M17 2 1) = 2) (M32 : bM) (hM32 : (lp_X7_meetsIn_38 x1 64 0 M17) = M32) (hfl33 : (lp_X7_meetsIn_76 x1 64 0 M32).1 = false) (M65 : bM) (hM65 : (lp_X7_meetsIn_76 x1 64 0 M32).2.2 = M65) : f_X7_meetsIn M x1 = ((-1), M65) := by subst hM65 hM32 hM17 hr18 hr11; exact Eq.trans (u_f_X7_meetsIn M x1) (Eq.trans (if_neg c12) (Eq.trans (if_neg c20) (if_neg (fun h9 => Bool.noConfusion (h9.symm.trans hfl33)))))
theorem p_X7_meetsIn_e67 (M : bM) (x1 : Int32) (r11 : Int32) (hr11 : f_X7_in x1.toInt64 0 1 = r11) (c12 : ¬ r11 = 0) (r18 : Int32) (hr18 : (f_X7_refused M 0).1 = r18) (M17 : bM) (hM17 : (f_X7_refused M 0).2 = M17) (c20 : (M17 2 1) = 2) : f_X7_meetsIn M x1 = (0, M17) := by subst hM17 hr18 hr11; exact Eq.trans (u_f_X7_meetsIn M x1) (Eq.trans (if_neg c12) (if_pos c20))
theorem fr_lp_X7_meetsIn_38 (M : bM) (x1 : Int32) (r11 : Int32) (r18 : Int32) (M17 : bM) (k : Nat) (hk0 : k ≠ 0) (hf : k ≠ 7) : ∀ (n21 i21 : Nat) (M22 : bM), (lp_X7_meetsIn_38 x1 n21 i21 M22) k = M22 k := by
  intro n21
  induction n21 with
  | zero =>
    intro i21 M22
    rw [p_X7_meetsIn_e24 M x1 r11 r18 M17 M22 i21 ]
  | succ n21 ih21 =>
    intro i21 M22
    obtain ⟨r26, hr26⟩ : ∃ y : Int32, y = f_X7_head M22 2 x1 := ⟨_, rfl⟩
    by_cases c27 : nI i21 = r26
    · obtain ⟨M30, hM30⟩ : ∃ y : bM, y = up2 M22 7 i21 0 := ⟨_, rfl⟩
      rw [p_X7_meetsIn_e31 M x1 r11 r18 M17 M22 i21 n21 r26 hr26.symm c27 M30 hM30.symm, ih21]
      try dsimp only
      rw [hM30, up2_row (by omega)]
    · obtain ⟨M28, hM28⟩ : ∃ y : bM, y = up2 M22 7 i21 99999 := ⟨_, rfl⟩
      rw [p_X7_meetsIn_e29 M x1 r11 r18 M17 M22 i21 n21 r26 hr26.symm c27 M28 hM28.symm, ih21]
      try dsimp only
      rw [hM28, up2_row (by omega)]
theorem fr_lp_X7_meetsIn_84 (M : bM) (x1 : Int32) (r11 : Int32) (r18 : Int32) (M17 : bM) (M32 : bM) (M34 : bM) (i33 : Nat) (k : Nat) (hk0 : k ≠ 0) (hf : k ≠ 7) : ∀ (n38 i38 : Nat) (M39 : bM), (lp_X7_meetsIn_84 x1 i33 n38 i38 M39).2.2 k = M39 k := by
  intro n38
  induction n38 with
  | zero =>
    intro i38 M39
    rw [p_X7_meetsIn_e41 M x1 r11 r18 M17 M32 M34 i33 M39 i38 ]
  | succ n38 ih38 =>
    intro i38 M39
    obtain ⟨r43, hr43⟩ : ∃ y : Int32, y = f_X7_stepFrom (nI i38 / 3) (nI i38 - nI i38 / 3 * 3) := ⟨_, rfl⟩
    by_cases c44 : (M39 7 (nI i38 / 3).toNatClampNeg) = nI i33
    · by_cases c46 : r43 = (-1)
      · rw [p_X7_meetsIn_e47 M x1 r11 r18 M17 M32 M34 i33 M39 i38 n38 r43 hr43.symm c44 c46, ih38]
      · by_cases c48 : (M39 7 r43.toNatClampNeg) = 99999
        · obtain ⟨r50, hr50⟩ : ∃ y : Int32, y = f_X7_isDam M39 2 r43 := ⟨_, rfl⟩
          by_cases c51 : r50 = 0
          · obtain ⟨r53, hr53⟩ : ∃ y : Int32, y = f_X7_isRiver M39 2 x1 r43 := ⟨_, rfl⟩
            by_cases c54 : r53 = 0
            · obtain ⟨r56, hr56⟩ : ∃ y : Int32, y = f_X7_isRiver M39 2 ((1 : Int32) - x1) r43 := ⟨_, rfl⟩
              by_cases c57 : r56 = 0
              · obtain ⟨M58, hM58⟩ : ∃ y : bM, y = up2 M39 7 r43.toNatClampNeg (nI i33 + 1) := ⟨_, rfl⟩
                rw [p_X7_meetsIn_e59 M x1 r11 r18 M17 M32 M34 i33 M39 i38 n38 r43 hr43.symm c44 c46 c48 r50 hr50.symm c51 r53 hr53.symm c54 r56 hr56.symm c57 M58 hM58.symm, ih38]
                try dsimp only
                rw [hM58, up2_row (by omega)]
              · rw [p_X7_meetsIn_e60 M x1 r11 r18 M17 M32 M34 i33 M39 i38 n38 r43 hr43.symm c44 c46 c48 r50 hr50.symm c51 r53 hr53.symm c54 r56 hr56.symm c57]
            · rw [p_X7_meetsIn_e55 M x1 r11 r18 M17 M32 M34 i33 M39 i38 n38 r43 hr43.symm c44 c46 c48 r50 hr50.symm c51 r53 hr53.symm c54, ih38]
          · rw [p_X7_meetsIn_e52 M x1 r11 r18 M17 M32 M34 i33 M39 i38 n38 r43 hr43.symm c44 c46 c48 r50 hr50.symm c51, ih38]
        · rw [p_X7_meetsIn_e49 M x1 r11 r18 M17 M32 M34 i33 M39 i38 n38 r43 hr43.symm c44 c46 c48, ih38]
    · rw [p_X7_meetsIn_e45 M x1 r11 r18 M17 M32 M34 i33 M39 i38 n38 r43 hr43.symm c44, ih38]
theorem fr_lp_X7_meetsIn_76 (M : bM) (x1 : Int32) (r11 : Int32) (r18 : Int32) (M17 : bM) (M32 : bM) (k : Nat) (hk0 : k ≠ 0) (hf : k ≠ 7) : ∀ (n33 i33 : Nat) (M34 : bM), (lp_X7_meetsIn_76 x1 n33 i33 M34).2.2 k = M34 k := by
  intro n33
  induction n33 with
  | zero =>
    intro i33 M34
    rw [p_X7_meetsIn_e36 M x1 r11 r18 M17 M32 M34 i33 ]
  | succ n33 ih33 =>
    intro i33 M34
    rcases (by cases (lp_X7_meetsIn_84 x1 i33 192 0 M34).1 <;> simp : (lp_X7_meetsIn_84 x1 i33 192 0 M34).1 = true ∨ (lp_X7_meetsIn_84 x1 i33 192 0 M34).1 = false) with hfl38 | hfl38
    · rw [p_X7_meetsIn_e61 M x1 r11 r18 M17 M32 M34 i33 n33 hfl38]
      try dsimp only
      rw [fr_lp_X7_meetsIn_84 M x1 r11 r18 M17 M32 M34 i33 k hk0 hf 192 0 M34]
    · obtain ⟨M62, hM62⟩ : ∃ y : bM, y = (lp_X7_meetsIn_84 x1 i33 192 0 M34).2.2 := ⟨_, rfl⟩
      rw [p_X7_meetsIn_e63 M x1 r11 r18 M17 M32 M34 i33 n33 hfl38 M62 hM62.symm, ih33]
      try dsimp only
      rw [hM62, fr_lp_X7_meetsIn_84 M x1 r11 r18 M17 M32 M34 i33 k hk0 hf 192 0 M34]
theorem fr_X7_meetsIn (M : bM) (x1 : Int32) (k : Nat) (hk0 : k ≠ 0) (hf : k ≠ 7) : (f_X7_meetsIn M x1).2 k = M k := by
  obtain ⟨r11, hr11⟩ : ∃ y : Int32, y = f_X7_in x1.toInt64 0 1 := ⟨_, rfl⟩
  by_cases c12 : r11 = 0
  · obtain ⟨r14, hr14⟩ : ∃ y : Int32, y = (f_X7_refused M 1).1 := ⟨_, rfl⟩
    obtain ⟨M13, hM13⟩ : ∃ y : bM, y = (f_X7_refused M 1).2 := ⟨_, rfl⟩
    rw [p_X7_meetsIn_e16 M x1 r11 hr11.symm c12 r14 hr14.symm M13 hM13.symm]
    try dsimp only
    rw [hM13, fr_X7_refused M 1 k (by omega)]
  · obtain ⟨r18, hr18⟩ : ∃ y : Int32, y = (f_X7_refused M 0).1 := ⟨_, rfl⟩
    obtain ⟨M17, hM17⟩ : ∃ y : bM, y = (f_X7_refused M 0).2 := ⟨_, rfl⟩
    by_cases c20 : (M17 2 1) = 2
    · rw [p_X7_meetsIn_e67 M x1 r11 hr11.symm c12 r18 hr18.symm M17 hM17.symm c20]
      try dsimp only
      rw [hM17, fr_X7_refused M 0 k (by omega)]
    · obtain ⟨M32, hM32⟩ : ∃ y : bM, y = (lp_X7_meetsIn_38 x1 64 0 M17) := ⟨_, rfl⟩
      rcases (by cases (lp_X7_meetsIn_76 x1 64 0 M32).1 <;> simp : (lp_X7_meetsIn_76 x1 64 0 M32).1 = true ∨ (lp_X7_meetsIn_76 x1 64 0 M32).1 = false) with hfl33 | hfl33
      · rw [p_X7_meetsIn_e64 M x1 r11 hr11.symm c12 r18 hr18.symm M17 hM17.symm c20 M32 hM32.symm hfl33]
        try dsimp only
        rw [fr_lp_X7_meetsIn_76 M x1 r11 r18 M17 M32 k hk0 hf 64 0 M32, hM32, fr_lp_X7_meetsIn_38 M x1 r11 r18 M17 k hk0 hf 64 0 M17, hM17, fr_X7_refused M 0 k (by omega)]
      · obtain ⟨M65, hM65⟩ : ∃ y : bM, y = (lp_X7_meetsIn_76 x1 64 0 M32).2.2 := ⟨_, rfl⟩
        rw [p_X7_meetsIn_e66 M x1 r11 hr11.symm c12 r18 hr18.symm M17 hM17.symm c20 M32 hM32.symm hfl33 M65 hM65.symm]
        try dsimp only
        rw [hM65, fr_lp_X7_meetsIn_76 M x1 r11 r18 M17 M32 k hk0 hf 64 0 M32, hM32, fr_lp_X7_meetsIn_38 M x1 r11 r18 M17 k hk0 hf 64 0 M17, hM17, fr_X7_refused M 0 k (by omega)]
def lp_X7_leastWished_24  : Nat → Nat → bM → (bM)
  | 0, i14, M15 => M15
  | n14 + 1, i14, M15 => (let M19 : bM := up2 M15 8 i14 (M15 7 i14); lp_X7_leastWished_24 n14 (i14 + 1) M19)
theorem u0_lp_X7_leastWished_24  (i14 : Nat) (M15 : bM) : lp_X7_leastWished_24 0 i14 M15 = M15 := rfl
theorem u1_lp_X7_leastWished_24  (n14 i14 : Nat) (M15 : bM) : lp_X7_leastWished_24 (n14 + 1) i14 M15 = (let M19 : bM := up2 M15 8 i14 (M15 7 i14); lp_X7_leastWished_24 n14 (i14 + 1) M19) := rfl
def lp_X7_leastWished_71 (M23 : bM) : Nat → Nat → Int32 → Int32 → (Int32 × Int32)
  | 0, i24, x25, x26 => (x25, x26)
  | n24 + 1, i24, x25, x26 => (let r30 : Int32 := f_X7_cost M23 2 0 (nI i24); (let r31 : Int32 := f_X7_cost M23 2 1 (nI i24); (let x32 : Int32 := (r30 + r31); (let r33 : Int32 := f_X7_isBare M23 2 (nI i24); (if r33 = 0 then lp_X7_leastWished_71 M23 n24 (i24 + 1) x25 x26 else (if 99999 ≤ (M23 7 i24) then lp_X7_leastWished_71 M23 n24 (i24 + 1) x25 x26 else (if 99999 ≤ (M23 8 i24) then lp_X7_leastWished_71 M23 n24 (i24 + 1) x25 x26 else (if x32 ≤ x25 then lp_X7_leastWished_71 M23 n24 (i24 + 1) x25 x26 else lp_X7_leastWished_71 M23 n24 (i24 + 1) x32 (nI i24)))))))))
theorem u0_lp_X7_leastWished_71 (M23 : bM) (i24 : Nat) (x25 : Int32) (x26 : Int32) : lp_X7_leastWished_71 M23 0 i24 x25 x26 = (x25, x26) := rfl
theorem u1_lp_X7_leastWished_71 (M23 : bM) (n24 i24 : Nat) (x25 : Int32) (x26 : Int32) : lp_X7_leastWished_71 M23 (n24 + 1) i24 x25 x26 = (let r30 : Int32 := f_X7_cost M23 2 0 (nI i24); (let r31 : Int32 := f_X7_cost M23 2 1 (nI i24); (let x32 : Int32 := (r30 + r31); (let r33 : Int32 := f_X7_isBare M23 2 (nI i24); (if r33 = 0 then lp_X7_leastWished_71 M23 n24 (i24 + 1) x25 x26 else (if 99999 ≤ (M23 7 i24) then lp_X7_leastWished_71 M23 n24 (i24 + 1) x25 x26 else (if 99999 ≤ (M23 8 i24) then lp_X7_leastWished_71 M23 n24 (i24 + 1) x25 x26 else (if x32 ≤ x25 then lp_X7_leastWished_71 M23 n24 (i24 + 1) x25 x26 else lp_X7_leastWished_71 M23 n24 (i24 + 1) x32 (nI i24))))))))) := rfl
def f_X7_leastWished (M : bM) : Int32 × bM := (let M11 : bM := up2 M 0 0 0; (let r12 : Int32 := f_X7_head M11 2 0; (let M13 : bM := f_X7_measure M11 2 0 r12; (let M21 : bM := (lp_X7_leastWished_24 64 0 M13); (let r22 : Int32 := f_X7_head M21 2 1; (let M23 : bM := f_X7_measure M21 2 1 r22; (let x43 : Int32 := (lp_X7_leastWished_71 M23 64 0 (-1) (-1)).1; (let x44 : Int32 := (lp_X7_leastWished_71 M23 64 0 (-1) (-1)).2; (x44, M23)))))))))
theorem u_f_X7_leastWished (M : bM) : f_X7_leastWished M = (let M11 : bM := up2 M 0 0 0; (let r12 : Int32 := f_X7_head M11 2 0; (let M13 : bM := f_X7_measure M11 2 0 r12; (let M21 : bM := (lp_X7_leastWished_24 64 0 M13); (let r22 : Int32 := f_X7_head M21 2 1; (let M23 : bM := f_X7_measure M21 2 1 r22; (let x43 : Int32 := (lp_X7_leastWished_71 M23 64 0 (-1) (-1)).1; (let x44 : Int32 := (lp_X7_leastWished_71 M23 64 0 (-1) (-1)).2; (x44, M23))))))))) := rfl
theorem p_X7_leastWished_e17 (M : bM) (M11 : bM) (r12 : Int32) (M13 : bM) (M15 : bM) (i14 : Nat)  : lp_X7_leastWished_24 0 i14 M15 = M15 := by exact u0_lp_X7_leastWished_24 i14 M15
theorem p_X7_leastWished_e20 (M : bM) (M11 : bM) (r12 : Int32) (M13 : bM) (M15 : bM) (i14 : Nat) (n14 : Nat) (M19 : bM) (hM19 : up2 M15 8 i14 (M15 7 i14) = M19) : lp_X7_leastWished_24 (n14 + 1) i14 M15 = lp_X7_leastWished_24 n14 (i14 + 1) M19 := by subst hM19; exact u1_lp_X7_leastWished_24 n14 i14 M15
theorem p_X7_leastWished_e45 (M : bM) (M11 : bM) (hM11 : up2 M 0 0 0 = M11) (r12 : Int32) (hr12 : f_X7_head M11 2 0 = r12) (M13 : bM) (hM13 : f_X7_measure M11 2 0 r12 = M13) (M21 : bM) (hM21 : (lp_X7_leastWished_24 64 0 M13) = M21) (r22 : Int32) (hr22 : f_X7_head M21 2 1 = r22) (M23 : bM) (hM23 : f_X7_measure M21 2 1 r22 = M23) (x43 : Int32) (hx43 : (lp_X7_leastWished_71 M23 64 0 (-1) (-1)).1 = x43) (x44 : Int32) (hx44 : (lp_X7_leastWished_71 M23 64 0 (-1) (-1)).2 = x44) : f_X7_leastWished M = (x44, M23) := by subst hx44 hx43 hM23 hr22 hM21 hM13 hr12 hM11; exact u_f_X7_leastWished M
theorem fr_lp_X7_leastWished_24 (M : bM) (M11 : bM) (r12 : Int32) (M13 : bM) (k : Nat) (hk0 : k ≠ 0) (hf : k ≠ 7) (hk8 : k ≠ 8) : ∀ (n14 i14 : Nat) (M15 : bM), (lp_X7_leastWished_24 n14 i14 M15) k = M15 k := by
  intro n14
  induction n14 with
  | zero =>
    intro i14 M15
    rw [p_X7_leastWished_e17 M M11 r12 M13 M15 i14 ]
  | succ n14 ih14 =>
    intro i14 M15
    obtain ⟨M19, hM19⟩ : ∃ y : bM, y = up2 M15 8 i14 (M15 7 i14) := ⟨_, rfl⟩
    rw [p_X7_leastWished_e20 M M11 r12 M13 M15 i14 n14 M19 hM19.symm, ih14]
    try dsimp only
    rw [hM19, up2_row (by omega)]
theorem fr_X7_leastWished (M : bM) (k : Nat) (hk0 : k ≠ 0) (hf : k ≠ 7) (hk8 : k ≠ 8) : (f_X7_leastWished M).2 k = M k := by
  obtain ⟨M11, hM11⟩ : ∃ y : bM, y = up2 M 0 0 0 := ⟨_, rfl⟩
  obtain ⟨r12, hr12⟩ : ∃ y : Int32, y = f_X7_head M11 2 0 := ⟨_, rfl⟩
  obtain ⟨M13, hM13⟩ : ∃ y : bM, y = f_X7_measure M11 2 0 r12 := ⟨_, rfl⟩
  obtain ⟨M21, hM21⟩ : ∃ y : bM, y = (lp_X7_leastWished_24 64 0 M13) := ⟨_, rfl⟩
  obtain ⟨r22, hr22⟩ : ∃ y : Int32, y = f_X7_head M21 2 1 := ⟨_, rfl⟩
  obtain ⟨M23, hM23⟩ : ∃ y : bM, y = f_X7_measure M21 2 1 r22 := ⟨_, rfl⟩
  obtain ⟨x43, hx43⟩ : ∃ y : Int32, y = (lp_X7_leastWished_71 M23 64 0 (-1) (-1)).1 := ⟨_, rfl⟩
  obtain ⟨x44, hx44⟩ : ∃ y : Int32, y = (lp_X7_leastWished_71 M23 64 0 (-1) (-1)).2 := ⟨_, rfl⟩
  rw [p_X7_leastWished_e45 M M11 hM11.symm r12 hr12.symm M13 hM13.symm M21 hM21.symm r22 hr22.symm M23 hM23.symm x43 hx43.symm x44 hx44.symm]
  try dsimp only
  rw [hM23, fr_X7_measure M21 2 1 r22 k (by omega), hM21, fr_lp_X7_leastWished_24 M M11 r12 M13 k hk0 hf hk8 64 0 M13, hM13, fr_X7_measure M11 2 0 r12 k (by omega), hM11, up2_row (by omega)]
