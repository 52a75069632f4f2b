def lp_X7_measure_3 (x3 : Int32) : Nat → Nat → bM → (bM)
  | 0, i11, M12 => M12
  | n11 + 1, i11, M12 => (if nI i11 = x3 then (let M19 : bM := up2 M12 7 i11 0; lp_X7_measure_3 x3 n11 (i11 + 1) M19) else (let M17 : bM := up2 M12 7 i11 99999; lp_X7_measure_3 x3 n11 (i11 + 1) M17))
theorem u0_lp_X7_measure_3 (x3 : Int32) (i11 : Nat) (M12 : bM) : lp_X7_measure_3 x3 0 i11 M12 = M12 := rfl
theorem u1_lp_X7_measure_3 (x3 : Int32) (n11 i11 : Nat) (M12 : bM) : lp_X7_measure_3 x3 (n11 + 1) i11 M12 = (if nI i11 = x3 then (let M19 : bM := up2 M12 7 i11 0; lp_X7_measure_3 x3 n11 (i11 + 1) M19) else (let M17 : bM := up2 M12 7 i11 99999; lp_X7_measure_3 x3 n11 (i11 + 1) M17)) := rfl
def lp_X7_measure_49 (k1 : Nat) (x2 : Int32) : Nat → Nat → Int32 → bM → (Int32 × bM)
  | 0, i30, x31, M32 => (x31, M32)
  | n30 + 1, i30, x31, M32 => (let r36 : Int32 := f_X7_stepFrom (nI i30 / 3) (nI i30 - nI i30 / 3 * 3); (if 99999 ≤ (M32 7 (nI i30 / 3).toNatClampNeg) then lp_X7_measure_49 k1 x2 n30 (i30 + 1) x31 M32 else (if r36 = (-1) then lp_X7_measure_49 k1 x2 n30 (i30 + 1) x31 M32 else (let r41 : Int32 := f_X7_isBare M32 k1 r36; (if r41 = 0 then lp_X7_measure_49 k1 x2 n30 (i30 + 1) x31 M32 else (let r44 : Int32 := f_X7_cost M32 k1 x2 r36; (if (M32 7 r36.toNatClampNeg) ≤ ((M32 7 (nI i30 / 3).toNatClampNeg) + r44) then lp_X7_measure_49 k1 x2 n30 (i30 + 1) x31 M32 else (let r47 : Int32 := f_X7_cost M32 k1 x2 r36; (let M48 : bM := up2 M32 7 r36.toNatClampNeg ((M32 7 (nI i30 / 3).toNatClampNeg) + r47); lp_X7_measure_49 k1 x2 n30 (i30 + 1) 1 M48)))))))))
theorem u0_lp_X7_measure_49 (k1 : Nat) (x2 : Int32) (i30 : Nat) (x31 : Int32) (M32 : bM) : lp_X7_measure_49 k1 x2 0 i30 x31 M32 = (x31, M32) := rfl
theorem u1_lp_X7_measure_49 (k1 : Nat) (x2 : Int32) (n30 i30 : Nat) (x31 : Int32) (M32 : bM) : lp_X7_measure_49 k1 x2 (n30 + 1) i30 x31 M32 = (let r36 : Int32 := f_X7_stepFrom (nI i30 / 3) (nI i30 - nI i30 / 3 * 3); (if 99999 ≤ (M32 7 (nI i30 / 3).toNatClampNeg) then lp_X7_measure_49 k1 x2 n30 (i30 + 1) x31 M32 else (if r36 = (-1) then lp_X7_measure_49 k1 x2 n30 (i30 + 1) x31 M32 else (let r41 : Int32 := f_X7_isBare M32 k1 r36; (if r41 = 0 then lp_X7_measure_49 k1 x2 n30 (i30 + 1) x31 M32 else (let r44 : Int32 := f_X7_cost M32 k1 x2 r36; (if (M32 7 r36.toNatClampNeg) ≤ ((M32 7 (nI i30 / 3).toNatClampNeg) + r44) then lp_X7_measure_49 k1 x2 n30 (i30 + 1) x31 M32 else (let r47 : Int32 := f_X7_cost M32 k1 x2 r36; (let M48 : bM := up2 M32 7 r36.toNatClampNeg ((M32 7 (nI i30 / 3).toNatClampNeg) + r47); lp_X7_measure_49 k1 x2 n30 (i30 + 1) 1 M48))))))))) := rfl
def lp_X7_measure_38 (k1 : Nat) (x2 : Int32) : Nat → Nat → Int32 → bM → (Int32 × bM)
  | 0, i22, x23, M24 => (if x23 = 0 then (x23, M24) else (x23, M24))
  | n22 + 1, i22, x23, M24 => (if x23 = 0 then (x23, M24) else (let x50 : Int32 := (lp_X7_measure_49 k1 x2 192 0 0 M24).1; (let M51 : bM := (lp_X7_measure_49 k1 x2 192 0 0 M24).2; lp_X7_measure_38 k1 x2 n22 (i22 + 1) x50 M51)))
theorem u0_lp_X7_measure_38 (k1 : Nat) (x2 : Int32) (i22 : Nat) (x23 : Int32) (M24 : bM) : lp_X7_measure_38 k1 x2 0 i22 x23 M24 = (if x23 = 0 then (x23, M24) else (x23, M24)) := rfl
theorem u1_lp_X7_measure_38 (k1 : Nat) (x2 : Int32) (n22 i22 : Nat) (x23 : Int32) (M24 : bM) : lp_X7_measure_38 k1 x2 (n22 + 1) i22 x23 M24 = (if x23 = 0 then (x23, M24) else (let x50 : Int32 := (lp_X7_measure_49 k1 x2 192 0 0 M24).1; (let M51 : bM := (lp_X7_measure_49 k1 x2 192 0 0 M24).2; lp_X7_measure_38 k1 x2 n22 (i22 + 1) x50 M51))) := rfl
def f_X7_measure (M : bM) (k1 : Nat) (x2 : Int32) (x3 : Int32) : bM := (let M21 : bM := (lp_X7_measure_3 x3 64 0 M); (let x53 : Int32 := (lp_X7_measure_38 k1 x2 6400000 0 1 M21).1; (let M54 : bM := (lp_X7_measure_38 k1 x2 6400000 0 1 M21).2; M54)))
theorem u_f_X7_measure (M : bM) (k1 : Nat) (x2 : Int32) (x3 : Int32) : f_X7_measure M k1 x2 x3 = (let M21 : bM := (lp_X7_measure_3 x3 64 0 M); (let x53 : Int32 := (lp_X7_measure_38 k1 x2 6400000 0 1 M21).1; (let M54 : bM := (lp_X7_measure_38 k1 x2 6400000 0 1 M21).2; M54))) := rfl
theorem p_X7_measure_e14 (M : bM) (k1 : Nat) (x2 : Int32) (x3 : Int32) (M12 : bM) (i11 : Nat)  : lp_X7_measure_3 x3 0 i11 M12 = M12 := by exact u0_lp_X7_measure_3 x3 i11 M12
theorem p_X7_measure_e18 (M : bM) (k1 : Nat) (x2 : Int32) (x3 : Int32) (M12 : bM) (i11 : Nat) (n11 : Nat) (c16 : ¬ nI i11 = x3) (M17 : bM) (hM17 : up2 M12 7 i11 99999 = M17) : lp_X7_measure_3 x3 (n11 + 1) i11 M12 = lp_X7_measure_3 x3 n11 (i11 + 1) M17 := by subst hM17; exact Eq.trans (u1_lp_X7_measure_3 x3 n11 i11 M12) (if_neg c16)
theorem p_X7_measure_e20 (M : bM) (k1 : Nat) (x2 : Int32) (x3 : Int32) (M12 : bM) (i11 : Nat) (n11 : Nat) (c16 : nI i11 = x3) (M19 : bM) (hM19 : up2 M12 7 i11 0 = M19) : lp_X7_measure_3 x3 (n11 + 1) i11 M12 = lp_X7_measure_3 x3 n11 (i11 + 1) M19 := by subst hM19; exact Eq.trans (u1_lp_X7_measure_3 x3 n11 i11 M12) (if_pos c16)
theorem p_X7_measure_e26 (M : bM) (k1 : Nat) (x2 : Int32) (x3 : Int32) (M21 : bM) (x23 : Int32) (M24 : bM) (i22 : Nat) (c25 : x23 = 0) : lp_X7_measure_38 k1 x2 0 i22 x23 M24 = (x23, M24) := by exact Eq.trans (u0_lp_X7_measure_38 k1 x2 i22 x23 M24) (if_pos c25)
theorem p_X7_measure_e27 (M : bM) (k1 : Nat) (x2 : Int32) (x3 : Int32) (M21 : bM) (x23 : Int32) (M24 : bM) (i22 : Nat) (c25 : ¬ x23 = 0) : lp_X7_measure_38 k1 x2 0 i22 x23 M24 = (x23, M24) := by exact Eq.trans (u0_lp_X7_measure_38 k1 x2 i22 x23 M24) (if_neg c25)
theorem p_X7_measure_e29 (M : bM) (k1 : Nat) (x2 : Int32) (x3 : Int32) (M21 : bM) (x23 : Int32) (M24 : bM) (i22 : Nat) (n22 : Nat) (c28 : x23 = 0) : lp_X7_measure_38 k1 x2 (n22 + 1) i22 x23 M24 = (x23, M24) := by exact Eq.trans (u1_lp_X7_measure_38 k1 x2 n22 i22 x23 M24) (if_pos c28)
theorem p_X7_measure_e34 (M : bM) (k1 : Nat) (x2 : Int32) (x3 : Int32) (M21 : bM) (x23 : Int32) (M24 : bM) (i22 : Nat) (x31 : Int32) (M32 : bM) (i30 : Nat)  : lp_X7_measure_49 k1 x2 0 i30 x31 M32 = (x31, M32) := by exact u0_lp_X7_measure_49 k1 x2 i30 x31 M32
theorem p_X7_measure_e38 (M : bM) (k1 : Nat) (x2 : Int32) (x3 : Int32) (M21 : bM) (x23 : Int32) (M24 : bM) (i22 : Nat) (x31 : Int32) (M32 : bM) (i30 : Nat) (n30 : Nat) (r36 : Int32) (hr36 : f_X7_stepFrom (nI i30 / 3) (nI i30 - nI i30 / 3 * 3) = r36) (c37 : 99999 ≤ (M32 7 (nI i30 / 3).toNatClampNeg)) : lp_X7_measure_49 k1 x2 (n30 + 1) i30 x31 M32 = lp_X7_measure_49 k1 x2 n30 (i30 + 1) x31 M32 := by subst hr36; exact Eq.trans (u1_lp_X7_measure_49 k1 x2 n30 i30 x31 M32) (if_pos c37)
theorem p_X7_measure_e40 (M : bM) (k1 : Nat) (x2 : Int32) (x3 : Int32) (M21 : bM) (x23 : Int32) (M24 : bM) (i22 : Nat) (x31 : Int32) (M32 : bM) (i30 : Nat) (n30 : Nat) (r36 : Int32) (hr36 : f_X7_stepFrom (nI i30 / 3) (nI i30 - nI i30 / 3 * 3) = r36) (c37 : ¬ 99999 ≤ (M32 7 (nI i30 / 3).toNatClampNeg)) (c39 : r36 = (-1)) : lp_X7_measure_49 k1 x2 (n30 + 1) i30 x31 M32 = lp_X7_measure_49 k1 x2 n30 (i30 + 1) x31 M32 := by subst hr36; exact Eq.trans (u1_lp_X7_measure_49 k1 x2 n30 i30 x31 M32) (Eq.trans (if_neg c37) (if_pos c39))
theorem p_X7_measure_e43 (M : bM) (k1 : Nat) (x2 : Int32) (x3 : Int32) (M21 : bM) (x23 : Int32) (M24 : bM) (i22 : Nat) (x31 : Int32) (M32 : bM) (i30 : Nat) (n30 : Nat) (r36 : Int32) (hr36 : f_X7_stepFrom (nI i30 / 3) (nI i30 - nI i30 / 3 * 3) = r36) (c37 : ¬ 99999 ≤ (M32 7 (nI i30 / 3).toNatClampNeg)) (c39 : ¬ r36 = (-1)) (r41 : Int32) (hr41 : f_X7_isBare M32 k1 r36 = r41) (c42 : r41 = 0) : lp_X7_measure_49 k1 x2 (n30 + 1) i30 x31 M32 = lp_X7_measure_49 k1 x2 n30 (i30 + 1) x31 M32 := by subst hr41 hr36; exact Eq.trans (u1_lp_X7_measure_49 k1 x2 n30 i30 x31 M32) (Eq.trans (if_neg c37) (Eq.trans (if_neg c39) (if_pos c42)))
theorem p_X7_measure_e46 (M : bM) (k1 : Nat) (x2 : Int32) (x3 : Int32) (M21 : bM) (x23 : Int32) (M24 : bM) (i22 : Nat) (x31 : Int32) (M32 : bM) (i30 : Nat) (n30 : Nat) (r36 : Int32) (hr36 : f_X7_stepFrom (nI i30 / 3) (nI i30 - nI i30 / 3 * 3) = r36) (c37 : ¬ 99999 ≤ (M32 7 (nI i30 / 3).toNatClampNeg)) (c39 : ¬ r36 = (-1)) (r41 : Int32) (hr41 : f_X7_isBare M32 k1 r36 = r41) (c42 : ¬ r41 = 0) (r44 : Int32) (hr44 : f_X7_cost M32 k1 x2 r36 = r44) (c45 : (M32 7 r36.toNatClampNeg) ≤ ((M32 7 (nI i30 / 3).toNatClampNeg) + r44)) : lp_X7_measure_49 k1 x2 (n30 + 1) i30 x31 M32 = lp_X7_measure_49 k1 x2 n30 (i30 + 1) x31 M32 := by subst hr44 hr41 hr36; exact Eq.trans (u1_lp_X7_measure_49 k1 x2 n30 i30 x31 M32) (Eq.trans (if_neg c37) (Eq.trans (if_neg c39) (Eq.trans (if_neg c42) (if_pos c45))))
theorem p_X7_measure_e49 (M : bM) (k1 : Nat) (x2 : Int32) (x3 : Int32) (M21 : bM) (x23 : Int32) (M24 : bM) (i22 : Nat) (x31 : Int32) (M32 : bM) (i30 : Nat) (n30 : Nat) (r36 : Int32) (hr36 : f_X7_stepFrom (nI i30 / 3) (nI i30 - nI i30 / 3 * 3) = r36) (c37 : ¬ 99999 ≤ (M32 7 (nI i30 / 3).toNatClampNeg)) (c39 : ¬ r36 = (-1)) (r41 : Int32) (hr41 : f_X7_isBare M32 k1 r36 = r41) (c42 : ¬ r41 = 0) (r44 : Int32) (hr44 : f_X7_cost M32 k1 x2 r36 = r44) (c45 : ¬ (M32 7 r36.toNatClampNeg) ≤ ((M32 7 (nI i30 / 3).toNatClampNeg) + r44)) (r47 : Int32) (hr47 : f_X7_cost M32 k1 x2 r36 = r47) (M48 : bM) (hM48 : up2 M32 7 r36.toNatClampNeg ((M32 7 (nI i30 / 3).toNatClampNeg) + r47) = M48) : lp_X7_measure_49 k1 x2 (n30 + 1) i30 x31 M32 = lp_X7_measure_49 k1 x2 n30 (i30 + 1) 1 M48 := by subst hM48 hr47 hr44 hr41 hr36; exact Eq.trans (u1_lp_X7_measure_49 k1 x2 n30 i30 x31 M32) (Eq.trans (if_neg c37) (Eq.trans (if_neg c39) (Eq.trans (if_neg c42) (if_neg c45))))
theorem p_X7_measure_e52 (M : bM) (k1 : Nat) (x2 : Int32) (x3 : Int32) (M21 : bM) (x23 : Int32) (M24 : bM) (i22 : Nat) (n22 : Nat) (c28 : ¬ x23 = 0) (x50 : Int32) (hx50 : (lp_X7_measure_49 k1 x2 192 0 0 M24).1 = x50) (M51 : bM) (hM51 : (lp_X7_measure_49 k1 x2 192 0 0 M24).2 = M51) : lp_X7_measure_38 k1 x2 (n22 + 1) i22 x23 M24 = lp_X7_measure_38 k1 x2 n22 (i22 + 1) x50 M51 := by subst hM51 hx50; exact Eq.trans (u1_lp_X7_measure_38 k1 x2 n22 i22 x23 M24) (if_neg c28)
theorem p_X7_measure_e55 (M : bM) (k1 : Nat) (x2 : Int32) (x3 : Int32) (M21 : bM) (hM21 : (lp_X7_measure_3 x3 64 0 M) = M21) (x53 : Int32) (hx53 : (lp_X7_measure_38 k1 x2 6400000 0 1 M21).1 = x53) (M54 : bM) (hM54 : (lp_X7_measure_38 k1 x2 6400000 0 1 M21).2 = M54) : f_X7_measure M k1 x2 x3 = M54 := by subst hM54 hx53 hM21; exact u_f_X7_measure M k1 x2 x3
theorem fr_lp_X7_measure_3 (M : bM) (k1 : Nat) (x2 : Int32) (x3 : Int32) (k : Nat) (hf : k ≠ 7) : ∀ (n11 i11 : Nat) (M12 : bM), (lp_X7_measure_3 x3 n11 i11 M12) k = M12 k := by
  intro n11
  induction n11 with
  | zero =>
    intro i11 M12
    rw [p_X7_measure_e14 M k1 x2 x3 M12 i11 ]
  | succ n11 ih11 =>
    intro i11 M12
    by_cases c16 : nI i11 = x3
    · obtain ⟨M19, hM19⟩ : ∃ y : bM, y = up2 M12 7 i11 0 := ⟨_, rfl⟩
      rw [p_X7_measure_e20 M k1 x2 x3 M12 i11 n11 c16 M19 hM19.symm, ih11]
      try dsimp only
      rw [hM19, up2_row (by omega)]
    · obtain ⟨M17, hM17⟩ : ∃ y : bM, y = up2 M12 7 i11 99999 := ⟨_, rfl⟩
      rw [p_X7_measure_e18 M k1 x2 x3 M12 i11 n11 c16 M17 hM17.symm, ih11]
      try dsimp only
      rw [hM17, up2_row (by omega)]
theorem fr_lp_X7_measure_49 (M : bM) (k1 : Nat) (x2 : Int32) (x3 : Int32) (M21 : bM) (x23 : Int32) (M24 : bM) (i22 : Nat) (k : Nat) (hf : k ≠ 7) : ∀ (n30 i30 : Nat) (x31 : Int32) (M32 : bM), (lp_X7_measure_49 k1 x2 n30 i30 x31 M32).2 k = M32 k := by
  intro n30
  induction n30 with
  | zero =>
    intro i30 x31 M32
    rw [p_X7_measure_e34 M k1 x2 x3 M21 x23 M24 i22 x31 M32 i30 ]
  | succ n30 ih30 =>
    intro i30 x31 M32
    obtain ⟨r36, hr36⟩ : ∃ y : Int32, y = f_X7_stepFrom (nI i30 / 3) (nI i30 - nI i30 / 3 * 3) := ⟨_, rfl⟩
    by_cases c37 : 99999 ≤ (M32 7 (nI i30 / 3).toNatClampNeg)
    · rw [p_X7_measure_e38 M k1 x2 x3 M21 x23 M24 i22 x31 M32 i30 n30 r36 hr36.symm c37, ih30]
    · by_cases c39 : r36 = (-1)
      · rw [p_X7_measure_e40 M k1 x2 x3 M21 x23 M24 i22 x31 M32 i30 n30 r36 hr36.symm c37 c39, ih30]
      · obtain ⟨r41, hr41⟩ : ∃ y : Int32, y = f_X7_isBare M32 k1 r36 := ⟨_, rfl⟩
        by_cases c42 : r41 = 0
        · rw [p_X7_measure_e43 M k1 x2 x3 M21 x23 M24 i22 x31 M32 i30 n30 r36 hr36.symm c37 c39 r41 hr41.symm c42, ih30]
        · obtain ⟨r44, hr44⟩ : ∃ y : Int32, y = f_X7_cost M32 k1 x2 r36 := ⟨_, rfl⟩
          by_cases c45 : (M32 7 r36.toNatClampNeg) ≤ ((M32 7 (nI i30 / 3).toNatClampNeg) + r44)
          · rw [p_X7_measure_e46 M k1 x2 x3 M21 x23 M24 i22 x31 M32 i30 n30 r36 hr36.symm c37 c39 r41 hr41.symm c42 r44 hr44.symm c45, ih30]
          · obtain ⟨r47, hr47⟩ : ∃ y : Int32, y = f_X7_cost M32 k1 x2 r36 := ⟨_, rfl⟩
            obtain ⟨M48, hM48⟩ : ∃ y : bM, y = up2 M32 7 r36.toNatClampNeg ((M32 7 (nI i30 / 3).toNatClampNeg) + r47) := ⟨_, rfl⟩
            rw [p_X7_measure_e49 M k1 x2 x3 M21 x23 M24 i22 x31 M32 i30 n30 r36 hr36.symm c37 c39 r41 hr41.symm c42 r44 hr44.symm c45 r47 hr47.symm M48 hM48.symm, ih30]
            try dsimp only
            rw [hM48, up2_row (by omega)]
theorem fr_lp_X7_measure_38 (M : bM) (k1 : Nat) (x2 : Int32) (x3 : Int32) (M21 : bM) (k : Nat) (hf : k ≠ 7) : ∀ (n22 i22 : Nat) (x23 : Int32) (M24 : bM), (lp_X7_measure_38 k1 x2 n22 i22 x23 M24).2 k = M24 k := by
  intro n22
  induction n22 with
  | zero =>
    intro i22 x23 M24
    by_cases c25 : x23 = 0
    · rw [p_X7_measure_e26 M k1 x2 x3 M21 x23 M24 i22 c25]
    · rw [p_X7_measure_e27 M k1 x2 x3 M21 x23 M24 i22 c25]
  | succ n22 ih22 =>
    intro i22 x23 M24
    by_cases c28 : x23 = 0
    · rw [p_X7_measure_e29 M k1 x2 x3 M21 x23 M24 i22 n22 c28]
    · obtain ⟨x50, hx50⟩ : ∃ y : Int32, y = (lp_X7_measure_49 k1 x2 192 0 0 M24).1 := ⟨_, rfl⟩
      obtain ⟨M51, hM51⟩ : ∃ y : bM, y = (lp_X7_measure_49 k1 x2 192 0 0 M24).2 := ⟨_, rfl⟩
      rw [p_X7_measure_e52 M k1 x2 x3 M21 x23 M24 i22 n22 c28 x50 hx50.symm M51 hM51.symm, ih22]
      try dsimp only
      rw [hM51, fr_lp_X7_measure_49 M k1 x2 x3 M21 x23 M24 i22 k hf 192 0 0 M24]
theorem fr_X7_measure (M : bM) (k1 : Nat) (x2 : Int32) (x3 : Int32) (k : Nat) (hf : k ≠ 7) : f_X7_measure M k1 x2 x3 k = M k := by
  obtain ⟨M21, hM21⟩ : ∃ y : bM, y = (lp_X7_measure_3 x3 64 0 M) := ⟨_, rfl⟩
  obtain ⟨x53, hx53⟩ : ∃ y : Int32, y = (lp_X7_measure_38 k1 x2 6400000 0 1 M21).1 := ⟨_, rfl⟩
  obtain ⟨M54, hM54⟩ : ∃ y : bM, y = (lp_X7_measure_38 k1 x2 6400000 0 1 M21).2 := ⟨_, rfl⟩
  rw [p_X7_measure_e55 M k1 x2 x3 M21 hM21.symm x53 hx53.symm M54 hM54.symm]
  try dsimp only
  rw [hM54, fr_lp_X7_measure_38 M k1 x2 x3 M21 k hf 6400000 0 1 M21, hM21, fr_lp_X7_measure_3 M k1 x2 x3 k hf 64 0 M]
def lp_X7_cheapestFrom_15 (M11 : bM) : Nat → Nat → Int32 → (Int32)
  | 0, i12, x13 => x13
  | n12 + 1, i12, x13 => (if x13 ≤ (M11 7 i12) then lp_X7_cheapestFrom_15 M11 n12 (i12 + 1) x13 else (let x19 : Int32 := (M11 7 i12); lp_X7_cheapestFrom_15 M11 n12 (i12 + 1) x19))
theorem u0_lp_X7_cheapestFrom_15 (M11 : bM) (i12 : Nat) (x13 : Int32) : lp_X7_cheapestFrom_15 M11 0 i12 x13 = x13 := rfl
theorem u1_lp_X7_cheapestFrom_15 (M11 : bM) (n12 i12 : Nat) (x13 : Int32) : lp_X7_cheapestFrom_15 M11 (n12 + 1) i12 x13 = (if x13 ≤ (M11 7 i12) then lp_X7_cheapestFrom_15 M11 n12 (i12 + 1) x13 else (let x19 : Int32 := (M11 7 i12); lp_X7_cheapestFrom_15 M11 n12 (i12 + 1) x19)) := rfl
def f_X7_cheapestFrom (M : bM) (k1 : Nat) (x2 : Int32) (x3 : Int32) : Int32 × bM := (let M11 : bM := f_X7_measure M k1 x2 x3; (let x21 : Int32 := (lp_X7_cheapestFrom_15 M11 8 56 99999); (x21, M11)))
theorem u_f_X7_cheapestFrom (M : bM) (k1 : Nat) (x2 : Int32) (x3 : Int32) : f_X7_cheapestFrom M k1 x2 x3 = (let M11 : bM := f_X7_measure M k1 x2 x3; (let x21 : Int32 := (lp_X7_cheapestFrom_15 M11 8 56 99999); (x21, M11))) := rfl
theorem p_X7_cheapestFrom_e22 (M : bM) (k1 : Nat) (x2 : Int32) (x3 : Int32) (M11 : bM) (hM11 : f_X7_measure M k1 x2 x3 = M11) (x21 : Int32) (hx21 : (lp_X7_cheapestFrom_15 M11 8 56 99999) = x21) : f_X7_cheapestFrom M k1 x2 x3 = (x21, M11) := by subst hx21 hM11; exact u_f_X7_cheapestFrom M k1 x2 x3
theorem fr_X7_cheapestFrom (M : bM) (k1 : Nat) (x2 : Int32) (x3 : Int32) (k : Nat) (hf : k ≠ 7) : (f_X7_cheapestFrom M k1 x2 x3).2 k = M k := by
  obtain ⟨M11, hM11⟩ : ∃ y : bM, y = f_X7_measure M k1 x2 x3 := ⟨_, rfl⟩
  obtain ⟨x21, hx21⟩ : ∃ y : Int32, y = (lp_X7_cheapestFrom_15 M11 8 56 99999) := ⟨_, rfl⟩
  rw [p_X7_cheapestFrom_e22 M k1 x2 x3 M11 hM11.symm x21 hx21.symm]
  try dsimp only
  rw [hM11, fr_X7_measure M k1 x2 x3 k (by omega)]
def f_X7_worth (M : bM) (k1 : Nat) (x2 : Int32) : Int32 × bM := (let x11 : Int32 := (M k1 2); (let r12 : Int32 := f_X7_head M k1 x11; (let r13 : Int32 := f_X7_stepFrom r12 x2; (let r14 : Int32 := f_X7_isRiver M k1 ((1 : Int32) - x11) r13; (if r14 = 0 then (let r17 : Int32 := (f_X7_cheapestFrom M k1 x11 r13).1; (let M16 : bM := (f_X7_cheapestFrom M k1 x11 r13).2; (if r17 = 99999 then (99999, M16) else (let r19 : Int32 := f_X7_cost M16 k1 x11 r13; ((r19 + r17), M16))))) else (let r22 : Int32 := f_X7_cost M k1 x11 r13; (((M k1 9) * r22), M)))))))
theorem u_f_X7_worth (M : bM) (k1 : Nat) (x2 : Int32) : f_X7_worth M k1 x2 = (let x11 : Int32 := (M k1 2); (let r12 : Int32 := f_X7_head M k1 x11; (let r13 : Int32 := f_X7_stepFrom r12 x2; (let r14 : Int32 := f_X7_isRiver M k1 ((1 : Int32) - x11) r13; (if r14 = 0 then (let r17 : Int32 := (f_X7_cheapestFrom M k1 x11 r13).1; (let M16 : bM := (f_X7_cheapestFrom M k1 x11 r13).2; (if r17 = 99999 then (99999, M16) else (let r19 : Int32 := f_X7_cost M16 k1 x11 r13; ((r19 + r17), M16))))) else (let r22 : Int32 := f_X7_cost M k1 x11 r13; (((M k1 9) * r22), M))))))) := rfl
theorem p_X7_worth_e20 (M : bM) (k1 : Nat) (x2 : Int32) (x11 : Int32) (hx11 : (M k1 2) = x11) (r12 : Int32) (hr12 : f_X7_head M k1 x11 = r12) (r13 : Int32) (hr13 : f_X7_stepFrom r12 x2 = r13) (r14 : Int32) (hr14 : f_X7_isRiver M k1 ((1 : Int32) - x11) r13 = r14) (c15 : r14 = 0) (r17 : Int32) (hr17 : (f_X7_cheapestFrom M k1 x11 r13).1 = r17) (M16 : bM) (hM16 : (f_X7_cheapestFrom M k1 x11 r13).2 = M16) (c18 : ¬ r17 = 99999) (r19 : Int32) (hr19 : f_X7_cost M16 k1 x11 r13 = r19) : f_X7_worth M k1 x2 = ((r19 + r17), M16) := by subst hr19 hM16 hr17 hr14 hr13 hr12 hx11; exact Eq.trans (u_f_X7_worth M k1 x2) (Eq.trans (if_pos c15) (if_neg c18))
theorem p_X7_worth_e21 (M : bM) (k1 : Nat) (x2 : Int32) (x11 : Int32) (hx11 : (M k1 2) = x11) (r12 : Int32) (hr12 : f_X7_head M k1 x11 = r12) (r13 : Int32) (hr13 : f_X7_stepFrom r12 x2 = r13) (r14 : Int32) (hr14 : f_X7_isRiver M k1 ((1 : Int32) - x11) r13 = r14) (c15 : r14 = 0) (r17 : Int32) (hr17 : (f_X7_cheapestFrom M k1 x11 r13).1 = r17) (M16 : bM) (hM16 : (f_X7_cheapestFrom M k1 x11 r13).2 = M16) (c18 : r17 = 99999) : f_X7_worth M k1 x2 = (99999, M16) := by subst hM16 hr17 hr14 hr13 hr12 hx11; exact Eq.trans (u_f_X7_worth M k1 x2) (Eq.trans (if_pos c15) (if_pos c18))
theorem p_X7_worth_e23 (M : bM) (k1 : Nat) (x2 : Int32) (x11 : Int32) (hx11 : (M k1 2) = x11) (r12 : Int32) (hr12 : f_X7_head M k1 x11 = r12) (r13 : Int32) (hr13 : f_X7_stepFrom r12 x2 = r13) (r14 : Int32) (hr14 : f_X7_isRiver M k1 ((1 : Int32) - x11) r13 = r14) (c15 : ¬ r14 = 0) (r22 : Int32) (hr22 : f_X7_cost M k1 x11 r13 = r22) : f_X7_worth M k1 x2 = (((M k1 9) * r22), M) := by subst hr22 hr14 hr13 hr12 hx11; exact Eq.trans (u_f_X7_worth M k1 x2) (if_neg c15)
theorem fr_X7_worth (M : bM) (k1 : Nat) (x2 : Int32) (k : Nat) (hf : k ≠ 7) : (f_X7_worth M k1 x2).2 k = M k := by
  obtain ⟨x11, hx11⟩ : ∃ y : Int32, y = (M k1 2) := ⟨_, rfl⟩
  obtain ⟨r12, hr12⟩ : ∃ y : Int32, y = f_X7_head M k1 x11 := ⟨_, rfl⟩
  obtain ⟨r13, hr13⟩ : ∃ y : Int32, y = f_X7_stepFrom r12 x2 := ⟨_, rfl⟩
  obtain ⟨r14, hr14⟩ : ∃ y : Int32, y = f_X7_isRiver M k1 ((1 : Int32) - x11) r13 := ⟨_, rfl⟩
  by_cases c15 : r14 = 0
  · obtain ⟨r17, hr17⟩ : ∃ y : Int32, y = (f_X7_cheapestFrom M k1 x11 r13).1 := ⟨_, rfl⟩
    obtain ⟨M16, hM16⟩ : ∃ y : bM, y = (f_X7_cheapestFrom M k1 x11 r13).2 := ⟨_, rfl⟩
    by_cases c18 : r17 = 99999
    · rw [p_X7_worth_e21 M k1 x2 x11 hx11.symm r12 hr12.symm r13 hr13.symm r14 hr14.symm c15 r17 hr17.symm M16 hM16.symm c18]
      try dsimp only
      rw [hM16, fr_X7_cheapestFrom M k1 x11 r13 k (by omega)]
    · obtain ⟨r19, hr19⟩ : ∃ y : Int32, y = f_X7_cost M16 k1 x11 r13 := ⟨_, rfl⟩
      rw [p_X7_worth_e20 M k1 x2 x11 hx11.symm r12 hr12.symm r13 hr13.symm r14 hr14.symm c15 r17 hr17.symm M16 hM16.symm c18 r19 hr19.symm]
      try dsimp only
      rw [hM16, fr_X7_cheapestFrom M k1 x11 r13 k (by omega)]
  · obtain ⟨r22, hr22⟩ : ∃ y : Int32, y = f_X7_cost M k1 x11 r13 := ⟨_, rfl⟩
    rw [p_X7_worth_e23 M k1 x2 x11 hx11.symm r12 hr12.symm r13 hr13.symm r14 hr14.symm c15 r22 hr22.symm]
def lp_X7_bestOf_7 (k1 : Nat) : Nat → Nat → Int32 → Int32 → bM → (Int32 × Int32 × bM)
  | 0, i11, x12, x13, M14 => (x12, x13, M14)
  | n11 + 1, i11, x12, x13, M14 => (let r18 : Int32 := f_X7_isUnderWay M14 k1; (if r18 = 0 then (x12, x13, M14) else (let r21 : Int32 := f_X7_reason M14 k1 (nI i11); (if r21 = 0 then (let r25 : Int32 := (f_X7_worth M14 k1 (nI i11)).1; (let M24 : bM := (f_X7_worth M14 k1 (nI i11)).2; (if x13 = (-1) then lp_X7_bestOf_7 k1 n11 (i11 + 1) r25 (nI i11) M24 else (if x12 ≤ r25 then lp_X7_bestOf_7 k1 n11 (i11 + 1) x12 x13 M24 else lp_X7_bestOf_7 k1 n11 (i11 + 1) r25 (nI i11) M24)))) else lp_X7_bestOf_7 k1 n11 (i11 + 1) x12 x13 M14))))
theorem u0_lp_X7_bestOf_7 (k1 : Nat) (i11 : Nat) (x12 : Int32) (x13 : Int32) (M14 : bM) : lp_X7_bestOf_7 k1 0 i11 x12 x13 M14 = (x12, x13, M14) := rfl
theorem u1_lp_X7_bestOf_7 (k1 : Nat) (n11 i11 : Nat) (x12 : Int32) (x13 : Int32) (M14 : bM) : lp_X7_bestOf_7 k1 (n11 + 1) i11 x12 x13 M14 = (let r18 : Int32 := f_X7_isUnderWay M14 k1; (if r18 = 0 then (x12, x13, M14) else (let r21 : Int32 := f_X7_reason M14 k1 (nI i11); (if r21 = 0 then (let r25 : Int32 := (f_X7_worth M14 k1 (nI i11)).1; (let M24 : bM := (f_X7_worth M14 k1 (nI i11)).2; (if x13 = (-1) then lp_X7_bestOf_7 k1 n11 (i11 + 1) r25 (nI i11) M24 else (if x12 ≤ r25 then lp_X7_bestOf_7 k1 n11 (i11 + 1) x12 x13 M24 else lp_X7_bestOf_7 k1 n11 (i11 + 1) r25 (nI i11) M24)))) else lp_X7_bestOf_7 k1 n11 (i11 + 1) x12 x13 M14)))) := rfl
def f_X7_bestOf (M : bM) (k1 : Nat) : Int32 × bM := (let x37 : Int32 := (lp_X7_bestOf_7 k1 3 0 0 (-1) M).1; (let x38 : Int32 := (lp_X7_bestOf_7 k1 3 0 0 (-1) M).2.1; (let M39 : bM := (lp_X7_bestOf_7 k1 3 0 0 (-1) M).2.2; (x38, M39))))
theorem u_f_X7_bestOf (M : bM) (k1 : Nat) : f_X7_bestOf M k1 = (let x37 : Int32 := (lp_X7_bestOf_7 k1 3 0 0 (-1) M).1; (let x38 : Int32 := (lp_X7_bestOf_7 k1 3 0 0 (-1) M).2.1; (let M39 : bM := (lp_X7_bestOf_7 k1 3 0 0 (-1) M).2.2; (x38, M39)))) := rfl
theorem p_X7_bestOf_e16 (M : bM) (k1 : Nat) (x12 : Int32) (x13 : Int32) (M14 : bM) (i11 : Nat)  : lp_X7_bestOf_7 k1 0 i11 x12 x13 M14 = (x12, x13, M14) := by exact u0_lp_X7_bestOf_7 k1 i11 x12 x13 M14
theorem p_X7_bestOf_e20 (M : bM) (k1 : Nat) (x12 : Int32) (x13 : Int32) (M14 : bM) (i11 : Nat) (n11 : Nat) (r18 : Int32) (hr18 : f_X7_isUnderWay M14 k1 = r18) (c19 : r18 = 0) : lp_X7_bestOf_7 k1 (n11 + 1) i11 x12 x13 M14 = (x12, x13, M14) := by subst hr18; exact Eq.trans (u1_lp_X7_bestOf_7 k1 n11 i11 x12 x13 M14) (if_pos c19)
theorem p_X7_bestOf_e23 (M : bM) (k1 : Nat) (x12 : Int32) (x13 : Int32) (M14 : bM) (i11 : Nat) (n11 : Nat) (r18 : Int32) (hr18 : f_X7_isUnderWay M14 k1 = r18) (c19 : ¬ r18 = 0) (r21 : Int32) (hr21 : f_X7_reason M14 k1 (nI i11) = r21) (c22 : ¬ r21 = 0) : lp_X7_bestOf_7 k1 (n11 + 1) i11 x12 x13 M14 = lp_X7_bestOf_7 k1 n11 (i11 + 1) x12 x13 M14 := by subst hr21 hr18; exact Eq.trans (u1_lp_X7_bestOf_7 k1 n11 i11 x12 x13 M14) (Eq.trans (if_neg c19) (if_neg c22))
theorem p_X7_bestOf_e29 (M : bM) (k1 : Nat) (x12 : Int32) (x13 : Int32) (M14 : bM) (i11 : Nat) (n11 : Nat) (r18 : Int32) (hr18 : f_X7_isUnderWay M14 k1 = r18) (c19 : ¬ r18 = 0) (r21 : Int32) (hr21 : f_X7_reason M14 k1 (nI i11) = r21) (c22 : r21 = 0) (r25 : Int32) (hr25 : (f_X7_worth M14 k1 (nI i11)).1 = r25) (M24 : bM) (hM24 : (f_X7_worth M14 k1 (nI i11)).2 = M24) (c26 : x13 = (-1)) : lp_X7_bestOf_7 k1 (n11 + 1) i11 x12 x13 M14 = lp_X7_bestOf_7 k1 n11 (i11 + 1) r25 (nI i11) M24 := by subst hM24 hr25 hr21 hr18; exact Eq.trans (u1_lp_X7_bestOf_7 k1 n11 i11 x12 x13 M14) (Eq.trans (if_neg c19) (Eq.trans (if_pos c22) (if_pos c26)))
theorem p_X7_bestOf_e33 (M : bM) (k1 : Nat) (x12 : Int32) (x13 : Int32) (M14 : bM) (i11 : Nat) (n11 : Nat) (r18 : Int32) (hr18 : f_X7_isUnderWay M14 k1 = r18) (c19 : ¬ r18 = 0) (r21 : Int32) (hr21 : f_X7_reason M14 k1 (nI i11) = r21) (c22 : r21 = 0) (r25 : Int32) (hr25 : (f_X7_worth M14 k1 (nI i11)).1 = r25) (M24 : bM) (hM24 : (f_X7_worth M14 k1 (nI i11)).2 = M24) (c26 : ¬ x13 = (-1)) (c30 : x12 ≤ r25) : lp_X7_bestOf_7 k1 (n11 + 1) i11 x12 x13 M14 = lp_X7_bestOf_7 k1 n11 (i11 + 1) x12 x13 M24 := by subst hM24 hr25 hr21 hr18; exact Eq.trans (u1_lp_X7_bestOf_7 k1 n11 i11 x12 x13 M14) (Eq.trans (if_neg c19) (Eq.trans (if_pos c22) (Eq.trans (if_neg c26) (if_pos c30))))
theorem p_X7_bestOf_e36 (M : bM) (k1 : Nat) (x12 : Int32) (x13 : Int32) (M14 : bM) (i11 : Nat) (n11 : Nat) (r18 : Int32) (hr18 : f_X7_isUnderWay M14 k1 = r18) (c19 : ¬ r18 = 0) (r21 : Int32) (hr21 : f_X7_reason M14 k1 (nI i11) = r21) (c22 : r21 = 0) (r25 : Int32) (hr25 : (f_X7_worth M14 k1 (nI i11)).1 = r25) (M24 : bM) (hM24 : (f_X7_worth M14 k1 (nI i11)).2 = M24) (c26 : ¬ x13 = (-1)) (c30 : ¬ x12 ≤ r25) : lp_X7_bestOf_7 k1 (n11 + 1) i11 x12 x13 M14 = lp_X7_bestOf_7 k1 n11 (i11 + 1) r25 (nI i11) M24 := by subst hM24 hr25 hr21 hr18; exact Eq.trans (u1_lp_X7_bestOf_7 k1 n11 i11 x12 x13 M14) (Eq.trans (if_neg c19) (Eq.trans (if_pos c22) (Eq.trans (if_neg c26) (if_neg c30))))
theorem p_X7_bestOf_e40 (M : bM) (k1 : Nat) (x37 : Int32) (hx37 : (lp_X7_bestOf_7 k1 3 0 0 (-1) M).1 = x37) (x38 : Int32) (hx38 : (lp_X7_bestOf_7 k1 3 0 0 (-1) M).2.1 = x38) (M39 : bM) (hM39 : (lp_X7_bestOf_7 k1 3 0 0 (-1) M).2.2 = M39) : f_X7_bestOf M k1 = (x38, M39) := by subst hM39 hx38 hx37; exact u_f_X7_bestOf M k1
theorem fr_lp_X7_bestOf_7 (M : bM) (k1 : Nat) (k : Nat) (hf : k ≠ 7) : ∀ (n11 i11 : Nat) (x12 : Int32) (x13 : Int32) (M14 : bM), (lp_X7_bestOf_7 k1 n11 i11 x12 x13 M14).2.2 k = M14 k := by
  intro n11
  induction n11 with
  | zero =>
    intro i11 x12 x13 M14
    rw [p_X7_bestOf_e16 M k1 x12 x13 M14 i11 ]
  | succ n11 ih11 =>
    intro i11 x12 x13 M14
    obtain ⟨r18, hr18⟩ : ∃ y : Int32, y = f_X7_isUnderWay M14 k1 := ⟨_, rfl⟩
    by_cases c19 : r18 = 0
    · rw [p_X7_bestOf_e20 M k1 x12 x13 M14 i11 n11 r18 hr18.symm c19]
    · obtain ⟨r21, hr21⟩ : ∃ y : Int32, y = f_X7_reason M14 k1 (nI i11) := ⟨_, rfl⟩
      by_cases c22 : r21 = 0
      · obtain ⟨r25, hr25⟩ : ∃ y : Int32, y = (f_X7_worth M14 k1 (nI i11)).1 := ⟨_, rfl⟩
        obtain ⟨M24, hM24⟩ : ∃ y : bM, y = (f_X7_worth M14 k1 (nI i11)).2 := ⟨_, rfl⟩
        by_cases c26 : x13 = (-1)
        · rw [p_X7_bestOf_e29 M k1 x12 x13 M14 i11 n11 r18 hr18.symm c19 r21 hr21.symm c22 r25 hr25.symm M24 hM24.symm c26, ih11]
          try dsimp only
          rw [hM24, fr_X7_worth M14 k1 (nI i11) k (by omega)]
        · by_cases c30 : x12 ≤ r25
          · rw [p_X7_bestOf_e33 M k1 x12 x13 M14 i11 n11 r18 hr18.symm c19 r21 hr21.symm c22 r25 hr25.symm M24 hM24.symm c26 c30, ih11]
            try dsimp only
            rw [hM24, fr_X7_worth M14 k1 (nI i11) k (by omega)]
          · rw [p_X7_bestOf_e36 M k1 x12 x13 M14 i11 n11 r18 hr18.symm c19 r21 hr21.symm c22 r25 hr25.symm M24 hM24.symm c26 c30, ih11]
            try dsimp only
            rw [hM24, fr_X7_worth M14 k1 (nI i11) k (by omega)]
      · rw [p_X7_bestOf_e23 M k1 x12 x13 M14 i11 n11 r18 hr18.symm c19 r21 hr21.symm c22, ih11]
theorem fr_X7_bestOf (M : bM) (k1 : Nat) (k : Nat) (hf : k ≠ 7) : (f_X7_bestOf M k1).2 k = M k := by
  obtain ⟨x37, hx37⟩ : ∃ y : Int32, y = (lp_X7_bestOf_7 k1 3 0 0 (-1) M).1 := ⟨_, rfl⟩
  obtain ⟨x38, hx38⟩ : ∃ y : Int32, y = (lp_X7_bestOf_7 k1 3 0 0 (-1) M).2.1 := ⟨_, rfl⟩
  obtain ⟨M39, hM39⟩ : ∃ y : bM, y = (lp_X7_bestOf_7 k1 3 0 0 (-1) M).2.2 := ⟨_, rfl⟩
  rw [p_X7_bestOf_e40 M k1 x37 hx37.symm x38 hx38.symm M39 hM39.symm]
  try dsimp only
  rw [hM39, fr_lp_X7_bestOf_7 M k1 k hf 3 0 0 (-1) M]
