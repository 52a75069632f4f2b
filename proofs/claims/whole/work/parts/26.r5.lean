def lp_X7_measure_3 (x3 : Int32) : Nat → Nat → bM → (bM)
  | 0, i11, M12 => M12
  | n11 + 1, i11, M12 => (if nI i11 = x3 then (let M19 : bM := up2 M12 7 i11 0; lp_X7_measure_3 x3 n11 (i11 + 1) M19) else (let M17 : bM := up2 M12 7 i11 99999; lp_X7_measure_3 x3 n11 (i11 + 1) M17))
theorem u0_lp_X7_measure_3 (x3 : Int32) (i11 : Nat) (M12 : bM) : lp_X7_measure_3 x3 0 i11 M12 = M12 := rfl
theorem u1_lp_X7_measure_3 (x3 : Int32) (n11 i11 : Nat) (M12 : bM) : lp_X7_measure_3 x3 (n11 + 1) i11 M12 = (if nI i11 = x3 then (let M19 : bM := up2 M12 7 i11 0; lp_X7_measure_3 x3 n11 (i11 + 1) M19) else (let M17 : bM := up2 M12 7 i11 99999; lp_X7_measure_3 x3 n11 (i11 + 1) M17)) := rfl
def lp_X7_measure_49 (k1 : Nat) (x2 : Int32) : Nat → Nat → Int32 → bM → (Int32 × bM)
  | 0, i30, x31, M32 => (x31, M32)
  | n30 + 1, i30, x31, M32 => (let r36 : Int32 := f_X7_stepFrom (nI i30 / 3) (nI i30 - nI i30 / 3 * 3); (if 99999 ≤ (M32 7 (nI i30 / 3).toNatClampNeg) then lp_X7_measure_49 k1 x2 n30 (i30 + 1) x31 M32 else (if r36 = (-1) then lp_X7_measure_49 k1 x2 n30 (i30 + 1) x31 M32 else (let r41 : Int32 := f_X7_isBare M32 k1 r36; (if r41 = 0 then lp_X7_measure_49 k1 x2 n30 (i30 + 1) x31 M32 else (let r44 : Int32 := f_X7_cost M32 k1 x2 r36; (if (M32 7 r36.toNatClampNeg) ≤ ((M32 7 (nI i30 / 3).toNatClampNeg) + r44) then lp_X7_measure_49 k1 x2 n30 (i30 + 1) x31 M32 else (let r47 : Int32 := f_X7_cost M32 k1 x2 r36; (let M48 : bM := up2 M32 7 r36.toNatClampNeg ((M32 7 (nI i30 / 3).toNatClampNeg) + r47); lp_X7_measure_49 k1 x2 n30 (i30 + 1) 1 M48)))))))))
theorem u0_lp_X7_measure_49 (k1 : Nat) (x2 : Int32) (i30 : Nat) (x31 : Int32) (M32 : bM) : lp_X7_measure_49 k1 x2 0 i30 x31 M32 = (x31, M32) := rfl
theorem u1_lp_X7_measure_49 (k1 : Nat) (x2 : Int32) (n30 i30 : Nat) (x31 : Int32) (M32 : bM) : lp_X7_measure_49 k1 x2 (n30 + 1) i30 x31 M32 = (let r36 : Int32 := f_X7_stepFrom (nI i30 / 3) (nI i30 - nI i30 / 3 * 3); (if 99999 ≤ (M32 7 (nI i30 / 3).toNatClampNeg) then lp_X7_measure_49 k1 x2 n30 (i30 + 1) x31 M32 else (if r36 = (-1) then lp_X7_measure_49 k1 x2 n30 (i30 + 1) x31 M32 else (let r41 : Int32 := f_X7_isBare M32 k1 r36; (if r41 = 0 then lp_X7_measure_49 k1 x2 n30 (i30 + 1) x31 M32 else (let r44 : Int32 := f_X7_cost M32 k1 x2 r36; (if (M32 7 r36.toNatClampNeg) ≤ ((M32 7 (nI i30 / 3).toNatClampNeg) + r44) then lp_X7_measure_49 k1 x2 n30 (i30 + 1) x31 M32 else (let r47 : Int32 := f_X7_cost M32 k1 x2 r36; (let M48 : bM := up2 M32 7 r36.toNatClampNeg ((M32 7 (nI i30 / 3).toNatClampNeg) + r47); lp_X7_measure_49 k1 x2 n30 (i30 + 1) 1 M48))))))))) := rfl
def lp_X7_measure_38 (k1 : Nat) (x2 : Int32) : Nat → Nat → Int32 → bM → (Int32 × bM)
  | 0, i22, x23, M24 => (if x23 = 0 then (x23, M24) else (x23, M24))
  | n22 + 1, i22, x23, M24 => (if x23 = 0 then (x23, M24) else (let x50 : Int32 := (lp_X7_measure_49 k1 x2 192 0 0 M24).1; (let M51 : bM := (lp_X7_measure_49 k1 x2 192 0 0 M24).2; lp_X7_measure_38 k1 x2 n22 (i22 + 1) x50 M51)))
theorem u0_lp_X7_measure_38 (k1 : Nat) (x2 : Int32) (i22 : Nat) (x23 : Int32) (M24 : bM) : lp_X7_measure_38 k1 x2 0 i22 x23 M24 = (if x23 = 0 then (x23, M24) else (x23, M24)) := rfl
theorem u1_lp_X7_measure_38 (k1 : Nat) (x2 : Int32) (n22 i22 : Nat) (x23 : Int32) (M24 : bM) : lp_X7_measure_38 k1 x2 (n22 + 1) i22 x23 M24 = (if x23 = 0 then (x23, M24) else (let x50 : Int32 := (lp_X7_measure_49 k1 x2 192 0 0 M24).1; (let M51 : bM := (lp_X7_measure_49 k1 x2 192 0 0 M24).2; lp_X7_measure_38 k1 x2 n22 (i22 + 1) x50 M51))) := rfl
def f_X7_measure (M : bM) (k1 : Nat) (x2 : Int32) (x3 : Int32) : bM := (let M21 : bM := (lp_X7_measure_3 x3 64 0 M); (let x53 : Int32 := (lp_X7_measure_38 k1 x2 6400000 0 1 M21).1; (let M54 : bM := (lp_X7_measure_38 k1 x2 6400000 0 1 M21).2; M54)))
theorem u_f_X7_measure (M : bM) (k1 : Nat) (x2 : Int32) (x3 : Int32) : f_X7_measure M k1 x2 x3 = (let M21 : bM := (lp_X7_measure_3 x3 64 0 M); (let x53 : Int32 := (lp_X7_measure_38 k1 x2 6400000 0 1 M21).1; (let M54 : bM := (lp_X7_measure_38 k1 x2 6400000 0 1 M21).2; M54))) := rfl
theorem p_X7_measure_e14 (M : bM) (k1 : Nat) (x2 : Int32) (x3 : Int32) (M12 : bM) (i11 : Nat)  : lp_X7_measure_3 x3 0 i11 M12 = M12 := by exact u0_lp_X7_measure_3 x3 i11 M12
theorem p_X7_measure_e18 (M : bM) (k1 : Nat) (x2 : Int32) (x3 : Int32) (M12 : bM) (i11 : Nat) (n11 : Nat) (c16 : ¬ nI i11 = x3) (M17 : bM) (hM17 : up2 M12 7 i11 99999 = M17) : lp_X7_measure_3 x3 (n11 + 1) i11 M12 = lp_X7_measure_3 x3 n11 (i11 + 1) M17 := by subst hM17; exact Eq.trans (u1_lp_X7_measure_3 x3 n11 i11 M12) (if_neg c16)
theorem p_X7_measure_e20 (M : bM) (k1 : Nat) (x2 : Int32) (x3 : Int32) (M12 : bM) (i11 : Nat) (n11 : Nat) (c16 : nI i11 = x3) (M19 : bM) (hM19 : up2 M12 7 i11 0 = M19) : lp_X7_measure_3 x3 (n11 + 1) i11 M12 = lp_X7_measure_3 x3 n11 (i11 + 1) M19 := by subst hM19; exact Eq.trans (u1_lp_X7_measure_3 x3 n11 i11 M12) (if_pos c16)
theorem p_X7_measure_e26 (M : bM) (k1 : Nat) (x2 : Int32) (x3 : Int32) (M21 : bM) (x23 : Int32) (M24 : bM) (i22 : Nat) (c25 : x23 = 0) : lp_X7_measure_38 k1 x2 0 i22 x23 M24 = (x23, M24) := by exact Eq.trans (u0_lp_X7_measure_38 k1 x2 i22 x23 M24) (if_pos c25)
theorem p_X7_measure_e27 (M : bM) (k1 : Nat) (x2 : Int32) (x3 : Int32) (M21 : bM) (x23 : Int32) (M24 : bM) (i22 : Nat) (c25 : ¬ x23 = 0) : lp_X7_measure_38 k1 x2 0 i22 x23 M24 = (x23, M24) := by exact Eq.trans (u0_lp_X7_measure_38 k1 x2 i22 x23 M24) (if_neg c25)
theorem p_X7_measure_e29 (M : bM) (k1 : Nat) (x2 : Int32) (x3 : Int32) (M21 : bM) (x23 : Int32) (M24 : bM) (i22 : Nat) (n22 : Nat) (c28 : x23 = 0) : lp_X7_measure_38 k1 x2 (n22 + 1) i22 x23 M24 = (x23, M24) := by exact Eq.trans (u1_lp_X7_measure_38 k1 x2 n22 i22 x23 M24) (if_pos c28)
theorem p_X7_measure_e34 (M : bM) (k1 : Nat) (x2 : Int32) (x3 : Int32) (M21 : bM) (x23 : Int32) (M24 : bM) (i22 : Nat) (x31 : Int32) (M32 : bM) (i30 : Nat)  : lp_X7_measure_49 k1 x2 0 i30 x31 M32 = (x31, M32) := by exact u0_lp_X7_measure_49 k1 x2 i30 x31 M32
theorem p_X7_measure_e38 (M : bM) (k1 : Nat) (x2 : Int32) (x3 : Int32) (M21 : bM) (x23 : Int32) (M24 : bM) (i22 : Nat) (x31 : Int32) (M32 : bM) (i30 : Nat) (n30 : Nat) (r36 : Int32) (hr36 : f_X7_stepFrom (nI i30 / 3) (nI i30 - nI i30 / 3 * 3) = r36) (c37 : 99999 ≤ (M32 7 (nI i30 / 3).toNatClampNeg)) : lp_X7_measure_49 k1 x2 (n30 + 1) i30 x31 M32 = lp_X7_measure_49 k1 x2 n30 (i30 + 1) x31 M32 := by subst hr36; exact Eq.trans (u1_lp_X7_measure_49 k1 x2 n30 i30 x31 M32) (if_pos c37)
theorem p_X7_measure_e40 (M : bM) (k1 : Nat) (x2 : Int32) (x3 : Int32) (M21 : bM) (x23 : Int32) (M24 : bM) (i22 : Nat) (x31 : Int32) (M32 : bM) (i30 : Nat) (n30 : Nat) (r36 : Int32) (hr36 : f_X7_stepFrom (nI i30 / 3) (nI i30 - nI i30 / 3 * 3) = r36) (c37 : ¬ 99999 ≤ (M32 7 (nI i30 / 3).toNatClampNeg)) (c39 : r36 = (-1)) : lp_X7_measure_49 k1 x2 (n30 + 1) i30 x31 M32 = lp_X7_measure_49 k1 x2 n30 (i30 + 1) x31 M32 := by subst hr36; exact Eq.trans (u1_lp_X7_measure_49 k1 x2 n30 i30 x31 M32) (Eq.trans (if_neg c37) (if_pos c39))
theorem p_X7_measure_e43 (M : bM) (k1 : Nat) (x2 : Int32) (x3 : Int32) (M21 : bM) (x23 : Int32) (M24 : bM) (i22 : Nat) (x31 : Int32) (M32 : bM) (i30 : Nat) (n30 : Nat) (r36 : Int32) (hr36 : f_X7_stepFrom (nI i30 / 3) (nI i30 - nI i30 / 3 * 3) = r36) (c37 : ¬ 99999 ≤ (M32 7 (nI i30 / 3).toNatClampNeg)) (c39 : ¬ r36 = (-1)) (r41 : Int32) (hr41 : f_X7_isBare M32 k1 r36 = r41) (c42 : r41 = 0) : lp_X7_measure_49 k1 x2 (n30 + 1) i30 x31 M32 = lp_X7_measure_49 k1 x2 n30 (i30 + 1) x31 M32 := by subst hr41 hr36; exact Eq.trans (u1_lp_X7_measure_49 k1 x2 n30 i30 x31 M32) (Eq.trans (if_neg c37) (Eq.trans (if_neg c39) (if_pos c42)))
theorem p_X7_measure_e46 (M : bM) (k1 : Nat) (x2 : Int32) (x3 : Int32) (M21 : bM) (x23 : Int32) (M24 : bM) (i22 : Nat) (x31 : Int32) (M32 : bM) (i30 : Nat) (n30 : Nat) (r36 : Int32) (hr36 : f_X7_stepFrom (nI i30 / 3) (nI i30 - nI i30 / 3 * 3) = r36) (c37 : ¬ 99999 ≤ (M32 7 (nI i30 / 3).toNatClampNeg)) (c39 : ¬ r36 = (-1)) (r41 : Int32) (hr41 : f_X7_isBare M32 k1 r36 = r41) (c42 : ¬ r41 = 0) (r44 : Int32) (hr44 : f_X7_cost M32 k1 x2 r36 = r44) (c45 : (M32 7 r36.toNatClampNeg) ≤ ((M32 7 (nI i30 / 3).toNatClampNeg) + r44)) : lp_X7_measure_49 k1 x2 (n30 + 1) i30 x31 M32 = lp_X7_measure_49 k1 x2 n30 (i30 + 1) x31 M32 := by subst hr44 hr41 hr36; exact Eq.trans (u1_lp_X7_measure_49 k1 x2 n30 i30 x31 M32) (Eq.trans (if_neg c37) (Eq.trans (if_neg c39) (Eq.trans (if_neg c42) (if_pos c45))))
theorem p_X7_measure_e49 (M : bM) (k1 : Nat) (x2 : Int32) (x3 : Int32) (M21 : bM) (x23 : Int32) (M24 : bM) (i22 : Nat) (x31 : Int32) (M32 : bM) (i30 : Nat) (n30 : Nat) (r36 : Int32) (hr36 : f_X7_stepFrom (nI i30 / 3) (nI i30 - nI i30 / 3 * 3) = r36) (c37 : ¬ 99999 ≤ (M32 7 (nI i30 / 3).toNatClampNeg)) (c39 : ¬ r36 = (-1)) (r41 : Int32) (hr41 : f_X7_isBare M32 k1 r36 = r41) (c42 : ¬ r41 = 0) (r44 : Int32) (hr44 : f_X7_cost M32 k1 x2 r36 = r44) (c45 : ¬ (M32 7 r36.toNatClampNeg) ≤ ((M32 7 (nI i30 / 3).toNatClampNeg) + r44)) (r47 : Int32) (hr47 : f_X7_cost M32 k1 x2 r36 = r47) (M48 : bM) (hM48 : up2 M32 7 r36.toNatClampNeg ((M32 7 (nI i30 / 3).toNatClampNeg) + r47) = M48) : lp_X7_measure_49 k1 x2 (n30 + 1) i30 x31 M32 = lp_X7_measure_49 k1 x2 n30 (i30 + 1) 1 M48 := by subst hM48 hr47 hr44 hr41 hr36; exact Eq.trans (u1_lp_X7_measure_49 k1 x2 n30 i30 x31 M32) (Eq.trans (if_neg c37) (Eq.trans (if_neg c39) (Eq.trans (if_neg c42) (if_neg c45))))
theorem p_X7_measure_e52 (M : bM) (k1 : Nat) (x2 : Int32) (x3 : Int32) (M21 : bM) (x23 : Int32) (M24 : bM) (i22 : Nat) (n22 : Nat) (c28 : ¬ x23 = 0) (x50 : Int32) (hx50 : (lp_X7_measure_49 k1 x2 192 0 0 M24).1 = x50) (M51 : bM) (hM51 : (lp_X7_measure_49 k1 x2 192 0 0 M24).2 = M51) : lp_X7_measure_38 k1 x2 (n22 + 1) i22 x23 M24 = lp_X7_measure_38 k1 x2 n22 (i22 + 1) x50 M51 := by subst hM51 hx50; exact Eq.trans (u1_lp_X7_measure_38 k1 x2 n22 i22 x23 M24) (if_neg c28)
theorem p_X7_measure_e55 (M : bM) (k1 : Nat) (x2 : Int32) (x3 : Int32) (M21 : bM) (hM21 : (lp_X7_measure_3 x3 64 0 M) = M21) (x53 : Int32) (hx53 : (lp_X7_measure_38 k1 x2 6400000 0 1 M21).1 = x53) (M54 : bM) (hM54 : (lp_X7_measure_38 k1 x2 6400000 0 1 M21).2 = M54) : f_X7_measure M k1 x2 x3 = M54 := by subst hM54 hx53 hM21; exact u_f_X7_measure M k1 x2 x3
theorem fr_lp_X7_measure_3 (M : bM) (k1 : Nat) (x2 : Int32) (x3 : Int32) (k : Nat) (hf : k ≠ 7) : ∀ (n11 i11 : Nat) (M12 : bM), (lp_X7_measure_3 x3 n11 i11 M12) k = M12 k := by
  intro n11
  induction n11 with
  | zero =>
    intro i11 M12
    rw [p_X7_measure_e14 M k1 x2 x3 M12 i11 ]
  | succ n11 ih11 =>
    intro i11 M12
    by_cases c16 : nI i11 = x3
    · obtain ⟨M19, hM19⟩ : ∃ y : bM, y = up2 M12 7 i11 0 := ⟨_, rfl⟩
      rw [p_X7_measure_e20 M k1 x2 x3 M12 i11 n11 c16 M19 hM19.symm, ih11]
      try dsimp only
      rw [hM19, up2_row (by omega)]
    · obtain ⟨M17, hM17⟩ : ∃ y : bM, y = up2 M12 7 i11 99999 := ⟨_, rfl⟩
      rw [p_X7_measure_e18 M k1 x2 x3 M12 i11 n11 c16 M17 hM17.symm, ih11]
      try dsimp only
      rw [hM17, up2_row (by omega)]
theorem fr_lp_X7_measure_49 (M : bM) (k1 : Nat) (x2 : Int32) (x3 : Int32) (M21 : bM) (x23 : Int32) (M24 : bM) (i22 : Nat) (k : Nat) (hf : k ≠ 7) : ∀ (n30 i30 : Nat) (x31 : Int32) (M32 : bM), (lp_X7_measure_49 k1 x2 n30 i30 x31 M32).2 k = M32 k := by
  intro n30
  induction n30 with
  | zero =>
    intro i30 x31 M32
    rw [p_X7_measure_e34 M k1 x2 x3 M21 x23 M24 i22 x31 M32 i30 ]
  | succ n30 ih30 =>
    intro i30 x31 M32
    obtain ⟨r36, hr36⟩ : ∃ y : Int32, y = f_X7_stepFrom (nI i30 / 3) (nI i30 - nI i30 / 3 * 3) := ⟨_, rfl⟩
    by_cases c37 : 99999 ≤ (M32 7 (nI i30 / 3).toNatClampNeg)
    · rw [p_X7_measure_e38 M k1 x2 x3 M21 x23 M24 i22 x31 M32 i30 n30 r36 hr36.symm c37, ih30]
    · by_cases c39 : r36 = (-1)
      · rw [p_X7_measure_e40 M k1 x2 x3 M21 x23 M24 i22 x31 M32 i30 n30 r36 hr36.symm c37 c39, ih30]
      · obtain ⟨r41, hr41⟩ : ∃ y : Int32, y = f_X7_isBare M32 k1 r36 := ⟨_, rfl⟩
        by_cases c42 : r41 = 0
        · rw [p_X7_measure_e43 M k1 x2 x3 M21 x23 M24 i22 x31 M32 i30 n30 r36 hr36.symm c37 c39 r41 hr41.symm c42, ih30]
        · obtain ⟨r44, hr44⟩ : ∃ y : Int32, y = f_X7_cost M32 k1 x2 r36 := ⟨_, rfl⟩
          by_cases c45 : (M32 7 r36.toNatClampNeg) ≤ ((M32 7 (nI i30 / 3).toNatClampNeg) + r44)
          · rw [p_X7_measure_e46 M k1 x2 x3 M21 x23 M24 i22 x31 M32 i30 n30 r36 hr36.symm c37 c39 r41 hr41.symm c42 r44 hr44.symm c45, ih30]
          · obtain ⟨r47, hr47⟩ : ∃ y : Int32, y = f_X7_cost M32 k1 x2 r36 := ⟨_, rfl⟩
            obtain ⟨M48, hM48⟩ : ∃ y : bM, y = up2 M32 7 r36.toNatClampNeg ((M32 7 (nI i30 / 3).toNatClampNeg) + r47) := ⟨_, rfl⟩
            rw [p_X7_measure_e49 M k1 x2 x3 M21 x23 M24 i22 x31 M32 i30 n30 r36 hr36.symm c37 c39 r41 hr41.symm c42 r44 hr44.symm c45 r47 hr47.symm M48 hM48.symm, ih30]
            try dsimp only
            rw [hM48, up2_row (by omega)]
theorem fr_lp_X7_measure_38 (M : bM) (k1 : Nat) (x2 : Int32) (x3 : Int32) (M21 : bM) (k : Nat) (hf : k ≠ 7) : ∀ (n22 i22 : Nat) (x23 : Int32) (M24 : bM), (lp_X7_measure_38 k1 x2 n22 i22 x23 M24).2 k = M24 k := by
  intro n22
  induction n22 with
  | zero =>
    intro i22 x23 M24
    by_cases c25 : x23 = 0
    · rw [p_X7_measure_e26 M k1 x2 x3 M21 x23 M24 i22 c25]
    · rw [p_X7_measure_e27 M k1 x2 x3 M21 x23 M24 i22 c25]
  | succ n22 ih22 =>
    intro i22 x23 M24
    by_cases c28 : x23 = 0
    · rw [p_X7_measure_e29 M k1 x2 x3 M21 x23 M24 i22 n22 c28]
    · obtain ⟨x50, hx50⟩ : ∃ y : Int32, y = (lp_X7_measure_49 k1 x2 192 0 0 M24).1 := ⟨_, rfl⟩
      obtain ⟨M51, hM51⟩ : ∃ y : bM, y = (lp_X7_measure_49 k1 x2 192 0 0 M24).2 := ⟨_, rfl⟩
      rw [p_X7_measure_e52 M k1 x2 x3 M21 x23 M24 i22 n22 c28 x50 hx50.symm M51 hM51.symm, ih22]
      try dsimp only
      rw [hM51, fr_lp_X7_measure_49 M k1 x2 x3 M21 x23 M24 i22 k hf 192 0 0 M24]
theorem fr_X7_measure (M : bM) (k1 : Nat) (x2 : Int32) (x3 : Int32) (k : Nat) (hf : k ≠ 7) : f_X7_measure M k1 x2 x3 k = M k := by
  obtain ⟨M21, hM21⟩ : ∃ y : bM, y = (lp_X7_measure_3 x3 64 0 M) := ⟨_, rfl⟩
  obtain ⟨x53, hx53⟩ : ∃ y : Int32, y = (lp_X7_measure_38 k1 x2 6400000 0 1 M21).1 := ⟨_, rfl⟩
  obtain ⟨M54, hM54⟩ : ∃ y : bM, y = (lp_X7_measure_38 k1 x2 6400000 0 1 M21).2 := ⟨_, rfl⟩
  rw [p_X7_measure_e55 M k1 x2 x3 M21 hM21.symm x53 hx53.symm M54 hM54.symm]
  try dsimp only
  rw [hM54, fr_lp_X7_measure_38 M k1 x2 x3 M21 k hf 6400000 0 1 M21, hM21, fr_lp_X7_measure_3 M k1 x2 x3 k hf 64 0 M]
set_option maxHeartbeats 4000000 in
set_option maxRecDepth 100000 in
theorem c_X7_measure (l : Launch) (D : va_G) (E : Nat → ClassId) (o : Nat) (M : bM) (k1 : Nat) (x2 : Int32) (x3 : Int32) (hk1 : LRR[k1]? = some (.inl (0, 404))) (hp : x2 = 0 ∨ x2 = 1) (ht : (lp_X7_measure_38 k1 x2 6400000 0 1 (lp_X7_measure_3 x3 64 0 M)).1 = 0) : Met l yX7_measure wsX7_measure (rmF 3) (bPc D E [.ref (o + 0), .ref (o + k1), .int x2, .int x3] (fun H => bk D E LRR o M H)) (bQ (aV fun H => ∃ M1 : bM, M1 = f_X7_measure M k1 x2 x3 ∧ bk D E LRR o M1 H) (rB o)) 0 0 (rB o) := by
  refine Met.ofW (cc := cX7_measure) (maxL := 7) (ret := none) (by decide) rfl ?_
  intro p e s m args below meth c s₁ B hml hv
  obtain ⟨rfl, hB, hK⟩ := hv
  have hx := B.exec
  have hb := B.bytes
  have hr := B.returns
  have hts := atoms_spec (ws := wsX7_measure) B.pre
  have hown : s.vm.findClass RX7 = some m.cls := findClass_of_methodNamed B.named
  have hlocks := B.notSynchronized
  have hS : bS (rB o) s.heap s.heap [] := bS.rf
  have hl := lv_entry ([.ref (o + 0), .ref (o + k1), .int x2, .int x3]) (n := 7) (Nat.le_of_ble_eq_true rfl)
  rw [lg_entry_eq]
  generalize (lg_sl ([.ref (o + 0), .ref (o + k1), .int x2, .int x3]) ++ List.replicate (7 - (lg_sl ([.ref (o + 0), .ref (o + k1), .int x2, .int x3])).length) Slot.unset).toArray = ls at hl ⊢
  have hl : lv_has ls 7 [(0, .ref (o + 0)), (1, .ref (o + k1)), (2, .int x2), (3, .int x3)] := hl
  have hB : bk D E LRR o M s.heap := hB
  have hinX7 : ∀ w ∈ wsX70, w ∈ wsX7_measure := by decide +kernel
  refine lv_iconst (v := 0) hx hb dX7_measure_0 (by decide) ?_
  refine lv_istore (lv' := [(4, .int 0), (0, .ref (o + 0)), (1, .ref (o + k1)), (2, .int x2), (3, .int x3)]) hx hb dX7_measure_1 hl (by decide) rfl (fun ls hl => ?_)
  have lp11 : ∀ (n11 i11 : Nat) (M12 : bM), i11 + n11 = 64 → ∀ (H : Heap) (locs : List Loc), bk D E LRR o M12 H → bS (rB o) s.heap H locs → ∀ ls : Array Slot, lv_has ls 7 [(4, .int (nI i11)), (0, .ref (o + 0)), (1, .ref (o + k1)), (2, .int x2), (3, .int x3)] → (∀ (H : Heap) (locs : List Loc), bk D E LRR o (lp_X7_measure_3 x3 n11 i11 M12) H → bS (rB o) s.heap H locs → ∀ ls : Array Slot, lv_has ls 7 [(0, .ref (o + 0)), (1, .ref (o + k1)), (2, .int x2), (3, .int x3)] → W p l e (headSpec wsX7_measure (rmF 3)).room s m ([.ref (o + 0), .ref (o + k1), .int x2, .int x3] : List Value).toArray below meth c H locs 0 0 (MQ below (bQ (aV fun H => ∃ M1 : bM, M1 = f_X7_measure M k1 x2 x3 ∧ bk D E LRR o M1 H) (rB o)) ([.ref (o + 0), .ref (o + k1), .int x2, .int x3] : List Value).toArray s 0 0 (rB o)) (F0 m 35 ls [])) → W p l e (headSpec wsX7_measure (rmF 3)).room s m ([.ref (o + 0), .ref (o + k1), .int x2, .int x3] : List Value).toArray below meth c H locs 0 0 (MQ below (bQ (aV fun H => ∃ M1 : bM, M1 = f_X7_measure M k1 x2 x3 ∧ bk D E LRR o M1 H) (rB o)) ([.ref (o + 0), .ref (o + k1), .int x2, .int x3] : List Value).toArray s 0 0 (rB o)) (F0 m 3 ls []) := by
    intro n11
    induction n11 with
    | zero =>
      intro i11 M12 hi11 H locs hB hS ls hl hexit11
      have hz11 : i11 = 64 := by omega
      refine lv_iload hx hb dX7_measure_3 (lv_at hl 0 rfl) ?_
      refine lv_bipush (v := 64) hx hb dX7_measure_5 (by decide) ?_
      refine lv_icmp_ge (tgt := 35) hx hb dX7_measure_7 (by decide) (fun c13 => ?_) (fun c13 => absurd (by rw [hz11]; exact Int32.le_refl _) c13)
      have e14 := p_X7_measure_e14 M k1 x2 x3 M12 i11 
      rw [e14] at hexit11
      exact hexit11 _ _  hB hS ls (lv_sub hl [1, 2, 3, 4] rfl)
    | succ n11 ih11 =>
      intro i11 M12 hi11 H locs hB hS ls hl hexit11
      refine lv_iload hx hb dX7_measure_3 (lv_at hl 0 rfl) ?_
      refine lv_bipush (v := 64) hx hb dX7_measure_5 (by decide) ?_
      refine lv_icmp_ge (tgt := 35) hx hb dX7_measure_7 (by decide) (fun c15 => absurd c15 (nI_ge (a := i11) (b := 64) (by omega) (by decide))) (fun c15 => ?_)
      refine lv_aload_n hx hb dX7_measure_10 rfl (lv_at hl 1 rfl) ?_
      refine b_get (D := D) (E := E) (L := LRR) (o := o) (M := M12) (v := .ref (o + 7)) (C := RX7) (T := TX7) (N := 13) hx hb hts hinX7 hown hK.1 hB 0 lay_m0 rfl 9 (by decide) (hts (.fieldLink RX7 29 "RiverMeetingModel" "far" "[I") (List.mem_of_getElem? (i := 1) rfl)) (fun _ h9 => h9) rfl dX7_measure_11 ?_
      refine lv_iload hx hb dX7_measure_14 (lv_at hl 0 rfl) ?_
      refine lv_iload hx hb dX7_measure_16 (lv_at hl 0 rfl) ?_
      refine lv_iload_n hx hb dX7_measure_18 rfl (lv_at hl 4 rfl) ?_
      refine lv_icmp_ne (tgt := 26) hx hb dX7_measure_19 (by decide) (fun c16 => ?_) (fun c16 => ?_)
      · refine lv_ldc (v := 99999) hx hb hown (hts (.constant RX7 122 (99999)) (List.mem_of_getElem? (i := 2) rfl)) dX7_measure_26 ?_
        refine b_iast hx hb hK.1 hB hS 7 (rB_of lay_m7) lay_m7 (vp_in_nI (by omega) (by decide)) dX7_measure_28 (fun M17 hM17 H locs hB _ hS => ?_)
        rw [nI_clamp (n := i11) (by omega)] at hM17
        refine lv_iinc (v := nI (i11 + 1)) (lv' := [(4, .int (nI (i11 + 1))), (0, .ref (o + 0)), (1, .ref (o + k1)), (2, .int x2), (3, .int x3)]) hx hb dX7_measure_29 hl (k := 0) rfl (nI_1 i11) (by decide) rfl (fun ls hl => ?_)
        refine lv_goto (tgt := 3) hx hb dX7_measure_32 (by decide) ?_
        have e18 := p_X7_measure_e18 M k1 x2 x3 M12 i11 n11 c16 M17 hM17.symm
        rw [e18] at hexit11
        exact ih11 (i11 + 1) M17 (by omega) _ _ hB hS ls (lv_sub hl [0, 1, 2, 3, 4] rfl) hexit11
      · refine lv_iconst (v := 0) hx hb dX7_measure_22 (by decide) ?_
        refine lv_goto (tgt := 28) hx hb dX7_measure_23 (by decide) ?_
        refine b_iast hx hb hK.1 hB hS 7 (rB_of lay_m7) lay_m7 (vp_in_nI (by omega) (by decide)) dX7_measure_28 (fun M19 hM19 H locs hB _ hS => ?_)
        rw [nI_clamp (n := i11) (by omega)] at hM19
        refine lv_iinc (v := nI (i11 + 1)) (lv' := [(4, .int (nI (i11 + 1))), (0, .ref (o + 0)), (1, .ref (o + k1)), (2, .int x2), (3, .int x3)]) hx hb dX7_measure_29 hl (k := 0) rfl (nI_1 i11) (by decide) rfl (fun ls hl => ?_)
        refine lv_goto (tgt := 3) hx hb dX7_measure_32 (by decide) ?_
        have e20 := p_X7_measure_e20 M k1 x2 x3 M12 i11 n11 c16 M19 hM19.symm
        rw [e20] at hexit11
        exact ih11 (i11 + 1) M19 (by omega) _ _ hB hS ls (lv_sub hl [0, 1, 2, 3, 4] rfl) hexit11
  refine lp11 64 0 M (by omega) _ _ hB hS ls (lv_sub hl [0, 1, 2, 3, 4] rfl) ?_
  intro H locs hB hS ls hl
  obtain ⟨M21, hM21⟩ : ∃ y : bM, y = (lp_X7_measure_3 x3 64 0 M) := ⟨_, rfl⟩
  rw [← hM21] at hB
  have hl : lv_has ls 7 [(0, .ref (o + 0)), (1, .ref (o + k1)), (2, .int x2), (3, .int x3)] := hl
  refine lv_iconst (v := 1) hx hb dX7_measure_35 (by decide) ?_
  refine lv_istore (lv' := [(4, .int 1), (0, .ref (o + 0)), (1, .ref (o + k1)), (2, .int x2), (3, .int x3)]) hx hb dX7_measure_36 hl (by decide) rfl (fun ls hl => ?_)
  have lp22 : ∀ (n22 i22 : Nat) (x23 : Int32) (M24 : bM), (lp_X7_measure_38 k1 x2 n22 i22 x23 M24).1 = 0 → ∀ (H : Heap) (locs : List Loc), bk D E LRR o M24 H → bS (rB o) s.heap H locs → ∀ ls : Array Slot, lv_has ls 7 [(4, .int x23), (0, .ref (o + 0)), (1, .ref (o + k1)), (2, .int x2), (3, .int x3)] → (∀ (H : Heap) (locs : List Loc), bk D E LRR o ((lp_X7_measure_38 k1 x2 n22 i22 x23 M24).2) H → bS (rB o) s.heap H locs → ∀ ls : Array Slot, lv_has ls 7 [(4, .int ((lp_X7_measure_38 k1 x2 n22 i22 x23 M24).1)), (0, .ref (o + 0)), (1, .ref (o + k1)), (2, .int x2), (3, .int x3)] → W p l e (headSpec wsX7_measure (rmF 3)).room s m ([.ref (o + 0), .ref (o + k1), .int x2, .int x3] : List Value).toArray below meth c H locs 0 0 (MQ below (bQ (aV fun H => ∃ M1 : bM, M1 = f_X7_measure M k1 x2 x3 ∧ bk D E LRR o M1 H) (rB o)) ([.ref (o + 0), .ref (o + k1), .int x2, .int x3] : List Value).toArray s 0 0 (rB o)) (F0 m 162 ls [])) → W p l e (headSpec wsX7_measure (rmF 3)).room s m ([.ref (o + 0), .ref (o + k1), .int x2, .int x3] : List Value).toArray below meth c H locs 0 0 (MQ below (bQ (aV fun H => ∃ M1 : bM, M1 = f_X7_measure M k1 x2 x3 ∧ bk D E LRR o M1 H) (rB o)) ([.ref (o + 0), .ref (o + k1), .int x2, .int x3] : List Value).toArray s 0 0 (rB o)) (F0 m 38 ls []) := by
    intro n22
    induction n22 with
    | zero =>
      intro i22 x23 M24 hi22 H locs hB hS ls hl hexit22
      refine lv_iload hx hb dX7_measure_38 (lv_at hl 0 rfl) ?_
      refine lv_if_eq (tgt := 162) hx hb dX7_measure_40 (by decide) (fun c25 => ?_) (fun c25 => ?_)
      · have e26 := p_X7_measure_e26 M k1 x2 x3 M21 x23 M24 i22 c25
        rw [e26] at hexit22
        exact hexit22 _ _  hB hS ls (lv_sub hl [0, 1, 2, 3, 4] rfl)
      · have e27 := p_X7_measure_e27 M k1 x2 x3 M21 x23 M24 i22 c25
        rw [e27] at hi22
        exact absurd (show x23 = 0 from hi22) c25
    | succ n22 ih22 =>
      intro i22 x23 M24 hi22 H locs hB hS ls hl hexit22
      refine lv_iload hx hb dX7_measure_38 (lv_at hl 0 rfl) ?_
      refine lv_if_eq (tgt := 162) hx hb dX7_measure_40 (by decide) (fun c28 => ?_) (fun c28 => ?_)
      · have e29 := p_X7_measure_e29 M k1 x2 x3 M21 x23 M24 i22 n22 c28
        rw [e29] at hexit22
        exact hexit22 _ _  hB hS ls (lv_sub hl [0, 1, 2, 3, 4] rfl)
      · refine lv_iconst (v := 0) hx hb dX7_measure_43 (by decide) ?_
        refine lv_istore (lv' := [(4, .int 0), (0, .ref (o + 0)), (1, .ref (o + k1)), (2, .int x2), (3, .int x3)]) hx hb dX7_measure_44 hl (by decide) rfl (fun ls hl => ?_)
        refine lv_iconst (v := 0) hx hb dX7_measure_46 (by decide) ?_
        refine lv_istore (lv' := [(5, .int 0), (4, .int 0), (0, .ref (o + 0)), (1, .ref (o + k1)), (2, .int x2), (3, .int x3)]) hx hb dX7_measure_47 hl (by decide) rfl (fun ls hl => ?_)
        have lp30 : ∀ (n30 i30 : Nat) (x31 : Int32) (M32 : bM), i30 + n30 = 192 → ∀ (H : Heap) (locs : List Loc), bk D E LRR o M32 H → bS (rB o) s.heap H locs → ∀ ls : Array Slot, lv_has ls 7 [(5, .int (nI i30)), (4, .int x31), (0, .ref (o + 0)), (1, .ref (o + k1)), (2, .int x2), (3, .int x3)] → (∀ (H : Heap) (locs : List Loc), bk D E LRR o ((lp_X7_measure_49 k1 x2 n30 i30 x31 M32).2) H → bS (rB o) s.heap H locs → ∀ ls : Array Slot, lv_has ls 7 [(4, .int ((lp_X7_measure_49 k1 x2 n30 i30 x31 M32).1)), (0, .ref (o + 0)), (1, .ref (o + k1)), (2, .int x2), (3, .int x3)] → W p l e (headSpec wsX7_measure (rmF 3)).room s m ([.ref (o + 0), .ref (o + k1), .int x2, .int x3] : List Value).toArray below meth c H locs 0 0 (MQ below (bQ (aV fun H => ∃ M1 : bM, M1 = f_X7_measure M k1 x2 x3 ∧ bk D E LRR o M1 H) (rB o)) ([.ref (o + 0), .ref (o + k1), .int x2, .int x3] : List Value).toArray s 0 0 (rB o)) (F0 m 159 ls [])) → W p l e (headSpec wsX7_measure (rmF 3)).room s m ([.ref (o + 0), .ref (o + k1), .int x2, .int x3] : List Value).toArray below meth c H locs 0 0 (MQ below (bQ (aV fun H => ∃ M1 : bM, M1 = f_X7_measure M k1 x2 x3 ∧ bk D E LRR o M1 H) (rB o)) ([.ref (o + 0), .ref (o + k1), .int x2, .int x3] : List Value).toArray s 0 0 (rB o)) (F0 m 49 ls []) := by
          intro n30
          induction n30 with
          | zero =>
            intro i30 x31 M32 hi30 H locs hB hS ls hl hexit30
            have hz30 : i30 = 192 := by omega
            refine lv_iload hx hb dX7_measure_49 (lv_at hl 0 rfl) ?_
            refine lv_sipush (v := 192) hx hb dX7_measure_51 (by decide) ?_
            refine lv_icmp_ge (tgt := 159) hx hb dX7_measure_54 (by decide) (fun c33 => ?_) (fun c33 => absurd (by rw [hz30]; exact Int32.le_refl _) c33)
            have e34 := p_X7_measure_e34 M k1 x2 x3 M21 x23 M24 i22 x31 M32 i30 
            rw [e34] at hexit30
            exact hexit30 _ _  hB hS ls (lv_sub hl [1, 2, 3, 4, 5] rfl)
          | succ n30 ih30 =>
            intro i30 x31 M32 hi30 H locs hB hS ls hl hexit30
            refine lv_iload hx hb dX7_measure_49 (lv_at hl 0 rfl) ?_
            refine lv_sipush (v := 192) hx hb dX7_measure_51 (by decide) ?_
            refine lv_icmp_ge (tgt := 159) hx hb dX7_measure_54 (by decide) (fun c35 => absurd c35 (nI_ge (a := i30) (b := 192) (by omega) (by decide))) (fun c35 => ?_)
            refine lv_iload hx hb dX7_measure_57 (lv_at hl 0 rfl) ?_
            refine lv_iconst (v := 3) hx hb dX7_measure_59 (by decide) ?_
            refine lv_idiv hx hb dX7_measure_60 (by decide) ?_
            refine lv_iload hx hb dX7_measure_61 (lv_at hl 0 rfl) ?_
            refine lv_iconst (v := 3) hx hb dX7_measure_63 (by decide) ?_
            refine lv_irem hx hb dX7_measure_64 (by decide) ?_
            refine b_pI (b_runS (As := [.int (nI i30 / 3), .int (nI i30 - nI i30 / 3 * 3)]) (rest := []) ⟨hx, hb, hml, hown, hts⟩ (c_X7_stepFrom l D E (nI i30 / 3) (nI i30 - nI i30 / 3 * 3)) (va_cwS 2 hts gX7_measure_X7_stepFrom rfl rfl rfl (by decide +kernel) ⟨Nat.le_of_ble_eq_true rfl, Nat.le_of_ble_eq_true rfl⟩) hK trivial rfl hl rfl (Nat.le_of_ble_eq_true rfl) dX7_measure_65 ⟨Nat.zero_le _, Nat.zero_le _⟩) hS (fun r36 hr36 locs hS => ?_)
            refine lv_istore (lv' := [(6, .int r36), (5, .int (nI i30)), (4, .int x31), (0, .ref (o + 0)), (1, .ref (o + k1)), (2, .int x2), (3, .int x3)]) hx hb dX7_measure_68 hl (by decide) rfl (fun ls hl => ?_)
            refine lv_aload_n hx hb dX7_measure_70 rfl (lv_at hl 3 rfl) ?_
            refine b_get (D := D) (E := E) (L := LRR) (o := o) (M := M32) (v := .ref (o + 7)) (C := RX7) (T := TX7) (N := 13) hx hb hts hinX7 hown hK.1 hB 0 lay_m0 rfl 9 (by decide) (hts (.fieldLink RX7 29 "RiverMeetingModel" "far" "[I") (List.mem_of_getElem? (i := 1) rfl)) (fun _ h9 => h9) rfl dX7_measure_71 ?_
            refine lv_iload hx hb dX7_measure_74 (lv_at hl 1 rfl) ?_
            refine lv_iconst (v := 3) hx hb dX7_measure_76 (by decide) ?_
            refine lv_idiv hx hb dX7_measure_77 (by decide) ?_
            refine b_iald hx hb hK.1 hB 7 lay_m7 (in_div3 (by omega)) dX7_measure_78 ?_
            refine lv_ldc (v := 99999) hx hb hown (hts (.constant RX7 122 (99999)) (List.mem_of_getElem? (i := 2) rfl)) dX7_measure_79 ?_
            refine lv_icmp_ge (tgt := 153) hx hb dX7_measure_81 (by decide) (fun c37 => ?_) (fun c37 => ?_)
            · refine lv_iinc (v := nI (i30 + 1)) (lv' := [(5, .int (nI (i30 + 1))), (6, .int r36), (4, .int x31), (0, .ref (o + 0)), (1, .ref (o + k1)), (2, .int x2), (3, .int x3)]) hx hb dX7_measure_153 hl (k := 1) rfl (nI_1 i30) (by decide) rfl (fun ls hl => ?_)
              refine lv_goto (tgt := 49) hx hb dX7_measure_156 (by decide) ?_
              have e38 := p_X7_measure_e38 M k1 x2 x3 M21 x23 M24 i22 x31 M32 i30 n30 r36 hr36.symm c37
              rw [e38] at hexit30
              exact ih30 (i30 + 1) x31 M32 (by omega) _ _ hB hS ls (lv_sub hl [0, 2, 3, 4, 5, 6] rfl) hexit30
            · refine lv_iload hx hb dX7_measure_84 (lv_at hl 0 rfl) ?_
              refine lv_iconst (v := (-1)) hx hb dX7_measure_86 (by decide) ?_
              refine lv_icmp_eq (tgt := 153) hx hb dX7_measure_87 (by decide) (fun c39 => ?_) (fun c39 => ?_)
              · refine lv_iinc (v := nI (i30 + 1)) (lv' := [(5, .int (nI (i30 + 1))), (6, .int r36), (4, .int x31), (0, .ref (o + 0)), (1, .ref (o + k1)), (2, .int x2), (3, .int x3)]) hx hb dX7_measure_153 hl (k := 1) rfl (nI_1 i30) (by decide) rfl (fun ls hl => ?_)
                refine lv_goto (tgt := 49) hx hb dX7_measure_156 (by decide) ?_
                have e40 := p_X7_measure_e40 M k1 x2 x3 M21 x23 M24 i22 x31 M32 i30 n30 r36 hr36.symm c37 c39
                rw [e40] at hexit30
                exact ih30 (i30 + 1) x31 M32 (by omega) _ _ hB hS ls (lv_sub hl [0, 2, 3, 4, 5, 6] rfl) hexit30
              · refine lv_aload_n hx hb dX7_measure_90 rfl (lv_at hl 4 rfl) ?_
                refine lv_iload hx hb dX7_measure_91 (lv_at hl 0 rfl) ?_
                refine b_pI (b_runS (As := [.ref (o + k1), .int r36]) (rest := []) ⟨hx, hb, hml, hown, hts⟩ (c_X7_isBare l D E o M32 k1 r36 hk1 (by rw [hr36]; exact stepFrom_in (hr36 ▸ c39))) (va_cwS 2 hts gX7_measure_X7_isBare rfl rfl rfl (by decide +kernel) ⟨Nat.le_of_ble_eq_true rfl, Nat.le_of_ble_eq_true rfl⟩) hK hB rfl hl rfl (Nat.le_of_ble_eq_true rfl) dX7_measure_93 ⟨Nat.zero_le _, Nat.zero_le _⟩) hS (fun r41 hr41 locs hS => ?_)
                refine lv_if_eq (tgt := 153) hx hb dX7_measure_96 (by decide) (fun c42 => ?_) (fun c42 => ?_)
                · refine lv_iinc (v := nI (i30 + 1)) (lv' := [(5, .int (nI (i30 + 1))), (6, .int r36), (4, .int x31), (0, .ref (o + 0)), (1, .ref (o + k1)), (2, .int x2), (3, .int x3)]) hx hb dX7_measure_153 hl (k := 1) rfl (nI_1 i30) (by decide) rfl (fun ls hl => ?_)
                  refine lv_goto (tgt := 49) hx hb dX7_measure_156 (by decide) ?_
                  have e43 := p_X7_measure_e43 M k1 x2 x3 M21 x23 M24 i22 x31 M32 i30 n30 r36 hr36.symm c37 c39 r41 hr41.symm c42
                  rw [e43] at hexit30
                  exact ih30 (i30 + 1) x31 M32 (by omega) _ _ hB hS ls (lv_sub hl [0, 2, 3, 4, 5, 6] rfl) hexit30
                · refine lv_aload_n hx hb dX7_measure_99 rfl (lv_at hl 3 rfl) ?_
                  refine b_get (D := D) (E := E) (L := LRR) (o := o) (M := M32) (v := .ref (o + 7)) (C := RX7) (T := TX7) (N := 13) hx hb hts hinX7 hown hK.1 hB 0 lay_m0 rfl 9 (by decide) (hts (.fieldLink RX7 29 "RiverMeetingModel" "far" "[I") (List.mem_of_getElem? (i := 1) rfl)) (fun _ h9 => h9) rfl dX7_measure_100 ?_
                  refine lv_iload hx hb dX7_measure_103 (lv_at hl 1 rfl) ?_
                  refine lv_iconst (v := 3) hx hb dX7_measure_105 (by decide) ?_
                  refine lv_idiv hx hb dX7_measure_106 (by decide) ?_
                  refine b_iald hx hb hK.1 hB 7 lay_m7 (in_div3 (by omega)) dX7_measure_107 ?_
                  refine lv_aload_n hx hb dX7_measure_108 rfl (lv_at hl 4 rfl) ?_
                  refine lv_iload_n hx hb dX7_measure_109 rfl (lv_at hl 5 rfl) ?_
                  refine lv_iload hx hb dX7_measure_110 (lv_at hl 0 rfl) ?_
                  refine b_pI (b_runS (As := [.ref (o + k1), .int x2, .int r36]) (rest := [.int (M32 7 (nI i30 / 3).toNatClampNeg)]) ⟨hx, hb, hml, hown, hts⟩ (c_X7_cost l D E o M32 k1 x2 r36 hk1 hp (by rw [hr36]; exact stepFrom_in (hr36 ▸ c39))) (va_cwS 3 hts gX7_measure_X7_cost rfl rfl rfl (by decide +kernel) ⟨Nat.le_of_ble_eq_true rfl, Nat.le_of_ble_eq_true rfl⟩) hK hB rfl hl rfl (Nat.le_of_ble_eq_true rfl) dX7_measure_112 ⟨Nat.zero_le _, Nat.zero_le _⟩) hS (fun r44 hr44 locs hS => ?_)
                  refine lv_iadd hx hb dX7_measure_115 ?_
                  refine lv_aload_n hx hb dX7_measure_116 rfl (lv_at hl 3 rfl) ?_
                  refine b_get (D := D) (E := E) (L := LRR) (o := o) (M := M32) (v := .ref (o + 7)) (C := RX7) (T := TX7) (N := 13) hx hb hts hinX7 hown hK.1 hB 0 lay_m0 rfl 9 (by decide) (hts (.fieldLink RX7 29 "RiverMeetingModel" "far" "[I") (List.mem_of_getElem? (i := 1) rfl)) (fun _ h9 => h9) rfl dX7_measure_117 ?_
                  refine lv_iload hx hb dX7_measure_120 (lv_at hl 0 rfl) ?_
                  refine b_iald hx hb hK.1 hB 7 lay_m7 (by rw [hr36]; exact stepFrom_in (hr36 ▸ c39)) dX7_measure_122 ?_
                  refine lv_icmp_ge (tgt := 153) hx hb dX7_measure_123 (by decide) (fun c45 => ?_) (fun c45 => ?_)
                  · refine lv_iinc (v := nI (i30 + 1)) (lv' := [(5, .int (nI (i30 + 1))), (6, .int r36), (4, .int x31), (0, .ref (o + 0)), (1, .ref (o + k1)), (2, .int x2), (3, .int x3)]) hx hb dX7_measure_153 hl (k := 1) rfl (nI_1 i30) (by decide) rfl (fun ls hl => ?_)
                    refine lv_goto (tgt := 49) hx hb dX7_measure_156 (by decide) ?_
                    have e46 := p_X7_measure_e46 M k1 x2 x3 M21 x23 M24 i22 x31 M32 i30 n30 r36 hr36.symm c37 c39 r41 hr41.symm c42 r44 hr44.symm c45
                    rw [e46] at hexit30
                    exact ih30 (i30 + 1) x31 M32 (by omega) _ _ hB hS ls (lv_sub hl [0, 2, 3, 4, 5, 6] rfl) hexit30
                  · refine lv_aload_n hx hb dX7_measure_126 rfl (lv_at hl 3 rfl) ?_
                    refine b_get (D := D) (E := E) (L := LRR) (o := o) (M := M32) (v := .ref (o + 7)) (C := RX7) (T := TX7) (N := 13) hx hb hts hinX7 hown hK.1 hB 0 lay_m0 rfl 9 (by decide) (hts (.fieldLink RX7 29 "RiverMeetingModel" "far" "[I") (List.mem_of_getElem? (i := 1) rfl)) (fun _ h9 => h9) rfl dX7_measure_127 ?_
                    refine lv_iload hx hb dX7_measure_130 (lv_at hl 0 rfl) ?_
                    refine lv_aload_n hx hb dX7_measure_132 rfl (lv_at hl 3 rfl) ?_
                    refine b_get (D := D) (E := E) (L := LRR) (o := o) (M := M32) (v := .ref (o + 7)) (C := RX7) (T := TX7) (N := 13) hx hb hts hinX7 hown hK.1 hB 0 lay_m0 rfl 9 (by decide) (hts (.fieldLink RX7 29 "RiverMeetingModel" "far" "[I") (List.mem_of_getElem? (i := 1) rfl)) (fun _ h9 => h9) rfl dX7_measure_133 ?_
                    refine lv_iload hx hb dX7_measure_136 (lv_at hl 1 rfl) ?_
                    refine lv_iconst (v := 3) hx hb dX7_measure_138 (by decide) ?_
                    refine lv_idiv hx hb dX7_measure_139 (by decide) ?_
                    refine b_iald hx hb hK.1 hB 7 lay_m7 (in_div3 (by omega)) dX7_measure_140 ?_
                    refine lv_aload_n hx hb dX7_measure_141 rfl (lv_at hl 4 rfl) ?_
                    refine lv_iload_n hx hb dX7_measure_142 rfl (lv_at hl 5 rfl) ?_
                    refine lv_iload hx hb dX7_measure_143 (lv_at hl 0 rfl) ?_
                    refine b_pI (b_runS (As := [.ref (o + k1), .int x2, .int r36]) (rest := [.int (M32 7 (nI i30 / 3).toNatClampNeg), .int r36, .ref (o + 7)]) ⟨hx, hb, hml, hown, hts⟩ (c_X7_cost l D E o M32 k1 x2 r36 hk1 hp (by rw [hr36]; exact stepFrom_in (hr36 ▸ c39))) (va_cwS 3 hts gX7_measure_X7_cost rfl rfl rfl (by decide +kernel) ⟨Nat.le_of_ble_eq_true rfl, Nat.le_of_ble_eq_true rfl⟩) hK hB rfl hl rfl (Nat.le_of_ble_eq_true rfl) dX7_measure_145 ⟨Nat.zero_le _, Nat.zero_le _⟩) hS (fun r47 hr47 locs hS => ?_)
                    refine lv_iadd hx hb dX7_measure_148 ?_
                    refine b_iast hx hb hK.1 hB hS 7 (rB_of lay_m7) lay_m7 (by rw [hr36]; exact stepFrom_in (hr36 ▸ c39)) dX7_measure_149 (fun M48 hM48 H locs hB _ hS => ?_)
                    refine lv_iconst (v := 1) hx hb dX7_measure_150 (by decide) ?_
                    refine lv_istore (lv' := [(4, .int 1), (6, .int r36), (5, .int (nI i30)), (0, .ref (o + 0)), (1, .ref (o + k1)), (2, .int x2), (3, .int x3)]) hx hb dX7_measure_151 hl (by decide) rfl (fun ls hl => ?_)
                    refine lv_iinc (v := nI (i30 + 1)) (lv' := [(5, .int (nI (i30 + 1))), (4, .int 1), (6, .int r36), (0, .ref (o + 0)), (1, .ref (o + k1)), (2, .int x2), (3, .int x3)]) hx hb dX7_measure_153 hl (k := 2) rfl (nI_1 i30) (by decide) rfl (fun ls hl => ?_)
                    refine lv_goto (tgt := 49) hx hb dX7_measure_156 (by decide) ?_
                    have e49 := p_X7_measure_e49 M k1 x2 x3 M21 x23 M24 i22 x31 M32 i30 n30 r36 hr36.symm c37 c39 r41 hr41.symm c42 r44 hr44.symm c45 r47 hr47.symm M48 hM48.symm
                    rw [e49] at hexit30
                    exact ih30 (i30 + 1) 1 M48 (by omega) _ _ hB hS ls (lv_sub hl [0, 1, 3, 4, 5, 6] rfl) hexit30
        refine lp30 192 0 0 M24 (by omega) _ _ hB hS ls (lv_sub hl [0, 1, 2, 3, 4, 5] rfl) ?_
        intro H locs hB hS ls hl
        obtain ⟨x50, hx50⟩ : ∃ y : Int32, y = (lp_X7_measure_49 k1 x2 192 0 0 M24).1 := ⟨_, rfl⟩
        rw [← hx50] at hl
        obtain ⟨M51, hM51⟩ : ∃ y : bM, y = (lp_X7_measure_49 k1 x2 192 0 0 M24).2 := ⟨_, rfl⟩
        rw [← hM51] at hB
        have hl : lv_has ls 7 [(4, .int x50), (0, .ref (o + 0)), (1, .ref (o + k1)), (2, .int x2), (3, .int x3)] := hl
        refine lv_goto (tgt := 38) hx hb dX7_measure_159 (by decide) ?_
        have e52 := p_X7_measure_e52 M k1 x2 x3 M21 x23 M24 i22 n22 c28 x50 hx50.symm M51 hM51.symm
        rw [e52] at hexit22 hi22
        exact ih22 (i22 + 1) x50 M51 hi22 _ _ hB hS ls (lv_sub hl [0, 1, 2, 3, 4] rfl) hexit22
  refine lp22 6400000 0 1 M21 (by rw [hM21]; exact ht) _ _ hB hS ls (lv_sub hl [0, 1, 2, 3, 4] rfl) ?_
  intro H locs hB hS ls hl
  obtain ⟨x53, hx53⟩ : ∃ y : Int32, y = (lp_X7_measure_38 k1 x2 6400000 0 1 M21).1 := ⟨_, rfl⟩
  rw [← hx53] at hl
  obtain ⟨M54, hM54⟩ : ∃ y : bM, y = (lp_X7_measure_38 k1 x2 6400000 0 1 M21).2 := ⟨_, rfl⟩
  rw [← hM54] at hB
  have hl : lv_has ls 7 [(4, .int x53), (0, .ref (o + 0)), (1, .ref (o + k1)), (2, .int x2), (3, .int x3)] := hl
  have e55 := p_X7_measure_e55 M k1 x2 x3 M21 hM21.symm x53 hx53.symm M54 hM54.symm
  exact b_vret hx hb hr hlocks hS ⟨rfl, _, e55.symm, hB⟩ dX7_measure_162

abbrev msF (M : bM) (k1 : Nat) (x2 x3 : Int32) : Prop := (lp_X7_measure_38 k1 x2 6400000 0 1 (lp_X7_measure_3 x3 64 0 M)).1 = 0
def lp_X7_cheapestFrom_15 (M11 : bM) : Nat → Nat → Int32 → (Int32)
  | 0, i12, x13 => x13
  | n12 + 1, i12, x13 => (if x13 ≤ (M11 7 i12) then lp_X7_cheapestFrom_15 M11 n12 (i12 + 1) x13 else (let x19 : Int32 := (M11 7 i12); lp_X7_cheapestFrom_15 M11 n12 (i12 + 1) x19))
theorem u0_lp_X7_cheapestFrom_15 (M11 : bM) (i12 : Nat) (x13 : Int32) : lp_X7_cheapestFrom_15 M11 0 i12 x13 = x13 := rfl
theorem u1_lp_X7_cheapestFrom_15 (M11 : bM) (n12 i12 : Nat) (x13 : Int32) : lp_X7_cheapestFrom_15 M11 (n12 + 1) i12 x13 = (if x13 ≤ (M11 7 i12) then lp_X7_cheapestFrom_15 M11 n12 (i12 + 1) x13 else (let x19 : Int32 := (M11 7 i12); lp_X7_cheapestFrom_15 M11 n12 (i12 + 1) x19)) := rfl
def f_X7_cheapestFrom (M : bM) (k1 : Nat) (x2 : Int32) (x3 : Int32) : Int32 × bM := (let M11 : bM := f_X7_measure M k1 x2 x3; (let x21 : Int32 := (lp_X7_cheapestFrom_15 M11 8 56 99999); (x21, M11)))
theorem u_f_X7_cheapestFrom (M : bM) (k1 : Nat) (x2 : Int32) (x3 : Int32) : f_X7_cheapestFrom M k1 x2 x3 = (let M11 : bM := f_X7_measure M k1 x2 x3; (let x21 : Int32 := (lp_X7_cheapestFrom_15 M11 8 56 99999); (x21, M11))) := rfl
theorem p_X7_cheapestFrom_e15 (M : bM) (k1 : Nat) (x2 : Int32) (x3 : Int32) (M11 : bM) (x13 : Int32) (i12 : Nat)  : lp_X7_cheapestFrom_15 M11 0 i12 x13 = x13 := by exact u0_lp_X7_cheapestFrom_15 M11 i12 x13
theorem p_X7_cheapestFrom_e18 (M : bM) (k1 : Nat) (x2 : Int32) (x3 : Int32) (M11 : bM) (x13 : Int32) (i12 : Nat) (n12 : Nat) (c17 : x13 ≤ (M11 7 i12)) : lp_X7_cheapestFrom_15 M11 (n12 + 1) i12 x13 = lp_X7_cheapestFrom_15 M11 n12 (i12 + 1) x13 := by exact Eq.trans (u1_lp_X7_cheapestFrom_15 M11 n12 i12 x13) (if_pos c17)
theorem p_X7_cheapestFrom_e20 (M : bM) (k1 : Nat) (x2 : Int32) (x3 : Int32) (M11 : bM) (x13 : Int32) (i12 : Nat) (n12 : Nat) (c17 : ¬ x13 ≤ (M11 7 i12)) (x19 : Int32) (hx19 : (M11 7 i12) = x19) : lp_X7_cheapestFrom_15 M11 (n12 + 1) i12 x13 = lp_X7_cheapestFrom_15 M11 n12 (i12 + 1) x19 := by subst hx19; exact Eq.trans (u1_lp_X7_cheapestFrom_15 M11 n12 i12 x13) (if_neg c17)
theorem p_X7_cheapestFrom_e22 (M : bM) (k1 : Nat) (x2 : Int32) (x3 : Int32) (M11 : bM) (hM11 : f_X7_measure M k1 x2 x3 = M11) (x21 : Int32) (hx21 : (lp_X7_cheapestFrom_15 M11 8 56 99999) = x21) : f_X7_cheapestFrom M k1 x2 x3 = (x21, M11) := by subst hx21 hM11; exact u_f_X7_cheapestFrom M k1 x2 x3
theorem fr_X7_cheapestFrom (M : bM) (k1 : Nat) (x2 : Int32) (x3 : Int32) (k : Nat) (hf : k ≠ 7) : (f_X7_cheapestFrom M k1 x2 x3).2 k = M k := by
  obtain ⟨M11, hM11⟩ : ∃ y : bM, y = f_X7_measure M k1 x2 x3 := ⟨_, rfl⟩
  obtain ⟨x21, hx21⟩ : ∃ y : Int32, y = (lp_X7_cheapestFrom_15 M11 8 56 99999) := ⟨_, rfl⟩
  rw [p_X7_cheapestFrom_e22 M k1 x2 x3 M11 hM11.symm x21 hx21.symm]
  try dsimp only
  rw [hM11, fr_X7_measure M k1 x2 x3 k (by omega)]
set_option maxHeartbeats 4000000 in
set_option maxRecDepth 100000 in
theorem c_X7_cheapestFrom (l : Launch) (D : va_G) (E : Nat → ClassId) (o : Nat) (M : bM) (k1 : Nat) (x2 : Int32) (x3 : Int32) (hk1 : LRR[k1]? = some (.inl (0, 404))) (hp : x2 = 0 ∨ x2 = 1) (ht : msF M k1 x2 x3) : Met l yX7_cheapestFrom wsX7_cheapestFrom (rmF 4) (bPc D E [.ref (o + 0), .ref (o + k1), .int x2, .int x3] (fun H => bk D E LRR o M H)) (bQ (aI fun r H => ∃ M1 : bM, (r = (f_X7_cheapestFrom M k1 x2 x3).1 ∧ M1 = (f_X7_cheapestFrom M k1 x2 x3).2) ∧ bk D E LRR o M1 H) (rB o)) 0 0 (rB o) := by
  refine Met.ofW (cc := cX7_cheapestFrom) (maxL := 6) (ret := (some .int)) (by decide) rfl ?_
  intro p e s m args below meth c s₁ B hml hv
  obtain ⟨rfl, hB, hK⟩ := hv
  have hx := B.exec
  have hb := B.bytes
  have hr := B.returns
  have hts := atoms_spec (ws := wsX7_cheapestFrom) B.pre
  have hown : s.vm.findClass RX7 = some m.cls := findClass_of_methodNamed B.named
  have hlocks := B.notSynchronized
  have hS : bS (rB o) s.heap s.heap [] := bS.rf
  have hl := lv_entry ([.ref (o + 0), .ref (o + k1), .int x2, .int x3]) (n := 6) (Nat.le_of_ble_eq_true rfl)
  rw [lg_entry_eq]
  generalize (lg_sl ([.ref (o + 0), .ref (o + k1), .int x2, .int x3]) ++ List.replicate (6 - (lg_sl ([.ref (o + 0), .ref (o + k1), .int x2, .int x3])).length) Slot.unset).toArray = ls at hl ⊢
  have hl : lv_has ls 6 [(0, .ref (o + 0)), (1, .ref (o + k1)), (2, .int x2), (3, .int x3)] := hl
  have hB : bk D E LRR o M s.heap := hB
  have hinX7 : ∀ w ∈ wsX70, w ∈ wsX7_cheapestFrom := by decide +kernel
  refine lv_aload_n hx hb dX7_cheapestFrom_0 rfl (lv_at hl 0 rfl) ?_
  refine lv_aload_n hx hb dX7_cheapestFrom_1 rfl (lv_at hl 1 rfl) ?_
  refine lv_iload_n hx hb dX7_cheapestFrom_2 rfl (lv_at hl 2 rfl) ?_
  refine lv_iload_n hx hb dX7_cheapestFrom_3 rfl (lv_at hl 3 rfl) ?_
  refine b_mV (b_runV (As := [.ref (o + k1), .int x2, .int x3]) (rest := []) ⟨hx, hb, hml, hown, hts⟩ (c_X7_measure l D E o M k1 x2 x3 hk1 hp ht) (cwV 3 hts gX7_cheapestFrom_X7_measure rfl rfl rfl (by decide +kernel) ⟨Nat.le_of_ble_eq_true rfl, Nat.le_of_ble_eq_true rfl⟩) hK (bk_recv hK.1 hB lay_m0 rfl) hB rfl hl rfl (Nat.le_of_ble_eq_true rfl) dX7_cheapestFrom_4 ⟨Nat.zero_le _, Nat.zero_le _⟩) hS (fun q h => h) (fun M11 hM11 H locs hB _ hS => ?_)
  refine lv_ldc (v := 99999) hx hb hown (hts (.constant RX7 122 (99999)) (List.mem_of_getElem? (i := 1) rfl)) dX7_cheapestFrom_7 ?_
  refine lv_istore (lv' := [(4, .int 99999), (0, .ref (o + 0)), (1, .ref (o + k1)), (2, .int x2), (3, .int x3)]) hx hb dX7_cheapestFrom_9 hl (by decide) rfl (fun ls hl => ?_)
  refine lv_bipush (v := 56) hx hb dX7_cheapestFrom_11 (by decide) ?_
  refine lv_istore (lv' := [(5, .int 56), (4, .int 99999), (0, .ref (o + 0)), (1, .ref (o + k1)), (2, .int x2), (3, .int x3)]) hx hb dX7_cheapestFrom_13 hl (by decide) rfl (fun ls hl => ?_)
  have lp12 : ∀ (n12 i12 : Nat) (x13 : Int32), i12 + n12 = 64 → ∀ (H : Heap) (locs : List Loc), bk D E LRR o M11 H → bS (rB o) s.heap H locs → ∀ ls : Array Slot, lv_has ls 6 [(5, .int (nI i12)), (4, .int x13), (0, .ref (o + 0)), (1, .ref (o + k1)), (2, .int x2), (3, .int x3)] → (∀ (H : Heap) (locs : List Loc), bk D E LRR o M11 H → bS (rB o) s.heap H locs → ∀ ls : Array Slot, lv_has ls 6 [(4, .int (lp_X7_cheapestFrom_15 M11 n12 i12 x13)), (0, .ref (o + 0)), (1, .ref (o + k1)), (2, .int x2), (3, .int x3)] → W p l e (headSpec wsX7_cheapestFrom (rmF 4)).room s m ([.ref (o + 0), .ref (o + k1), .int x2, .int x3] : List Value).toArray below meth c H locs 0 0 (MQ below (bQ (aI fun r H => ∃ M1 : bM, (r = (f_X7_cheapestFrom M k1 x2 x3).1 ∧ M1 = (f_X7_cheapestFrom M k1 x2 x3).2) ∧ bk D E LRR o M1 H) (rB o)) ([.ref (o + 0), .ref (o + k1), .int x2, .int x3] : List Value).toArray s 0 0 (rB o)) (F0 m 54 ls [])) → W p l e (headSpec wsX7_cheapestFrom (rmF 4)).room s m ([.ref (o + 0), .ref (o + k1), .int x2, .int x3] : List Value).toArray below meth c H locs 0 0 (MQ below (bQ (aI fun r H => ∃ M1 : bM, (r = (f_X7_cheapestFrom M k1 x2 x3).1 ∧ M1 = (f_X7_cheapestFrom M k1 x2 x3).2) ∧ bk D E LRR o M1 H) (rB o)) ([.ref (o + 0), .ref (o + k1), .int x2, .int x3] : List Value).toArray s 0 0 (rB o)) (F0 m 15 ls []) := by
    intro n12
    induction n12 with
    | zero =>
      intro i12 x13 hi12 H locs hB hS ls hl hexit12
      have hz12 : i12 = 64 := by omega
      refine lv_iload hx hb dX7_cheapestFrom_15 (lv_at hl 0 rfl) ?_
      refine lv_bipush (v := 64) hx hb dX7_cheapestFrom_17 (by decide) ?_
      refine lv_icmp_ge (tgt := 54) hx hb dX7_cheapestFrom_19 (by decide) (fun c14 => ?_) (fun c14 => absurd (by rw [hz12]; exact Int32.le_refl _) c14)
      have e15 := p_X7_cheapestFrom_e15 M k1 x2 x3 M11 x13 i12 
      rw [e15] at hexit12
      exact hexit12 _ _  hB hS ls (lv_sub hl [1, 2, 3, 4, 5] rfl)
    | succ n12 ih12 =>
      intro i12 x13 hi12 H locs hB hS ls hl hexit12
      refine lv_iload hx hb dX7_cheapestFrom_15 (lv_at hl 0 rfl) ?_
      refine lv_bipush (v := 64) hx hb dX7_cheapestFrom_17 (by decide) ?_
      refine lv_icmp_ge (tgt := 54) hx hb dX7_cheapestFrom_19 (by decide) (fun c16 => absurd c16 (nI_ge (a := i12) (b := 64) (by omega) (by decide))) (fun c16 => ?_)
      refine lv_aload_n hx hb dX7_cheapestFrom_22 rfl (lv_at hl 2 rfl) ?_
      refine b_get (D := D) (E := E) (L := LRR) (o := o) (M := M11) (v := .ref (o + 7)) (C := RX7) (T := TX7) (N := 13) hx hb hts hinX7 hown hK.1 hB 0 lay_m0 rfl 9 (by decide) (hts (.fieldLink RX7 29 "RiverMeetingModel" "far" "[I") (List.mem_of_getElem? (i := 2) rfl)) (fun _ h9 => h9) rfl dX7_cheapestFrom_23 ?_
      refine lv_iload hx hb dX7_cheapestFrom_26 (lv_at hl 0 rfl) ?_
      refine b_iald hx hb hK.1 hB 7 lay_m7 (vp_in_nI (by omega) (by decide)) dX7_cheapestFrom_28 ?_
      rw [nI_clamp (n := i12) (by omega)]
      refine lv_iload hx hb dX7_cheapestFrom_29 (lv_at hl 1 rfl) ?_
      refine lv_icmp_ge (tgt := 44) hx hb dX7_cheapestFrom_31 (by decide) (fun c17 => ?_) (fun c17 => ?_)
      · refine lv_iload hx hb dX7_cheapestFrom_44 (lv_at hl 1 rfl) ?_
        refine lv_istore (lv' := [(4, .int x13), (5, .int (nI i12)), (0, .ref (o + 0)), (1, .ref (o + k1)), (2, .int x2), (3, .int x3)]) hx hb dX7_cheapestFrom_46 hl (by decide) rfl (fun ls hl => ?_)
        refine lv_iinc (v := nI (i12 + 1)) (lv' := [(5, .int (nI (i12 + 1))), (4, .int x13), (0, .ref (o + 0)), (1, .ref (o + k1)), (2, .int x2), (3, .int x3)]) hx hb dX7_cheapestFrom_48 hl (k := 1) rfl (nI_1 i12) (by decide) rfl (fun ls hl => ?_)
        refine lv_goto (tgt := 15) hx hb dX7_cheapestFrom_51 (by decide) ?_
        have e18 := p_X7_cheapestFrom_e18 M k1 x2 x3 M11 x13 i12 n12 c17
        rw [e18] at hexit12
        exact ih12 (i12 + 1) x13 (by omega) _ _ hB hS ls (lv_sub hl [0, 1, 2, 3, 4, 5] rfl) hexit12
      · refine lv_aload_n hx hb dX7_cheapestFrom_34 rfl (lv_at hl 2 rfl) ?_
        refine b_get (D := D) (E := E) (L := LRR) (o := o) (M := M11) (v := .ref (o + 7)) (C := RX7) (T := TX7) (N := 13) hx hb hts hinX7 hown hK.1 hB 0 lay_m0 rfl 9 (by decide) (hts (.fieldLink RX7 29 "RiverMeetingModel" "far" "[I") (List.mem_of_getElem? (i := 2) rfl)) (fun _ h9 => h9) rfl dX7_cheapestFrom_35 ?_
        refine lv_iload hx hb dX7_cheapestFrom_38 (lv_at hl 0 rfl) ?_
        refine b_iald hx hb hK.1 hB 7 lay_m7 (vp_in_nI (by omega) (by decide)) dX7_cheapestFrom_40 ?_
        rw [nI_clamp (n := i12) (by omega)]
        refine lv_goto (tgt := 46) hx hb dX7_cheapestFrom_41 (by decide) ?_
        refine lv_topi (fun x19 hx19 => ?_)
        refine lv_istore (lv' := [(4, .int x19), (5, .int (nI i12)), (0, .ref (o + 0)), (1, .ref (o + k1)), (2, .int x2), (3, .int x3)]) hx hb dX7_cheapestFrom_46 hl (by decide) rfl (fun ls hl => ?_)
        refine lv_iinc (v := nI (i12 + 1)) (lv' := [(5, .int (nI (i12 + 1))), (4, .int x19), (0, .ref (o + 0)), (1, .ref (o + k1)), (2, .int x2), (3, .int x3)]) hx hb dX7_cheapestFrom_48 hl (k := 1) rfl (nI_1 i12) (by decide) rfl (fun ls hl => ?_)
        refine lv_goto (tgt := 15) hx hb dX7_cheapestFrom_51 (by decide) ?_
        have e20 := p_X7_cheapestFrom_e20 M k1 x2 x3 M11 x13 i12 n12 c17 x19 hx19.symm
        rw [e20] at hexit12
        exact ih12 (i12 + 1) x19 (by omega) _ _ hB hS ls (lv_sub hl [0, 1, 2, 3, 4, 5] rfl) hexit12
  refine lp12 8 56 99999 (by omega) _ _ hB hS ls (lv_sub hl [0, 1, 2, 3, 4, 5] rfl) ?_
  intro H locs hB hS ls hl
  obtain ⟨x21, hx21⟩ : ∃ y : Int32, y = (lp_X7_cheapestFrom_15 M11 8 56 99999) := ⟨_, rfl⟩
  rw [← hx21] at hl
  have hl : lv_has ls 6 [(4, .int x21), (0, .ref (o + 0)), (1, .ref (o + k1)), (2, .int x2), (3, .int x3)] := hl
  refine lv_iload hx hb dX7_cheapestFrom_54 (lv_at hl 0 rfl) ?_
  have e22 := p_X7_cheapestFrom_e22 M k1 x2 x3 M11 hM11.symm x21 hx21.symm
  exact b_iret hx hb hr hlocks hS ⟨_, rfl, _, ⟨(congrArg Prod.fst e22).symm, (congrArg Prod.snd e22).symm⟩, hB⟩ dX7_cheapestFrom_56

def f_X7_worth (M : bM) (k1 : Nat) (x2 : Int32) : Int32 × bM := (let x11 : Int32 := (M k1 2); (let r12 : Int32 := f_X7_head M k1 x11; (let r13 : Int32 := f_X7_stepFrom r12 x2; (let r14 : Int32 := f_X7_isRiver M k1 ((1 : Int32) - x11) r13; (if r14 = 0 then (let r17 : Int32 := (f_X7_cheapestFrom M k1 x11 r13).1; (let M16 : bM := (f_X7_cheapestFrom M k1 x11 r13).2; (if r17 = 99999 then (99999, M16) else (let r19 : Int32 := f_X7_cost M16 k1 x11 r13; ((r19 + r17), M16))))) else (let r22 : Int32 := f_X7_cost M k1 x11 r13; (((M k1 9) * r22), M)))))))
theorem u_f_X7_worth (M : bM) (k1 : Nat) (x2 : Int32) : f_X7_worth M k1 x2 = (let x11 : Int32 := (M k1 2); (let r12 : Int32 := f_X7_head M k1 x11; (let r13 : Int32 := f_X7_stepFrom r12 x2; (let r14 : Int32 := f_X7_isRiver M k1 ((1 : Int32) - x11) r13; (if r14 = 0 then (let r17 : Int32 := (f_X7_cheapestFrom M k1 x11 r13).1; (let M16 : bM := (f_X7_cheapestFrom M k1 x11 r13).2; (if r17 = 99999 then (99999, M16) else (let r19 : Int32 := f_X7_cost M16 k1 x11 r13; ((r19 + r17), M16))))) else (let r22 : Int32 := f_X7_cost M k1 x11 r13; (((M k1 9) * r22), M))))))) := rfl
theorem p_X7_worth_e20 (M : bM) (k1 : Nat) (x2 : Int32) (x11 : Int32) (hx11 : (M k1 2) = x11) (r12 : Int32) (hr12 : f_X7_head M k1 x11 = r12) (r13 : Int32) (hr13 : f_X7_stepFrom r12 x2 = r13) (r14 : Int32) (hr14 : f_X7_isRiver M k1 ((1 : Int32) - x11) r13 = r14) (c15 : r14 = 0) (r17 : Int32) (hr17 : (f_X7_cheapestFrom M k1 x11 r13).1 = r17) (M16 : bM) (hM16 : (f_X7_cheapestFrom M k1 x11 r13).2 = M16) (c18 : ¬ r17 = 99999) (r19 : Int32) (hr19 : f_X7_cost M16 k1 x11 r13 = r19) : f_X7_worth M k1 x2 = ((r19 + r17), M16) := by subst hr19 hM16 hr17 hr14 hr13 hr12 hx11; exact Eq.trans (u_f_X7_worth M k1 x2) (Eq.trans (if_pos c15) (if_neg c18))
theorem p_X7_worth_e21 (M : bM) (k1 : Nat) (x2 : Int32) (x11 : Int32) (hx11 : (M k1 2) = x11) (r12 : Int32) (hr12 : f_X7_head M k1 x11 = r12) (r13 : Int32) (hr13 : f_X7_stepFrom r12 x2 = r13) (r14 : Int32) (hr14 : f_X7_isRiver M k1 ((1 : Int32) - x11) r13 = r14) (c15 : r14 = 0) (r17 : Int32) (hr17 : (f_X7_cheapestFrom M k1 x11 r13).1 = r17) (M16 : bM) (hM16 : (f_X7_cheapestFrom M k1 x11 r13).2 = M16) (c18 : r17 = 99999) : f_X7_worth M k1 x2 = (99999, M16) := by subst hM16 hr17 hr14 hr13 hr12 hx11; exact Eq.trans (u_f_X7_worth M k1 x2) (Eq.trans (if_pos c15) (if_pos c18))
theorem p_X7_worth_e23 (M : bM) (k1 : Nat) (x2 : Int32) (x11 : Int32) (hx11 : (M k1 2) = x11) (r12 : Int32) (hr12 : f_X7_head M k1 x11 = r12) (r13 : Int32) (hr13 : f_X7_stepFrom r12 x2 = r13) (r14 : Int32) (hr14 : f_X7_isRiver M k1 ((1 : Int32) - x11) r13 = r14) (c15 : ¬ r14 = 0) (r22 : Int32) (hr22 : f_X7_cost M k1 x11 r13 = r22) : f_X7_worth M k1 x2 = (((M k1 9) * r22), M) := by subst hr22 hr14 hr13 hr12 hx11; exact Eq.trans (u_f_X7_worth M k1 x2) (if_neg c15)
theorem fr_X7_worth (M : bM) (k1 : Nat) (x2 : Int32) (k : Nat) (hf : k ≠ 7) : (f_X7_worth M k1 x2).2 k = M k := by
  obtain ⟨x11, hx11⟩ : ∃ y : Int32, y = (M k1 2) := ⟨_, rfl⟩
  obtain ⟨r12, hr12⟩ : ∃ y : Int32, y = f_X7_head M k1 x11 := ⟨_, rfl⟩
  obtain ⟨r13, hr13⟩ : ∃ y : Int32, y = f_X7_stepFrom r12 x2 := ⟨_, rfl⟩
  obtain ⟨r14, hr14⟩ : ∃ y : Int32, y = f_X7_isRiver M k1 ((1 : Int32) - x11) r13 := ⟨_, rfl⟩
  by_cases c15 : r14 = 0
  · obtain ⟨r17, hr17⟩ : ∃ y : Int32, y = (f_X7_cheapestFrom M k1 x11 r13).1 := ⟨_, rfl⟩
    obtain ⟨M16, hM16⟩ : ∃ y : bM, y = (f_X7_cheapestFrom M k1 x11 r13).2 := ⟨_, rfl⟩
    by_cases c18 : r17 = 99999
    · rw [p_X7_worth_e21 M k1 x2 x11 hx11.symm r12 hr12.symm r13 hr13.symm r14 hr14.symm c15 r17 hr17.symm M16 hM16.symm c18]
      try dsimp only
      rw [hM16, fr_X7_cheapestFrom M k1 x11 r13 k (by omega)]
    · obtain ⟨r19, hr19⟩ : ∃ y : Int32, y = f_X7_cost M16 k1 x11 r13 := ⟨_, rfl⟩
      rw [p_X7_worth_e20 M k1 x2 x11 hx11.symm r12 hr12.symm r13 hr13.symm r14 hr14.symm c15 r17 hr17.symm M16 hM16.symm c18 r19 hr19.symm]
      try dsimp only
      rw [hM16, fr_X7_cheapestFrom M k1 x11 r13 k (by omega)]
  · obtain ⟨r22, hr22⟩ : ∃ y : Int32, y = f_X7_cost M k1 x11 r13 := ⟨_, rfl⟩
    rw [p_X7_worth_e23 M k1 x2 x11 hx11.symm r12 hr12.symm r13 hr13.symm r14 hr14.symm c15 r22 hr22.symm]
set_option maxHeartbeats 4000000 in
set_option maxRecDepth 100000 in
theorem c_X7_worth (l : Launch) (D : va_G) (E : Nat → ClassId) (o : Nat) (M : bM) (k1 : Nat) (x2 : Int32) (hk1 : LRR[k1]? = some (.inl (0, 404))) (hw : wfR M k1) (h7 : 7 ≠ k1) (hc : vp_in (f_X7_stepFrom (f_X7_head M k1 (M k1 2)) x2) 64) (ht : msF M k1 (M k1 2) (f_X7_stepFrom (f_X7_head M k1 (M k1 2)) x2)) : Met l yX7_worth wsX7_worth (rmF 5) (bPc D E [.ref (o + 0), .ref (o + k1), .int x2] (fun H => bk D E LRR o M H)) (bQ (aI fun r H => ∃ M1 : bM, (r = (f_X7_worth M k1 x2).1 ∧ M1 = (f_X7_worth M k1 x2).2) ∧ bk D E LRR o M1 H) (rB o)) 0 0 (rB o) := by
  refine Met.ofW (cc := cX7_worth) (maxL := 6) (ret := (some .int)) (by decide) rfl ?_
  intro p e s m args below meth c s₁ B hml hv
  obtain ⟨rfl, hB, hK⟩ := hv
  have hx := B.exec
  have hb := B.bytes
  have hr := B.returns
  have hts := atoms_spec (ws := wsX7_worth) B.pre
  have hown : s.vm.findClass RX7 = some m.cls := findClass_of_methodNamed B.named
  have hlocks := B.notSynchronized
  have hS : bS (rB o) s.heap s.heap [] := bS.rf
  have hl := lv_entry ([.ref (o + 0), .ref (o + k1), .int x2]) (n := 6) (Nat.le_of_ble_eq_true rfl)
  rw [lg_entry_eq]
  generalize (lg_sl ([.ref (o + 0), .ref (o + k1), .int x2]) ++ List.replicate (6 - (lg_sl ([.ref (o + 0), .ref (o + k1), .int x2])).length) Slot.unset).toArray = ls at hl ⊢
  have hl : lv_has ls 6 [(0, .ref (o + 0)), (1, .ref (o + k1)), (2, .int x2)] := hl
  have hB : bk D E LRR o M s.heap := hB
  refine lv_aload_n hx hb dX7_worth_0 rfl (lv_at hl 1 rfl) ?_
  refine lv_iconst (v := 2) hx hb dX7_worth_1 (by decide) ?_
  refine b_iald hx hb hK.1 hB k1 hk1 (vp_in_nI (n := 2) (by decide) (by decide)) dX7_worth_2 ?_
  refine lv_const (y := M k1 2) (by rfl) ?_
  refine lv_topi (fun x11 hx11 => ?_)
  refine lv_istore_n (lv' := [(3, .int x11), (0, .ref (o + 0)), (1, .ref (o + k1)), (2, .int x2)]) hx hb dX7_worth_3 rfl hl (by decide) rfl (fun ls hl => ?_)
  refine lv_aload_n hx hb dX7_worth_4 rfl (lv_at hl 2 rfl) ?_
  refine lv_iload_n hx hb dX7_worth_5 rfl (lv_at hl 0 rfl) ?_
  refine b_pI (b_runS (As := [.ref (o + k1), .int x11]) (rest := []) ⟨hx, hb, hml, hown, hts⟩ (c_X7_head l D E o M k1 x11 hk1 (by rw [hx11]; exact (wf_tb (M := M) (k := k1) hw)) (len_of (by rw [hx11]; exact (wf_tb (M := M) (k := k1) hw)) (wf_ln (M := M) (k := k1) hw))) (va_cwS 2 hts gX7_worth_X7_head rfl rfl rfl (by decide +kernel) ⟨Nat.le_of_ble_eq_true rfl, Nat.le_of_ble_eq_true rfl⟩) hK hB rfl hl rfl (Nat.le_of_ble_eq_true rfl) dX7_worth_6 ⟨Nat.zero_le _, Nat.zero_le _⟩) hS (fun r12 hr12 locs hS => ?_)
  refine lv_iload_n hx hb dX7_worth_9 rfl (lv_at hl 3 rfl) ?_
  refine b_pI (b_runS (As := [.int r12, .int x2]) (rest := []) ⟨hx, hb, hml, hown, hts⟩ (c_X7_stepFrom l D E r12 x2) (va_cwS 2 hts gX7_worth_X7_stepFrom rfl rfl rfl (by decide +kernel) ⟨Nat.le_of_ble_eq_true rfl, Nat.le_of_ble_eq_true rfl⟩) hK trivial rfl hl rfl (Nat.le_of_ble_eq_true rfl) dX7_worth_10 ⟨Nat.zero_le _, Nat.zero_le _⟩) hS (fun r13 hr13 locs hS => ?_)
  refine lv_istore (lv' := [(4, .int r13), (3, .int x11), (0, .ref (o + 0)), (1, .ref (o + k1)), (2, .int x2)]) hx hb dX7_worth_13 hl (by decide) rfl (fun ls hl => ?_)
  refine lv_aload_n hx hb dX7_worth_15 rfl (lv_at hl 3 rfl) ?_
  refine lv_iconst (v := 1) hx hb dX7_worth_16 (by decide) ?_
  refine lv_iload_n hx hb dX7_worth_17 rfl (lv_at hl 1 rfl) ?_
  refine lv_isub hx hb dX7_worth_18 ?_
  refine lv_iload hx hb dX7_worth_19 (lv_at hl 0 rfl) ?_
  refine b_pI (b_runS (As := [.ref (o + k1), .int ((1 : Int32) - x11), .int r13]) (rest := []) ⟨hx, hb, hml, hown, hts⟩ (c_X7_isRiver l D E o M k1 ((1 : Int32) - x11) r13 hk1 (by rw [hr13, hr12, hx11]; exact hc)) (va_cwS 3 hts gX7_worth_X7_isRiver rfl rfl rfl (by decide +kernel) ⟨Nat.le_of_ble_eq_true rfl, Nat.le_of_ble_eq_true rfl⟩) hK hB rfl hl rfl (Nat.le_of_ble_eq_true rfl) dX7_worth_21 ⟨Nat.zero_le _, Nat.zero_le _⟩) hS (fun r14 hr14 locs hS => ?_)
  refine lv_if_eq (tgt := 40) hx hb dX7_worth_24 (by decide) (fun c15 => ?_) (fun c15 => ?_)
  · refine lv_aload_n hx hb dX7_worth_40 rfl (lv_at hl 2 rfl) ?_
    refine lv_aload_n hx hb dX7_worth_41 rfl (lv_at hl 3 rfl) ?_
    refine lv_iload_n hx hb dX7_worth_42 rfl (lv_at hl 1 rfl) ?_
    refine lv_iload hx hb dX7_worth_43 (lv_at hl 0 rfl) ?_
    refine b_mI (b_runV (As := [.ref (o + k1), .int x11, .int r13]) (rest := []) ⟨hx, hb, hml, hown, hts⟩ (c_X7_cheapestFrom l D E o M k1 x11 r13 hk1 (by rw [hx11]; exact wf_tb (M := M) (k := k1) hw) (by rw [hr13, hr12, hx11]; exact ht)) (cwV 3 hts gX7_worth_X7_cheapestFrom rfl rfl rfl (by decide +kernel) ⟨Nat.le_of_ble_eq_true rfl, Nat.le_of_ble_eq_true rfl⟩) hK (bk_recv hK.1 hB lay_m0 rfl) hB rfl hl rfl (Nat.le_of_ble_eq_true rfl) dX7_worth_45 ⟨Nat.zero_le _, Nat.zero_le _⟩) hS (fun q h => h) (fun r17 M16 hM16 H locs hB _ hS => ?_)
    obtain ⟨hr17, hM16⟩ := hM16
    refine lv_istore (lv' := [(5, .int r17), (4, .int r13), (3, .int x11), (0, .ref (o + 0)), (1, .ref (o + k1)), (2, .int x2)]) hx hb dX7_worth_48 hl (by decide) rfl (fun ls hl => ?_)
    refine lv_iload hx hb dX7_worth_50 (lv_at hl 0 rfl) ?_
    refine lv_ldc (v := 99999) hx hb hown (hts (.constant RX7 122 (99999)) (List.mem_of_getElem? (i := 1) rfl)) dX7_worth_52 ?_
    refine lv_icmp_ne (tgt := 62) hx hb dX7_worth_54 (by decide) (fun c18 => ?_) (fun c18 => ?_)
    · refine lv_aload_n hx hb dX7_worth_62 rfl (lv_at hl 4 rfl) ?_
      refine lv_iload_n hx hb dX7_worth_63 rfl (lv_at hl 2 rfl) ?_
      refine lv_iload hx hb dX7_worth_64 (lv_at hl 1 rfl) ?_
      refine b_pI (b_runS (As := [.ref (o + k1), .int x11, .int r13]) (rest := []) ⟨hx, hb, hml, hown, hts⟩ (c_X7_cost l D E o M16 k1 x11 r13 hk1 (by rw [hx11]; exact (wf_tb (M := M) (k := k1) hw)) (by rw [hr13, hr12, hx11]; exact hc)) (va_cwS 3 hts gX7_worth_X7_cost rfl rfl rfl (by decide +kernel) ⟨Nat.le_of_ble_eq_true rfl, Nat.le_of_ble_eq_true rfl⟩) hK hB rfl hl rfl (Nat.le_of_ble_eq_true rfl) dX7_worth_66 ⟨Nat.zero_le _, Nat.zero_le _⟩) hS (fun r19 hr19 locs hS => ?_)
      refine lv_iload hx hb dX7_worth_69 (lv_at hl 0 rfl) ?_
      refine lv_iadd hx hb dX7_worth_71 ?_
      have e20 := p_X7_worth_e20 M k1 x2 x11 hx11.symm r12 hr12.symm r13 hr13.symm r14 hr14.symm c15 r17 hr17.symm M16 hM16.symm c18 r19 hr19.symm
      exact b_iret hx hb hr hlocks hS ⟨_, rfl, _, ⟨(congrArg Prod.fst e20).symm, (congrArg Prod.snd e20).symm⟩, hB⟩ dX7_worth_72
    · refine lv_ldc (v := 99999) hx hb hown (hts (.constant RX7 122 (99999)) (List.mem_of_getElem? (i := 1) rfl)) dX7_worth_57 ?_
      refine lv_goto (tgt := 72) hx hb dX7_worth_59 (by decide) ?_
      have e21 := p_X7_worth_e21 M k1 x2 x11 hx11.symm r12 hr12.symm r13 hr13.symm r14 hr14.symm c15 r17 hr17.symm M16 hM16.symm c18
      exact b_iret hx hb hr hlocks hS ⟨_, rfl, _, ⟨(congrArg Prod.fst e21).symm, (congrArg Prod.snd e21).symm⟩, hB⟩ dX7_worth_72
  · refine lv_aload_n hx hb dX7_worth_27 rfl (lv_at hl 3 rfl) ?_
    refine lv_bipush (v := 9) hx hb dX7_worth_28 (by decide) ?_
    refine b_iald hx hb hK.1 hB k1 hk1 (vp_in_nI (n := 9) (by decide) (by decide)) dX7_worth_30 ?_
    refine lv_const (y := M k1 9) (by rfl) ?_
    refine lv_aload_n hx hb dX7_worth_31 rfl (lv_at hl 3 rfl) ?_
    refine lv_iload_n hx hb dX7_worth_32 rfl (lv_at hl 1 rfl) ?_
    refine lv_iload hx hb dX7_worth_33 (lv_at hl 0 rfl) ?_
    refine b_pI (b_runS (As := [.ref (o + k1), .int x11, .int r13]) (rest := [.int (M k1 9)]) ⟨hx, hb, hml, hown, hts⟩ (c_X7_cost l D E o M k1 x11 r13 hk1 (by rw [hx11]; exact (wf_tb (M := M) (k := k1) hw)) (by rw [hr13, hr12, hx11]; exact hc)) (va_cwS 3 hts gX7_worth_X7_cost rfl rfl rfl (by decide +kernel) ⟨Nat.le_of_ble_eq_true rfl, Nat.le_of_ble_eq_true rfl⟩) hK hB rfl hl rfl (Nat.le_of_ble_eq_true rfl) dX7_worth_35 ⟨Nat.zero_le _, Nat.zero_le _⟩) hS (fun r22 hr22 locs hS => ?_)
    refine lv_imul hx hb dX7_worth_38 ?_
    have e23 := p_X7_worth_e23 M k1 x2 x11 hx11.symm r12 hr12.symm r13 hr13.symm r14 hr14.symm c15 r22 hr22.symm
    exact b_iret hx hb hr hlocks hS ⟨_, rfl, _, ⟨(congrArg Prod.fst e23).symm, (congrArg Prod.snd e23).symm⟩, hB⟩ dX7_worth_39

def lp_X7_bestOf_7 (k1 : Nat) : Nat → Nat → Int32 → Int32 → bM → (Int32 × Int32 × bM)
  | 0, i11, x12, x13, M14 => (x12, x13, M14)
  | n11 + 1, i11, x12, x13, M14 => (let r18 : Int32 := f_X7_isUnderWay M14 k1; (if r18 = 0 then (x12, x13, M14) else (let r21 : Int32 := f_X7_reason M14 k1 (nI i11); (if r21 = 0 then (let r25 : Int32 := (f_X7_worth M14 k1 (nI i11)).1; (let M24 : bM := (f_X7_worth M14 k1 (nI i11)).2; (if x13 = (-1) then lp_X7_bestOf_7 k1 n11 (i11 + 1) r25 (nI i11) M24 else (if x12 ≤ r25 then lp_X7_bestOf_7 k1 n11 (i11 + 1) x12 x13 M24 else lp_X7_bestOf_7 k1 n11 (i11 + 1) r25 (nI i11) M24)))) else lp_X7_bestOf_7 k1 n11 (i11 + 1) x12 x13 M14))))
theorem u0_lp_X7_bestOf_7 (k1 : Nat) (i11 : Nat) (x12 : Int32) (x13 : Int32) (M14 : bM) : lp_X7_bestOf_7 k1 0 i11 x12 x13 M14 = (x12, x13, M14) := rfl
theorem u1_lp_X7_bestOf_7 (k1 : Nat) (n11 i11 : Nat) (x12 : Int32) (x13 : Int32) (M14 : bM) : lp_X7_bestOf_7 k1 (n11 + 1) i11 x12 x13 M14 = (let r18 : Int32 := f_X7_isUnderWay M14 k1; (if r18 = 0 then (x12, x13, M14) else (let r21 : Int32 := f_X7_reason M14 k1 (nI i11); (if r21 = 0 then (let r25 : Int32 := (f_X7_worth M14 k1 (nI i11)).1; (let M24 : bM := (f_X7_worth M14 k1 (nI i11)).2; (if x13 = (-1) then lp_X7_bestOf_7 k1 n11 (i11 + 1) r25 (nI i11) M24 else (if x12 ≤ r25 then lp_X7_bestOf_7 k1 n11 (i11 + 1) x12 x13 M24 else lp_X7_bestOf_7 k1 n11 (i11 + 1) r25 (nI i11) M24)))) else lp_X7_bestOf_7 k1 n11 (i11 + 1) x12 x13 M14)))) := rfl
def f_X7_bestOf (M : bM) (k1 : Nat) : Int32 × bM := (let x37 : Int32 := (lp_X7_bestOf_7 k1 3 0 0 (-1) M).1; (let x38 : Int32 := (lp_X7_bestOf_7 k1 3 0 0 (-1) M).2.1; (let M39 : bM := (lp_X7_bestOf_7 k1 3 0 0 (-1) M).2.2; (x38, M39))))
theorem u_f_X7_bestOf (M : bM) (k1 : Nat) : f_X7_bestOf M k1 = (let x37 : Int32 := (lp_X7_bestOf_7 k1 3 0 0 (-1) M).1; (let x38 : Int32 := (lp_X7_bestOf_7 k1 3 0 0 (-1) M).2.1; (let M39 : bM := (lp_X7_bestOf_7 k1 3 0 0 (-1) M).2.2; (x38, M39)))) := rfl
theorem p_X7_bestOf_e16 (M : bM) (k1 : Nat) (x12 : Int32) (x13 : Int32) (M14 : bM) (i11 : Nat)  : lp_X7_bestOf_7 k1 0 i11 x12 x13 M14 = (x12, x13, M14) := by exact u0_lp_X7_bestOf_7 k1 i11 x12 x13 M14
theorem p_X7_bestOf_e20 (M : bM) (k1 : Nat) (x12 : Int32) (x13 : Int32) (M14 : bM) (i11 : Nat) (n11 : Nat) (r18 : Int32) (hr18 : f_X7_isUnderWay M14 k1 = r18) (c19 : r18 = 0) : lp_X7_bestOf_7 k1 (n11 + 1) i11 x12 x13 M14 = (x12, x13, M14) := by subst hr18; exact Eq.trans (u1_lp_X7_bestOf_7 k1 n11 i11 x12 x13 M14) (if_pos c19)
theorem p_X7_bestOf_e23 (M : bM) (k1 : Nat) (x12 : Int32) (x13 : Int32) (M14 : bM) (i11 : Nat) (n11 : Nat) (r18 : Int32) (hr18 : f_X7_isUnderWay M14 k1 = r18) (c19 : ¬ r18 = 0) (r21 : Int32) (hr21 : f_X7_reason M14 k1 (nI i11) = r21) (c22 : ¬ r21 = 0) : lp_X7_bestOf_7 k1 (n11 + 1) i11 x12 x13 M14 = lp_X7_bestOf_7 k1 n11 (i11 + 1) x12 x13 M14 := by subst hr21 hr18; exact Eq.trans (u1_lp_X7_bestOf_7 k1 n11 i11 x12 x13 M14) (Eq.trans (if_neg c19) (if_neg c22))
theorem p_X7_bestOf_e29 (M : bM) (k1 : Nat) (x12 : Int32) (x13 : Int32) (M14 : bM) (i11 : Nat) (n11 : Nat) (r18 : Int32) (hr18 : f_X7_isUnderWay M14 k1 = r18) (c19 : ¬ r18 = 0) (r21 : Int32) (hr21 : f_X7_reason M14 k1 (nI i11) = r21) (c22 : r21 = 0) (r25 : Int32) (hr25 : (f_X7_worth M14 k1 (nI i11)).1 = r25) (M24 : bM) (hM24 : (f_X7_worth M14 k1 (nI i11)).2 = M24) (c26 : x13 = (-1)) : lp_X7_bestOf_7 k1 (n11 + 1) i11 x12 x13 M14 = lp_X7_bestOf_7 k1 n11 (i11 + 1) r25 (nI i11) M24 := by subst hM24 hr25 hr21 hr18; exact Eq.trans (u1_lp_X7_bestOf_7 k1 n11 i11 x12 x13 M14) (Eq.trans (if_neg c19) (Eq.trans (if_pos c22) (if_pos c26)))
theorem p_X7_bestOf_e33 (M : bM) (k1 : Nat) (x12 : Int32) (x13 : Int32) (M14 : bM) (i11 : Nat) (n11 : Nat) (r18 : Int32) (hr18 : f_X7_isUnderWay M14 k1 = r18) (c19 : ¬ r18 = 0) (r21 : Int32) (hr21 : f_X7_reason M14 k1 (nI i11) = r21) (c22 : r21 = 0) (r25 : Int32) (hr25 : (f_X7_worth M14 k1 (nI i11)).1 = r25) (M24 : bM) (hM24 : (f_X7_worth M14 k1 (nI i11)).2 = M24) (c26 : ¬ x13 = (-1)) (c30 : x12 ≤ r25) : lp_X7_bestOf_7 k1 (n11 + 1) i11 x12 x13 M14 = lp_X7_bestOf_7 k1 n11 (i11 + 1) x12 x13 M24 := by subst hM24 hr25 hr21 hr18; exact Eq.trans (u1_lp_X7_bestOf_7 k1 n11 i11 x12 x13 M14) (Eq.trans (if_neg c19) (Eq.trans (if_pos c22) (Eq.trans (if_neg c26) (if_pos c30))))
theorem p_X7_bestOf_e36 (M : bM) (k1 : Nat) (x12 : Int32) (x13 : Int32) (M14 : bM) (i11 : Nat) (n11 : Nat) (r18 : Int32) (hr18 : f_X7_isUnderWay M14 k1 = r18) (c19 : ¬ r18 = 0) (r21 : Int32) (hr21 : f_X7_reason M14 k1 (nI i11) = r21) (c22 : r21 = 0) (r25 : Int32) (hr25 : (f_X7_worth M14 k1 (nI i11)).1 = r25) (M24 : bM) (hM24 : (f_X7_worth M14 k1 (nI i11)).2 = M24) (c26 : ¬ x13 = (-1)) (c30 : ¬ x12 ≤ r25) : lp_X7_bestOf_7 k1 (n11 + 1) i11 x12 x13 M14 = lp_X7_bestOf_7 k1 n11 (i11 + 1) r25 (nI i11) M24 := by subst hM24 hr25 hr21 hr18; exact Eq.trans (u1_lp_X7_bestOf_7 k1 n11 i11 x12 x13 M14) (Eq.trans (if_neg c19) (Eq.trans (if_pos c22) (Eq.trans (if_neg c26) (if_neg c30))))
theorem p_X7_bestOf_e40 (M : bM) (k1 : Nat) (x37 : Int32) (hx37 : (lp_X7_bestOf_7 k1 3 0 0 (-1) M).1 = x37) (x38 : Int32) (hx38 : (lp_X7_bestOf_7 k1 3 0 0 (-1) M).2.1 = x38) (M39 : bM) (hM39 : (lp_X7_bestOf_7 k1 3 0 0 (-1) M).2.2 = M39) : f_X7_bestOf M k1 = (x38, M39) := by subst hM39 hx38 hx37; exact u_f_X7_bestOf M k1
theorem fr_lp_X7_bestOf_7 (M : bM) (k1 : Nat) (k : Nat) (hf : k ≠ 7) : ∀ (n11 i11 : Nat) (x12 : Int32) (x13 : Int32) (M14 : bM), (lp_X7_bestOf_7 k1 n11 i11 x12 x13 M14).2.2 k = M14 k := by
  intro n11
  induction n11 with
  | zero =>
    intro i11 x12 x13 M14
    rw [p_X7_bestOf_e16 M k1 x12 x13 M14 i11 ]
  | succ n11 ih11 =>
    intro i11 x12 x13 M14
    obtain ⟨r18, hr18⟩ : ∃ y : Int32, y = f_X7_isUnderWay M14 k1 := ⟨_, rfl⟩
    by_cases c19 : r18 = 0
    · rw [p_X7_bestOf_e20 M k1 x12 x13 M14 i11 n11 r18 hr18.symm c19]
    · obtain ⟨r21, hr21⟩ : ∃ y : Int32, y = f_X7_reason M14 k1 (nI i11) := ⟨_, rfl⟩
      by_cases c22 : r21 = 0
      · obtain ⟨r25, hr25⟩ : ∃ y : Int32, y = (f_X7_worth M14 k1 (nI i11)).1 := ⟨_, rfl⟩
        obtain ⟨M24, hM24⟩ : ∃ y : bM, y = (f_X7_worth M14 k1 (nI i11)).2 := ⟨_, rfl⟩
        by_cases c26 : x13 = (-1)
        · rw [p_X7_bestOf_e29 M k1 x12 x13 M14 i11 n11 r18 hr18.symm c19 r21 hr21.symm c22 r25 hr25.symm M24 hM24.symm c26, ih11]
          try dsimp only
          rw [hM24, fr_X7_worth M14 k1 (nI i11) k (by omega)]
        · by_cases c30 : x12 ≤ r25
          · rw [p_X7_bestOf_e33 M k1 x12 x13 M14 i11 n11 r18 hr18.symm c19 r21 hr21.symm c22 r25 hr25.symm M24 hM24.symm c26 c30, ih11]
            try dsimp only
            rw [hM24, fr_X7_worth M14 k1 (nI i11) k (by omega)]
          · rw [p_X7_bestOf_e36 M k1 x12 x13 M14 i11 n11 r18 hr18.symm c19 r21 hr21.symm c22 r25 hr25.symm M24 hM24.symm c26 c30, ih11]
            try dsimp only
            rw [hM24, fr_X7_worth M14 k1 (nI i11) k (by omega)]
      · rw [p_X7_bestOf_e23 M k1 x12 x13 M14 i11 n11 r18 hr18.symm c19 r21 hr21.symm c22, ih11]
theorem fr_X7_bestOf (M : bM) (k1 : Nat) (k : Nat) (hf : k ≠ 7) : (f_X7_bestOf M k1).2 k = M k := by
  obtain ⟨x37, hx37⟩ : ∃ y : Int32, y = (lp_X7_bestOf_7 k1 3 0 0 (-1) M).1 := ⟨_, rfl⟩
  obtain ⟨x38, hx38⟩ : ∃ y : Int32, y = (lp_X7_bestOf_7 k1 3 0 0 (-1) M).2.1 := ⟨_, rfl⟩
  obtain ⟨M39, hM39⟩ : ∃ y : bM, y = (lp_X7_bestOf_7 k1 3 0 0 (-1) M).2.2 := ⟨_, rfl⟩
  rw [p_X7_bestOf_e40 M k1 x37 hx37.symm x38 hx38.symm M39 hM39.symm]
  try dsimp only
  rw [hM39, fr_lp_X7_bestOf_7 M k1 k hf 3 0 0 (-1) M]
set_option maxHeartbeats 4000000 in
set_option maxRecDepth 100000 in
theorem c_X7_bestOf (l : Launch) (D : va_G) (E : Nat → ClassId) (o : Nat) (M : bM) (k1 : Nat) (hk1 : LRR[k1]? = some (.inl (0, 404))) (hw : wfR M k1) (h7 : 7 ≠ k1) (ht : ∀ (N : bM) (d : Int32), N k1 = M k1 → f_X7_reason N k1 d = 0 → msF N k1 (N k1 2) (f_X7_stepFrom (f_X7_head N k1 (N k1 2)) d)) : Met l yX7_bestOf wsX7_bestOf (rmF 6) (bPc D E [.ref (o + 0), .ref (o + k1)] (fun H => bk D E LRR o M H)) (bQ (aI fun r H => ∃ M1 : bM, (r = (f_X7_bestOf M k1).1 ∧ M1 = (f_X7_bestOf M k1).2) ∧ bk D E LRR o M1 H) (rB o)) 0 0 (rB o) := by
  refine Met.ofW (cc := cX7_bestOf) (maxL := 7) (ret := (some .int)) (by decide) rfl ?_
  intro p e s m args below meth c s₁ B hml hv
  obtain ⟨rfl, hB, hK⟩ := hv
  have hx := B.exec
  have hb := B.bytes
  have hr := B.returns
  have hts := atoms_spec (ws := wsX7_bestOf) B.pre
  have hown : s.vm.findClass RX7 = some m.cls := findClass_of_methodNamed B.named
  have hlocks := B.notSynchronized
  have hS : bS (rB o) s.heap s.heap [] := bS.rf
  have hl := lv_entry ([.ref (o + 0), .ref (o + k1)]) (n := 7) (Nat.le_of_ble_eq_true rfl)
  rw [lg_entry_eq]
  generalize (lg_sl ([.ref (o + 0), .ref (o + k1)]) ++ List.replicate (7 - (lg_sl ([.ref (o + 0), .ref (o + k1)])).length) Slot.unset).toArray = ls at hl ⊢
  have hl : lv_has ls 7 [(0, .ref (o + 0)), (1, .ref (o + k1))] := hl
  have hB : bk D E LRR o M s.heap := hB
  refine lv_iconst (v := (-1)) hx hb dX7_bestOf_0 (by decide) ?_
  refine lv_istore_n (lv' := [(2, .int (-1)), (0, .ref (o + 0)), (1, .ref (o + k1))]) hx hb dX7_bestOf_1 rfl hl (by decide) rfl (fun ls hl => ?_)
  refine lv_iconst (v := 0) hx hb dX7_bestOf_2 (by decide) ?_
  refine lv_istore_n (lv' := [(3, .int 0), (2, .int (-1)), (0, .ref (o + 0)), (1, .ref (o + k1))]) hx hb dX7_bestOf_3 rfl hl (by decide) rfl (fun ls hl => ?_)
  refine lv_iconst (v := 0) hx hb dX7_bestOf_4 (by decide) ?_
  refine lv_istore (lv' := [(4, .int 0), (3, .int 0), (2, .int (-1)), (0, .ref (o + 0)), (1, .ref (o + k1))]) hx hb dX7_bestOf_5 hl (by decide) rfl (fun ls hl => ?_)
  have lp11 : ∀ (n11 i11 : Nat) (x12 : Int32) (x13 : Int32) (M14 : bM), i11 + n11 = 3 → (M14 k1 = M k1) → ∀ (H : Heap) (locs : List Loc), bk D E LRR o M14 H → bS (rB o) s.heap H locs → ∀ ls : Array Slot, lv_has ls 7 [(4, .int (nI i11)), (3, .int x12), (2, .int x13), (0, .ref (o + 0)), (1, .ref (o + k1))] → (∀ (H : Heap) (locs : List Loc), (((lp_X7_bestOf_7 k1 n11 i11 x12 x13 M14).2.2) k1 = M k1) → bk D E LRR o ((lp_X7_bestOf_7 k1 n11 i11 x12 x13 M14).2.2) H → bS (rB o) s.heap H locs → ∀ ls : Array Slot, lv_has ls 7 [(3, .int ((lp_X7_bestOf_7 k1 n11 i11 x12 x13 M14).1)), (2, .int ((lp_X7_bestOf_7 k1 n11 i11 x12 x13 M14).2.1)), (0, .ref (o + 0)), (1, .ref (o + k1))] → W p l e (headSpec wsX7_bestOf (rmF 6)).room s m ([.ref (o + 0), .ref (o + k1)] : List Value).toArray below meth c H locs 0 0 (MQ below (bQ (aI fun r H => ∃ M1 : bM, (r = (f_X7_bestOf M k1).1 ∧ M1 = (f_X7_bestOf M k1).2) ∧ bk D E LRR o M1 H) (rB o)) ([.ref (o + 0), .ref (o + k1)] : List Value).toArray s 0 0 (rB o)) (F0 m 86 ls [])) → W p l e (headSpec wsX7_bestOf (rmF 6)).room s m ([.ref (o + 0), .ref (o + k1)] : List Value).toArray below meth c H locs 0 0 (MQ below (bQ (aI fun r H => ∃ M1 : bM, (r = (f_X7_bestOf M k1).1 ∧ M1 = (f_X7_bestOf M k1).2) ∧ bk D E LRR o M1 H) (rB o)) ([.ref (o + 0), .ref (o + k1)] : List Value).toArray s 0 0 (rB o)) (F0 m 7 ls []) := by
    intro n11
    induction n11 with
    | zero =>
      intro i11 x12 x13 M14 hi11 hv0_11 H locs hB hS ls hl hexit11
      have hz11 : i11 = 3 := by omega
      refine lv_iload hx hb dX7_bestOf_7 (lv_at hl 0 rfl) ?_
      refine lv_iconst (v := 3) hx hb dX7_bestOf_9 (by decide) ?_
      refine lv_icmp_ge (tgt := 86) hx hb dX7_bestOf_10 (by decide) (fun c15 => ?_) (fun c15 => absurd (by rw [hz11]; exact Int32.le_refl _) c15)
      have e16 := p_X7_bestOf_e16 M k1 x12 x13 M14 i11 
      rw [e16] at hexit11
      exact hexit11 _ _  hv0_11 hB hS ls (lv_sub hl [1, 2, 3, 4] rfl)
    | succ n11 ih11 =>
      intro i11 x12 x13 M14 hi11 hv0_11 H locs hB hS ls hl hexit11
      refine lv_iload hx hb dX7_bestOf_7 (lv_at hl 0 rfl) ?_
      refine lv_iconst (v := 3) hx hb dX7_bestOf_9 (by decide) ?_
      refine lv_icmp_ge (tgt := 86) hx hb dX7_bestOf_10 (by decide) (fun c17 => absurd c17 (nI_ge (a := i11) (b := 3) (by omega) (by decide))) (fun c17 => ?_)
      refine lv_aload_n hx hb dX7_bestOf_13 rfl (lv_at hl 4 rfl) ?_
      refine b_pI (b_runS (As := [.ref (o + k1)]) (rest := []) ⟨hx, hb, hml, hown, hts⟩ (c_X7_isUnderWay l D E o M14 k1 hk1) (va_cwS 1 hts gX7_bestOf_X7_isUnderWay rfl rfl rfl (by decide +kernel) ⟨Nat.le_of_ble_eq_true rfl, Nat.le_of_ble_eq_true rfl⟩) hK hB rfl hl rfl (Nat.le_of_ble_eq_true rfl) dX7_bestOf_14 ⟨Nat.zero_le _, Nat.zero_le _⟩) hS (fun r18 hr18 locs hS => ?_)
      refine lv_if_eq (tgt := 86) hx hb dX7_bestOf_17 (by decide) (fun c19 => ?_) (fun c19 => ?_)
      · have e20 := p_X7_bestOf_e20 M k1 x12 x13 M14 i11 n11 r18 hr18.symm c19
        rw [e20] at hexit11
        exact hexit11 _ _  hv0_11 hB hS ls (lv_sub hl [1, 2, 3, 4] rfl)
      · refine lv_aload_n hx hb dX7_bestOf_20 rfl (lv_at hl 4 rfl) ?_
        refine lv_iload hx hb dX7_bestOf_21 (lv_at hl 0 rfl) ?_
        refine b_pI (b_runS (As := [.ref (o + k1), .int (nI i11)]) (rest := []) ⟨hx, hb, hml, hown, hts⟩ (c_X7_reason l D E o M14 k1 (nI i11) hk1 (wf_eq (M := M) hv0_11 hw)) (va_cwS 2 hts gX7_bestOf_X7_reason rfl rfl rfl (by decide +kernel) ⟨Nat.le_of_ble_eq_true rfl, Nat.le_of_ble_eq_true rfl⟩) hK hB rfl hl rfl (Nat.le_of_ble_eq_true rfl) dX7_bestOf_23 ⟨Nat.zero_le _, Nat.zero_le _⟩) hS (fun r21 hr21 locs hS => ?_)
        refine lv_if_ne (tgt := 80) hx hb dX7_bestOf_26 (by decide) (fun c22 => ?_) (fun c22 => ?_)
        · refine lv_iinc (v := nI (i11 + 1)) (lv' := [(4, .int (nI (i11 + 1))), (3, .int x12), (2, .int x13), (0, .ref (o + 0)), (1, .ref (o + k1))]) hx hb dX7_bestOf_80 hl (k := 0) rfl (nI_1 i11) (by decide) rfl (fun ls hl => ?_)
          refine lv_goto (tgt := 7) hx hb dX7_bestOf_83 (by decide) ?_
          have e23 := p_X7_bestOf_e23 M k1 x12 x13 M14 i11 n11 r18 hr18.symm c19 r21 hr21.symm c22
          rw [e23] at hexit11
          exact ih11 (i11 + 1) x12 x13 M14 (by omega) hv0_11 _ _ hB hS ls (lv_sub hl [0, 1, 2, 3, 4] rfl) hexit11
        · refine lv_aload_n hx hb dX7_bestOf_29 rfl (lv_at hl 3 rfl) ?_
          refine lv_aload_n hx hb dX7_bestOf_30 rfl (lv_at hl 4 rfl) ?_
          refine lv_iload hx hb dX7_bestOf_31 (lv_at hl 0 rfl) ?_
          refine b_mI (b_runV (As := [.ref (o + k1), .int (nI i11)]) (rest := []) ⟨hx, hb, hml, hown, hts⟩ (c_X7_worth l D E o M14 k1 (nI i11) hk1 (wf_eq (M := M) hv0_11 hw) h7 (reason_cell (by rw [← hr21, c22]; decide)) (ht M14 (nI i11) hv0_11 (by rw [← hr21]; exact c22))) (cwV 2 hts gX7_bestOf_X7_worth rfl rfl rfl (by decide +kernel) ⟨Nat.le_of_ble_eq_true rfl, Nat.le_of_ble_eq_true rfl⟩) hK (bk_recv hK.1 hB lay_m0 rfl) hB rfl hl rfl (Nat.le_of_ble_eq_true rfl) dX7_bestOf_33 ⟨Nat.zero_le _, Nat.zero_le _⟩) hS (fun q h => h) (fun r25 M24 hM24 H locs hB _ hS => ?_)
          obtain ⟨hr25, hM24⟩ := hM24
          refine lv_istore (lv' := [(5, .int r25), (4, .int (nI i11)), (3, .int x12), (2, .int x13), (0, .ref (o + 0)), (1, .ref (o + k1))]) hx hb dX7_bestOf_36 hl (by decide) rfl (fun ls hl => ?_)
          refine lv_iload_n hx hb dX7_bestOf_38 rfl (lv_at hl 3 rfl) ?_
          refine lv_iconst (v := (-1)) hx hb dX7_bestOf_39 (by decide) ?_
          refine lv_icmp_eq (tgt := 49) hx hb dX7_bestOf_40 (by decide) (fun c26 => ?_) (fun c26 => ?_)
          · refine lv_iconst (v := 1) hx hb dX7_bestOf_49 (by decide) ?_
            refine lv_goto (tgt := 54) hx hb dX7_bestOf_50 (by decide) ?_
            refine lv_istore (lv' := [(6, .int 1), (5, .int r25), (4, .int (nI i11)), (3, .int x12), (2, .int x13), (0, .ref (o + 0)), (1, .ref (o + k1))]) hx hb dX7_bestOf_54 hl (by decide) rfl (fun ls hl => ?_)
            refine lv_iload hx hb dX7_bestOf_56 (lv_at hl 0 rfl) ?_
            refine lv_if_eq (tgt := 66) hx hb dX7_bestOf_58 (by decide) (fun c27 => absurd c27 (by decide)) (fun c27 => ?_)
            refine lv_iload hx hb dX7_bestOf_61 (lv_at hl 2 rfl) ?_
            refine lv_goto (tgt := 67) hx hb dX7_bestOf_63 (by decide) ?_
            refine lv_istore_n (lv' := [(2, .int (nI i11)), (6, .int 1), (5, .int r25), (4, .int (nI i11)), (3, .int x12), (0, .ref (o + 0)), (1, .ref (o + k1))]) hx hb dX7_bestOf_67 rfl hl (by decide) rfl (fun ls hl => ?_)
            refine lv_iload hx hb dX7_bestOf_68 (lv_at hl 1 rfl) ?_
            refine lv_if_eq (tgt := 78) hx hb dX7_bestOf_70 (by decide) (fun c28 => absurd c28 (by decide)) (fun c28 => ?_)
            refine lv_iload hx hb dX7_bestOf_73 (lv_at hl 2 rfl) ?_
            refine lv_goto (tgt := 79) hx hb dX7_bestOf_75 (by decide) ?_
            refine lv_istore_n (lv' := [(3, .int r25), (2, .int (nI i11)), (6, .int 1), (5, .int r25), (4, .int (nI i11)), (0, .ref (o + 0)), (1, .ref (o + k1))]) hx hb dX7_bestOf_79 rfl hl (by decide) rfl (fun ls hl => ?_)
            refine lv_iinc (v := nI (i11 + 1)) (lv' := [(4, .int (nI (i11 + 1))), (3, .int r25), (2, .int (nI i11)), (6, .int 1), (5, .int r25), (0, .ref (o + 0)), (1, .ref (o + k1))]) hx hb dX7_bestOf_80 hl (k := 4) rfl (nI_1 i11) (by decide) rfl (fun ls hl => ?_)
            refine lv_goto (tgt := 7) hx hb dX7_bestOf_83 (by decide) ?_
            have e29 := p_X7_bestOf_e29 M k1 x12 x13 M14 i11 n11 r18 hr18.symm c19 r21 hr21.symm c22 r25 hr25.symm M24 hM24.symm c26
            rw [e29] at hexit11
            exact ih11 (i11 + 1) r25 (nI i11) M24 (by omega) ((by rw [hM24]; exact fr_X7_worth M14 k1 (nI i11) k1 (Ne.symm h7) : M24 k1 = M14 k1).trans hv0_11) _ _ hB hS ls (lv_sub hl [0, 1, 2, 5, 6] rfl) hexit11
          · refine lv_iload hx hb dX7_bestOf_43 (lv_at hl 0 rfl) ?_
            refine lv_iload_n hx hb dX7_bestOf_45 rfl (lv_at hl 2 rfl) ?_
            refine lv_icmp_ge (tgt := 53) hx hb dX7_bestOf_46 (by decide) (fun c30 => ?_) (fun c30 => ?_)
            · refine lv_iconst (v := 0) hx hb dX7_bestOf_53 (by decide) ?_
              refine lv_istore (lv' := [(6, .int 0), (5, .int r25), (4, .int (nI i11)), (3, .int x12), (2, .int x13), (0, .ref (o + 0)), (1, .ref (o + k1))]) hx hb dX7_bestOf_54 hl (by decide) rfl (fun ls hl => ?_)
              refine lv_iload hx hb dX7_bestOf_56 (lv_at hl 0 rfl) ?_
              refine lv_if_eq (tgt := 66) hx hb dX7_bestOf_58 (by decide) (fun c31 => ?_) (fun c31 => absurd (by decide) c31)
              refine lv_iload_n hx hb dX7_bestOf_66 rfl (lv_at hl 4 rfl) ?_
              refine lv_istore_n (lv' := [(2, .int x13), (6, .int 0), (5, .int r25), (4, .int (nI i11)), (3, .int x12), (0, .ref (o + 0)), (1, .ref (o + k1))]) hx hb dX7_bestOf_67 rfl hl (by decide) rfl (fun ls hl => ?_)
              refine lv_iload hx hb dX7_bestOf_68 (lv_at hl 1 rfl) ?_
              refine lv_if_eq (tgt := 78) hx hb dX7_bestOf_70 (by decide) (fun c32 => ?_) (fun c32 => absurd (by decide) c32)
              refine lv_iload_n hx hb dX7_bestOf_78 rfl (lv_at hl 4 rfl) ?_
              refine lv_istore_n (lv' := [(3, .int x12), (2, .int x13), (6, .int 0), (5, .int r25), (4, .int (nI i11)), (0, .ref (o + 0)), (1, .ref (o + k1))]) hx hb dX7_bestOf_79 rfl hl (by decide) rfl (fun ls hl => ?_)
              refine lv_iinc (v := nI (i11 + 1)) (lv' := [(4, .int (nI (i11 + 1))), (3, .int x12), (2, .int x13), (6, .int 0), (5, .int r25), (0, .ref (o + 0)), (1, .ref (o + k1))]) hx hb dX7_bestOf_80 hl (k := 4) rfl (nI_1 i11) (by decide) rfl (fun ls hl => ?_)
              refine lv_goto (tgt := 7) hx hb dX7_bestOf_83 (by decide) ?_
              have e33 := p_X7_bestOf_e33 M k1 x12 x13 M14 i11 n11 r18 hr18.symm c19 r21 hr21.symm c22 r25 hr25.symm M24 hM24.symm c26 c30
              rw [e33] at hexit11
              exact ih11 (i11 + 1) x12 x13 M24 (by omega) ((by rw [hM24]; exact fr_X7_worth M14 k1 (nI i11) k1 (Ne.symm h7) : M24 k1 = M14 k1).trans hv0_11) _ _ hB hS ls (lv_sub hl [0, 1, 2, 5, 6] rfl) hexit11
            · refine lv_iconst (v := 1) hx hb dX7_bestOf_49 (by decide) ?_
              refine lv_goto (tgt := 54) hx hb dX7_bestOf_50 (by decide) ?_
              refine lv_istore (lv' := [(6, .int 1), (5, .int r25), (4, .int (nI i11)), (3, .int x12), (2, .int x13), (0, .ref (o + 0)), (1, .ref (o + k1))]) hx hb dX7_bestOf_54 hl (by decide) rfl (fun ls hl => ?_)
              refine lv_iload hx hb dX7_bestOf_56 (lv_at hl 0 rfl) ?_
              refine lv_if_eq (tgt := 66) hx hb dX7_bestOf_58 (by decide) (fun c34 => absurd c34 (by decide)) (fun c34 => ?_)
              refine lv_iload hx hb dX7_bestOf_61 (lv_at hl 2 rfl) ?_
              refine lv_goto (tgt := 67) hx hb dX7_bestOf_63 (by decide) ?_
              refine lv_istore_n (lv' := [(2, .int (nI i11)), (6, .int 1), (5, .int r25), (4, .int (nI i11)), (3, .int x12), (0, .ref (o + 0)), (1, .ref (o + k1))]) hx hb dX7_bestOf_67 rfl hl (by decide) rfl (fun ls hl => ?_)
              refine lv_iload hx hb dX7_bestOf_68 (lv_at hl 1 rfl) ?_
              refine lv_if_eq (tgt := 78) hx hb dX7_bestOf_70 (by decide) (fun c35 => absurd c35 (by decide)) (fun c35 => ?_)
              refine lv_iload hx hb dX7_bestOf_73 (lv_at hl 2 rfl) ?_
              refine lv_goto (tgt := 79) hx hb dX7_bestOf_75 (by decide) ?_
              refine lv_istore_n (lv' := [(3, .int r25), (2, .int (nI i11)), (6, .int 1), (5, .int r25), (4, .int (nI i11)), (0, .ref (o + 0)), (1, .ref (o + k1))]) hx hb dX7_bestOf_79 rfl hl (by decide) rfl (fun ls hl => ?_)
              refine lv_iinc (v := nI (i11 + 1)) (lv' := [(4, .int (nI (i11 + 1))), (3, .int r25), (2, .int (nI i11)), (6, .int 1), (5, .int r25), (0, .ref (o + 0)), (1, .ref (o + k1))]) hx hb dX7_bestOf_80 hl (k := 4) rfl (nI_1 i11) (by decide) rfl (fun ls hl => ?_)
              refine lv_goto (tgt := 7) hx hb dX7_bestOf_83 (by decide) ?_
              have e36 := p_X7_bestOf_e36 M k1 x12 x13 M14 i11 n11 r18 hr18.symm c19 r21 hr21.symm c22 r25 hr25.symm M24 hM24.symm c26 c30
              rw [e36] at hexit11
              exact ih11 (i11 + 1) r25 (nI i11) M24 (by omega) ((by rw [hM24]; exact fr_X7_worth M14 k1 (nI i11) k1 (Ne.symm h7) : M24 k1 = M14 k1).trans hv0_11) _ _ hB hS ls (lv_sub hl [0, 1, 2, 5, 6] rfl) hexit11
  refine lp11 3 0 0 (-1) M (by omega) rfl _ _ hB hS ls (lv_sub hl [0, 1, 2, 3, 4] rfl) ?_
  intro H locs hw0_11 hB hS ls hl
  obtain ⟨x37, hx37⟩ : ∃ y : Int32, y = (lp_X7_bestOf_7 k1 3 0 0 (-1) M).1 := ⟨_, rfl⟩
  rw [← hx37] at hl
  obtain ⟨x38, hx38⟩ : ∃ y : Int32, y = (lp_X7_bestOf_7 k1 3 0 0 (-1) M).2.1 := ⟨_, rfl⟩
  rw [← hx38] at hl
  obtain ⟨M39, hM39⟩ : ∃ y : bM, y = (lp_X7_bestOf_7 k1 3 0 0 (-1) M).2.2 := ⟨_, rfl⟩
  rw [← hM39] at hB hw0_11
  have hl : lv_has ls 7 [(3, .int x37), (2, .int x38), (0, .ref (o + 0)), (1, .ref (o + k1))] := hl
  refine lv_iload_n hx hb dX7_bestOf_86 rfl (lv_at hl 1 rfl) ?_
  have e40 := p_X7_bestOf_e40 M k1 x37 hx37.symm x38 hx38.symm M39 hM39.symm
  exact b_iret hx hb hr hlocks hS ⟨_, rfl, _, ⟨(congrArg Prod.fst e40).symm, (congrArg Prod.snd e40).symm⟩, hB⟩ dX7_bestOf_87
