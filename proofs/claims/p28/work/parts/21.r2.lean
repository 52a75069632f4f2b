theorem cmp_neg (a b : Int64) : (lg_cmp a b < 0) ↔ a.toInt < b.toInt := by
  unfold lg_cmp
  have e : a = b ↔ a.toInt = b.toInt := ⟨fun h => by rw [h], fun h => Int64.toInt_inj.mp h⟩
  have g : a > b ↔ b.toInt < a.toInt := Int64.lt_iff_toInt_lt
  by_cases h1 : a > b
  · rw [if_pos h1]
    have := g.mp h1
    exact ⟨fun q => absurd q (by decide), fun q => by omega⟩
  · rw [if_neg h1]
    have h1' : ¬ b.toInt < a.toInt := fun q => h1 (g.mpr q)
    by_cases h2 : a = b
    · rw [if_pos h2]
      have := e.mp h2
      exact ⟨fun q => absurd q (by decide), fun q => by omega⟩
    · rw [if_neg h2]
      have h2' : ¬ a.toInt = b.toInt := fun q => h2 (e.mpr q)
      exact ⟨fun _ => by omega, fun _ => by decide⟩
theorem cmp_pos (a b : Int64) : (0 < lg_cmp a b) ↔ b.toInt < a.toInt := by
  unfold lg_cmp
  have e : a = b ↔ a.toInt = b.toInt := ⟨fun h => by rw [h], fun h => Int64.toInt_inj.mp h⟩
  have g : a > b ↔ b.toInt < a.toInt := Int64.lt_iff_toInt_lt
  by_cases h1 : a > b
  · rw [if_pos h1]
    exact ⟨fun _ => g.mp h1, fun _ => by decide⟩
  · rw [if_neg h1]
    have h1' : ¬ b.toInt < a.toInt := fun q => h1 (g.mpr q)
    by_cases h2 : a = b
    · rw [if_pos h2]
      exact ⟨fun q => absurd q (by decide), fun q => absurd q h1'⟩
    · rw [if_neg h2]
      exact ⟨fun q => absurd q (by decide), fun q => absurd q h1'⟩
theorem in_iff (a lo hi : Int64) : ¬ f_X7_in a lo hi = 0 ↔ lo.toInt ≤ a.toInt ∧ a.toInt ≤ hi.toInt := by
  rw [u_f_X7_in]
  by_cases h1 : lg_cmp a lo < 0
  · rw [if_pos h1]
    have := (cmp_neg _ _).mp h1
    exact ⟨fun q => absurd rfl q, fun q => by omega⟩
  · rw [if_neg h1]
    have h1' : ¬ a.toInt < lo.toInt := fun q => h1 ((cmp_neg _ _).mpr q)
    by_cases h2 : 0 < lg_cmp a hi
    · rw [if_pos h2]
      have := (cmp_pos _ _).mp h2
      exact ⟨fun q => absurd rfl q, fun q => by omega⟩
    · rw [if_neg h2]
      have h2' : ¬ hi.toInt < a.toInt := fun q => h2 ((cmp_pos _ _).mpr q)
      exact ⟨fun _ => by omega, fun _ => by decide⟩
theorem in8 {x : Int32} (h : ¬ f_X7_in x.toInt64 0 7 = 0) : vp_in x 8 := by
  have h1 := (in_iff _ _ _).mp h
  rw [Int32.toInt_toInt64] at h1
  have e0 : (0 : Int64).toInt = 0 := by decide
  have e7 : (7 : Int64).toInt = 7 := by decide
  rw [e0, e7] at h1
  exact vp_in_iff.mpr ⟨h1.1, by omega⟩
theorem isCell_in {x y : Int32} (h : ¬ f_X7_isCell x y = 0) : vp_in x 8 ∧ vp_in y 8 := by
  rw [u_f_X7_isCell] at h
  dsimp only at h
  by_cases h1 : f_X7_in x.toInt64 0 7 = 0
  · rw [if_pos h1] at h; exact absurd rfl h
  · rw [if_neg h1] at h
    by_cases h2 : f_X7_in y.toInt64 0 7 = 0
    · rw [if_pos h2] at h; exact absurd rfl h
    · exact ⟨in8 h1, in8 h2⟩
theorem cell_in {x y : Int32} (h : ¬ f_X7_isCell x y = 0) : vp_in ((8 : Int32) * y + x) 64 := by
  obtain ⟨hx, hy⟩ := isCell_in h
  obtain ⟨i, hi, rfl⟩ := vp_in_of hx (by decide)
  obtain ⟨j, hj, rfl⟩ := vp_in_of hy (by decide)
  rw [show (8 : Int32) = nI 8 from rfl, pk_mul, nI_add]
  exact vp_in_nI (by omega) (by decide)
theorem st_in {a b : Int32} (h : ¬ (if f_X7_isCell a b = 0 then (-1 : Int32) else (8 : Int32) * b + a) = -1) : vp_in (if f_X7_isCell a b = 0 then (-1 : Int32) else (8 : Int32) * b + a) 64 := by
  by_cases h1 : f_X7_isCell a b = 0
  · rw [if_pos h1] at h; exact absurd rfl h
  · rw [if_neg h1]; exact cell_in h1
theorem stepFrom_in {x y : Int32} (h : ¬ f_X7_stepFrom x y = -1) : vp_in (f_X7_stepFrom x y) 64 := by
  rw [u_f_X7_stepFrom] at h ⊢
  dsimp only at h ⊢
  by_cases h1 : y = 1
  · rw [if_pos h1] at h ⊢
    by_cases h2 : y = 0
    · rw [if_pos h2] at h ⊢; exact st_in h
    · rw [if_neg h2] at h ⊢; exact st_in h
  · rw [if_neg h1] at h ⊢
    by_cases h3 : y = 2
    · rw [if_pos h3] at h ⊢
      by_cases h2 : y = 0
      · rw [if_pos h2] at h ⊢; exact st_in h
      · rw [if_neg h2] at h ⊢; exact st_in h
    · rw [if_neg h3] at h ⊢
      by_cases h2 : y = 0
      · rw [if_pos h2] at h ⊢; exact st_in h
      · rw [if_neg h2] at h ⊢; exact st_in h
def f_X7_flows (M : bM) (k1 : Nat) (x2 : Int32) (x3 : Int32) : bM := (let r11 : Int32 := f_X7_of M k1 x2 4; (let M12 : bM := up2 M k1 (((276 : Int32) + ((64 : Int32) * x2)) + r11).toNatClampNeg x3; (let M13 : bM := f_X7_add M12 k1 x2 4 1; (let M14 : bM := up2 M13 k1 ((212 : Int32) + x3).toNatClampNeg ((M13 k1 ((212 : Int32) + x3).toNatClampNeg) ||| ((1 : Int32) <<< (x2 &&& 31))); M14))))
theorem u_f_X7_flows (M : bM) (k1 : Nat) (x2 : Int32) (x3 : Int32) : f_X7_flows M k1 x2 x3 = (let r11 : Int32 := f_X7_of M k1 x2 4; (let M12 : bM := up2 M k1 (((276 : Int32) + ((64 : Int32) * x2)) + r11).toNatClampNeg x3; (let M13 : bM := f_X7_add M12 k1 x2 4 1; (let M14 : bM := up2 M13 k1 ((212 : Int32) + x3).toNatClampNeg ((M13 k1 ((212 : Int32) + x3).toNatClampNeg) ||| ((1 : Int32) <<< (x2 &&& 31))); M14)))) := rfl
theorem p_X7_flows_e15 (M : bM) (k1 : Nat) (x2 : Int32) (x3 : Int32) (r11 : Int32) (hr11 : f_X7_of M k1 x2 4 = r11) (M12 : bM) (hM12 : up2 M k1 (((276 : Int32) + ((64 : Int32) * x2)) + r11).toNatClampNeg x3 = M12) (M13 : bM) (hM13 : f_X7_add M12 k1 x2 4 1 = M13) (M14 : bM) (hM14 : up2 M13 k1 ((212 : Int32) + x3).toNatClampNeg ((M13 k1 ((212 : Int32) + x3).toNatClampNeg) ||| ((1 : Int32) <<< (x2 &&& 31))) = M14) : f_X7_flows M k1 x2 x3 = M14 := by subst hM14 hM13 hM12 hr11; exact u_f_X7_flows M k1 x2 x3
def f_X7_pays (M : bM) (k1 : Nat) (x2 : Int32) (x3 : Int32) : bM := (let M11 : bM := f_X7_add M k1 x2 0 x3; (let M12 : bM := f_X7_add M11 k1 x2 3 x3; M12))
theorem u_f_X7_pays (M : bM) (k1 : Nat) (x2 : Int32) (x3 : Int32) : f_X7_pays M k1 x2 x3 = (let M11 : bM := f_X7_add M k1 x2 0 x3; (let M12 : bM := f_X7_add M11 k1 x2 3 x3; M12)) := rfl
theorem p_X7_pays_e13 (M : bM) (k1 : Nat) (x2 : Int32) (x3 : Int32) (M11 : bM) (hM11 : f_X7_add M k1 x2 0 x3 = M11) (M12 : bM) (hM12 : f_X7_add M11 k1 x2 3 x3 = M12) : f_X7_pays M k1 x2 x3 = M12 := by subst hM12 hM11; exact u_f_X7_pays M k1 x2 x3
def lp_X7_turnEnds_9 (k1 : Nat) : Nat → Nat → bM → (bM)
  | 0, i12, M13 => M13
  | n12 + 1, i12, M13 => (let r17 : Int32 := f_X7_isDam M13 k1 (nI i12); (if r17 = 0 then lp_X7_turnEnds_9 k1 n12 (i12 + 1) M13 else (let M20 : bM := up2 M13 k1 (148 + i12) ((M13 k1 (148 + i12)) + 1); (if (M20 k1 (148 + i12)) < (M20 k1 8) then (let M22 : bM := up2 M20 k1 (148 + i12) (M20 k1 (148 + i12)); lp_X7_turnEnds_9 k1 n12 (i12 + 1) M22) else (let M24 : bM := up2 M20 k1 (148 + i12) (-1); lp_X7_turnEnds_9 k1 n12 (i12 + 1) M24)))))
theorem u0_lp_X7_turnEnds_9 (k1 : Nat) (i12 : Nat) (M13 : bM) : lp_X7_turnEnds_9 k1 0 i12 M13 = M13 := rfl
theorem u1_lp_X7_turnEnds_9 (k1 : Nat) (n12 i12 : Nat) (M13 : bM) : lp_X7_turnEnds_9 k1 (n12 + 1) i12 M13 = (let r17 : Int32 := f_X7_isDam M13 k1 (nI i12); (if r17 = 0 then lp_X7_turnEnds_9 k1 n12 (i12 + 1) M13 else (let M20 : bM := up2 M13 k1 (148 + i12) ((M13 k1 (148 + i12)) + 1); (if (M20 k1 (148 + i12)) < (M20 k1 8) then (let M22 : bM := up2 M20 k1 (148 + i12) (M20 k1 (148 + i12)); lp_X7_turnEnds_9 k1 n12 (i12 + 1) M22) else (let M24 : bM := up2 M20 k1 (148 + i12) (-1); lp_X7_turnEnds_9 k1 n12 (i12 + 1) M24))))) := rfl
def f_X7_turnEnds (M : bM) (k1 : Nat) : bM := (let M11 : bM := up2 M k1 3 ((M k1 3) + 1); (let M26 : bM := (lp_X7_turnEnds_9 k1 64 0 M11); (let M27 : bM := up2 M26 k1 2 ((1 : Int32) - (M26 k1 2)); (let r28 : Int32 := f_X7_isUnderWay M27 k1; (if r28 = 0 then (let M30 : bM := up2 M27 k1 1 (M27 k1 1); M30) else (if (M27 k1 3) = 80 then (let M35 : bM := up2 M27 k1 1 3; M35) else (let M33 : bM := up2 M27 k1 1 (M27 k1 1); M33)))))))
theorem u_f_X7_turnEnds (M : bM) (k1 : Nat) : f_X7_turnEnds M k1 = (let M11 : bM := up2 M k1 3 ((M k1 3) + 1); (let M26 : bM := (lp_X7_turnEnds_9 k1 64 0 M11); (let M27 : bM := up2 M26 k1 2 ((1 : Int32) - (M26 k1 2)); (let r28 : Int32 := f_X7_isUnderWay M27 k1; (if r28 = 0 then (let M30 : bM := up2 M27 k1 1 (M27 k1 1); M30) else (if (M27 k1 3) = 80 then (let M35 : bM := up2 M27 k1 1 3; M35) else (let M33 : bM := up2 M27 k1 1 (M27 k1 1); M33))))))) := rfl
theorem p_X7_turnEnds_e15 (M : bM) (k1 : Nat) (M11 : bM) (M13 : bM) (i12 : Nat)  : lp_X7_turnEnds_9 k1 0 i12 M13 = M13 := by exact u0_lp_X7_turnEnds_9 k1 i12 M13
theorem p_X7_turnEnds_e19 (M : bM) (k1 : Nat) (M11 : bM) (M13 : bM) (i12 : Nat) (n12 : Nat) (r17 : Int32) (hr17 : f_X7_isDam M13 k1 (nI i12) = r17) (c18 : r17 = 0) : lp_X7_turnEnds_9 k1 (n12 + 1) i12 M13 = lp_X7_turnEnds_9 k1 n12 (i12 + 1) M13 := by subst hr17; exact Eq.trans (u1_lp_X7_turnEnds_9 k1 n12 i12 M13) (if_pos c18)
theorem p_X7_turnEnds_e23 (M : bM) (k1 : Nat) (M11 : bM) (M13 : bM) (i12 : Nat) (n12 : Nat) (r17 : Int32) (hr17 : f_X7_isDam M13 k1 (nI i12) = r17) (c18 : ¬ r17 = 0) (M20 : bM) (hM20 : up2 M13 k1 (148 + i12) ((M13 k1 (148 + i12)) + 1) = M20) (c21 : (M20 k1 (148 + i12)) < (M20 k1 8)) (M22 : bM) (hM22 : up2 M20 k1 (148 + i12) (M20 k1 (148 + i12)) = M22) : lp_X7_turnEnds_9 k1 (n12 + 1) i12 M13 = lp_X7_turnEnds_9 k1 n12 (i12 + 1) M22 := by subst hM22 hM20 hr17; exact Eq.trans (u1_lp_X7_turnEnds_9 k1 n12 i12 M13) (Eq.trans (if_neg c18) (if_pos c21))
theorem p_X7_turnEnds_e25 (M : bM) (k1 : Nat) (M11 : bM) (M13 : bM) (i12 : Nat) (n12 : Nat) (r17 : Int32) (hr17 : f_X7_isDam M13 k1 (nI i12) = r17) (c18 : ¬ r17 = 0) (M20 : bM) (hM20 : up2 M13 k1 (148 + i12) ((M13 k1 (148 + i12)) + 1) = M20) (c21 : ¬ (M20 k1 (148 + i12)) < (M20 k1 8)) (M24 : bM) (hM24 : up2 M20 k1 (148 + i12) (-1) = M24) : lp_X7_turnEnds_9 k1 (n12 + 1) i12 M13 = lp_X7_turnEnds_9 k1 n12 (i12 + 1) M24 := by subst hM24 hM20 hr17; exact Eq.trans (u1_lp_X7_turnEnds_9 k1 n12 i12 M13) (Eq.trans (if_neg c18) (if_neg c21))
theorem p_X7_turnEnds_e31 (M : bM) (k1 : Nat) (M11 : bM) (hM11 : up2 M k1 3 ((M k1 3) + 1) = M11) (M26 : bM) (hM26 : (lp_X7_turnEnds_9 k1 64 0 M11) = M26) (M27 : bM) (hM27 : up2 M26 k1 2 ((1 : Int32) - (M26 k1 2)) = M27) (r28 : Int32) (hr28 : f_X7_isUnderWay M27 k1 = r28) (c29 : r28 = 0) (M30 : bM) (hM30 : up2 M27 k1 1 (M27 k1 1) = M30) : f_X7_turnEnds M k1 = M30 := by subst hM30 hr28 hM27 hM26 hM11; exact Eq.trans (u_f_X7_turnEnds M k1) (if_pos c29)
theorem p_X7_turnEnds_e34 (M : bM) (k1 : Nat) (M11 : bM) (hM11 : up2 M k1 3 ((M k1 3) + 1) = M11) (M26 : bM) (hM26 : (lp_X7_turnEnds_9 k1 64 0 M11) = M26) (M27 : bM) (hM27 : up2 M26 k1 2 ((1 : Int32) - (M26 k1 2)) = M27) (r28 : Int32) (hr28 : f_X7_isUnderWay M27 k1 = r28) (c29 : ¬ r28 = 0) (c32 : ¬ (M27 k1 3) = 80) (M33 : bM) (hM33 : up2 M27 k1 1 (M27 k1 1) = M33) : f_X7_turnEnds M k1 = M33 := by subst hM33 hr28 hM27 hM26 hM11; exact Eq.trans (u_f_X7_turnEnds M k1) (Eq.trans (if_neg c29) (if_neg c32))
theorem p_X7_turnEnds_e36 (M : bM) (k1 : Nat) (M11 : bM) (hM11 : up2 M k1 3 ((M k1 3) + 1) = M11) (M26 : bM) (hM26 : (lp_X7_turnEnds_9 k1 64 0 M11) = M26) (M27 : bM) (hM27 : up2 M26 k1 2 ((1 : Int32) - (M26 k1 2)) = M27) (r28 : Int32) (hr28 : f_X7_isUnderWay M27 k1 = r28) (c29 : ¬ r28 = 0) (c32 : (M27 k1 3) = 80) (M35 : bM) (hM35 : up2 M27 k1 1 3 = M35) : f_X7_turnEnds M k1 = M35 := by subst hM35 hr28 hM27 hM26 hM11; exact Eq.trans (u_f_X7_turnEnds M k1) (Eq.trans (if_neg c29) (if_pos c32))
def f_X7_meet (M : bM) (k1 : Nat) (x2 : Int32) : bM := (let r12 : Int32 := f_X7_cost M k1 0 x2; (let M13 : bM := f_X7_pays M k1 0 ((M k1 9) * r12); (let r15 : Int32 := f_X7_cost M13 k1 1 x2; (let M16 : bM := f_X7_pays M13 k1 1 ((M13 k1 9) * r15); (let M18 : bM := up2 M16 k1 1 2; (let M19 : bM := up2 M18 k1 4 x2; (let r20 : Int32 := f_X7_of M19 k1 0 0; (let r21 : Int32 := f_X7_of M19 k1 1 0; (let x22 : Int32 := (r20 - r21); (if 0 ≤ x22 then (if x22 ≤ 0 then (let M25 : bM := up2 M19 k1 5 (-1); (if x22 = 0 then M25 else (let M28 : bM := f_X7_add M25 k1 (M25 k1 5) 2 1; M28))) else (let M30 : bM := up2 M19 k1 5 1; (if x22 = 0 then M30 else (let M33 : bM := f_X7_add M30 k1 (M30 k1 5) 2 1; M33)))) else (let M35 : bM := up2 M19 k1 5 0; (if x22 = 0 then M35 else (let M38 : bM := f_X7_add M35 k1 (M35 k1 5) 2 1; M38)))))))))))))
theorem u_f_X7_meet (M : bM) (k1 : Nat) (x2 : Int32) : f_X7_meet M k1 x2 = (let r12 : Int32 := f_X7_cost M k1 0 x2; (let M13 : bM := f_X7_pays M k1 0 ((M k1 9) * r12); (let r15 : Int32 := f_X7_cost M13 k1 1 x2; (let M16 : bM := f_X7_pays M13 k1 1 ((M13 k1 9) * r15); (let M18 : bM := up2 M16 k1 1 2; (let M19 : bM := up2 M18 k1 4 x2; (let r20 : Int32 := f_X7_of M19 k1 0 0; (let r21 : Int32 := f_X7_of M19 k1 1 0; (let x22 : Int32 := (r20 - r21); (if 0 ≤ x22 then (if x22 ≤ 0 then (let M25 : bM := up2 M19 k1 5 (-1); (if x22 = 0 then M25 else (let M28 : bM := f_X7_add M25 k1 (M25 k1 5) 2 1; M28))) else (let M30 : bM := up2 M19 k1 5 1; (if x22 = 0 then M30 else (let M33 : bM := f_X7_add M30 k1 (M30 k1 5) 2 1; M33)))) else (let M35 : bM := up2 M19 k1 5 0; (if x22 = 0 then M35 else (let M38 : bM := f_X7_add M35 k1 (M35 k1 5) 2 1; M38))))))))))))) := rfl
theorem p_X7_meet_e27 (M : bM) (k1 : Nat) (x2 : Int32) (r12 : Int32) (hr12 : f_X7_cost M k1 0 x2 = r12) (M13 : bM) (hM13 : f_X7_pays M k1 0 ((M k1 9) * r12) = M13) (r15 : Int32) (hr15 : f_X7_cost M13 k1 1 x2 = r15) (M16 : bM) (hM16 : f_X7_pays M13 k1 1 ((M13 k1 9) * r15) = M16) (M18 : bM) (hM18 : up2 M16 k1 1 2 = M18) (M19 : bM) (hM19 : up2 M18 k1 4 x2 = M19) (r20 : Int32) (hr20 : f_X7_of M19 k1 0 0 = r20) (r21 : Int32) (hr21 : f_X7_of M19 k1 1 0 = r21) (x22 : Int32) (hx22 : (r20 - r21) = x22) (c23 : 0 ≤ x22) (c24 : x22 ≤ 0) (M25 : bM) (hM25 : up2 M19 k1 5 (-1) = M25) (c26 : x22 = 0) : f_X7_meet M k1 x2 = M25 := by subst hM25 hx22 hr21 hr20 hM19 hM18 hM16 hr15 hM13 hr12; exact Eq.trans (u_f_X7_meet M k1 x2) (Eq.trans (if_pos c23) (Eq.trans (if_pos c24) (if_pos c26)))
theorem p_X7_meet_e29 (M : bM) (k1 : Nat) (x2 : Int32) (r12 : Int32) (hr12 : f_X7_cost M k1 0 x2 = r12) (M13 : bM) (hM13 : f_X7_pays M k1 0 ((M k1 9) * r12) = M13) (r15 : Int32) (hr15 : f_X7_cost M13 k1 1 x2 = r15) (M16 : bM) (hM16 : f_X7_pays M13 k1 1 ((M13 k1 9) * r15) = M16) (M18 : bM) (hM18 : up2 M16 k1 1 2 = M18) (M19 : bM) (hM19 : up2 M18 k1 4 x2 = M19) (r20 : Int32) (hr20 : f_X7_of M19 k1 0 0 = r20) (r21 : Int32) (hr21 : f_X7_of M19 k1 1 0 = r21) (x22 : Int32) (hx22 : (r20 - r21) = x22) (c23 : 0 ≤ x22) (c24 : x22 ≤ 0) (M25 : bM) (hM25 : up2 M19 k1 5 (-1) = M25) (c26 : ¬ x22 = 0) (M28 : bM) (hM28 : f_X7_add M25 k1 (M25 k1 5) 2 1 = M28) : f_X7_meet M k1 x2 = M28 := by subst hM28 hM25 hx22 hr21 hr20 hM19 hM18 hM16 hr15 hM13 hr12; exact Eq.trans (u_f_X7_meet M k1 x2) (Eq.trans (if_pos c23) (Eq.trans (if_pos c24) (if_neg c26)))
theorem p_X7_meet_e32 (M : bM) (k1 : Nat) (x2 : Int32) (r12 : Int32) (hr12 : f_X7_cost M k1 0 x2 = r12) (M13 : bM) (hM13 : f_X7_pays M k1 0 ((M k1 9) * r12) = M13) (r15 : Int32) (hr15 : f_X7_cost M13 k1 1 x2 = r15) (M16 : bM) (hM16 : f_X7_pays M13 k1 1 ((M13 k1 9) * r15) = M16) (M18 : bM) (hM18 : up2 M16 k1 1 2 = M18) (M19 : bM) (hM19 : up2 M18 k1 4 x2 = M19) (r20 : Int32) (hr20 : f_X7_of M19 k1 0 0 = r20) (r21 : Int32) (hr21 : f_X7_of M19 k1 1 0 = r21) (x22 : Int32) (hx22 : (r20 - r21) = x22) (c23 : 0 ≤ x22) (c24 : ¬ x22 ≤ 0) (M30 : bM) (hM30 : up2 M19 k1 5 1 = M30) (c31 : x22 = 0) : f_X7_meet M k1 x2 = M30 := by subst hM30 hx22 hr21 hr20 hM19 hM18 hM16 hr15 hM13 hr12; exact Eq.trans (u_f_X7_meet M k1 x2) (Eq.trans (if_pos c23) (Eq.trans (if_neg c24) (if_pos c31)))
theorem p_X7_meet_e34 (M : bM) (k1 : Nat) (x2 : Int32) (r12 : Int32) (hr12 : f_X7_cost M k1 0 x2 = r12) (M13 : bM) (hM13 : f_X7_pays M k1 0 ((M k1 9) * r12) = M13) (r15 : Int32) (hr15 : f_X7_cost M13 k1 1 x2 = r15) (M16 : bM) (hM16 : f_X7_pays M13 k1 1 ((M13 k1 9) * r15) = M16) (M18 : bM) (hM18 : up2 M16 k1 1 2 = M18) (M19 : bM) (hM19 : up2 M18 k1 4 x2 = M19) (r20 : Int32) (hr20 : f_X7_of M19 k1 0 0 = r20) (r21 : Int32) (hr21 : f_X7_of M19 k1 1 0 = r21) (x22 : Int32) (hx22 : (r20 - r21) = x22) (c23 : 0 ≤ x22) (c24 : ¬ x22 ≤ 0) (M30 : bM) (hM30 : up2 M19 k1 5 1 = M30) (c31 : ¬ x22 = 0) (M33 : bM) (hM33 : f_X7_add M30 k1 (M30 k1 5) 2 1 = M33) : f_X7_meet M k1 x2 = M33 := by subst hM33 hM30 hx22 hr21 hr20 hM19 hM18 hM16 hr15 hM13 hr12; exact Eq.trans (u_f_X7_meet M k1 x2) (Eq.trans (if_pos c23) (Eq.trans (if_neg c24) (if_neg c31)))
theorem p_X7_meet_e37 (M : bM) (k1 : Nat) (x2 : Int32) (r12 : Int32) (hr12 : f_X7_cost M k1 0 x2 = r12) (M13 : bM) (hM13 : f_X7_pays M k1 0 ((M k1 9) * r12) = M13) (r15 : Int32) (hr15 : f_X7_cost M13 k1 1 x2 = r15) (M16 : bM) (hM16 : f_X7_pays M13 k1 1 ((M13 k1 9) * r15) = M16) (M18 : bM) (hM18 : up2 M16 k1 1 2 = M18) (M19 : bM) (hM19 : up2 M18 k1 4 x2 = M19) (r20 : Int32) (hr20 : f_X7_of M19 k1 0 0 = r20) (r21 : Int32) (hr21 : f_X7_of M19 k1 1 0 = r21) (x22 : Int32) (hx22 : (r20 - r21) = x22) (c23 : ¬ 0 ≤ x22) (M35 : bM) (hM35 : up2 M19 k1 5 0 = M35) (c36 : x22 = 0) : f_X7_meet M k1 x2 = M35 := by subst hM35 hx22 hr21 hr20 hM19 hM18 hM16 hr15 hM13 hr12; exact Eq.trans (u_f_X7_meet M k1 x2) (Eq.trans (if_neg c23) (if_pos c36))
theorem p_X7_meet_e39 (M : bM) (k1 : Nat) (x2 : Int32) (r12 : Int32) (hr12 : f_X7_cost M k1 0 x2 = r12) (M13 : bM) (hM13 : f_X7_pays M k1 0 ((M k1 9) * r12) = M13) (r15 : Int32) (hr15 : f_X7_cost M13 k1 1 x2 = r15) (M16 : bM) (hM16 : f_X7_pays M13 k1 1 ((M13 k1 9) * r15) = M16) (M18 : bM) (hM18 : up2 M16 k1 1 2 = M18) (M19 : bM) (hM19 : up2 M18 k1 4 x2 = M19) (r20 : Int32) (hr20 : f_X7_of M19 k1 0 0 = r20) (r21 : Int32) (hr21 : f_X7_of M19 k1 1 0 = r21) (x22 : Int32) (hx22 : (r20 - r21) = x22) (c23 : ¬ 0 ≤ x22) (M35 : bM) (hM35 : up2 M19 k1 5 0 = M35) (c36 : ¬ x22 = 0) (M38 : bM) (hM38 : f_X7_add M35 k1 (M35 k1 5) 2 1 = M38) : f_X7_meet M k1 x2 = M38 := by subst hM38 hM35 hx22 hr21 hr20 hM19 hM18 hM16 hr15 hM13 hr12; exact Eq.trans (u_f_X7_meet M k1 x2) (Eq.trans (if_neg c23) (if_neg c36))
