abbrev cellR (M : bM) (k : Nat) : Prop := ∀ p : Int32, (p = 0 ∨ p = 1) → vp_in (f_X7_head M k p) 64
theorem head_eq {M N : bM} {k : Nat} {p : Int32} (e : N k = M k) : f_X7_head N k p = f_X7_head M k p := by
  rw [u_f_X7_head, u_f_X7_head, u_f_X7_of, u_f_X7_of, e]
theorem cellR_eq {M N : bM} {k : Nat} (e : N k = M k) (h : cellR M k) : cellR N k := fun p hp => by rw [head_eq e]; exact h p hp
theorem crs_ge {p c : Int32} (hp : p = 0 ∨ p = 1) (hc : vp_in (c - 1) 64) : 276 ≤ (((276 + (64 * p)) + c) - 1).toNatClampNeg := by
  have e : ((276 + (64 * p)) + c) - 1 = (276 + (64 * p)) + (c - 1) := by
    rw [Int32.sub_eq_add_neg, Int32.sub_eq_add_neg, Int32.add_assoc]
  rw [e]
  rcases hp with rfl | rfl
  · exact idx_addX 276 hc (by decide)
  · exact Nat.le_trans (by decide) (idx_addX 340 hc (by decide))
theorem of_up {M : bM} {k j : Nat} {v p : Int32} (hp : p = 0 ∨ p = 1) (h2 : j ≠ 14) (h3 : j ≠ 19) : f_X7_of (up2 M k j v) k p 4 = f_X7_of M k p 4 := by
  rw [u_f_X7_of, u_f_X7_of]
  rcases hp with rfl | rfl
  · show up2 M k j v k 14 = M k 14
    simp [up2, Ne.symm h2]
  · show up2 M k j v k 19 = M k 19
    simp [up2, Ne.symm h3]
theorem cellR_upx {M : bM} {k : Nat} {v x : Int32} (hx : vp_in x 64) (hw : wfR M k) (h : cellR M k) : cellR (up2 M k ((148 : Int32) + x).toNatClampNeg v) k := by
  intro p hp
  have h1 : 148 ≤ ((148 : Int32) + x).toNatClampNeg := idx_addX 148 hx (by decide)
  have h2 : ((148 : Int32) + x).toNatClampNeg < 212 := by
    obtain ⟨i, hi, rfl⟩ := vp_in_of hx (by decide)
    rw [idx_add 148 (by omega)]; omega
  have h3 := crs_ge hp (len_of hp hw.2)
  have e : f_X7_head (up2 M k ((148 : Int32) + x).toNatClampNeg v) k p = f_X7_head M k p := by
    rw [u_f_X7_head, u_f_X7_head]
    dsimp only
    rw [of_up hp (by omega) (by omega), up2_same]
    unfold upd
    rw [if_neg (by omega)]
  rw [e]
  exact h p hp
def lp_X7_isOpen_2  : Nat → Nat → bM → (bM)
  | 0, i11, M12 => M12
  | n11 + 1, i11, M12 => (let M16 : bM := up2 M12 7 i11 0; lp_X7_isOpen_2 n11 (i11 + 1) M16)
theorem u0_lp_X7_isOpen_2  (i11 : Nat) (M12 : bM) : lp_X7_isOpen_2 0 i11 M12 = M12 := rfl
theorem u1_lp_X7_isOpen_2  (n11 i11 : Nat) (M12 : bM) : lp_X7_isOpen_2 (n11 + 1) i11 M12 = (let M16 : bM := up2 M12 7 i11 0; lp_X7_isOpen_2 n11 (i11 + 1) M16) := rfl
def lp_X7_isOpen_68 (k1 : Nat) (x2 : Int32) : Nat → Nat → Int32 → bM → (Int32 × bM)
  | 0, i31, x32, M33 => (x32, M33)
  | n31 + 1, i31, x32, M33 => (if x32 = 0 then (let r39 : Int32 := f_X7_stepFrom (nI i31 / 3) (nI i31 - nI i31 / 3 * 3); (if (M33 7 (nI i31 / 3).toNatClampNeg) = 1 then (if r39 = (-1) then lp_X7_isOpen_68 k1 x2 n31 (i31 + 1) x32 M33 else (let r44 : Int32 := f_X7_isDam M33 k1 r39; (if r44 = 0 then (let r47 : Int32 := f_X7_isRiver M33 k1 x2 r39; (if r47 = 0 then (let M50 : bM := up2 M33 7 r39.toNatClampNeg 1; (if (r39 / 8) = 7 then lp_X7_isOpen_68 k1 x2 n31 (i31 + 1) 1 M50 else (let r53 : Int32 := f_X7_isRiver M50 k1 ((1 : Int32) - x2) r39; (if r53 = 0 then lp_X7_isOpen_68 k1 x2 n31 (i31 + 1) 0 M50 else lp_X7_isOpen_68 k1 x2 n31 (i31 + 1) 1 M50)))) else lp_X7_isOpen_68 k1 x2 n31 (i31 + 1) x32 M33)) else lp_X7_isOpen_68 k1 x2 n31 (i31 + 1) x32 M33))) else lp_X7_isOpen_68 k1 x2 n31 (i31 + 1) x32 M33)) else (x32, M33))
theorem u0_lp_X7_isOpen_68 (k1 : Nat) (x2 : Int32) (i31 : Nat) (x32 : Int32) (M33 : bM) : lp_X7_isOpen_68 k1 x2 0 i31 x32 M33 = (x32, M33) := rfl
theorem u1_lp_X7_isOpen_68 (k1 : Nat) (x2 : Int32) (n31 i31 : Nat) (x32 : Int32) (M33 : bM) : lp_X7_isOpen_68 k1 x2 (n31 + 1) i31 x32 M33 = (if x32 = 0 then (let r39 : Int32 := f_X7_stepFrom (nI i31 / 3) (nI i31 - nI i31 / 3 * 3); (if (M33 7 (nI i31 / 3).toNatClampNeg) = 1 then (if r39 = (-1) then lp_X7_isOpen_68 k1 x2 n31 (i31 + 1) x32 M33 else (let r44 : Int32 := f_X7_isDam M33 k1 r39; (if r44 = 0 then (let r47 : Int32 := f_X7_isRiver M33 k1 x2 r39; (if r47 = 0 then (let M50 : bM := up2 M33 7 r39.toNatClampNeg 1; (if (r39 / 8) = 7 then lp_X7_isOpen_68 k1 x2 n31 (i31 + 1) 1 M50 else (let r53 : Int32 := f_X7_isRiver M50 k1 ((1 : Int32) - x2) r39; (if r53 = 0 then lp_X7_isOpen_68 k1 x2 n31 (i31 + 1) 0 M50 else lp_X7_isOpen_68 k1 x2 n31 (i31 + 1) 1 M50)))) else lp_X7_isOpen_68 k1 x2 n31 (i31 + 1) x32 M33)) else lp_X7_isOpen_68 k1 x2 n31 (i31 + 1) x32 M33))) else lp_X7_isOpen_68 k1 x2 n31 (i31 + 1) x32 M33)) else (x32, M33)) := rfl
def lp_X7_isOpen_54 (k1 : Nat) (x2 : Int32) : Nat → Nat → Int32 → bM → (Int32 × bM)
  | 0, i23, x24, M25 => (x24, M25)
  | n23 + 1, i23, x24, M25 => (if x24 = 0 then (let x57 : Int32 := (lp_X7_isOpen_68 k1 x2 192 0 x24 M25).1; (let M58 : bM := (lp_X7_isOpen_68 k1 x2 192 0 x24 M25).2; lp_X7_isOpen_54 k1 x2 n23 (i23 + 1) x57 M58)) else (x24, M25))
theorem u0_lp_X7_isOpen_54 (k1 : Nat) (x2 : Int32) (i23 : Nat) (x24 : Int32) (M25 : bM) : lp_X7_isOpen_54 k1 x2 0 i23 x24 M25 = (x24, M25) := rfl
theorem u1_lp_X7_isOpen_54 (k1 : Nat) (x2 : Int32) (n23 i23 : Nat) (x24 : Int32) (M25 : bM) : lp_X7_isOpen_54 k1 x2 (n23 + 1) i23 x24 M25 = (if x24 = 0 then (let x57 : Int32 := (lp_X7_isOpen_68 k1 x2 192 0 x24 M25).1; (let M58 : bM := (lp_X7_isOpen_68 k1 x2 192 0 x24 M25).2; lp_X7_isOpen_54 k1 x2 n23 (i23 + 1) x57 M58)) else (x24, M25)) := rfl
def f_X7_isOpen (M : bM) (k1 : Nat) (x2 : Int32) : Int32 × bM := (let M18 : bM := (lp_X7_isOpen_2 64 0 M); (let r19 : Int32 := f_X7_head M18 k1 x2; (let M20 : bM := up2 M18 7 r19.toNatClampNeg 1; (let r21 : Int32 := f_X7_head M20 k1 x2; (if (r21 / 8) = 7 then (let x100 : Int32 := (lp_X7_isOpen_54 k1 x2 64 0 1 M20).1; (let M101 : bM := (lp_X7_isOpen_54 k1 x2 64 0 1 M20).2; (x100, M101))) else (let x60 : Int32 := (lp_X7_isOpen_54 k1 x2 64 0 0 M20).1; (let M61 : bM := (lp_X7_isOpen_54 k1 x2 64 0 0 M20).2; (x60, M61))))))))
theorem u_f_X7_isOpen (M : bM) (k1 : Nat) (x2 : Int32) : f_X7_isOpen M k1 x2 = (let M18 : bM := (lp_X7_isOpen_2 64 0 M); (let r19 : Int32 := f_X7_head M18 k1 x2; (let M20 : bM := up2 M18 7 r19.toNatClampNeg 1; (let r21 : Int32 := f_X7_head M20 k1 x2; (if (r21 / 8) = 7 then (let x100 : Int32 := (lp_X7_isOpen_54 k1 x2 64 0 1 M20).1; (let M101 : bM := (lp_X7_isOpen_54 k1 x2 64 0 1 M20).2; (x100, M101))) else (let x60 : Int32 := (lp_X7_isOpen_54 k1 x2 64 0 0 M20).1; (let M61 : bM := (lp_X7_isOpen_54 k1 x2 64 0 0 M20).2; (x60, M61)))))))) := rfl
theorem p_X7_isOpen_e14 (M : bM) (k1 : Nat) (x2 : Int32) (M12 : bM) (i11 : Nat)  : lp_X7_isOpen_2 0 i11 M12 = M12 := by exact u0_lp_X7_isOpen_2 i11 M12
theorem p_X7_isOpen_e17 (M : bM) (k1 : Nat) (x2 : Int32) (M12 : bM) (i11 : Nat) (n11 : Nat) (M16 : bM) (hM16 : up2 M12 7 i11 0 = M16) : lp_X7_isOpen_2 (n11 + 1) i11 M12 = lp_X7_isOpen_2 n11 (i11 + 1) M16 := by subst hM16; exact u1_lp_X7_isOpen_2 n11 i11 M12
theorem p_X7_isOpen_e27 (M : bM) (k1 : Nat) (x2 : Int32) (M18 : bM) (r19 : Int32) (M20 : bM) (r21 : Int32) (x24 : Int32) (M25 : bM) (i23 : Nat)  : lp_X7_isOpen_54 k1 x2 0 i23 x24 M25 = (x24, M25) := by exact u0_lp_X7_isOpen_54 k1 x2 i23 x24 M25
theorem p_X7_isOpen_e30 (M : bM) (k1 : Nat) (x2 : Int32) (M18 : bM) (r19 : Int32) (M20 : bM) (r21 : Int32) (x24 : Int32) (M25 : bM) (i23 : Nat) (n23 : Nat) (c29 : ¬ x24 = 0) : lp_X7_isOpen_54 k1 x2 (n23 + 1) i23 x24 M25 = (x24, M25) := by exact Eq.trans (u1_lp_X7_isOpen_54 k1 x2 n23 i23 x24 M25) (if_neg c29)
theorem p_X7_isOpen_e35 (M : bM) (k1 : Nat) (x2 : Int32) (M18 : bM) (r19 : Int32) (M20 : bM) (r21 : Int32) (x24 : Int32) (M25 : bM) (i23 : Nat) (x32 : Int32) (M33 : bM) (i31 : Nat)  : lp_X7_isOpen_68 k1 x2 0 i31 x32 M33 = (x32, M33) := by exact u0_lp_X7_isOpen_68 k1 x2 i31 x32 M33
theorem p_X7_isOpen_e38 (M : bM) (k1 : Nat) (x2 : Int32) (M18 : bM) (r19 : Int32) (M20 : bM) (r21 : Int32) (x24 : Int32) (M25 : bM) (i23 : Nat) (x32 : Int32) (M33 : bM) (i31 : Nat) (n31 : Nat) (c37 : ¬ x32 = 0) : lp_X7_isOpen_68 k1 x2 (n31 + 1) i31 x32 M33 = (x32, M33) := by exact Eq.trans (u1_lp_X7_isOpen_68 k1 x2 n31 i31 x32 M33) (if_neg c37)
theorem p_X7_isOpen_e41 (M : bM) (k1 : Nat) (x2 : Int32) (M18 : bM) (r19 : Int32) (M20 : bM) (r21 : Int32) (x24 : Int32) (M25 : bM) (i23 : Nat) (x32 : Int32) (M33 : bM) (i31 : Nat) (n31 : Nat) (c37 : x32 = 0) (r39 : Int32) (hr39 : f_X7_stepFrom (nI i31 / 3) (nI i31 - nI i31 / 3 * 3) = r39) (c40 : ¬ (M33 7 (nI i31 / 3).toNatClampNeg) = 1) : lp_X7_isOpen_68 k1 x2 (n31 + 1) i31 x32 M33 = lp_X7_isOpen_68 k1 x2 n31 (i31 + 1) x32 M33 := by subst hr39; exact Eq.trans (u1_lp_X7_isOpen_68 k1 x2 n31 i31 x32 M33) (Eq.trans (if_pos c37) (if_neg c40))
theorem p_X7_isOpen_e43 (M : bM) (k1 : Nat) (x2 : Int32) (M18 : bM) (r19 : Int32) (M20 : bM) (r21 : Int32) (x24 : Int32) (M25 : bM) (i23 : Nat) (x32 : Int32) (M33 : bM) (i31 : Nat) (n31 : Nat) (c37 : x32 = 0) (r39 : Int32) (hr39 : f_X7_stepFrom (nI i31 / 3) (nI i31 - nI i31 / 3 * 3) = r39) (c40 : (M33 7 (nI i31 / 3).toNatClampNeg) = 1) (c42 : r39 = (-1)) : lp_X7_isOpen_68 k1 x2 (n31 + 1) i31 x32 M33 = lp_X7_isOpen_68 k1 x2 n31 (i31 + 1) x32 M33 := by subst hr39; exact Eq.trans (u1_lp_X7_isOpen_68 k1 x2 n31 i31 x32 M33) (Eq.trans (if_pos c37) (Eq.trans (if_pos c40) (if_pos c42)))
theorem p_X7_isOpen_e46 (M : bM) (k1 : Nat) (x2 : Int32) (M18 : bM) (r19 : Int32) (M20 : bM) (r21 : Int32) (x24 : Int32) (M25 : bM) (i23 : Nat) (x32 : Int32) (M33 : bM) (i31 : Nat) (n31 : Nat) (c37 : x32 = 0) (r39 : Int32) (hr39 : f_X7_stepFrom (nI i31 / 3) (nI i31 - nI i31 / 3 * 3) = r39) (c40 : (M33 7 (nI i31 / 3).toNatClampNeg) = 1) (c42 : ¬ r39 = (-1)) (r44 : Int32) (hr44 : f_X7_isDam M33 k1 r39 = r44) (c45 : ¬ r44 = 0) : lp_X7_isOpen_68 k1 x2 (n31 + 1) i31 x32 M33 = lp_X7_isOpen_68 k1 x2 n31 (i31 + 1) x32 M33 := by subst hr44 hr39; exact Eq.trans (u1_lp_X7_isOpen_68 k1 x2 n31 i31 x32 M33) (Eq.trans (if_pos c37) (Eq.trans (if_pos c40) (Eq.trans (if_neg c42) (if_neg c45))))
theorem p_X7_isOpen_e49 (M : bM) (k1 : Nat) (x2 : Int32) (M18 : bM) (r19 : Int32) (M20 : bM) (r21 : Int32) (x24 : Int32) (M25 : bM) (i23 : Nat) (x32 : Int32) (M33 : bM) (i31 : Nat) (n31 : Nat) (c37 : x32 = 0) (r39 : Int32) (hr39 : f_X7_stepFrom (nI i31 / 3) (nI i31 - nI i31 / 3 * 3) = r39) (c40 : (M33 7 (nI i31 / 3).toNatClampNeg) = 1) (c42 : ¬ r39 = (-1)) (r44 : Int32) (hr44 : f_X7_isDam M33 k1 r39 = r44) (c45 : r44 = 0) (r47 : Int32) (hr47 : f_X7_isRiver M33 k1 x2 r39 = r47) (c48 : ¬ r47 = 0) : lp_X7_isOpen_68 k1 x2 (n31 + 1) i31 x32 M33 = lp_X7_isOpen_68 k1 x2 n31 (i31 + 1) x32 M33 := by subst hr47 hr44 hr39; exact Eq.trans (u1_lp_X7_isOpen_68 k1 x2 n31 i31 x32 M33) (Eq.trans (if_pos c37) (Eq.trans (if_pos c40) (Eq.trans (if_neg c42) (Eq.trans (if_pos c45) (if_neg c48)))))
theorem p_X7_isOpen_e52 (M : bM) (k1 : Nat) (x2 : Int32) (M18 : bM) (r19 : Int32) (M20 : bM) (r21 : Int32) (x24 : Int32) (M25 : bM) (i23 : Nat) (x32 : Int32) (M33 : bM) (i31 : Nat) (n31 : Nat) (c37 : x32 = 0) (r39 : Int32) (hr39 : f_X7_stepFrom (nI i31 / 3) (nI i31 - nI i31 / 3 * 3) = r39) (c40 : (M33 7 (nI i31 / 3).toNatClampNeg) = 1) (c42 : ¬ r39 = (-1)) (r44 : Int32) (hr44 : f_X7_isDam M33 k1 r39 = r44) (c45 : r44 = 0) (r47 : Int32) (hr47 : f_X7_isRiver M33 k1 x2 r39 = r47) (c48 : r47 = 0) (M50 : bM) (hM50 : up2 M33 7 r39.toNatClampNeg 1 = M50) (c51 : (r39 / 8) = 7) : lp_X7_isOpen_68 k1 x2 (n31 + 1) i31 x32 M33 = lp_X7_isOpen_68 k1 x2 n31 (i31 + 1) 1 M50 := by subst hM50 hr47 hr44 hr39; exact Eq.trans (u1_lp_X7_isOpen_68 k1 x2 n31 i31 x32 M33) (Eq.trans (if_pos c37) (Eq.trans (if_pos c40) (Eq.trans (if_neg c42) (Eq.trans (if_pos c45) (Eq.trans (if_pos c48) (if_pos c51))))))
theorem p_X7_isOpen_e55 (M : bM) (k1 : Nat) (x2 : Int32) (M18 : bM) (r19 : Int32) (M20 : bM) (r21 : Int32) (x24 : Int32) (M25 : bM) (i23 : Nat) (x32 : Int32) (M33 : bM) (i31 : Nat) (n31 : Nat) (c37 : x32 = 0) (r39 : Int32) (hr39 : f_X7_stepFrom (nI i31 / 3) (nI i31 - nI i31 / 3 * 3) = r39) (c40 : (M33 7 (nI i31 / 3).toNatClampNeg) = 1) (c42 : ¬ r39 = (-1)) (r44 : Int32) (hr44 : f_X7_isDam M33 k1 r39 = r44) (c45 : r44 = 0) (r47 : Int32) (hr47 : f_X7_isRiver M33 k1 x2 r39 = r47) (c48 : r47 = 0) (M50 : bM) (hM50 : up2 M33 7 r39.toNatClampNeg 1 = M50) (c51 : ¬ (r39 / 8) = 7) (r53 : Int32) (hr53 : f_X7_isRiver M50 k1 ((1 : Int32) - x2) r39 = r53) (c54 : r53 = 0) : lp_X7_isOpen_68 k1 x2 (n31 + 1) i31 x32 M33 = lp_X7_isOpen_68 k1 x2 n31 (i31 + 1) 0 M50 := by subst hr53 hM50 hr47 hr44 hr39; exact Eq.trans (u1_lp_X7_isOpen_68 k1 x2 n31 i31 x32 M33) (Eq.trans (if_pos c37) (Eq.trans (if_pos c40) (Eq.trans (if_neg c42) (Eq.trans (if_pos c45) (Eq.trans (if_pos c48) (Eq.trans (if_neg c51) (if_pos c54)))))))
theorem p_X7_isOpen_e56 (M : bM) (k1 : Nat) (x2 : Int32) (M18 : bM) (r19 : Int32) (M20 : bM) (r21 : Int32) (x24 : Int32) (M25 : bM) (i23 : Nat) (x32 : Int32) (M33 : bM) (i31 : Nat) (n31 : Nat) (c37 : x32 = 0) (r39 : Int32) (hr39 : f_X7_stepFrom (nI i31 / 3) (nI i31 - nI i31 / 3 * 3) = r39) (c40 : (M33 7 (nI i31 / 3).toNatClampNeg) = 1) (c42 : ¬ r39 = (-1)) (r44 : Int32) (hr44 : f_X7_isDam M33 k1 r39 = r44) (c45 : r44 = 0) (r47 : Int32) (hr47 : f_X7_isRiver M33 k1 x2 r39 = r47) (c48 : r47 = 0) (M50 : bM) (hM50 : up2 M33 7 r39.toNatClampNeg 1 = M50) (c51 : ¬ (r39 / 8) = 7) (r53 : Int32) (hr53 : f_X7_isRiver M50 k1 ((1 : Int32) - x2) r39 = r53) (c54 : ¬ r53 = 0) : lp_X7_isOpen_68 k1 x2 (n31 + 1) i31 x32 M33 = lp_X7_isOpen_68 k1 x2 n31 (i31 + 1) 1 M50 := by subst hr53 hM50 hr47 hr44 hr39; exact Eq.trans (u1_lp_X7_isOpen_68 k1 x2 n31 i31 x32 M33) (Eq.trans (if_pos c37) (Eq.trans (if_pos c40) (Eq.trans (if_neg c42) (Eq.trans (if_pos c45) (Eq.trans (if_pos c48) (Eq.trans (if_neg c51) (if_neg c54)))))))
theorem p_X7_isOpen_e59 (M : bM) (k1 : Nat) (x2 : Int32) (M18 : bM) (r19 : Int32) (M20 : bM) (r21 : Int32) (x24 : Int32) (M25 : bM) (i23 : Nat) (n23 : Nat) (c29 : x24 = 0) (x57 : Int32) (hx57 : (lp_X7_isOpen_68 k1 x2 192 0 x24 M25).1 = x57) (M58 : bM) (hM58 : (lp_X7_isOpen_68 k1 x2 192 0 x24 M25).2 = M58) : lp_X7_isOpen_54 k1 x2 (n23 + 1) i23 x24 M25 = lp_X7_isOpen_54 k1 x2 n23 (i23 + 1) x57 M58 := by subst hM58 hx57; exact Eq.trans (u1_lp_X7_isOpen_54 k1 x2 n23 i23 x24 M25) (if_pos c29)
theorem p_X7_isOpen_e62 (M : bM) (k1 : Nat) (x2 : Int32) (M18 : bM) (hM18 : (lp_X7_isOpen_2 64 0 M) = M18) (r19 : Int32) (hr19 : f_X7_head M18 k1 x2 = r19) (M20 : bM) (hM20 : up2 M18 7 r19.toNatClampNeg 1 = M20) (r21 : Int32) (hr21 : f_X7_head M20 k1 x2 = r21) (c22 : ¬ (r21 / 8) = 7) (x60 : Int32) (hx60 : (lp_X7_isOpen_54 k1 x2 64 0 0 M20).1 = x60) (M61 : bM) (hM61 : (lp_X7_isOpen_54 k1 x2 64 0 0 M20).2 = M61) : f_X7_isOpen M k1 x2 = (x60, M61) := by subst hM61 hx60 hr21 hM20 hr19 hM18; exact Eq.trans (u_f_X7_isOpen M k1 x2) (if_neg c22)
theorem p_X7_isOpen_e67 (M : bM) (k1 : Nat) (x2 : Int32) (M18 : bM) (r19 : Int32) (M20 : bM) (r21 : Int32) (x64 : Int32) (M65 : bM) (i63 : Nat)  : lp_X7_isOpen_54 k1 x2 0 i63 x64 M65 = (x64, M65) := by exact u0_lp_X7_isOpen_54 k1 x2 i63 x64 M65
theorem p_X7_isOpen_e70 (M : bM) (k1 : Nat) (x2 : Int32) (M18 : bM) (r19 : Int32) (M20 : bM) (r21 : Int32) (x64 : Int32) (M65 : bM) (i63 : Nat) (n63 : Nat) (c69 : ¬ x64 = 0) : lp_X7_isOpen_54 k1 x2 (n63 + 1) i63 x64 M65 = (x64, M65) := by exact Eq.trans (u1_lp_X7_isOpen_54 k1 x2 n63 i63 x64 M65) (if_neg c69)
theorem p_X7_isOpen_e75 (M : bM) (k1 : Nat) (x2 : Int32) (M18 : bM) (r19 : Int32) (M20 : bM) (r21 : Int32) (x64 : Int32) (M65 : bM) (i63 : Nat) (x72 : Int32) (M73 : bM) (i71 : Nat)  : lp_X7_isOpen_68 k1 x2 0 i71 x72 M73 = (x72, M73) := by exact u0_lp_X7_isOpen_68 k1 x2 i71 x72 M73
theorem p_X7_isOpen_e78 (M : bM) (k1 : Nat) (x2 : Int32) (M18 : bM) (r19 : Int32) (M20 : bM) (r21 : Int32) (x64 : Int32) (M65 : bM) (i63 : Nat) (x72 : Int32) (M73 : bM) (i71 : Nat) (n71 : Nat) (c77 : ¬ x72 = 0) : lp_X7_isOpen_68 k1 x2 (n71 + 1) i71 x72 M73 = (x72, M73) := by exact Eq.trans (u1_lp_X7_isOpen_68 k1 x2 n71 i71 x72 M73) (if_neg c77)
theorem p_X7_isOpen_e81 (M : bM) (k1 : Nat) (x2 : Int32) (M18 : bM) (r19 : Int32) (M20 : bM) (r21 : Int32) (x64 : Int32) (M65 : bM) (i63 : Nat) (x72 : Int32) (M73 : bM) (i71 : Nat) (n71 : Nat) (c77 : x72 = 0) (r79 : Int32) (hr79 : f_X7_stepFrom (nI i71 / 3) (nI i71 - nI i71 / 3 * 3) = r79) (c80 : ¬ (M73 7 (nI i71 / 3).toNatClampNeg) = 1) : lp_X7_isOpen_68 k1 x2 (n71 + 1) i71 x72 M73 = lp_X7_isOpen_68 k1 x2 n71 (i71 + 1) x72 M73 := by subst hr79; exact Eq.trans (u1_lp_X7_isOpen_68 k1 x2 n71 i71 x72 M73) (Eq.trans (if_pos c77) (if_neg c80))
theorem p_X7_isOpen_e83 (M : bM) (k1 : Nat) (x2 : Int32) (M18 : bM) (r19 : Int32) (M20 : bM) (r21 : Int32) (x64 : Int32) (M65 : bM) (i63 : Nat) (x72 : Int32) (M73 : bM) (i71 : Nat) (n71 : Nat) (c77 : x72 = 0) (r79 : Int32) (hr79 : f_X7_stepFrom (nI i71 / 3) (nI i71 - nI i71 / 3 * 3) = r79) (c80 : (M73 7 (nI i71 / 3).toNatClampNeg) = 1) (c82 : r79 = (-1)) : lp_X7_isOpen_68 k1 x2 (n71 + 1) i71 x72 M73 = lp_X7_isOpen_68 k1 x2 n71 (i71 + 1) x72 M73 := by subst hr79; exact Eq.trans (u1_lp_X7_isOpen_68 k1 x2 n71 i71 x72 M73) (Eq.trans (if_pos c77) (Eq.trans (if_pos c80) (if_pos c82)))
theorem p_X7_isOpen_e86 (M : bM) (k1 : Nat) (x2 : Int32) (M18 : bM) (r19 : Int32) (M20 : bM) (r21 : Int32) (x64 : Int32) (M65 : bM) (i63 : Nat) (x72 : Int32) (M73 : bM) (i71 : Nat) (n71 : Nat) (c77 : x72 = 0) (r79 : Int32) (hr79 : f_X7_stepFrom (nI i71 / 3) (nI i71 - nI i71 / 3 * 3) = r79) (c80 : (M73 7 (nI i71 / 3).toNatClampNeg) = 1) (c82 : ¬ r79 = (-1)) (r84 : Int32) (hr84 : f_X7_isDam M73 k1 r79 = r84) (c85 : ¬ r84 = 0) : lp_X7_isOpen_68 k1 x2 (n71 + 1) i71 x72 M73 = lp_X7_isOpen_68 k1 x2 n71 (i71 + 1) x72 M73 := by subst hr84 hr79; exact Eq.trans (u1_lp_X7_isOpen_68 k1 x2 n71 i71 x72 M73) (Eq.trans (if_pos c77) (Eq.trans (if_pos c80) (Eq.trans (if_neg c82) (if_neg c85))))
theorem p_X7_isOpen_e89 (M : bM) (k1 : Nat) (x2 : Int32) (M18 : bM) (r19 : Int32) (M20 : bM) (r21 : Int32) (x64 : Int32) (M65 : bM) (i63 : Nat) (x72 : Int32) (M73 : bM) (i71 : Nat) (n71 : Nat) (c77 : x72 = 0) (r79 : Int32) (hr79 : f_X7_stepFrom (nI i71 / 3) (nI i71 - nI i71 / 3 * 3) = r79) (c80 : (M73 7 (nI i71 / 3).toNatClampNeg) = 1) (c82 : ¬ r79 = (-1)) (r84 : Int32) (hr84 : f_X7_isDam M73 k1 r79 = r84) (c85 : r84 = 0) (r87 : Int32) (hr87 : f_X7_isRiver M73 k1 x2 r79 = r87) (c88 : ¬ r87 = 0) : lp_X7_isOpen_68 k1 x2 (n71 + 1) i71 x72 M73 = lp_X7_isOpen_68 k1 x2 n71 (i71 + 1) x72 M73 := by subst hr87 hr84 hr79; exact Eq.trans (u1_lp_X7_isOpen_68 k1 x2 n71 i71 x72 M73) (Eq.trans (if_pos c77) (Eq.trans (if_pos c80) (Eq.trans (if_neg c82) (Eq.trans (if_pos c85) (if_neg c88)))))
theorem p_X7_isOpen_e92 (M : bM) (k1 : Nat) (x2 : Int32) (M18 : bM) (r19 : Int32) (M20 : bM) (r21 : Int32) (x64 : Int32) (M65 : bM) (i63 : Nat) (x72 : Int32) (M73 : bM) (i71 : Nat) (n71 : Nat) (c77 : x72 = 0) (r79 : Int32) (hr79 : f_X7_stepFrom (nI i71 / 3) (nI i71 - nI i71 / 3 * 3) = r79) (c80 : (M73 7 (nI i71 / 3).toNatClampNeg) = 1) (c82 : ¬ r79 = (-1)) (r84 : Int32) (hr84 : f_X7_isDam M73 k1 r79 = r84) (c85 : r84 = 0) (r87 : Int32) (hr87 : f_X7_isRiver M73 k1 x2 r79 = r87) (c88 : r87 = 0) (M90 : bM) (hM90 : up2 M73 7 r79.toNatClampNeg 1 = M90) (c91 : (r79 / 8) = 7) : lp_X7_isOpen_68 k1 x2 (n71 + 1) i71 x72 M73 = lp_X7_isOpen_68 k1 x2 n71 (i71 + 1) 1 M90 := by subst hM90 hr87 hr84 hr79; exact Eq.trans (u1_lp_X7_isOpen_68 k1 x2 n71 i71 x72 M73) (Eq.trans (if_pos c77) (Eq.trans (if_pos c80) (Eq.trans (if_neg c82) (Eq.trans (if_pos c85) (Eq.trans (if_pos c88) (if_pos c91))))))
theorem p_X7_isOpen_e95 (M : bM) (k1 : Nat) (x2 : Int32) (M18 : bM) (r19 : Int32) (M20 : bM) (r21 : Int32) (x64 : Int32) (M65 : bM) (i63 : Nat) (x72 : Int32) (M73 : bM) (i71 : Nat) (n71 : Nat) (c77 : x72 = 0) (r79 : Int32) (hr79 : f_X7_stepFrom (nI i71 / 3) (nI i71 - nI i71 / 3 * 3) = r79) (c80 : (M73 7 (nI i71 / 3).toNatClampNeg) = 1) (c82 : ¬ r79 = (-1)) (r84 : Int32) (hr84 : f_X7_isDam M73 k1 r79 = r84) (c85 : r84 = 0) (r87 : Int32) (hr87 : f_X7_isRiver M73 k1 x2 r79 = r87) (c88 : r87 = 0) (M90 : bM) (hM90 : up2 M73 7 r79.toNatClampNeg 1 = M90) (c91 : ¬ (r79 / 8) = 7) (r93 : Int32) (hr93 : f_X7_isRiver M90 k1 ((1 : Int32) - x2) r79 = r93) (c94 : r93 = 0) : lp_X7_isOpen_68 k1 x2 (n71 + 1) i71 x72 M73 = lp_X7_isOpen_68 k1 x2 n71 (i71 + 1) 0 M90 := by subst hr93 hM90 hr87 hr84 hr79; exact Eq.trans (u1_lp_X7_isOpen_68 k1 x2 n71 i71 x72 M73) (Eq.trans (if_pos c77) (Eq.trans (if_pos c80) (Eq.trans (if_neg c82) (Eq.trans (if_pos c85) (Eq.trans (if_pos c88) (Eq.trans (if_neg c91) (if_pos c94)))))))
theorem p_X7_isOpen_e96 (M : bM) (k1 : Nat) (x2 : Int32) (M18 : bM) (r19 : Int32) (M20 : bM) (r21 : Int32) (x64 : Int32) (M65 : bM) (i63 : Nat) (x72 : Int32) (M73 : bM) (i71 : Nat) (n71 : Nat) (c77 : x72 = 0) (r79 : Int32) (hr79 : f_X7_stepFrom (nI i71 / 3) (nI i71 - nI i71 / 3 * 3) = r79) (c80 : (M73 7 (nI i71 / 3).toNatClampNeg) = 1) (c82 : ¬ r79 = (-1)) (r84 : Int32) (hr84 : f_X7_isDam M73 k1 r79 = r84) (c85 : r84 = 0) (r87 : Int32) (hr87 : f_X7_isRiver M73 k1 x2 r79 = r87) (c88 : r87 = 0) (M90 : bM) (hM90 : up2 M73 7 r79.toNatClampNeg 1 = M90) (c91 : ¬ (r79 / 8) = 7) (r93 : Int32) (hr93 : f_X7_isRiver M90 k1 ((1 : Int32) - x2) r79 = r93) (c94 : ¬ r93 = 0) : lp_X7_isOpen_68 k1 x2 (n71 + 1) i71 x72 M73 = lp_X7_isOpen_68 k1 x2 n71 (i71 + 1) 1 M90 := by subst hr93 hM90 hr87 hr84 hr79; exact Eq.trans (u1_lp_X7_isOpen_68 k1 x2 n71 i71 x72 M73) (Eq.trans (if_pos c77) (Eq.trans (if_pos c80) (Eq.trans (if_neg c82) (Eq.trans (if_pos c85) (Eq.trans (if_pos c88) (Eq.trans (if_neg c91) (if_neg c94)))))))
theorem p_X7_isOpen_e99 (M : bM) (k1 : Nat) (x2 : Int32) (M18 : bM) (r19 : Int32) (M20 : bM) (r21 : Int32) (x64 : Int32) (M65 : bM) (i63 : Nat) (n63 : Nat) (c69 : x64 = 0) (x97 : Int32) (hx97 : (lp_X7_isOpen_68 k1 x2 192 0 x64 M65).1 = x97) (M98 : bM) (hM98 : (lp_X7_isOpen_68 k1 x2 192 0 x64 M65).2 = M98) : lp_X7_isOpen_54 k1 x2 (n63 + 1) i63 x64 M65 = lp_X7_isOpen_54 k1 x2 n63 (i63 + 1) x97 M98 := by subst hM98 hx97; exact Eq.trans (u1_lp_X7_isOpen_54 k1 x2 n63 i63 x64 M65) (if_pos c69)
theorem p_X7_isOpen_e102 (M : bM) (k1 : Nat) (x2 : Int32) (M18 : bM) (hM18 : (lp_X7_isOpen_2 64 0 M) = M18) (r19 : Int32) (hr19 : f_X7_head M18 k1 x2 = r19) (M20 : bM) (hM20 : up2 M18 7 r19.toNatClampNeg 1 = M20) (r21 : Int32) (hr21 : f_X7_head M20 k1 x2 = r21) (c22 : (r21 / 8) = 7) (x100 : Int32) (hx100 : (lp_X7_isOpen_54 k1 x2 64 0 1 M20).1 = x100) (M101 : bM) (hM101 : (lp_X7_isOpen_54 k1 x2 64 0 1 M20).2 = M101) : f_X7_isOpen M k1 x2 = (x100, M101) := by subst hM101 hx100 hr21 hM20 hr19 hM18; exact Eq.trans (u_f_X7_isOpen M k1 x2) (if_pos c22)
theorem fr_lp_X7_isOpen_2 (M : bM) (k1 : Nat) (x2 : Int32) (k : Nat) (hf : k ≠ 7) : ∀ (n11 i11 : Nat) (M12 : bM), (lp_X7_isOpen_2 n11 i11 M12) k = M12 k := by
  intro n11
  induction n11 with
  | zero =>
    intro i11 M12
    rw [p_X7_isOpen_e14 M k1 x2 M12 i11 ]
  | succ n11 ih11 =>
    intro i11 M12
    obtain ⟨M16, hM16⟩ : ∃ y : bM, y = up2 M12 7 i11 0 := ⟨_, rfl⟩
    rw [p_X7_isOpen_e17 M k1 x2 M12 i11 n11 M16 hM16.symm, ih11]
    try dsimp only
    rw [hM16, up2_row (by omega)]
theorem fr_lp_X7_isOpen_68 (M : bM) (k1 : Nat) (x2 : Int32) (M18 : bM) (r19 : Int32) (M20 : bM) (r21 : Int32) (x24 : Int32) (M25 : bM) (i23 : Nat) (k : Nat) (hf : k ≠ 7) : ∀ (n31 i31 : Nat) (x32 : Int32) (M33 : bM), (lp_X7_isOpen_68 k1 x2 n31 i31 x32 M33).2 k = M33 k := by
  intro n31
  induction n31 with
  | zero =>
    intro i31 x32 M33
    rw [p_X7_isOpen_e35 M k1 x2 M18 r19 M20 r21 x24 M25 i23 x32 M33 i31 ]
  | succ n31 ih31 =>
    intro i31 x32 M33
    by_cases c37 : x32 = 0
    · obtain ⟨r39, hr39⟩ : ∃ y : Int32, y = f_X7_stepFrom (nI i31 / 3) (nI i31 - nI i31 / 3 * 3) := ⟨_, rfl⟩
      by_cases c40 : (M33 7 (nI i31 / 3).toNatClampNeg) = 1
      · by_cases c42 : r39 = (-1)
        · rw [p_X7_isOpen_e43 M k1 x2 M18 r19 M20 r21 x24 M25 i23 x32 M33 i31 n31 c37 r39 hr39.symm c40 c42, ih31]
        · obtain ⟨r44, hr44⟩ : ∃ y : Int32, y = f_X7_isDam M33 k1 r39 := ⟨_, rfl⟩
          by_cases c45 : r44 = 0
          · obtain ⟨r47, hr47⟩ : ∃ y : Int32, y = f_X7_isRiver M33 k1 x2 r39 := ⟨_, rfl⟩
            by_cases c48 : r47 = 0
            · obtain ⟨M50, hM50⟩ : ∃ y : bM, y = up2 M33 7 r39.toNatClampNeg 1 := ⟨_, rfl⟩
              by_cases c51 : (r39 / 8) = 7
              · rw [p_X7_isOpen_e52 M k1 x2 M18 r19 M20 r21 x24 M25 i23 x32 M33 i31 n31 c37 r39 hr39.symm c40 c42 r44 hr44.symm c45 r47 hr47.symm c48 M50 hM50.symm c51, ih31]
                try dsimp only
                rw [hM50, up2_row (by omega)]
              · obtain ⟨r53, hr53⟩ : ∃ y : Int32, y = f_X7_isRiver M50 k1 ((1 : Int32) - x2) r39 := ⟨_, rfl⟩
                by_cases c54 : r53 = 0
                · rw [p_X7_isOpen_e55 M k1 x2 M18 r19 M20 r21 x24 M25 i23 x32 M33 i31 n31 c37 r39 hr39.symm c40 c42 r44 hr44.symm c45 r47 hr47.symm c48 M50 hM50.symm c51 r53 hr53.symm c54, ih31]
                  try dsimp only
                  rw [hM50, up2_row (by omega)]
                · rw [p_X7_isOpen_e56 M k1 x2 M18 r19 M20 r21 x24 M25 i23 x32 M33 i31 n31 c37 r39 hr39.symm c40 c42 r44 hr44.symm c45 r47 hr47.symm c48 M50 hM50.symm c51 r53 hr53.symm c54, ih31]
                  try dsimp only
                  rw [hM50, up2_row (by omega)]
            · rw [p_X7_isOpen_e49 M k1 x2 M18 r19 M20 r21 x24 M25 i23 x32 M33 i31 n31 c37 r39 hr39.symm c40 c42 r44 hr44.symm c45 r47 hr47.symm c48, ih31]
          · rw [p_X7_isOpen_e46 M k1 x2 M18 r19 M20 r21 x24 M25 i23 x32 M33 i31 n31 c37 r39 hr39.symm c40 c42 r44 hr44.symm c45, ih31]
      · rw [p_X7_isOpen_e41 M k1 x2 M18 r19 M20 r21 x24 M25 i23 x32 M33 i31 n31 c37 r39 hr39.symm c40, ih31]
    · rw [p_X7_isOpen_e38 M k1 x2 M18 r19 M20 r21 x24 M25 i23 x32 M33 i31 n31 c37]
theorem fr_lp_X7_isOpen_54 (M : bM) (k1 : Nat) (x2 : Int32) (M18 : bM) (r19 : Int32) (M20 : bM) (r21 : Int32) (k : Nat) (hf : k ≠ 7) : ∀ (n23 i23 : Nat) (x24 : Int32) (M25 : bM), (lp_X7_isOpen_54 k1 x2 n23 i23 x24 M25).2 k = M25 k := by
  intro n23
  induction n23 with
  | zero =>
    intro i23 x24 M25
    rw [p_X7_isOpen_e27 M k1 x2 M18 r19 M20 r21 x24 M25 i23 ]
  | succ n23 ih23 =>
    intro i23 x24 M25
    by_cases c29 : x24 = 0
    · obtain ⟨x57, hx57⟩ : ∃ y : Int32, y = (lp_X7_isOpen_68 k1 x2 192 0 x24 M25).1 := ⟨_, rfl⟩
      obtain ⟨M58, hM58⟩ : ∃ y : bM, y = (lp_X7_isOpen_68 k1 x2 192 0 x24 M25).2 := ⟨_, rfl⟩
      rw [p_X7_isOpen_e59 M k1 x2 M18 r19 M20 r21 x24 M25 i23 n23 c29 x57 hx57.symm M58 hM58.symm, ih23]
      try dsimp only
      rw [hM58, fr_lp_X7_isOpen_68 M k1 x2 M18 r19 M20 r21 x24 M25 i23 k hf 192 0 x24 M25]
    · rw [p_X7_isOpen_e30 M k1 x2 M18 r19 M20 r21 x24 M25 i23 n23 c29]
theorem fr_X7_isOpen (M : bM) (k1 : Nat) (x2 : Int32) (k : Nat) (hf : k ≠ 7) : (f_X7_isOpen M k1 x2).2 k = M k := by
  obtain ⟨M18, hM18⟩ : ∃ y : bM, y = (lp_X7_isOpen_2 64 0 M) := ⟨_, rfl⟩
  obtain ⟨r19, hr19⟩ : ∃ y : Int32, y = f_X7_head M18 k1 x2 := ⟨_, rfl⟩
  obtain ⟨M20, hM20⟩ : ∃ y : bM, y = up2 M18 7 r19.toNatClampNeg 1 := ⟨_, rfl⟩
  obtain ⟨r21, hr21⟩ : ∃ y : Int32, y = f_X7_head M20 k1 x2 := ⟨_, rfl⟩
  by_cases c22 : (r21 / 8) = 7
  · obtain ⟨x100, hx100⟩ : ∃ y : Int32, y = (lp_X7_isOpen_54 k1 x2 64 0 1 M20).1 := ⟨_, rfl⟩
    obtain ⟨M101, hM101⟩ : ∃ y : bM, y = (lp_X7_isOpen_54 k1 x2 64 0 1 M20).2 := ⟨_, rfl⟩
    rw [p_X7_isOpen_e102 M k1 x2 M18 hM18.symm r19 hr19.symm M20 hM20.symm r21 hr21.symm c22 x100 hx100.symm M101 hM101.symm]
    try dsimp only
    rw [hM101, fr_lp_X7_isOpen_54 M k1 x2 M18 r19 M20 r21 k hf 64 0 1 M20, hM20, up2_row (by omega), hM18, fr_lp_X7_isOpen_2 M k1 x2 k hf 64 0 M]
  · obtain ⟨x60, hx60⟩ : ∃ y : Int32, y = (lp_X7_isOpen_54 k1 x2 64 0 0 M20).1 := ⟨_, rfl⟩
    obtain ⟨M61, hM61⟩ : ∃ y : bM, y = (lp_X7_isOpen_54 k1 x2 64 0 0 M20).2 := ⟨_, rfl⟩
    rw [p_X7_isOpen_e62 M k1 x2 M18 hM18.symm r19 hr19.symm M20 hM20.symm r21 hr21.symm c22 x60 hx60.symm M61 hM61.symm]
    try dsimp only
    rw [hM61, fr_lp_X7_isOpen_54 M k1 x2 M18 r19 M20 r21 k hf 64 0 0 M20, hM20, up2_row (by omega), hM18, fr_lp_X7_isOpen_2 M k1 x2 k hf 64 0 M]
set_option maxHeartbeats 4000000 in
set_option maxRecDepth 100000 in
theorem c_X7_isOpen (l : Launch) (D : va_G) (E : Nat → ClassId) (o : Nat) (M : bM) (k1 : Nat) (x2 : Int32) (hk1 : LRR[k1]? = some (.inl (0, 404))) (hp : x2 = 0 ∨ x2 = 1) (hw : wfR M k1) (h7 : 7 ≠ k1) (hcl : cellR M k1) : Met l yX7_isOpen wsX7_isOpen (rmF 3) (bPc D E [.ref (o + 0), .ref (o + k1), .int x2] (fun H => bk D E LRR o M H)) (bQ (aI fun r H => ∃ M1 : bM, (r = (f_X7_isOpen M k1 x2).1 ∧ M1 = (f_X7_isOpen M k1 x2).2) ∧ bk D E LRR o M1 H) (rB o)) 0 0 (rB o) := by
  refine Met.ofW (cc := cX7_isOpen) (maxL := 7) (ret := (some .boolean)) (by decide) rfl ?_
  intro p e s m args below meth c s₁ B hml hv
  obtain ⟨rfl, hB, hK⟩ := hv
  have hx := B.exec
  have hb := B.bytes
  have hr := B.returns
  have hts := atoms_spec (ws := wsX7_isOpen) B.pre
  have hown : s.vm.findClass RX7 = some m.cls := findClass_of_methodNamed B.named
  have hlocks := B.notSynchronized
  have hS : bS (rB o) s.heap s.heap [] := bS.rf
  have hl := lv_entry ([.ref (o + 0), .ref (o + k1), .int x2]) (n := 7) (Nat.le_of_ble_eq_true rfl)
  rw [lg_entry_eq]
  generalize (lg_sl ([.ref (o + 0), .ref (o + k1), .int x2]) ++ List.replicate (7 - (lg_sl ([.ref (o + 0), .ref (o + k1), .int x2])).length) Slot.unset).toArray = ls at hl ⊢
  have hl : lv_has ls 7 [(0, .ref (o + 0)), (1, .ref (o + k1)), (2, .int x2)] := hl
  have hB : bk D E LRR o M s.heap := hB
  have hinX7 : ∀ w ∈ wsX70, w ∈ wsX7_isOpen := by decide +kernel
  refine lv_iconst (v := 0) hx hb dX7_isOpen_0 (by decide) ?_
  refine lv_istore_n (lv' := [(3, .int 0), (0, .ref (o + 0)), (1, .ref (o + k1)), (2, .int x2)]) hx hb dX7_isOpen_1 rfl hl (by decide) rfl (fun ls hl => ?_)
  have lp11 : ∀ (n11 i11 : Nat) (M12 : bM), i11 + n11 = 64 → (M12 k1 = M k1) → ∀ (H : Heap) (locs : List Loc), bk D E LRR o M12 H → bS (rB o) s.heap H locs → ∀ ls : Array Slot, lv_has ls 7 [(3, .int (nI i11)), (0, .ref (o + 0)), (1, .ref (o + k1)), (2, .int x2)] → (∀ (H : Heap) (locs : List Loc), ((lp_X7_isOpen_2 n11 i11 M12) k1 = M k1) → bk D E LRR o (lp_X7_isOpen_2 n11 i11 M12) H → bS (rB o) s.heap H locs → ∀ ls : Array Slot, lv_has ls 7 [(0, .ref (o + 0)), (1, .ref (o + k1)), (2, .int x2)] → W p l e (headSpec wsX7_isOpen (rmF 3)).room s m ([.ref (o + 0), .ref (o + k1), .int x2] : List Value).toArray below meth c H locs 0 0 (MQ below (bQ (aI fun r H => ∃ M1 : bM, (r = (f_X7_isOpen M k1 x2).1 ∧ M1 = (f_X7_isOpen M k1 x2).2) ∧ bk D E LRR o M1 H) (rB o)) ([.ref (o + 0), .ref (o + k1), .int x2] : List Value).toArray s 0 0 (rB o)) (F0 m 21 ls [])) → W p l e (headSpec wsX7_isOpen (rmF 3)).room s m ([.ref (o + 0), .ref (o + k1), .int x2] : List Value).toArray below meth c H locs 0 0 (MQ below (bQ (aI fun r H => ∃ M1 : bM, (r = (f_X7_isOpen M k1 x2).1 ∧ M1 = (f_X7_isOpen M k1 x2).2) ∧ bk D E LRR o M1 H) (rB o)) ([.ref (o + 0), .ref (o + k1), .int x2] : List Value).toArray s 0 0 (rB o)) (F0 m 2 ls []) := by
    intro n11
    induction n11 with
    | zero =>
      intro i11 M12 hi11 hv0_11 H locs hB hS ls hl hexit11
      have hz11 : i11 = 64 := by omega
      refine lv_iload_n hx hb dX7_isOpen_2 rfl (lv_at hl 0 rfl) ?_
      refine lv_bipush (v := 64) hx hb dX7_isOpen_3 (by decide) ?_
      refine lv_icmp_ge (tgt := 21) hx hb dX7_isOpen_5 (by decide) (fun c13 => ?_) (fun c13 => absurd (by rw [hz11]; exact Int32.le_refl _) c13)
      have e14 := p_X7_isOpen_e14 M k1 x2 M12 i11 
      rw [e14] at hexit11
      exact hexit11 _ _  hv0_11 hB hS ls (lv_sub hl [1, 2, 3] rfl)
    | succ n11 ih11 =>
      intro i11 M12 hi11 hv0_11 H locs hB hS ls hl hexit11
      refine lv_iload_n hx hb dX7_isOpen_2 rfl (lv_at hl 0 rfl) ?_
      refine lv_bipush (v := 64) hx hb dX7_isOpen_3 (by decide) ?_
      refine lv_icmp_ge (tgt := 21) hx hb dX7_isOpen_5 (by decide) (fun c15 => absurd c15 (nI_ge (a := i11) (b := 64) (by omega) (by decide))) (fun c15 => ?_)
      refine lv_aload_n hx hb dX7_isOpen_8 rfl (lv_at hl 1 rfl) ?_
      refine b_get (D := D) (E := E) (L := LRR) (o := o) (M := M12) (v := .ref (o + 7)) (C := RX7) (T := TX7) (N := 13) hx hb hts hinX7 hown hK.1 hB 0 lay_m0 rfl 9 (by decide) (hts (.fieldLink RX7 29 "RiverMeetingModel" "far" "[I") (List.mem_of_getElem? (i := 1) rfl)) (fun _ h9 => h9) rfl dX7_isOpen_9 ?_
      refine lv_iload_n hx hb dX7_isOpen_12 rfl (lv_at hl 0 rfl) ?_
      refine lv_iconst (v := 0) hx hb dX7_isOpen_13 (by decide) ?_
      refine b_iast hx hb hK.1 hB hS 7 (rB_of lay_m7) lay_m7 (vp_in_nI (by omega) (by decide)) dX7_isOpen_14 (fun M16 hM16 H locs hB _ hS => ?_)
      rw [nI_clamp (n := i11) (by omega)] at hM16
      refine lv_iinc (v := nI (i11 + 1)) (lv' := [(3, .int (nI (i11 + 1))), (0, .ref (o + 0)), (1, .ref (o + k1)), (2, .int x2)]) hx hb dX7_isOpen_15 hl (k := 0) rfl (nI_1 i11) (by decide) rfl (fun ls hl => ?_)
      refine lv_goto (tgt := 2) hx hb dX7_isOpen_18 (by decide) ?_
      have e17 := p_X7_isOpen_e17 M k1 x2 M12 i11 n11 M16 hM16.symm
      rw [e17] at hexit11
      exact ih11 (i11 + 1) M16 (by omega) ((by rw [hM16]; exact up2_row (Ne.symm h7) : M16 k1 = M12 k1).trans hv0_11) _ _ hB hS ls (lv_sub hl [0, 1, 2, 3] rfl) hexit11
  refine lp11 64 0 M (by omega) rfl _ _ hB hS ls (lv_sub hl [0, 1, 2, 3] rfl) ?_
  intro H locs hw0_11 hB hS ls hl
  obtain ⟨M18, hM18⟩ : ∃ y : bM, y = (lp_X7_isOpen_2 64 0 M) := ⟨_, rfl⟩
  rw [← hM18] at hB hw0_11
  have hl : lv_has ls 7 [(0, .ref (o + 0)), (1, .ref (o + k1)), (2, .int x2)] := hl
  refine lv_aload_n hx hb dX7_isOpen_21 rfl (lv_at hl 0 rfl) ?_
  refine b_get (D := D) (E := E) (L := LRR) (o := o) (M := M18) (v := .ref (o + 7)) (C := RX7) (T := TX7) (N := 13) hx hb hts hinX7 hown hK.1 hB 0 lay_m0 rfl 9 (by decide) (hts (.fieldLink RX7 29 "RiverMeetingModel" "far" "[I") (List.mem_of_getElem? (i := 1) rfl)) (fun _ h9 => h9) rfl dX7_isOpen_22 ?_
  refine lv_aload_n hx hb dX7_isOpen_25 rfl (lv_at hl 1 rfl) ?_
  refine lv_iload_n hx hb dX7_isOpen_26 rfl (lv_at hl 2 rfl) ?_
  refine b_pI (b_runS (As := [.ref (o + k1), .int x2]) (rest := [.ref (o + 7)]) ⟨hx, hb, hml, hown, hts⟩ (c_X7_head l D E o M18 k1 x2 hk1 hp (len_of hp (wf_ln (M := M18) (k := k1) (wf_eq (M := M) hw0_11 hw)))) (va_cwS 2 hts gX7_isOpen_X7_head rfl rfl rfl (by decide +kernel) ⟨Nat.le_of_ble_eq_true rfl, Nat.le_of_ble_eq_true rfl⟩) hK hB rfl hl rfl (Nat.le_of_ble_eq_true rfl) dX7_isOpen_27 ⟨Nat.zero_le _, Nat.zero_le _⟩) hS (fun r19 hr19 locs hS => ?_)
  refine lv_iconst (v := 1) hx hb dX7_isOpen_30 (by decide) ?_
  refine b_iast hx hb hK.1 hB hS 7 (rB_of lay_m7) lay_m7 (by rw [hr19, head_eq hw0_11]; exact hcl _ hp) dX7_isOpen_31 (fun M20 hM20 H locs hB _ hS => ?_)
  refine lv_aload_n hx hb dX7_isOpen_32 rfl (lv_at hl 1 rfl) ?_
  refine lv_iload_n hx hb dX7_isOpen_33 rfl (lv_at hl 2 rfl) ?_
  refine b_pI (b_runS (As := [.ref (o + k1), .int x2]) (rest := []) ⟨hx, hb, hml, hown, hts⟩ (c_X7_head l D E o M20 k1 x2 hk1 hp (len_of hp (wf_ln (M := M20) (k := k1) (by rw [hM20]; exact wf_row h7 (wf_eq (M := M) hw0_11 hw))))) (va_cwS 2 hts gX7_isOpen_X7_head rfl rfl rfl (by decide +kernel) ⟨Nat.le_of_ble_eq_true rfl, Nat.le_of_ble_eq_true rfl⟩) hK hB rfl hl rfl (Nat.le_of_ble_eq_true rfl) dX7_isOpen_34 ⟨Nat.zero_le _, Nat.zero_le _⟩) hS (fun r21 hr21 locs hS => ?_)
  refine lv_bipush (v := 8) hx hb dX7_isOpen_37 (by decide) ?_
  refine lv_idiv hx hb dX7_isOpen_39 (by decide) ?_
  refine lv_bipush (v := 7) hx hb dX7_isOpen_40 (by decide) ?_
  refine lv_icmp_ne (tgt := 49) hx hb dX7_isOpen_42 (by decide) (fun c22 => ?_) (fun c22 => ?_)
  · refine lv_iconst (v := 0) hx hb dX7_isOpen_49 (by decide) ?_
    refine lv_istore_n (lv' := [(3, .int 0), (0, .ref (o + 0)), (1, .ref (o + k1)), (2, .int x2)]) hx hb dX7_isOpen_50 rfl hl (by decide) rfl (fun ls hl => ?_)
    refine lv_iconst (v := 0) hx hb dX7_isOpen_51 (by decide) ?_
    refine lv_istore (lv' := [(4, .int 0), (3, .int 0), (0, .ref (o + 0)), (1, .ref (o + k1)), (2, .int x2)]) hx hb dX7_isOpen_52 hl (by decide) rfl (fun ls hl => ?_)
    have lp23 : ∀ (n23 i23 : Nat) (x24 : Int32) (M25 : bM), i23 + n23 = 64 → (x24 = 0 ∨ x24 = 1) → (M25 k1 = M k1) → ∀ (H : Heap) (locs : List Loc), bk D E LRR o M25 H → bS (rB o) s.heap H locs → ∀ ls : Array Slot, lv_has ls 7 [(4, .int (nI i23)), (3, .int x24), (0, .ref (o + 0)), (1, .ref (o + k1)), (2, .int x2)] → (∀ (H : Heap) (locs : List Loc), ((lp_X7_isOpen_54 k1 x2 n23 i23 x24 M25).1 = 0 ∨ (lp_X7_isOpen_54 k1 x2 n23 i23 x24 M25).1 = 1) → (((lp_X7_isOpen_54 k1 x2 n23 i23 x24 M25).2) k1 = M k1) → bk D E LRR o ((lp_X7_isOpen_54 k1 x2 n23 i23 x24 M25).2) H → bS (rB o) s.heap H locs → ∀ ls : Array Slot, lv_has ls 7 [(3, .int ((lp_X7_isOpen_54 k1 x2 n23 i23 x24 M25).1)), (0, .ref (o + 0)), (1, .ref (o + k1)), (2, .int x2)] → W p l e (headSpec wsX7_isOpen (rmF 3)).room s m ([.ref (o + 0), .ref (o + k1), .int x2] : List Value).toArray below meth c H locs 0 0 (MQ below (bQ (aI fun r H => ∃ M1 : bM, (r = (f_X7_isOpen M k1 x2).1 ∧ M1 = (f_X7_isOpen M k1 x2).2) ∧ bk D E LRR o M1 H) (rB o)) ([.ref (o + 0), .ref (o + k1), .int x2] : List Value).toArray s 0 0 (rB o)) (F0 m 179 ls [])) → W p l e (headSpec wsX7_isOpen (rmF 3)).room s m ([.ref (o + 0), .ref (o + k1), .int x2] : List Value).toArray below meth c H locs 0 0 (MQ below (bQ (aI fun r H => ∃ M1 : bM, (r = (f_X7_isOpen M k1 x2).1 ∧ M1 = (f_X7_isOpen M k1 x2).2) ∧ bk D E LRR o M1 H) (rB o)) ([.ref (o + 0), .ref (o + k1), .int x2] : List Value).toArray s 0 0 (rB o)) (F0 m 54 ls []) := by
      intro n23
      induction n23 with
      | zero =>
        intro i23 x24 M25 hi23 hv0_23 hv1_23 H locs hB hS ls hl hexit23
        have hz23 : i23 = 64 := by omega
        refine lv_iload hx hb dX7_isOpen_54 (lv_at hl 0 rfl) ?_
        refine lv_bipush (v := 64) hx hb dX7_isOpen_56 (by decide) ?_
        refine lv_icmp_ge (tgt := 179) hx hb dX7_isOpen_58 (by decide) (fun c26 => ?_) (fun c26 => absurd (by rw [hz23]; exact Int32.le_refl _) c26)
        have e27 := p_X7_isOpen_e27 M k1 x2 M18 r19 M20 r21 x24 M25 i23 
        rw [e27] at hexit23
        exact hexit23 _ _  hv0_23 hv1_23 hB hS ls (lv_sub hl [1, 2, 3, 4] rfl)
      | succ n23 ih23 =>
        intro i23 x24 M25 hi23 hv0_23 hv1_23 H locs hB hS ls hl hexit23
        refine lv_iload hx hb dX7_isOpen_54 (lv_at hl 0 rfl) ?_
        refine lv_bipush (v := 64) hx hb dX7_isOpen_56 (by decide) ?_
        refine lv_icmp_ge (tgt := 179) hx hb dX7_isOpen_58 (by decide) (fun c28 => absurd c28 (nI_ge (a := i23) (b := 64) (by omega) (by decide))) (fun c28 => ?_)
        refine lv_iload_n hx hb dX7_isOpen_61 rfl (lv_at hl 1 rfl) ?_
        refine lv_if_ne (tgt := 179) hx hb dX7_isOpen_62 (by decide) (fun c29 => ?_) (fun c29 => ?_)
        · have e30 := p_X7_isOpen_e30 M k1 x2 M18 r19 M20 r21 x24 M25 i23 n23 c29
          rw [e30] at hexit23
          exact hexit23 _ _  hv0_23 hv1_23 hB hS ls (lv_sub hl [1, 2, 3, 4] rfl)
        · refine lv_iconst (v := 0) hx hb dX7_isOpen_65 (by decide) ?_
          refine lv_istore (lv' := [(5, .int 0), (4, .int (nI i23)), (3, .int x24), (0, .ref (o + 0)), (1, .ref (o + k1)), (2, .int x2)]) hx hb dX7_isOpen_66 hl (by decide) rfl (fun ls hl => ?_)
          have lp31 : ∀ (n31 i31 : Nat) (x32 : Int32) (M33 : bM), i31 + n31 = 192 → (x32 = 0 ∨ x32 = 1) → (M33 k1 = M k1) → ∀ (H : Heap) (locs : List Loc), bk D E LRR o M33 H → bS (rB o) s.heap H locs → ∀ ls : Array Slot, lv_has ls 7 [(5, .int (nI i31)), (4, .int (nI i23)), (3, .int x32), (0, .ref (o + 0)), (1, .ref (o + k1)), (2, .int x2)] → (∀ (H : Heap) (locs : List Loc), ((lp_X7_isOpen_68 k1 x2 n31 i31 x32 M33).1 = 0 ∨ (lp_X7_isOpen_68 k1 x2 n31 i31 x32 M33).1 = 1) → (((lp_X7_isOpen_68 k1 x2 n31 i31 x32 M33).2) k1 = M k1) → bk D E LRR o ((lp_X7_isOpen_68 k1 x2 n31 i31 x32 M33).2) H → bS (rB o) s.heap H locs → ∀ ls : Array Slot, lv_has ls 7 [(4, .int (nI i23)), (3, .int ((lp_X7_isOpen_68 k1 x2 n31 i31 x32 M33).1)), (0, .ref (o + 0)), (1, .ref (o + k1)), (2, .int x2)] → W p l e (headSpec wsX7_isOpen (rmF 3)).room s m ([.ref (o + 0), .ref (o + k1), .int x2] : List Value).toArray below meth c H locs 0 0 (MQ below (bQ (aI fun r H => ∃ M1 : bM, (r = (f_X7_isOpen M k1 x2).1 ∧ M1 = (f_X7_isOpen M k1 x2).2) ∧ bk D E LRR o M1 H) (rB o)) ([.ref (o + 0), .ref (o + k1), .int x2] : List Value).toArray s 0 0 (rB o)) (F0 m 173 ls [])) → W p l e (headSpec wsX7_isOpen (rmF 3)).room s m ([.ref (o + 0), .ref (o + k1), .int x2] : List Value).toArray below meth c H locs 0 0 (MQ below (bQ (aI fun r H => ∃ M1 : bM, (r = (f_X7_isOpen M k1 x2).1 ∧ M1 = (f_X7_isOpen M k1 x2).2) ∧ bk D E LRR o M1 H) (rB o)) ([.ref (o + 0), .ref (o + k1), .int x2] : List Value).toArray s 0 0 (rB o)) (F0 m 68 ls []) := by
            intro n31
            induction n31 with
            | zero =>
              intro i31 x32 M33 hi31 hv0_31 hv1_31 H locs hB hS ls hl hexit31
              have hz31 : i31 = 192 := by omega
              refine lv_iload hx hb dX7_isOpen_68 (lv_at hl 0 rfl) ?_
              refine lv_sipush (v := 192) hx hb dX7_isOpen_70 (by decide) ?_
              refine lv_icmp_ge (tgt := 173) hx hb dX7_isOpen_73 (by decide) (fun c34 => ?_) (fun c34 => absurd (by rw [hz31]; exact Int32.le_refl _) c34)
              have e35 := p_X7_isOpen_e35 M k1 x2 M18 r19 M20 r21 x24 M25 i23 x32 M33 i31 
              rw [e35] at hexit31
              exact hexit31 _ _  hv0_31 hv1_31 hB hS ls (lv_sub hl [1, 2, 3, 4, 5] rfl)
            | succ n31 ih31 =>
              intro i31 x32 M33 hi31 hv0_31 hv1_31 H locs hB hS ls hl hexit31
              refine lv_iload hx hb dX7_isOpen_68 (lv_at hl 0 rfl) ?_
              refine lv_sipush (v := 192) hx hb dX7_isOpen_70 (by decide) ?_
              refine lv_icmp_ge (tgt := 173) hx hb dX7_isOpen_73 (by decide) (fun c36 => absurd c36 (nI_ge (a := i31) (b := 192) (by omega) (by decide))) (fun c36 => ?_)
              refine lv_iload_n hx hb dX7_isOpen_76 rfl (lv_at hl 2 rfl) ?_
              refine lv_if_ne (tgt := 173) hx hb dX7_isOpen_77 (by decide) (fun c37 => ?_) (fun c37 => ?_)
              · have e38 := p_X7_isOpen_e38 M k1 x2 M18 r19 M20 r21 x24 M25 i23 x32 M33 i31 n31 c37
                rw [e38] at hexit31
                exact hexit31 _ _  hv0_31 hv1_31 hB hS ls (lv_sub hl [1, 2, 3, 4, 5] rfl)
              · refine lv_iload hx hb dX7_isOpen_80 (lv_at hl 0 rfl) ?_
                refine lv_iconst (v := 3) hx hb dX7_isOpen_82 (by decide) ?_
                refine lv_idiv hx hb dX7_isOpen_83 (by decide) ?_
                refine lv_iload hx hb dX7_isOpen_84 (lv_at hl 0 rfl) ?_
                refine lv_iconst (v := 3) hx hb dX7_isOpen_86 (by decide) ?_
                refine lv_irem hx hb dX7_isOpen_87 (by decide) ?_
                refine b_pI (b_runS (As := [.int (nI i31 / 3), .int (nI i31 - nI i31 / 3 * 3)]) (rest := []) ⟨hx, hb, hml, hown, hts⟩ (c_X7_stepFrom l D E (nI i31 / 3) (nI i31 - nI i31 / 3 * 3)) (va_cwS 2 hts gX7_isOpen_X7_stepFrom rfl rfl rfl (by decide +kernel) ⟨Nat.le_of_ble_eq_true rfl, Nat.le_of_ble_eq_true rfl⟩) hK trivial rfl hl rfl (Nat.le_of_ble_eq_true rfl) dX7_isOpen_88 ⟨Nat.zero_le _, Nat.zero_le _⟩) hS (fun r39 hr39 locs hS => ?_)
                refine lv_istore (lv' := [(6, .int r39), (5, .int (nI i31)), (4, .int (nI i23)), (3, .int x32), (0, .ref (o + 0)), (1, .ref (o + k1)), (2, .int x2)]) hx hb dX7_isOpen_91 hl (by decide) rfl (fun ls hl => ?_)
                refine lv_aload_n hx hb dX7_isOpen_93 rfl (lv_at hl 4 rfl) ?_
                refine b_get (D := D) (E := E) (L := LRR) (o := o) (M := M33) (v := .ref (o + 7)) (C := RX7) (T := TX7) (N := 13) hx hb hts hinX7 hown hK.1 hB 0 lay_m0 rfl 9 (by decide) (hts (.fieldLink RX7 29 "RiverMeetingModel" "far" "[I") (List.mem_of_getElem? (i := 1) rfl)) (fun _ h9 => h9) rfl dX7_isOpen_94 ?_
                refine lv_iload hx hb dX7_isOpen_97 (lv_at hl 1 rfl) ?_
                refine lv_iconst (v := 3) hx hb dX7_isOpen_99 (by decide) ?_
                refine lv_idiv hx hb dX7_isOpen_100 (by decide) ?_
                refine b_iald hx hb hK.1 hB 7 lay_m7 (in_div3 (by omega)) dX7_isOpen_101 ?_
                refine lv_iconst (v := 1) hx hb dX7_isOpen_102 (by decide) ?_
                refine lv_icmp_ne (tgt := 167) hx hb dX7_isOpen_103 (by decide) (fun c40 => ?_) (fun c40 => ?_)
                · refine lv_iinc (v := nI (i31 + 1)) (lv' := [(5, .int (nI (i31 + 1))), (6, .int r39), (4, .int (nI i23)), (3, .int x32), (0, .ref (o + 0)), (1, .ref (o + k1)), (2, .int x2)]) hx hb dX7_isOpen_167 hl (k := 1) rfl (nI_1 i31) (by decide) rfl (fun ls hl => ?_)
                  refine lv_goto (tgt := 68) hx hb dX7_isOpen_170 (by decide) ?_
                  have e41 := p_X7_isOpen_e41 M k1 x2 M18 r19 M20 r21 x24 M25 i23 x32 M33 i31 n31 c37 r39 hr39.symm c40
                  rw [e41] at hexit31
                  exact ih31 (i31 + 1) x32 M33 (by omega) hv0_31 hv1_31 _ _ hB hS ls (lv_sub hl [0, 2, 3, 4, 5, 6] rfl) hexit31
                · refine lv_iload hx hb dX7_isOpen_106 (lv_at hl 0 rfl) ?_
                  refine lv_iconst (v := (-1)) hx hb dX7_isOpen_108 (by decide) ?_
                  refine lv_icmp_eq (tgt := 167) hx hb dX7_isOpen_109 (by decide) (fun c42 => ?_) (fun c42 => ?_)
                  · refine lv_iinc (v := nI (i31 + 1)) (lv' := [(5, .int (nI (i31 + 1))), (6, .int r39), (4, .int (nI i23)), (3, .int x32), (0, .ref (o + 0)), (1, .ref (o + k1)), (2, .int x2)]) hx hb dX7_isOpen_167 hl (k := 1) rfl (nI_1 i31) (by decide) rfl (fun ls hl => ?_)
                    refine lv_goto (tgt := 68) hx hb dX7_isOpen_170 (by decide) ?_
                    have e43 := p_X7_isOpen_e43 M k1 x2 M18 r19 M20 r21 x24 M25 i23 x32 M33 i31 n31 c37 r39 hr39.symm c40 c42
                    rw [e43] at hexit31
                    exact ih31 (i31 + 1) x32 M33 (by omega) hv0_31 hv1_31 _ _ hB hS ls (lv_sub hl [0, 2, 3, 4, 5, 6] rfl) hexit31
                  · refine lv_aload_n hx hb dX7_isOpen_112 rfl (lv_at hl 5 rfl) ?_
                    refine lv_iload hx hb dX7_isOpen_113 (lv_at hl 0 rfl) ?_
                    refine b_pI (b_runS (As := [.ref (o + k1), .int r39]) (rest := []) ⟨hx, hb, hml, hown, hts⟩ (c_X7_isDam l D E o M33 k1 r39 hk1 (by rw [hr39]; exact stepFrom_in (hr39 ▸ c42))) (va_cwS 2 hts gX7_isOpen_X7_isDam rfl rfl rfl (by decide +kernel) ⟨Nat.le_of_ble_eq_true rfl, Nat.le_of_ble_eq_true rfl⟩) hK hB rfl hl rfl (Nat.le_of_ble_eq_true rfl) dX7_isOpen_115 ⟨Nat.zero_le _, Nat.zero_le _⟩) hS (fun r44 hr44 locs hS => ?_)
                    refine lv_if_ne (tgt := 167) hx hb dX7_isOpen_118 (by decide) (fun c45 => ?_) (fun c45 => ?_)
                    · refine lv_iinc (v := nI (i31 + 1)) (lv' := [(5, .int (nI (i31 + 1))), (6, .int r39), (4, .int (nI i23)), (3, .int x32), (0, .ref (o + 0)), (1, .ref (o + k1)), (2, .int x2)]) hx hb dX7_isOpen_167 hl (k := 1) rfl (nI_1 i31) (by decide) rfl (fun ls hl => ?_)
                      refine lv_goto (tgt := 68) hx hb dX7_isOpen_170 (by decide) ?_
                      have e46 := p_X7_isOpen_e46 M k1 x2 M18 r19 M20 r21 x24 M25 i23 x32 M33 i31 n31 c37 r39 hr39.symm c40 c42 r44 hr44.symm c45
                      rw [e46] at hexit31
                      exact ih31 (i31 + 1) x32 M33 (by omega) hv0_31 hv1_31 _ _ hB hS ls (lv_sub hl [0, 2, 3, 4, 5, 6] rfl) hexit31
                    · refine lv_aload_n hx hb dX7_isOpen_121 rfl (lv_at hl 5 rfl) ?_
                      refine lv_iload_n hx hb dX7_isOpen_122 rfl (lv_at hl 6 rfl) ?_
                      refine lv_iload hx hb dX7_isOpen_123 (lv_at hl 0 rfl) ?_
                      refine b_pI (b_runS (As := [.ref (o + k1), .int x2, .int r39]) (rest := []) ⟨hx, hb, hml, hown, hts⟩ (c_X7_isRiver l D E o M33 k1 x2 r39 hk1 (by rw [hr39]; exact stepFrom_in (hr39 ▸ c42))) (va_cwS 3 hts gX7_isOpen_X7_isRiver rfl rfl rfl (by decide +kernel) ⟨Nat.le_of_ble_eq_true rfl, Nat.le_of_ble_eq_true rfl⟩) hK hB rfl hl rfl (Nat.le_of_ble_eq_true rfl) dX7_isOpen_125 ⟨Nat.zero_le _, Nat.zero_le _⟩) hS (fun r47 hr47 locs hS => ?_)
                      refine lv_if_ne (tgt := 167) hx hb dX7_isOpen_128 (by decide) (fun c48 => ?_) (fun c48 => ?_)
                      · refine lv_iinc (v := nI (i31 + 1)) (lv' := [(5, .int (nI (i31 + 1))), (6, .int r39), (4, .int (nI i23)), (3, .int x32), (0, .ref (o + 0)), (1, .ref (o + k1)), (2, .int x2)]) hx hb dX7_isOpen_167 hl (k := 1) rfl (nI_1 i31) (by decide) rfl (fun ls hl => ?_)
                        refine lv_goto (tgt := 68) hx hb dX7_isOpen_170 (by decide) ?_
                        have e49 := p_X7_isOpen_e49 M k1 x2 M18 r19 M20 r21 x24 M25 i23 x32 M33 i31 n31 c37 r39 hr39.symm c40 c42 r44 hr44.symm c45 r47 hr47.symm c48
                        rw [e49] at hexit31
                        exact ih31 (i31 + 1) x32 M33 (by omega) hv0_31 hv1_31 _ _ hB hS ls (lv_sub hl [0, 2, 3, 4, 5, 6] rfl) hexit31
                      · refine lv_aload_n hx hb dX7_isOpen_131 rfl (lv_at hl 4 rfl) ?_
                        refine b_get (D := D) (E := E) (L := LRR) (o := o) (M := M33) (v := .ref (o + 7)) (C := RX7) (T := TX7) (N := 13) hx hb hts hinX7 hown hK.1 hB 0 lay_m0 rfl 9 (by decide) (hts (.fieldLink RX7 29 "RiverMeetingModel" "far" "[I") (List.mem_of_getElem? (i := 1) rfl)) (fun _ h9 => h9) rfl dX7_isOpen_132 ?_
                        refine lv_iload hx hb dX7_isOpen_135 (lv_at hl 0 rfl) ?_
                        refine lv_iconst (v := 1) hx hb dX7_isOpen_137 (by decide) ?_
                        refine b_iast hx hb hK.1 hB hS 7 (rB_of lay_m7) lay_m7 (by rw [hr39]; exact stepFrom_in (hr39 ▸ c42)) dX7_isOpen_138 (fun M50 hM50 H locs hB _ hS => ?_)
                        refine lv_iload hx hb dX7_isOpen_139 (lv_at hl 0 rfl) ?_
                        refine lv_bipush (v := 8) hx hb dX7_isOpen_141 (by decide) ?_
                        refine lv_idiv hx hb dX7_isOpen_143 (by decide) ?_
                        refine lv_bipush (v := 7) hx hb dX7_isOpen_144 (by decide) ?_
                        refine lv_icmp_eq (tgt := 161) hx hb dX7_isOpen_146 (by decide) (fun c51 => ?_) (fun c51 => ?_)
                        · refine lv_iconst (v := 1) hx hb dX7_isOpen_161 (by decide) ?_
                          refine lv_goto (tgt := 166) hx hb dX7_isOpen_162 (by decide) ?_
                          refine lv_istore_n (lv' := [(3, .int 1), (6, .int r39), (5, .int (nI i31)), (4, .int (nI i23)), (0, .ref (o + 0)), (1, .ref (o + k1)), (2, .int x2)]) hx hb dX7_isOpen_166 rfl hl (by decide) rfl (fun ls hl => ?_)
                          refine lv_iinc (v := nI (i31 + 1)) (lv' := [(5, .int (nI (i31 + 1))), (3, .int 1), (6, .int r39), (4, .int (nI i23)), (0, .ref (o + 0)), (1, .ref (o + k1)), (2, .int x2)]) hx hb dX7_isOpen_167 hl (k := 2) rfl (nI_1 i31) (by decide) rfl (fun ls hl => ?_)
                          refine lv_goto (tgt := 68) hx hb dX7_isOpen_170 (by decide) ?_
                          have e52 := p_X7_isOpen_e52 M k1 x2 M18 r19 M20 r21 x24 M25 i23 x32 M33 i31 n31 c37 r39 hr39.symm c40 c42 r44 hr44.symm c45 r47 hr47.symm c48 M50 hM50.symm c51
                          rw [e52] at hexit31
                          exact ih31 (i31 + 1) 1 M50 (by omega) (Or.inr rfl) ((by rw [hM50]; exact up2_row (Ne.symm h7) : M50 k1 = M33 k1).trans hv1_31) _ _ hB hS ls (lv_sub hl [0, 3, 1, 4, 5, 6] rfl) hexit31
                        · refine lv_aload_n hx hb dX7_isOpen_149 rfl (lv_at hl 5 rfl) ?_
                          refine lv_iconst (v := 1) hx hb dX7_isOpen_150 (by decide) ?_
                          refine lv_iload_n hx hb dX7_isOpen_151 rfl (lv_at hl 6 rfl) ?_
                          refine lv_isub hx hb dX7_isOpen_152 ?_
                          refine lv_iload hx hb dX7_isOpen_153 (lv_at hl 0 rfl) ?_
                          refine b_pI (b_runS (As := [.ref (o + k1), .int ((1 : Int32) - x2), .int r39]) (rest := []) ⟨hx, hb, hml, hown, hts⟩ (c_X7_isRiver l D E o M50 k1 ((1 : Int32) - x2) r39 hk1 (by rw [hr39]; exact stepFrom_in (hr39 ▸ c42))) (va_cwS 3 hts gX7_isOpen_X7_isRiver rfl rfl rfl (by decide +kernel) ⟨Nat.le_of_ble_eq_true rfl, Nat.le_of_ble_eq_true rfl⟩) hK hB rfl hl rfl (Nat.le_of_ble_eq_true rfl) dX7_isOpen_155 ⟨Nat.zero_le _, Nat.zero_le _⟩) hS (fun r53 hr53 locs hS => ?_)
                          refine lv_if_eq (tgt := 165) hx hb dX7_isOpen_158 (by decide) (fun c54 => ?_) (fun c54 => ?_)
                          · refine lv_iconst (v := 0) hx hb dX7_isOpen_165 (by decide) ?_
                            refine lv_istore_n (lv' := [(3, .int 0), (6, .int r39), (5, .int (nI i31)), (4, .int (nI i23)), (0, .ref (o + 0)), (1, .ref (o + k1)), (2, .int x2)]) hx hb dX7_isOpen_166 rfl hl (by decide) rfl (fun ls hl => ?_)
                            refine lv_iinc (v := nI (i31 + 1)) (lv' := [(5, .int (nI (i31 + 1))), (3, .int 0), (6, .int r39), (4, .int (nI i23)), (0, .ref (o + 0)), (1, .ref (o + k1)), (2, .int x2)]) hx hb dX7_isOpen_167 hl (k := 2) rfl (nI_1 i31) (by decide) rfl (fun ls hl => ?_)
                            refine lv_goto (tgt := 68) hx hb dX7_isOpen_170 (by decide) ?_
                            have e55 := p_X7_isOpen_e55 M k1 x2 M18 r19 M20 r21 x24 M25 i23 x32 M33 i31 n31 c37 r39 hr39.symm c40 c42 r44 hr44.symm c45 r47 hr47.symm c48 M50 hM50.symm c51 r53 hr53.symm c54
                            rw [e55] at hexit31
                            exact ih31 (i31 + 1) 0 M50 (by omega) (Or.inl rfl) ((by rw [hM50]; exact up2_row (Ne.symm h7) : M50 k1 = M33 k1).trans hv1_31) _ _ hB hS ls (lv_sub hl [0, 3, 1, 4, 5, 6] rfl) hexit31
                          · refine lv_iconst (v := 1) hx hb dX7_isOpen_161 (by decide) ?_
                            refine lv_goto (tgt := 166) hx hb dX7_isOpen_162 (by decide) ?_
                            refine lv_istore_n (lv' := [(3, .int 1), (6, .int r39), (5, .int (nI i31)), (4, .int (nI i23)), (0, .ref (o + 0)), (1, .ref (o + k1)), (2, .int x2)]) hx hb dX7_isOpen_166 rfl hl (by decide) rfl (fun ls hl => ?_)
                            refine lv_iinc (v := nI (i31 + 1)) (lv' := [(5, .int (nI (i31 + 1))), (3, .int 1), (6, .int r39), (4, .int (nI i23)), (0, .ref (o + 0)), (1, .ref (o + k1)), (2, .int x2)]) hx hb dX7_isOpen_167 hl (k := 2) rfl (nI_1 i31) (by decide) rfl (fun ls hl => ?_)
                            refine lv_goto (tgt := 68) hx hb dX7_isOpen_170 (by decide) ?_
                            have e56 := p_X7_isOpen_e56 M k1 x2 M18 r19 M20 r21 x24 M25 i23 x32 M33 i31 n31 c37 r39 hr39.symm c40 c42 r44 hr44.symm c45 r47 hr47.symm c48 M50 hM50.symm c51 r53 hr53.symm c54
                            rw [e56] at hexit31
                            exact ih31 (i31 + 1) 1 M50 (by omega) (Or.inr rfl) ((by rw [hM50]; exact up2_row (Ne.symm h7) : M50 k1 = M33 k1).trans hv1_31) _ _ hB hS ls (lv_sub hl [0, 3, 1, 4, 5, 6] rfl) hexit31
          refine lp31 192 0 x24 M25 (by omega) hv0_23 hv1_23 _ _ hB hS ls (lv_sub hl [0, 1, 2, 3, 4, 5] rfl) ?_
          intro H locs hw0_31 hw1_31 hB hS ls hl
          obtain ⟨x57, hx57⟩ : ∃ y : Int32, y = (lp_X7_isOpen_68 k1 x2 192 0 x24 M25).1 := ⟨_, rfl⟩
          rw [← hx57] at hl hw0_31
          obtain ⟨M58, hM58⟩ : ∃ y : bM, y = (lp_X7_isOpen_68 k1 x2 192 0 x24 M25).2 := ⟨_, rfl⟩
          rw [← hM58] at hB hw1_31
          have hl : lv_has ls 7 [(4, .int (nI i23)), (3, .int x57), (0, .ref (o + 0)), (1, .ref (o + k1)), (2, .int x2)] := hl
          refine lv_iinc (v := nI (i23 + 1)) (lv' := [(4, .int (nI (i23 + 1))), (3, .int x57), (0, .ref (o + 0)), (1, .ref (o + k1)), (2, .int x2)]) hx hb dX7_isOpen_173 hl (k := 0) rfl (nI_1 i23) (by decide) rfl (fun ls hl => ?_)
          refine lv_goto (tgt := 54) hx hb dX7_isOpen_176 (by decide) ?_
          have e59 := p_X7_isOpen_e59 M k1 x2 M18 r19 M20 r21 x24 M25 i23 n23 c29 x57 hx57.symm M58 hM58.symm
          rw [e59] at hexit23
          exact ih23 (i23 + 1) x57 M58 (by omega) hw0_31 hw1_31 _ _ hB hS ls (lv_sub hl [0, 1, 2, 3, 4] rfl) hexit23
    refine lp23 64 0 0 M20 (by omega) (Or.inl rfl) ((by rw [hM20]; exact up2_row (Ne.symm h7) : M20 k1 = M18 k1).trans hw0_11) _ _ hB hS ls (lv_sub hl [0, 1, 2, 3, 4] rfl) ?_
    intro H locs hw0_23 hw1_23 hB hS ls hl
    obtain ⟨x60, hx60⟩ : ∃ y : Int32, y = (lp_X7_isOpen_54 k1 x2 64 0 0 M20).1 := ⟨_, rfl⟩
    rw [← hx60] at hl hw0_23
    obtain ⟨M61, hM61⟩ : ∃ y : bM, y = (lp_X7_isOpen_54 k1 x2 64 0 0 M20).2 := ⟨_, rfl⟩
    rw [← hM61] at hB hw1_23
    have hl : lv_has ls 7 [(3, .int x60), (0, .ref (o + 0)), (1, .ref (o + k1)), (2, .int x2)] := hl
    refine lv_iload_n hx hb dX7_isOpen_179 rfl (lv_at hl 0 rfl) ?_
    have e62 := p_X7_isOpen_e62 M k1 x2 M18 hM18.symm r19 hr19.symm M20 hM20.symm r21 hr21.symm c22 x60 hx60.symm M61 hM61.symm
    exact b_zret hx hb hr (nar_z hw0_23) hlocks hS ⟨_, rfl, _, ⟨(congrArg Prod.fst e62).symm, (congrArg Prod.snd e62).symm⟩, hB⟩ dX7_isOpen_180
  · refine lv_iconst (v := 1) hx hb dX7_isOpen_45 (by decide) ?_
    refine lv_goto (tgt := 50) hx hb dX7_isOpen_46 (by decide) ?_
    refine lv_istore_n (lv' := [(3, .int 1), (0, .ref (o + 0)), (1, .ref (o + k1)), (2, .int x2)]) hx hb dX7_isOpen_50 rfl hl (by decide) rfl (fun ls hl => ?_)
    refine lv_iconst (v := 0) hx hb dX7_isOpen_51 (by decide) ?_
    refine lv_istore (lv' := [(4, .int 0), (3, .int 1), (0, .ref (o + 0)), (1, .ref (o + k1)), (2, .int x2)]) hx hb dX7_isOpen_52 hl (by decide) rfl (fun ls hl => ?_)
    have lp63 : ∀ (n63 i63 : Nat) (x64 : Int32) (M65 : bM), i63 + n63 = 64 → (x64 = 0 ∨ x64 = 1) → (M65 k1 = M k1) → ∀ (H : Heap) (locs : List Loc), bk D E LRR o M65 H → bS (rB o) s.heap H locs → ∀ ls : Array Slot, lv_has ls 7 [(4, .int (nI i63)), (3, .int x64), (0, .ref (o + 0)), (1, .ref (o + k1)), (2, .int x2)] → (∀ (H : Heap) (locs : List Loc), ((lp_X7_isOpen_54 k1 x2 n63 i63 x64 M65).1 = 0 ∨ (lp_X7_isOpen_54 k1 x2 n63 i63 x64 M65).1 = 1) → (((lp_X7_isOpen_54 k1 x2 n63 i63 x64 M65).2) k1 = M k1) → bk D E LRR o ((lp_X7_isOpen_54 k1 x2 n63 i63 x64 M65).2) H → bS (rB o) s.heap H locs → ∀ ls : Array Slot, lv_has ls 7 [(3, .int ((lp_X7_isOpen_54 k1 x2 n63 i63 x64 M65).1)), (0, .ref (o + 0)), (1, .ref (o + k1)), (2, .int x2)] → W p l e (headSpec wsX7_isOpen (rmF 3)).room s m ([.ref (o + 0), .ref (o + k1), .int x2] : List Value).toArray below meth c H locs 0 0 (MQ below (bQ (aI fun r H => ∃ M1 : bM, (r = (f_X7_isOpen M k1 x2).1 ∧ M1 = (f_X7_isOpen M k1 x2).2) ∧ bk D E LRR o M1 H) (rB o)) ([.ref (o + 0), .ref (o + k1), .int x2] : List Value).toArray s 0 0 (rB o)) (F0 m 179 ls [])) → W p l e (headSpec wsX7_isOpen (rmF 3)).room s m ([.ref (o + 0), .ref (o + k1), .int x2] : List Value).toArray below meth c H locs 0 0 (MQ below (bQ (aI fun r H => ∃ M1 : bM, (r = (f_X7_isOpen M k1 x2).1 ∧ M1 = (f_X7_isOpen M k1 x2).2) ∧ bk D E LRR o M1 H) (rB o)) ([.ref (o + 0), .ref (o + k1), .int x2] : List Value).toArray s 0 0 (rB o)) (F0 m 54 ls []) := by
      intro n63
      induction n63 with
      | zero =>
        intro i63 x64 M65 hi63 hv0_63 hv1_63 H locs hB hS ls hl hexit63
        have hz63 : i63 = 64 := by omega
        refine lv_iload hx hb dX7_isOpen_54 (lv_at hl 0 rfl) ?_
        refine lv_bipush (v := 64) hx hb dX7_isOpen_56 (by decide) ?_
        refine lv_icmp_ge (tgt := 179) hx hb dX7_isOpen_58 (by decide) (fun c66 => ?_) (fun c66 => absurd (by rw [hz63]; exact Int32.le_refl _) c66)
        have e67 := p_X7_isOpen_e67 M k1 x2 M18 r19 M20 r21 x64 M65 i63 
        rw [e67] at hexit63
        exact hexit63 _ _  hv0_63 hv1_63 hB hS ls (lv_sub hl [1, 2, 3, 4] rfl)
      | succ n63 ih63 =>
        intro i63 x64 M65 hi63 hv0_63 hv1_63 H locs hB hS ls hl hexit63
        refine lv_iload hx hb dX7_isOpen_54 (lv_at hl 0 rfl) ?_
        refine lv_bipush (v := 64) hx hb dX7_isOpen_56 (by decide) ?_
        refine lv_icmp_ge (tgt := 179) hx hb dX7_isOpen_58 (by decide) (fun c68 => absurd c68 (nI_ge (a := i63) (b := 64) (by omega) (by decide))) (fun c68 => ?_)
        refine lv_iload_n hx hb dX7_isOpen_61 rfl (lv_at hl 1 rfl) ?_
        refine lv_if_ne (tgt := 179) hx hb dX7_isOpen_62 (by decide) (fun c69 => ?_) (fun c69 => ?_)
        · have e70 := p_X7_isOpen_e70 M k1 x2 M18 r19 M20 r21 x64 M65 i63 n63 c69
          rw [e70] at hexit63
          exact hexit63 _ _  hv0_63 hv1_63 hB hS ls (lv_sub hl [1, 2, 3, 4] rfl)
        · refine lv_iconst (v := 0) hx hb dX7_isOpen_65 (by decide) ?_
          refine lv_istore (lv' := [(5, .int 0), (4, .int (nI i63)), (3, .int x64), (0, .ref (o + 0)), (1, .ref (o + k1)), (2, .int x2)]) hx hb dX7_isOpen_66 hl (by decide) rfl (fun ls hl => ?_)
          have lp71 : ∀ (n71 i71 : Nat) (x72 : Int32) (M73 : bM), i71 + n71 = 192 → (x72 = 0 ∨ x72 = 1) → (M73 k1 = M k1) → ∀ (H : Heap) (locs : List Loc), bk D E LRR o M73 H → bS (rB o) s.heap H locs → ∀ ls : Array Slot, lv_has ls 7 [(5, .int (nI i71)), (4, .int (nI i63)), (3, .int x72), (0, .ref (o + 0)), (1, .ref (o + k1)), (2, .int x2)] → (∀ (H : Heap) (locs : List Loc), ((lp_X7_isOpen_68 k1 x2 n71 i71 x72 M73).1 = 0 ∨ (lp_X7_isOpen_68 k1 x2 n71 i71 x72 M73).1 = 1) → (((lp_X7_isOpen_68 k1 x2 n71 i71 x72 M73).2) k1 = M k1) → bk D E LRR o ((lp_X7_isOpen_68 k1 x2 n71 i71 x72 M73).2) H → bS (rB o) s.heap H locs → ∀ ls : Array Slot, lv_has ls 7 [(4, .int (nI i63)), (3, .int ((lp_X7_isOpen_68 k1 x2 n71 i71 x72 M73).1)), (0, .ref (o + 0)), (1, .ref (o + k1)), (2, .int x2)] → W p l e (headSpec wsX7_isOpen (rmF 3)).room s m ([.ref (o + 0), .ref (o + k1), .int x2] : List Value).toArray below meth c H locs 0 0 (MQ below (bQ (aI fun r H => ∃ M1 : bM, (r = (f_X7_isOpen M k1 x2).1 ∧ M1 = (f_X7_isOpen M k1 x2).2) ∧ bk D E LRR o M1 H) (rB o)) ([.ref (o + 0), .ref (o + k1), .int x2] : List Value).toArray s 0 0 (rB o)) (F0 m 173 ls [])) → W p l e (headSpec wsX7_isOpen (rmF 3)).room s m ([.ref (o + 0), .ref (o + k1), .int x2] : List Value).toArray below meth c H locs 0 0 (MQ below (bQ (aI fun r H => ∃ M1 : bM, (r = (f_X7_isOpen M k1 x2).1 ∧ M1 = (f_X7_isOpen M k1 x2).2) ∧ bk D E LRR o M1 H) (rB o)) ([.ref (o + 0), .ref (o + k1), .int x2] : List Value).toArray s 0 0 (rB o)) (F0 m 68 ls []) := by
            intro n71
            induction n71 with
            | zero =>
              intro i71 x72 M73 hi71 hv0_71 hv1_71 H locs hB hS ls hl hexit71
              have hz71 : i71 = 192 := by omega
              refine lv_iload hx hb dX7_isOpen_68 (lv_at hl 0 rfl) ?_
              refine lv_sipush (v := 192) hx hb dX7_isOpen_70 (by decide) ?_
              refine lv_icmp_ge (tgt := 173) hx hb dX7_isOpen_73 (by decide) (fun c74 => ?_) (fun c74 => absurd (by rw [hz71]; exact Int32.le_refl _) c74)
              have e75 := p_X7_isOpen_e75 M k1 x2 M18 r19 M20 r21 x64 M65 i63 x72 M73 i71 
              rw [e75] at hexit71
              exact hexit71 _ _  hv0_71 hv1_71 hB hS ls (lv_sub hl [1, 2, 3, 4, 5] rfl)
            | succ n71 ih71 =>
              intro i71 x72 M73 hi71 hv0_71 hv1_71 H locs hB hS ls hl hexit71
              refine lv_iload hx hb dX7_isOpen_68 (lv_at hl 0 rfl) ?_
              refine lv_sipush (v := 192) hx hb dX7_isOpen_70 (by decide) ?_
              refine lv_icmp_ge (tgt := 173) hx hb dX7_isOpen_73 (by decide) (fun c76 => absurd c76 (nI_ge (a := i71) (b := 192) (by omega) (by decide))) (fun c76 => ?_)
              refine lv_iload_n hx hb dX7_isOpen_76 rfl (lv_at hl 2 rfl) ?_
              refine lv_if_ne (tgt := 173) hx hb dX7_isOpen_77 (by decide) (fun c77 => ?_) (fun c77 => ?_)
              · have e78 := p_X7_isOpen_e78 M k1 x2 M18 r19 M20 r21 x64 M65 i63 x72 M73 i71 n71 c77
                rw [e78] at hexit71
                exact hexit71 _ _  hv0_71 hv1_71 hB hS ls (lv_sub hl [1, 2, 3, 4, 5] rfl)
              · refine lv_iload hx hb dX7_isOpen_80 (lv_at hl 0 rfl) ?_
                refine lv_iconst (v := 3) hx hb dX7_isOpen_82 (by decide) ?_
                refine lv_idiv hx hb dX7_isOpen_83 (by decide) ?_
                refine lv_iload hx hb dX7_isOpen_84 (lv_at hl 0 rfl) ?_
                refine lv_iconst (v := 3) hx hb dX7_isOpen_86 (by decide) ?_
                refine lv_irem hx hb dX7_isOpen_87 (by decide) ?_
                refine b_pI (b_runS (As := [.int (nI i71 / 3), .int (nI i71 - nI i71 / 3 * 3)]) (rest := []) ⟨hx, hb, hml, hown, hts⟩ (c_X7_stepFrom l D E (nI i71 / 3) (nI i71 - nI i71 / 3 * 3)) (va_cwS 2 hts gX7_isOpen_X7_stepFrom rfl rfl rfl (by decide +kernel) ⟨Nat.le_of_ble_eq_true rfl, Nat.le_of_ble_eq_true rfl⟩) hK trivial rfl hl rfl (Nat.le_of_ble_eq_true rfl) dX7_isOpen_88 ⟨Nat.zero_le _, Nat.zero_le _⟩) hS (fun r79 hr79 locs hS => ?_)
                refine lv_istore (lv' := [(6, .int r79), (5, .int (nI i71)), (4, .int (nI i63)), (3, .int x72), (0, .ref (o + 0)), (1, .ref (o + k1)), (2, .int x2)]) hx hb dX7_isOpen_91 hl (by decide) rfl (fun ls hl => ?_)
                refine lv_aload_n hx hb dX7_isOpen_93 rfl (lv_at hl 4 rfl) ?_
                refine b_get (D := D) (E := E) (L := LRR) (o := o) (M := M73) (v := .ref (o + 7)) (C := RX7) (T := TX7) (N := 13) hx hb hts hinX7 hown hK.1 hB 0 lay_m0 rfl 9 (by decide) (hts (.fieldLink RX7 29 "RiverMeetingModel" "far" "[I") (List.mem_of_getElem? (i := 1) rfl)) (fun _ h9 => h9) rfl dX7_isOpen_94 ?_
                refine lv_iload hx hb dX7_isOpen_97 (lv_at hl 1 rfl) ?_
                refine lv_iconst (v := 3) hx hb dX7_isOpen_99 (by decide) ?_
                refine lv_idiv hx hb dX7_isOpen_100 (by decide) ?_
                refine b_iald hx hb hK.1 hB 7 lay_m7 (in_div3 (by omega)) dX7_isOpen_101 ?_
                refine lv_iconst (v := 1) hx hb dX7_isOpen_102 (by decide) ?_
                refine lv_icmp_ne (tgt := 167) hx hb dX7_isOpen_103 (by decide) (fun c80 => ?_) (fun c80 => ?_)
                · refine lv_iinc (v := nI (i71 + 1)) (lv' := [(5, .int (nI (i71 + 1))), (6, .int r79), (4, .int (nI i63)), (3, .int x72), (0, .ref (o + 0)), (1, .ref (o + k1)), (2, .int x2)]) hx hb dX7_isOpen_167 hl (k := 1) rfl (nI_1 i71) (by decide) rfl (fun ls hl => ?_)
                  refine lv_goto (tgt := 68) hx hb dX7_isOpen_170 (by decide) ?_
                  have e81 := p_X7_isOpen_e81 M k1 x2 M18 r19 M20 r21 x64 M65 i63 x72 M73 i71 n71 c77 r79 hr79.symm c80
                  rw [e81] at hexit71
                  exact ih71 (i71 + 1) x72 M73 (by omega) hv0_71 hv1_71 _ _ hB hS ls (lv_sub hl [0, 2, 3, 4, 5, 6] rfl) hexit71
                · refine lv_iload hx hb dX7_isOpen_106 (lv_at hl 0 rfl) ?_
                  refine lv_iconst (v := (-1)) hx hb dX7_isOpen_108 (by decide) ?_
                  refine lv_icmp_eq (tgt := 167) hx hb dX7_isOpen_109 (by decide) (fun c82 => ?_) (fun c82 => ?_)
                  · refine lv_iinc (v := nI (i71 + 1)) (lv' := [(5, .int (nI (i71 + 1))), (6, .int r79), (4, .int (nI i63)), (3, .int x72), (0, .ref (o + 0)), (1, .ref (o + k1)), (2, .int x2)]) hx hb dX7_isOpen_167 hl (k := 1) rfl (nI_1 i71) (by decide) rfl (fun ls hl => ?_)
                    refine lv_goto (tgt := 68) hx hb dX7_isOpen_170 (by decide) ?_
                    have e83 := p_X7_isOpen_e83 M k1 x2 M18 r19 M20 r21 x64 M65 i63 x72 M73 i71 n71 c77 r79 hr79.symm c80 c82
                    rw [e83] at hexit71
                    exact ih71 (i71 + 1) x72 M73 (by omega) hv0_71 hv1_71 _ _ hB hS ls (lv_sub hl [0, 2, 3, 4, 5, 6] rfl) hexit71
                  · refine lv_aload_n hx hb dX7_isOpen_112 rfl (lv_at hl 5 rfl) ?_
                    refine lv_iload hx hb dX7_isOpen_113 (lv_at hl 0 rfl) ?_
                    refine b_pI (b_runS (As := [.ref (o + k1), .int r79]) (rest := []) ⟨hx, hb, hml, hown, hts⟩ (c_X7_isDam l D E o M73 k1 r79 hk1 (by rw [hr79]; exact stepFrom_in (hr79 ▸ c82))) (va_cwS 2 hts gX7_isOpen_X7_isDam rfl rfl rfl (by decide +kernel) ⟨Nat.le_of_ble_eq_true rfl, Nat.le_of_ble_eq_true rfl⟩) hK hB rfl hl rfl (Nat.le_of_ble_eq_true rfl) dX7_isOpen_115 ⟨Nat.zero_le _, Nat.zero_le _⟩) hS (fun r84 hr84 locs hS => ?_)
                    refine lv_if_ne (tgt := 167) hx hb dX7_isOpen_118 (by decide) (fun c85 => ?_) (fun c85 => ?_)
                    · refine lv_iinc (v := nI (i71 + 1)) (lv' := [(5, .int (nI (i71 + 1))), (6, .int r79), (4, .int (nI i63)), (3, .int x72), (0, .ref (o + 0)), (1, .ref (o + k1)), (2, .int x2)]) hx hb dX7_isOpen_167 hl (k := 1) rfl (nI_1 i71) (by decide) rfl (fun ls hl => ?_)
                      refine lv_goto (tgt := 68) hx hb dX7_isOpen_170 (by decide) ?_
                      have e86 := p_X7_isOpen_e86 M k1 x2 M18 r19 M20 r21 x64 M65 i63 x72 M73 i71 n71 c77 r79 hr79.symm c80 c82 r84 hr84.symm c85
                      rw [e86] at hexit71
                      exact ih71 (i71 + 1) x72 M73 (by omega) hv0_71 hv1_71 _ _ hB hS ls (lv_sub hl [0, 2, 3, 4, 5, 6] rfl) hexit71
                    · refine lv_aload_n hx hb dX7_isOpen_121 rfl (lv_at hl 5 rfl) ?_
                      refine lv_iload_n hx hb dX7_isOpen_122 rfl (lv_at hl 6 rfl) ?_
                      refine lv_iload hx hb dX7_isOpen_123 (lv_at hl 0 rfl) ?_
                      refine b_pI (b_runS (As := [.ref (o + k1), .int x2, .int r79]) (rest := []) ⟨hx, hb, hml, hown, hts⟩ (c_X7_isRiver l D E o M73 k1 x2 r79 hk1 (by rw [hr79]; exact stepFrom_in (hr79 ▸ c82))) (va_cwS 3 hts gX7_isOpen_X7_isRiver rfl rfl rfl (by decide +kernel) ⟨Nat.le_of_ble_eq_true rfl, Nat.le_of_ble_eq_true rfl⟩) hK hB rfl hl rfl (Nat.le_of_ble_eq_true rfl) dX7_isOpen_125 ⟨Nat.zero_le _, Nat.zero_le _⟩) hS (fun r87 hr87 locs hS => ?_)
                      refine lv_if_ne (tgt := 167) hx hb dX7_isOpen_128 (by decide) (fun c88 => ?_) (fun c88 => ?_)
                      · refine lv_iinc (v := nI (i71 + 1)) (lv' := [(5, .int (nI (i71 + 1))), (6, .int r79), (4, .int (nI i63)), (3, .int x72), (0, .ref (o + 0)), (1, .ref (o + k1)), (2, .int x2)]) hx hb dX7_isOpen_167 hl (k := 1) rfl (nI_1 i71) (by decide) rfl (fun ls hl => ?_)
                        refine lv_goto (tgt := 68) hx hb dX7_isOpen_170 (by decide) ?_
                        have e89 := p_X7_isOpen_e89 M k1 x2 M18 r19 M20 r21 x64 M65 i63 x72 M73 i71 n71 c77 r79 hr79.symm c80 c82 r84 hr84.symm c85 r87 hr87.symm c88
                        rw [e89] at hexit71
                        exact ih71 (i71 + 1) x72 M73 (by omega) hv0_71 hv1_71 _ _ hB hS ls (lv_sub hl [0, 2, 3, 4, 5, 6] rfl) hexit71
                      · refine lv_aload_n hx hb dX7_isOpen_131 rfl (lv_at hl 4 rfl) ?_
                        refine b_get (D := D) (E := E) (L := LRR) (o := o) (M := M73) (v := .ref (o + 7)) (C := RX7) (T := TX7) (N := 13) hx hb hts hinX7 hown hK.1 hB 0 lay_m0 rfl 9 (by decide) (hts (.fieldLink RX7 29 "RiverMeetingModel" "far" "[I") (List.mem_of_getElem? (i := 1) rfl)) (fun _ h9 => h9) rfl dX7_isOpen_132 ?_
                        refine lv_iload hx hb dX7_isOpen_135 (lv_at hl 0 rfl) ?_
                        refine lv_iconst (v := 1) hx hb dX7_isOpen_137 (by decide) ?_
                        refine b_iast hx hb hK.1 hB hS 7 (rB_of lay_m7) lay_m7 (by rw [hr79]; exact stepFrom_in (hr79 ▸ c82)) dX7_isOpen_138 (fun M90 hM90 H locs hB _ hS => ?_)
                        refine lv_iload hx hb dX7_isOpen_139 (lv_at hl 0 rfl) ?_
                        refine lv_bipush (v := 8) hx hb dX7_isOpen_141 (by decide) ?_
                        refine lv_idiv hx hb dX7_isOpen_143 (by decide) ?_
                        refine lv_bipush (v := 7) hx hb dX7_isOpen_144 (by decide) ?_
                        refine lv_icmp_eq (tgt := 161) hx hb dX7_isOpen_146 (by decide) (fun c91 => ?_) (fun c91 => ?_)
                        · refine lv_iconst (v := 1) hx hb dX7_isOpen_161 (by decide) ?_
                          refine lv_goto (tgt := 166) hx hb dX7_isOpen_162 (by decide) ?_
                          refine lv_istore_n (lv' := [(3, .int 1), (6, .int r79), (5, .int (nI i71)), (4, .int (nI i63)), (0, .ref (o + 0)), (1, .ref (o + k1)), (2, .int x2)]) hx hb dX7_isOpen_166 rfl hl (by decide) rfl (fun ls hl => ?_)
                          refine lv_iinc (v := nI (i71 + 1)) (lv' := [(5, .int (nI (i71 + 1))), (3, .int 1), (6, .int r79), (4, .int (nI i63)), (0, .ref (o + 0)), (1, .ref (o + k1)), (2, .int x2)]) hx hb dX7_isOpen_167 hl (k := 2) rfl (nI_1 i71) (by decide) rfl (fun ls hl => ?_)
                          refine lv_goto (tgt := 68) hx hb dX7_isOpen_170 (by decide) ?_
                          have e92 := p_X7_isOpen_e92 M k1 x2 M18 r19 M20 r21 x64 M65 i63 x72 M73 i71 n71 c77 r79 hr79.symm c80 c82 r84 hr84.symm c85 r87 hr87.symm c88 M90 hM90.symm c91
                          rw [e92] at hexit71
                          exact ih71 (i71 + 1) 1 M90 (by omega) (Or.inr rfl) ((by rw [hM90]; exact up2_row (Ne.symm h7) : M90 k1 = M73 k1).trans hv1_71) _ _ hB hS ls (lv_sub hl [0, 3, 1, 4, 5, 6] rfl) hexit71
                        · refine lv_aload_n hx hb dX7_isOpen_149 rfl (lv_at hl 5 rfl) ?_
                          refine lv_iconst (v := 1) hx hb dX7_isOpen_150 (by decide) ?_
                          refine lv_iload_n hx hb dX7_isOpen_151 rfl (lv_at hl 6 rfl) ?_
                          refine lv_isub hx hb dX7_isOpen_152 ?_
                          refine lv_iload hx hb dX7_isOpen_153 (lv_at hl 0 rfl) ?_
                          refine b_pI (b_runS (As := [.ref (o + k1), .int ((1 : Int32) - x2), .int r79]) (rest := []) ⟨hx, hb, hml, hown, hts⟩ (c_X7_isRiver l D E o M90 k1 ((1 : Int32) - x2) r79 hk1 (by rw [hr79]; exact stepFrom_in (hr79 ▸ c82))) (va_cwS 3 hts gX7_isOpen_X7_isRiver rfl rfl rfl (by decide +kernel) ⟨Nat.le_of_ble_eq_true rfl, Nat.le_of_ble_eq_true rfl⟩) hK hB rfl hl rfl (Nat.le_of_ble_eq_true rfl) dX7_isOpen_155 ⟨Nat.zero_le _, Nat.zero_le _⟩) hS (fun r93 hr93 locs hS => ?_)
                          refine lv_if_eq (tgt := 165) hx hb dX7_isOpen_158 (by decide) (fun c94 => ?_) (fun c94 => ?_)
                          · refine lv_iconst (v := 0) hx hb dX7_isOpen_165 (by decide) ?_
                            refine lv_istore_n (lv' := [(3, .int 0), (6, .int r79), (5, .int (nI i71)), (4, .int (nI i63)), (0, .ref (o + 0)), (1, .ref (o + k1)), (2, .int x2)]) hx hb dX7_isOpen_166 rfl hl (by decide) rfl (fun ls hl => ?_)
                            refine lv_iinc (v := nI (i71 + 1)) (lv' := [(5, .int (nI (i71 + 1))), (3, .int 0), (6, .int r79), (4, .int (nI i63)), (0, .ref (o + 0)), (1, .ref (o + k1)), (2, .int x2)]) hx hb dX7_isOpen_167 hl (k := 2) rfl (nI_1 i71) (by decide) rfl (fun ls hl => ?_)
                            refine lv_goto (tgt := 68) hx hb dX7_isOpen_170 (by decide) ?_
                            have e95 := p_X7_isOpen_e95 M k1 x2 M18 r19 M20 r21 x64 M65 i63 x72 M73 i71 n71 c77 r79 hr79.symm c80 c82 r84 hr84.symm c85 r87 hr87.symm c88 M90 hM90.symm c91 r93 hr93.symm c94
                            rw [e95] at hexit71
                            exact ih71 (i71 + 1) 0 M90 (by omega) (Or.inl rfl) ((by rw [hM90]; exact up2_row (Ne.symm h7) : M90 k1 = M73 k1).trans hv1_71) _ _ hB hS ls (lv_sub hl [0, 3, 1, 4, 5, 6] rfl) hexit71
                          · refine lv_iconst (v := 1) hx hb dX7_isOpen_161 (by decide) ?_
                            refine lv_goto (tgt := 166) hx hb dX7_isOpen_162 (by decide) ?_
                            refine lv_istore_n (lv' := [(3, .int 1), (6, .int r79), (5, .int (nI i71)), (4, .int (nI i63)), (0, .ref (o + 0)), (1, .ref (o + k1)), (2, .int x2)]) hx hb dX7_isOpen_166 rfl hl (by decide) rfl (fun ls hl => ?_)
                            refine lv_iinc (v := nI (i71 + 1)) (lv' := [(5, .int (nI (i71 + 1))), (3, .int 1), (6, .int r79), (4, .int (nI i63)), (0, .ref (o + 0)), (1, .ref (o + k1)), (2, .int x2)]) hx hb dX7_isOpen_167 hl (k := 2) rfl (nI_1 i71) (by decide) rfl (fun ls hl => ?_)
                            refine lv_goto (tgt := 68) hx hb dX7_isOpen_170 (by decide) ?_
                            have e96 := p_X7_isOpen_e96 M k1 x2 M18 r19 M20 r21 x64 M65 i63 x72 M73 i71 n71 c77 r79 hr79.symm c80 c82 r84 hr84.symm c85 r87 hr87.symm c88 M90 hM90.symm c91 r93 hr93.symm c94
                            rw [e96] at hexit71
                            exact ih71 (i71 + 1) 1 M90 (by omega) (Or.inr rfl) ((by rw [hM90]; exact up2_row (Ne.symm h7) : M90 k1 = M73 k1).trans hv1_71) _ _ hB hS ls (lv_sub hl [0, 3, 1, 4, 5, 6] rfl) hexit71
          refine lp71 192 0 x64 M65 (by omega) hv0_63 hv1_63 _ _ hB hS ls (lv_sub hl [0, 1, 2, 3, 4, 5] rfl) ?_
          intro H locs hw0_71 hw1_71 hB hS ls hl
          obtain ⟨x97, hx97⟩ : ∃ y : Int32, y = (lp_X7_isOpen_68 k1 x2 192 0 x64 M65).1 := ⟨_, rfl⟩
          rw [← hx97] at hl hw0_71
          obtain ⟨M98, hM98⟩ : ∃ y : bM, y = (lp_X7_isOpen_68 k1 x2 192 0 x64 M65).2 := ⟨_, rfl⟩
          rw [← hM98] at hB hw1_71
          have hl : lv_has ls 7 [(4, .int (nI i63)), (3, .int x97), (0, .ref (o + 0)), (1, .ref (o + k1)), (2, .int x2)] := hl
          refine lv_iinc (v := nI (i63 + 1)) (lv' := [(4, .int (nI (i63 + 1))), (3, .int x97), (0, .ref (o + 0)), (1, .ref (o + k1)), (2, .int x2)]) hx hb dX7_isOpen_173 hl (k := 0) rfl (nI_1 i63) (by decide) rfl (fun ls hl => ?_)
          refine lv_goto (tgt := 54) hx hb dX7_isOpen_176 (by decide) ?_
          have e99 := p_X7_isOpen_e99 M k1 x2 M18 r19 M20 r21 x64 M65 i63 n63 c69 x97 hx97.symm M98 hM98.symm
          rw [e99] at hexit63
          exact ih63 (i63 + 1) x97 M98 (by omega) hw0_71 hw1_71 _ _ hB hS ls (lv_sub hl [0, 1, 2, 3, 4] rfl) hexit63
    refine lp63 64 0 1 M20 (by omega) (Or.inr rfl) ((by rw [hM20]; exact up2_row (Ne.symm h7) : M20 k1 = M18 k1).trans hw0_11) _ _ hB hS ls (lv_sub hl [0, 1, 2, 3, 4] rfl) ?_
    intro H locs hw0_63 hw1_63 hB hS ls hl
    obtain ⟨x100, hx100⟩ : ∃ y : Int32, y = (lp_X7_isOpen_54 k1 x2 64 0 1 M20).1 := ⟨_, rfl⟩
    rw [← hx100] at hl hw0_63
    obtain ⟨M101, hM101⟩ : ∃ y : bM, y = (lp_X7_isOpen_54 k1 x2 64 0 1 M20).2 := ⟨_, rfl⟩
    rw [← hM101] at hB hw1_63
    have hl : lv_has ls 7 [(3, .int x100), (0, .ref (o + 0)), (1, .ref (o + k1)), (2, .int x2)] := hl
    refine lv_iload_n hx hb dX7_isOpen_179 rfl (lv_at hl 0 rfl) ?_
    have e102 := p_X7_isOpen_e102 M k1 x2 M18 hM18.symm r19 hr19.symm M20 hM20.symm r21 hr21.symm c22 x100 hx100.symm M101 hM101.symm
    exact b_zret hx hb hr (nar_z hw0_63) hlocks hS ⟨_, rfl, _, ⟨(congrArg Prod.fst e102).symm, (congrArg Prod.snd e102).symm⟩, hB⟩ dX7_isOpen_180

def f_X7_damReason (M : bM) (k1 : Nat) (x2 : Int32) : Int32 × bM := (let r11 : Int32 := f_X7_isBare M k1 x2; (if r11 = 0 then (1, M) else (let r13 : Int32 := f_X7_of M k1 (M k1 2) 1; (if r13 = 3 then (2, M) else (let M15 : bM := up2 M k1 ((148 : Int32) + x2).toNatClampNeg 0; (let r17 : Int32 := (f_X7_isOpen M15 k1 0).1; (let M16 : bM := (f_X7_isOpen M15 k1 0).2; (if r17 = 0 then (let M19 : bM := up2 M16 k1 ((148 : Int32) + x2).toNatClampNeg (-1); (3, M19)) else (let r23 : Int32 := (f_X7_isOpen M16 k1 1).1; (let M22 : bM := (f_X7_isOpen M16 k1 1).2; (if r23 = 0 then (let M25 : bM := up2 M22 k1 ((148 : Int32) + x2).toNatClampNeg (-1); (3, M25)) else (let M28 : bM := up2 M22 k1 ((148 : Int32) + x2).toNatClampNeg (-1); (0, M28)))))))))))))
theorem u_f_X7_damReason (M : bM) (k1 : Nat) (x2 : Int32) : f_X7_damReason M k1 x2 = (let r11 : Int32 := f_X7_isBare M k1 x2; (if r11 = 0 then (1, M) else (let r13 : Int32 := f_X7_of M k1 (M k1 2) 1; (if r13 = 3 then (2, M) else (let M15 : bM := up2 M k1 ((148 : Int32) + x2).toNatClampNeg 0; (let r17 : Int32 := (f_X7_isOpen M15 k1 0).1; (let M16 : bM := (f_X7_isOpen M15 k1 0).2; (if r17 = 0 then (let M19 : bM := up2 M16 k1 ((148 : Int32) + x2).toNatClampNeg (-1); (3, M19)) else (let r23 : Int32 := (f_X7_isOpen M16 k1 1).1; (let M22 : bM := (f_X7_isOpen M16 k1 1).2; (if r23 = 0 then (let M25 : bM := up2 M22 k1 ((148 : Int32) + x2).toNatClampNeg (-1); (3, M25)) else (let M28 : bM := up2 M22 k1 ((148 : Int32) + x2).toNatClampNeg (-1); (0, M28))))))))))))) := rfl
theorem p_X7_damReason_e21 (M : bM) (k1 : Nat) (x2 : Int32) (r11 : Int32) (hr11 : f_X7_isBare M k1 x2 = r11) (c12 : ¬ r11 = 0) (r13 : Int32) (hr13 : f_X7_of M k1 (M k1 2) 1 = r13) (c14 : ¬ r13 = 3) (M15 : bM) (hM15 : up2 M k1 ((148 : Int32) + x2).toNatClampNeg 0 = M15) (r17 : Int32) (hr17 : (f_X7_isOpen M15 k1 0).1 = r17) (M16 : bM) (hM16 : (f_X7_isOpen M15 k1 0).2 = M16) (c18 : r17 = 0) (M19 : bM) (hM19 : up2 M16 k1 ((148 : Int32) + x2).toNatClampNeg (-1) = M19) : f_X7_damReason M k1 x2 = (3, M19) := by subst hM19 hM16 hr17 hM15 hr13 hr11; exact Eq.trans (u_f_X7_damReason M k1 x2) (Eq.trans (if_neg c12) (Eq.trans (if_neg c14) (if_pos c18)))
theorem p_X7_damReason_e27 (M : bM) (k1 : Nat) (x2 : Int32) (r11 : Int32) (hr11 : f_X7_isBare M k1 x2 = r11) (c12 : ¬ r11 = 0) (r13 : Int32) (hr13 : f_X7_of M k1 (M k1 2) 1 = r13) (c14 : ¬ r13 = 3) (M15 : bM) (hM15 : up2 M k1 ((148 : Int32) + x2).toNatClampNeg 0 = M15) (r17 : Int32) (hr17 : (f_X7_isOpen M15 k1 0).1 = r17) (M16 : bM) (hM16 : (f_X7_isOpen M15 k1 0).2 = M16) (c18 : ¬ r17 = 0) (r23 : Int32) (hr23 : (f_X7_isOpen M16 k1 1).1 = r23) (M22 : bM) (hM22 : (f_X7_isOpen M16 k1 1).2 = M22) (c24 : r23 = 0) (M25 : bM) (hM25 : up2 M22 k1 ((148 : Int32) + x2).toNatClampNeg (-1) = M25) : f_X7_damReason M k1 x2 = (3, M25) := by subst hM25 hM22 hr23 hM16 hr17 hM15 hr13 hr11; exact Eq.trans (u_f_X7_damReason M k1 x2) (Eq.trans (if_neg c12) (Eq.trans (if_neg c14) (Eq.trans (if_neg c18) (if_pos c24))))
theorem p_X7_damReason_e30 (M : bM) (k1 : Nat) (x2 : Int32) (r11 : Int32) (hr11 : f_X7_isBare M k1 x2 = r11) (c12 : ¬ r11 = 0) (r13 : Int32) (hr13 : f_X7_of M k1 (M k1 2) 1 = r13) (c14 : ¬ r13 = 3) (M15 : bM) (hM15 : up2 M k1 ((148 : Int32) + x2).toNatClampNeg 0 = M15) (r17 : Int32) (hr17 : (f_X7_isOpen M15 k1 0).1 = r17) (M16 : bM) (hM16 : (f_X7_isOpen M15 k1 0).2 = M16) (c18 : ¬ r17 = 0) (r23 : Int32) (hr23 : (f_X7_isOpen M16 k1 1).1 = r23) (M22 : bM) (hM22 : (f_X7_isOpen M16 k1 1).2 = M22) (c24 : ¬ r23 = 0) (M28 : bM) (hM28 : up2 M22 k1 ((148 : Int32) + x2).toNatClampNeg (-1) = M28) : f_X7_damReason M k1 x2 = (0, M28) := by subst hM28 hM22 hr23 hM16 hr17 hM15 hr13 hr11; exact Eq.trans (u_f_X7_damReason M k1 x2) (Eq.trans (if_neg c12) (Eq.trans (if_neg c14) (Eq.trans (if_neg c18) (if_neg c24))))
theorem p_X7_damReason_e31 (M : bM) (k1 : Nat) (x2 : Int32) (r11 : Int32) (hr11 : f_X7_isBare M k1 x2 = r11) (c12 : ¬ r11 = 0) (r13 : Int32) (hr13 : f_X7_of M k1 (M k1 2) 1 = r13) (c14 : r13 = 3) : f_X7_damReason M k1 x2 = (2, M) := by subst hr13 hr11; exact Eq.trans (u_f_X7_damReason M k1 x2) (Eq.trans (if_neg c12) (if_pos c14))
theorem p_X7_damReason_e32 (M : bM) (k1 : Nat) (x2 : Int32) (r11 : Int32) (hr11 : f_X7_isBare M k1 x2 = r11) (c12 : r11 = 0) : f_X7_damReason M k1 x2 = (1, M) := by subst hr11; exact Eq.trans (u_f_X7_damReason M k1 x2) (if_pos c12)
theorem fr_X7_damReason (M : bM) (k1 : Nat) (x2 : Int32) (k : Nat) (hk : k ≠ k1) (hf : k ≠ 7) : (f_X7_damReason M k1 x2).2 k = M k := by
  obtain ⟨r11, hr11⟩ : ∃ y : Int32, y = f_X7_isBare M k1 x2 := ⟨_, rfl⟩
  by_cases c12 : r11 = 0
  · rw [p_X7_damReason_e32 M k1 x2 r11 hr11.symm c12]
  · obtain ⟨r13, hr13⟩ : ∃ y : Int32, y = f_X7_of M k1 (M k1 2) 1 := ⟨_, rfl⟩
    by_cases c14 : r13 = 3
    · rw [p_X7_damReason_e31 M k1 x2 r11 hr11.symm c12 r13 hr13.symm c14]
    · obtain ⟨M15, hM15⟩ : ∃ y : bM, y = up2 M k1 ((148 : Int32) + x2).toNatClampNeg 0 := ⟨_, rfl⟩
      obtain ⟨r17, hr17⟩ : ∃ y : Int32, y = (f_X7_isOpen M15 k1 0).1 := ⟨_, rfl⟩
      obtain ⟨M16, hM16⟩ : ∃ y : bM, y = (f_X7_isOpen M15 k1 0).2 := ⟨_, rfl⟩
      by_cases c18 : r17 = 0
      · obtain ⟨M19, hM19⟩ : ∃ y : bM, y = up2 M16 k1 ((148 : Int32) + x2).toNatClampNeg (-1) := ⟨_, rfl⟩
        rw [p_X7_damReason_e21 M k1 x2 r11 hr11.symm c12 r13 hr13.symm c14 M15 hM15.symm r17 hr17.symm M16 hM16.symm c18 M19 hM19.symm]
        try dsimp only
        rw [hM19, up2_row (by omega), hM16, fr_X7_isOpen M15 k1 0 k (by omega), hM15, up2_row (by omega)]
      · obtain ⟨r23, hr23⟩ : ∃ y : Int32, y = (f_X7_isOpen M16 k1 1).1 := ⟨_, rfl⟩
        obtain ⟨M22, hM22⟩ : ∃ y : bM, y = (f_X7_isOpen M16 k1 1).2 := ⟨_, rfl⟩
        by_cases c24 : r23 = 0
        · obtain ⟨M25, hM25⟩ : ∃ y : bM, y = up2 M22 k1 ((148 : Int32) + x2).toNatClampNeg (-1) := ⟨_, rfl⟩
          rw [p_X7_damReason_e27 M k1 x2 r11 hr11.symm c12 r13 hr13.symm c14 M15 hM15.symm r17 hr17.symm M16 hM16.symm c18 r23 hr23.symm M22 hM22.symm c24 M25 hM25.symm]
          try dsimp only
          rw [hM25, up2_row (by omega), hM22, fr_X7_isOpen M16 k1 1 k (by omega), hM16, fr_X7_isOpen M15 k1 0 k (by omega), hM15, up2_row (by omega)]
        · obtain ⟨M28, hM28⟩ : ∃ y : bM, y = up2 M22 k1 ((148 : Int32) + x2).toNatClampNeg (-1) := ⟨_, rfl⟩
          rw [p_X7_damReason_e30 M k1 x2 r11 hr11.symm c12 r13 hr13.symm c14 M15 hM15.symm r17 hr17.symm M16 hM16.symm c18 r23 hr23.symm M22 hM22.symm c24 M28 hM28.symm]
          try dsimp only
          rw [hM28, up2_row (by omega), hM22, fr_X7_isOpen M16 k1 1 k (by omega), hM16, fr_X7_isOpen M15 k1 0 k (by omega), hM15, up2_row (by omega)]
set_option maxHeartbeats 4000000 in
set_option maxRecDepth 100000 in
theorem c_X7_damReason (l : Launch) (D : va_G) (E : Nat → ClassId) (o : Nat) (M : bM) (k1 : Nat) (x2 : Int32) (hk1 : LRR[k1]? = some (.inl (0, 404))) (hc : vp_in x2 64) (hw : wfR M k1) (h7 : 7 ≠ k1) (hcl : cellR M k1) : Met l yX7_damReason wsX7_damReason (rmF 4) (bPc D E [.ref (o + 0), .ref (o + k1), .int x2] (fun H => bk D E LRR o M H)) (bQ (aI fun r H => ∃ M1 : bM, (r = (f_X7_damReason M k1 x2).1 ∧ M1 = (f_X7_damReason M k1 x2).2) ∧ bk D E LRR o M1 H) (rB o)) 0 0 (rB o) := by
  refine Met.ofW (cc := cX7_damReason) (maxL := 4) (ret := (some .int)) (by decide) rfl ?_
  intro p e s m args below meth c s₁ B hml hv
  obtain ⟨rfl, hB, hK⟩ := hv
  have hx := B.exec
  have hb := B.bytes
  have hr := B.returns
  have hts := atoms_spec (ws := wsX7_damReason) B.pre
  have hown : s.vm.findClass RX7 = some m.cls := findClass_of_methodNamed B.named
  have hlocks := B.notSynchronized
  have hS : bS (rB o) s.heap s.heap [] := bS.rf
  have hl := lv_entry ([.ref (o + 0), .ref (o + k1), .int x2]) (n := 4) (Nat.le_of_ble_eq_true rfl)
  rw [lg_entry_eq]
  generalize (lg_sl ([.ref (o + 0), .ref (o + k1), .int x2]) ++ List.replicate (4 - (lg_sl ([.ref (o + 0), .ref (o + k1), .int x2])).length) Slot.unset).toArray = ls at hl ⊢
  have hl : lv_has ls 4 [(0, .ref (o + 0)), (1, .ref (o + k1)), (2, .int x2)] := hl
  have hB : bk D E LRR o M s.heap := hB
  refine lv_aload_n hx hb dX7_damReason_0 rfl (lv_at hl 1 rfl) ?_
  refine lv_iload_n hx hb dX7_damReason_1 rfl (lv_at hl 2 rfl) ?_
  refine b_pI (b_runS (As := [.ref (o + k1), .int x2]) (rest := []) ⟨hx, hb, hml, hown, hts⟩ (c_X7_isBare l D E o M k1 x2 hk1 hc) (va_cwS 2 hts gX7_damReason_X7_isBare rfl rfl rfl (by decide +kernel) ⟨Nat.le_of_ble_eq_true rfl, Nat.le_of_ble_eq_true rfl⟩) hK hB rfl hl rfl (Nat.le_of_ble_eq_true rfl) dX7_damReason_2 ⟨Nat.zero_le _, Nat.zero_le _⟩) hS (fun r11 hr11 locs hS => ?_)
  refine lv_if_ne (tgt := 10) hx hb dX7_damReason_5 (by decide) (fun c12 => ?_) (fun c12 => ?_)
  · refine lv_aload_n hx hb dX7_damReason_10 rfl (lv_at hl 1 rfl) ?_
    refine lv_aload_n hx hb dX7_damReason_11 rfl (lv_at hl 1 rfl) ?_
    refine lv_iconst (v := 2) hx hb dX7_damReason_12 (by decide) ?_
    refine b_iald hx hb hK.1 hB k1 hk1 (vp_in_nI (n := 2) (by decide) (by decide)) dX7_damReason_13 ?_
    refine lv_const (y := M k1 2) (by rfl) ?_
    refine lv_iconst (v := 1) hx hb dX7_damReason_14 (by decide) ?_
    refine b_pI (b_runS (As := [.ref (o + k1), .int (M k1 2), .int 1]) (rest := []) ⟨hx, hb, hml, hown, hts⟩ (c_X7_of l D E o M k1 (M k1 2) 1 hk1 (wf_tb (M := M) (k := k1) hw) (vp_in_nI (n := 1) (by decide) (by decide))) (va_cwS 3 hts gX7_damReason_X7_of rfl rfl rfl (by decide +kernel) ⟨Nat.le_of_ble_eq_true rfl, Nat.le_of_ble_eq_true rfl⟩) hK hB rfl hl rfl (Nat.le_of_ble_eq_true rfl) dX7_damReason_15 ⟨Nat.zero_le _, Nat.zero_le _⟩) hS (fun r13 hr13 locs hS => ?_)
    refine lv_iconst (v := 3) hx hb dX7_damReason_18 (by decide) ?_
    refine lv_icmp_ne (tgt := 24) hx hb dX7_damReason_19 (by decide) (fun c14 => ?_) (fun c14 => ?_)
    · refine lv_aload_n hx hb dX7_damReason_24 rfl (lv_at hl 1 rfl) ?_
      refine lv_sipush (v := 148) hx hb dX7_damReason_25 (by decide) ?_
      refine lv_iload_n hx hb dX7_damReason_28 rfl (lv_at hl 2 rfl) ?_
      refine lv_iadd hx hb dX7_damReason_29 ?_
      refine lv_iconst (v := 0) hx hb dX7_damReason_30 (by decide) ?_
      refine b_iast hx hb hK.1 hB hS k1 (rB_of hk1) hk1 (in_addX 148 hc (by decide) (by decide)) dX7_damReason_31 (fun M15 hM15 H locs hB _ hS => ?_)
      refine lv_aload_n hx hb dX7_damReason_32 rfl (lv_at hl 0 rfl) ?_
      refine lv_aload_n hx hb dX7_damReason_33 rfl (lv_at hl 1 rfl) ?_
      refine lv_iconst (v := 0) hx hb dX7_damReason_34 (by decide) ?_
      refine b_mI (b_runV (As := [.ref (o + k1), .int 0]) (rest := []) ⟨hx, hb, hml, hown, hts⟩ (c_X7_isOpen l D E o M15 k1 0 hk1 (Or.inl rfl) (by rw [hM15]; exact wf_upx 148 hc (by decide) (by decide) hw) h7 (by rw [hM15]; exact cellR_upx hc hw hcl)) (cwV 2 hts gX7_damReason_X7_isOpen rfl rfl rfl (by decide +kernel) ⟨Nat.le_of_ble_eq_true rfl, Nat.le_of_ble_eq_true rfl⟩) hK (bk_recv hK.1 hB lay_m0 rfl) hB rfl hl rfl (Nat.le_of_ble_eq_true rfl) dX7_damReason_35 ⟨Nat.zero_le _, Nat.zero_le _⟩) hS (fun q h => h) (fun r17 M16 hM16 H locs hB _ hS => ?_)
      obtain ⟨hr17, hM16⟩ := hM16
      refine lv_if_eq (tgt := 54) hx hb dX7_damReason_38 (by decide) (fun c18 => ?_) (fun c18 => ?_)
      · refine lv_iconst (v := 0) hx hb dX7_damReason_54 (by decide) ?_
        refine lv_istore_n (lv' := [(3, .int 0), (0, .ref (o + 0)), (1, .ref (o + k1)), (2, .int x2)]) hx hb dX7_damReason_55 rfl hl (by decide) rfl (fun ls hl => ?_)
        refine lv_aload_n hx hb dX7_damReason_56 rfl (lv_at hl 2 rfl) ?_
        refine lv_sipush (v := 148) hx hb dX7_damReason_57 (by decide) ?_
        refine lv_iload_n hx hb dX7_damReason_60 rfl (lv_at hl 3 rfl) ?_
        refine lv_iadd hx hb dX7_damReason_61 ?_
        refine lv_iconst (v := (-1)) hx hb dX7_damReason_62 (by decide) ?_
        refine b_iast hx hb hK.1 hB hS k1 (rB_of hk1) hk1 (in_addX 148 hc (by decide) (by decide)) dX7_damReason_63 (fun M19 hM19 H locs hB _ hS => ?_)
        refine lv_iload_n hx hb dX7_damReason_64 rfl (lv_at hl 0 rfl) ?_
        refine lv_if_eq (tgt := 72) hx hb dX7_damReason_65 (by decide) (fun c20 => ?_) (fun c20 => absurd (by decide) c20)
        refine lv_iconst (v := 3) hx hb dX7_damReason_72 (by decide) ?_
        have e21 := p_X7_damReason_e21 M k1 x2 r11 hr11.symm c12 r13 hr13.symm c14 M15 hM15.symm r17 hr17.symm M16 hM16.symm c18 M19 hM19.symm
        exact b_iret hx hb hr hlocks hS ⟨_, rfl, _, ⟨(congrArg Prod.fst e21).symm, (congrArg Prod.snd e21).symm⟩, hB⟩ dX7_damReason_73
      · refine lv_aload_n hx hb dX7_damReason_41 rfl (lv_at hl 0 rfl) ?_
        refine lv_aload_n hx hb dX7_damReason_42 rfl (lv_at hl 1 rfl) ?_
        refine lv_iconst (v := 1) hx hb dX7_damReason_43 (by decide) ?_
        refine b_mI (b_runV (As := [.ref (o + k1), .int 1]) (rest := []) ⟨hx, hb, hml, hown, hts⟩ (c_X7_isOpen l D E o M16 k1 1 hk1 (Or.inr rfl) (wf_eq (M := M15) (by rw [hM16]; exact fr_X7_isOpen M15 k1 0 k1 (Ne.symm h7)) (by rw [hM15]; exact wf_upx 148 hc (by decide) (by decide) hw)) h7 (cellR_eq (M := M15) (by rw [hM16]; exact fr_X7_isOpen M15 k1 0 k1 (Ne.symm h7)) (by rw [hM15]; exact cellR_upx hc hw hcl))) (cwV 2 hts gX7_damReason_X7_isOpen rfl rfl rfl (by decide +kernel) ⟨Nat.le_of_ble_eq_true rfl, Nat.le_of_ble_eq_true rfl⟩) hK (bk_recv hK.1 hB lay_m0 rfl) hB rfl hl rfl (Nat.le_of_ble_eq_true rfl) dX7_damReason_44 ⟨Nat.zero_le _, Nat.zero_le _⟩) hS (fun q h => h) (fun r23 M22 hM22 H locs hB _ hS => ?_)
        obtain ⟨hr23, hM22⟩ := hM22
        refine lv_if_eq (tgt := 54) hx hb dX7_damReason_47 (by decide) (fun c24 => ?_) (fun c24 => ?_)
        · refine lv_iconst (v := 0) hx hb dX7_damReason_54 (by decide) ?_
          refine lv_istore_n (lv' := [(3, .int 0), (0, .ref (o + 0)), (1, .ref (o + k1)), (2, .int x2)]) hx hb dX7_damReason_55 rfl hl (by decide) rfl (fun ls hl => ?_)
          refine lv_aload_n hx hb dX7_damReason_56 rfl (lv_at hl 2 rfl) ?_
          refine lv_sipush (v := 148) hx hb dX7_damReason_57 (by decide) ?_
          refine lv_iload_n hx hb dX7_damReason_60 rfl (lv_at hl 3 rfl) ?_
          refine lv_iadd hx hb dX7_damReason_61 ?_
          refine lv_iconst (v := (-1)) hx hb dX7_damReason_62 (by decide) ?_
          refine b_iast hx hb hK.1 hB hS k1 (rB_of hk1) hk1 (in_addX 148 hc (by decide) (by decide)) dX7_damReason_63 (fun M25 hM25 H locs hB _ hS => ?_)
          refine lv_iload_n hx hb dX7_damReason_64 rfl (lv_at hl 0 rfl) ?_
          refine lv_if_eq (tgt := 72) hx hb dX7_damReason_65 (by decide) (fun c26 => ?_) (fun c26 => absurd (by decide) c26)
          refine lv_iconst (v := 3) hx hb dX7_damReason_72 (by decide) ?_
          have e27 := p_X7_damReason_e27 M k1 x2 r11 hr11.symm c12 r13 hr13.symm c14 M15 hM15.symm r17 hr17.symm M16 hM16.symm c18 r23 hr23.symm M22 hM22.symm c24 M25 hM25.symm
          exact b_iret hx hb hr hlocks hS ⟨_, rfl, _, ⟨(congrArg Prod.fst e27).symm, (congrArg Prod.snd e27).symm⟩, hB⟩ dX7_damReason_73
        · refine lv_iconst (v := 1) hx hb dX7_damReason_50 (by decide) ?_
          refine lv_goto (tgt := 55) hx hb dX7_damReason_51 (by decide) ?_
          refine lv_istore_n (lv' := [(3, .int 1), (0, .ref (o + 0)), (1, .ref (o + k1)), (2, .int x2)]) hx hb dX7_damReason_55 rfl hl (by decide) rfl (fun ls hl => ?_)
          refine lv_aload_n hx hb dX7_damReason_56 rfl (lv_at hl 2 rfl) ?_
          refine lv_sipush (v := 148) hx hb dX7_damReason_57 (by decide) ?_
          refine lv_iload_n hx hb dX7_damReason_60 rfl (lv_at hl 3 rfl) ?_
          refine lv_iadd hx hb dX7_damReason_61 ?_
          refine lv_iconst (v := (-1)) hx hb dX7_damReason_62 (by decide) ?_
          refine b_iast hx hb hK.1 hB hS k1 (rB_of hk1) hk1 (in_addX 148 hc (by decide) (by decide)) dX7_damReason_63 (fun M28 hM28 H locs hB _ hS => ?_)
          refine lv_iload_n hx hb dX7_damReason_64 rfl (lv_at hl 0 rfl) ?_
          refine lv_if_eq (tgt := 72) hx hb dX7_damReason_65 (by decide) (fun c29 => absurd c29 (by decide)) (fun c29 => ?_)
          refine lv_iconst (v := 0) hx hb dX7_damReason_68 (by decide) ?_
          refine lv_goto (tgt := 73) hx hb dX7_damReason_69 (by decide) ?_
          have e30 := p_X7_damReason_e30 M k1 x2 r11 hr11.symm c12 r13 hr13.symm c14 M15 hM15.symm r17 hr17.symm M16 hM16.symm c18 r23 hr23.symm M22 hM22.symm c24 M28 hM28.symm
          exact b_iret hx hb hr hlocks hS ⟨_, rfl, _, ⟨(congrArg Prod.fst e30).symm, (congrArg Prod.snd e30).symm⟩, hB⟩ dX7_damReason_73
    · refine lv_iconst (v := 2) hx hb dX7_damReason_22 (by decide) ?_
      have e31 := p_X7_damReason_e31 M k1 x2 r11 hr11.symm c12 r13 hr13.symm c14
      exact b_iret hx hb hr hlocks hS ⟨_, rfl, _, ⟨(congrArg Prod.fst e31).symm, (congrArg Prod.snd e31).symm⟩, hB⟩ dX7_damReason_23
  · refine lv_iconst (v := 1) hx hb dX7_damReason_8 (by decide) ?_
    have e32 := p_X7_damReason_e32 M k1 x2 r11 hr11.symm c12
    exact b_iret hx hb hr hlocks hS ⟨_, rfl, _, ⟨(congrArg Prod.fst e32).symm, (congrArg Prod.snd e32).symm⟩, hB⟩ dX7_damReason_9

theorem wf_damReason {M : bM} {k : Nat} {c : Int32} (h7 : 7 ≠ k) (hc : vp_in c 64) (h : wfR M k) : wfR (f_X7_damReason M k c).2 k := by
  have hA : wfR (up2 M k ((148 : Int32) + c).toNatClampNeg 0) k := wf_upx 148 hc (by decide) (by decide) h
  have hO : ∀ (N : bM) (q : Int32), wfR N k → wfR (f_X7_isOpen N k q).2 k := fun N q hN => wf_eq (fr_X7_isOpen N k q k (Ne.symm h7)) hN
  rw [u_f_X7_damReason]
  dsimp only
  split
  · exact h
  · split
    · exact h
    · split
      · exact wf_upx 148 hc (by decide) (by decide) (hO _ _ hA)
      · split
        · exact wf_upx 148 hc (by decide) (by decide) (hO _ _ (hO _ _ hA))
        · exact wf_upx 148 hc (by decide) (by decide) (hO _ _ (hO _ _ hA))
def f_X7_damOn (M : bM) (k1 : Nat) (x2 : Int32) : Int32 × bM := (let r12 : Int32 := (f_X7_damReason M k1 x2).1; (let M11 : bM := (f_X7_damReason M k1 x2).2; (if r12 ≤ 0 then (let M14 : bM := up2 M11 k1 ((148 : Int32) + x2).toNatClampNeg 0; (let M15 : bM := f_X7_add M14 k1 (M14 k1 2) 1 1; (let M16 : bM := f_X7_turnEnds M15 k1; (0, M16)))) else (let M18 : bM := up2 M11 k1 6 ((M11 k1 6) + 1); (r12, M18)))))
theorem u_f_X7_damOn (M : bM) (k1 : Nat) (x2 : Int32) : f_X7_damOn M k1 x2 = (let r12 : Int32 := (f_X7_damReason M k1 x2).1; (let M11 : bM := (f_X7_damReason M k1 x2).2; (if r12 ≤ 0 then (let M14 : bM := up2 M11 k1 ((148 : Int32) + x2).toNatClampNeg 0; (let M15 : bM := f_X7_add M14 k1 (M14 k1 2) 1 1; (let M16 : bM := f_X7_turnEnds M15 k1; (0, M16)))) else (let M18 : bM := up2 M11 k1 6 ((M11 k1 6) + 1); (r12, M18))))) := rfl
theorem p_X7_damOn_e17 (M : bM) (k1 : Nat) (x2 : Int32) (r12 : Int32) (hr12 : (f_X7_damReason M k1 x2).1 = r12) (M11 : bM) (hM11 : (f_X7_damReason M k1 x2).2 = M11) (c13 : r12 ≤ 0) (M14 : bM) (hM14 : up2 M11 k1 ((148 : Int32) + x2).toNatClampNeg 0 = M14) (M15 : bM) (hM15 : f_X7_add M14 k1 (M14 k1 2) 1 1 = M15) (M16 : bM) (hM16 : f_X7_turnEnds M15 k1 = M16) : f_X7_damOn M k1 x2 = (0, M16) := by subst hM16 hM15 hM14 hM11 hr12; exact Eq.trans (u_f_X7_damOn M k1 x2) (if_pos c13)
theorem p_X7_damOn_e19 (M : bM) (k1 : Nat) (x2 : Int32) (r12 : Int32) (hr12 : (f_X7_damReason M k1 x2).1 = r12) (M11 : bM) (hM11 : (f_X7_damReason M k1 x2).2 = M11) (c13 : ¬ r12 ≤ 0) (M18 : bM) (hM18 : up2 M11 k1 6 ((M11 k1 6) + 1) = M18) : f_X7_damOn M k1 x2 = (r12, M18) := by subst hM18 hM11 hr12; exact Eq.trans (u_f_X7_damOn M k1 x2) (if_neg c13)
theorem fr_X7_damOn (M : bM) (k1 : Nat) (x2 : Int32) (k : Nat) (hk : k ≠ k1) (hf : k ≠ 7) : (f_X7_damOn M k1 x2).2 k = M k := by
  obtain ⟨r12, hr12⟩ : ∃ y : Int32, y = (f_X7_damReason M k1 x2).1 := ⟨_, rfl⟩
  obtain ⟨M11, hM11⟩ : ∃ y : bM, y = (f_X7_damReason M k1 x2).2 := ⟨_, rfl⟩
  by_cases c13 : r12 ≤ 0
  · obtain ⟨M14, hM14⟩ : ∃ y : bM, y = up2 M11 k1 ((148 : Int32) + x2).toNatClampNeg 0 := ⟨_, rfl⟩
    obtain ⟨M15, hM15⟩ : ∃ y : bM, y = f_X7_add M14 k1 (M14 k1 2) 1 1 := ⟨_, rfl⟩
    obtain ⟨M16, hM16⟩ : ∃ y : bM, y = f_X7_turnEnds M15 k1 := ⟨_, rfl⟩
    rw [p_X7_damOn_e17 M k1 x2 r12 hr12.symm M11 hM11.symm c13 M14 hM14.symm M15 hM15.symm M16 hM16.symm]
    try dsimp only
    rw [hM16, fr_X7_turnEnds M15 k1 k (by omega), hM15, fr_X7_add M14 k1 (M14 k1 2) 1 1 k (by omega), hM14, up2_row (by omega), hM11, fr_X7_damReason M k1 x2 k (by omega) (by omega)]
  · obtain ⟨M18, hM18⟩ : ∃ y : bM, y = up2 M11 k1 6 ((M11 k1 6) + 1) := ⟨_, rfl⟩
    rw [p_X7_damOn_e19 M k1 x2 r12 hr12.symm M11 hM11.symm c13 M18 hM18.symm]
    try dsimp only
    rw [hM18, up2_row (by omega), hM11, fr_X7_damReason M k1 x2 k (by omega) (by omega)]
set_option maxHeartbeats 4000000 in
set_option maxRecDepth 100000 in
theorem c_X7_damOn (l : Launch) (D : va_G) (E : Nat → ClassId) (o : Nat) (M : bM) (k1 : Nat) (x2 : Int32) (hk1 : LRR[k1]? = some (.inl (0, 404))) (hc : vp_in x2 64) (hw : wfR M k1) (h7 : 7 ≠ k1) (hcl : cellR M k1) : Met l yX7_damOn wsX7_damOn (rmF 5) (bPc D E [.ref (o + 0), .ref (o + k1), .int x2] (fun H => bk D E LRR o M H)) (bQ (aI fun r H => ∃ M1 : bM, (r = (f_X7_damOn M k1 x2).1 ∧ M1 = (f_X7_damOn M k1 x2).2) ∧ bk D E LRR o M1 H) (rB o)) 0 0 (rB o) := by
  refine Met.ofW (cc := cX7_damOn) (maxL := 4) (ret := (some .int)) (by decide) rfl ?_
  intro p e s m args below meth c s₁ B hml hv
  obtain ⟨rfl, hB, hK⟩ := hv
  have hx := B.exec
  have hb := B.bytes
  have hr := B.returns
  have hts := atoms_spec (ws := wsX7_damOn) B.pre
  have hown : s.vm.findClass RX7 = some m.cls := findClass_of_methodNamed B.named
  have hlocks := B.notSynchronized
  have hS : bS (rB o) s.heap s.heap [] := bS.rf
  have hl := lv_entry ([.ref (o + 0), .ref (o + k1), .int x2]) (n := 4) (Nat.le_of_ble_eq_true rfl)
  rw [lg_entry_eq]
  generalize (lg_sl ([.ref (o + 0), .ref (o + k1), .int x2]) ++ List.replicate (4 - (lg_sl ([.ref (o + 0), .ref (o + k1), .int x2])).length) Slot.unset).toArray = ls at hl ⊢
  have hl : lv_has ls 4 [(0, .ref (o + 0)), (1, .ref (o + k1)), (2, .int x2)] := hl
  have hB : bk D E LRR o M s.heap := hB
  refine lv_aload_n hx hb dX7_damOn_0 rfl (lv_at hl 0 rfl) ?_
  refine lv_aload_n hx hb dX7_damOn_1 rfl (lv_at hl 1 rfl) ?_
  refine lv_iload_n hx hb dX7_damOn_2 rfl (lv_at hl 2 rfl) ?_
  refine b_mI (b_runV (As := [.ref (o + k1), .int x2]) (rest := []) ⟨hx, hb, hml, hown, hts⟩ (c_X7_damReason l D E o M k1 x2 hk1 hc hw h7 hcl) (cwV 2 hts gX7_damOn_X7_damReason rfl rfl rfl (by decide +kernel) ⟨Nat.le_of_ble_eq_true rfl, Nat.le_of_ble_eq_true rfl⟩) hK (bk_recv hK.1 hB lay_m0 rfl) hB rfl hl rfl (Nat.le_of_ble_eq_true rfl) dX7_damOn_3 ⟨Nat.zero_le _, Nat.zero_le _⟩) hS (fun q h => h) (fun r12 M11 hM11 H locs hB _ hS => ?_)
  obtain ⟨hr12, hM11⟩ := hM11
  refine lv_istore_n (lv' := [(3, .int r12), (0, .ref (o + 0)), (1, .ref (o + k1)), (2, .int x2)]) hx hb dX7_damOn_6 rfl hl (by decide) rfl (fun ls hl => ?_)
  refine lv_iload_n hx hb dX7_damOn_7 rfl (lv_at hl 0 rfl) ?_
  refine lv_if_le (tgt := 21) hx hb dX7_damOn_8 (by decide) (fun c13 => ?_) (fun c13 => ?_)
  · refine lv_aload_n hx hb dX7_damOn_21 rfl (lv_at hl 2 rfl) ?_
    refine lv_sipush (v := 148) hx hb dX7_damOn_22 (by decide) ?_
    refine lv_iload_n hx hb dX7_damOn_25 rfl (lv_at hl 3 rfl) ?_
    refine lv_iadd hx hb dX7_damOn_26 ?_
    refine lv_iconst (v := 0) hx hb dX7_damOn_27 (by decide) ?_
    refine b_iast hx hb hK.1 hB hS k1 (rB_of hk1) hk1 (in_addX 148 hc (by decide) (by decide)) dX7_damOn_28 (fun M14 hM14 H locs hB _ hS => ?_)
    refine lv_aload_n hx hb dX7_damOn_29 rfl (lv_at hl 2 rfl) ?_
    refine lv_aload_n hx hb dX7_damOn_30 rfl (lv_at hl 2 rfl) ?_
    refine lv_iconst (v := 2) hx hb dX7_damOn_31 (by decide) ?_
    refine b_iald hx hb hK.1 hB k1 hk1 (vp_in_nI (n := 2) (by decide) (by decide)) dX7_damOn_32 ?_
    refine lv_const (y := M14 k1 2) (by rfl) ?_
    refine lv_iconst (v := 1) hx hb dX7_damOn_33 (by decide) ?_
    refine lv_iconst (v := 1) hx hb dX7_damOn_34 (by decide) ?_
    refine b_mV (b_runS (As := [.ref (o + k1), .int (M14 k1 2), .int 1, .int 1]) (rest := []) ⟨hx, hb, hml, hown, hts⟩ (c_X7_add l D E o M14 k1 (M14 k1 2) 1 1 hk1 (wf_tb (M := M14) (k := k1) (by rw [hM14]; exact wf_upx 148 hc (by decide) (by decide) (by rw [hM11]; exact wf_damReason h7 hc hw))) (vp_in_nI (n := 1) (by decide) (by decide))) (va_cwS 4 hts gX7_damOn_X7_add rfl rfl rfl (by decide +kernel) ⟨Nat.le_of_ble_eq_true rfl, Nat.le_of_ble_eq_true rfl⟩) hK hB rfl hl rfl (Nat.le_of_ble_eq_true rfl) dX7_damOn_35 ⟨Nat.zero_le _, Nat.zero_le _⟩) hS (fun q h => h) (fun M15 hM15 H locs hB _ hS => ?_)
    refine lv_aload_n hx hb dX7_damOn_38 rfl (lv_at hl 2 rfl) ?_
    refine b_mV (b_runS (As := [.ref (o + k1)]) (rest := []) ⟨hx, hb, hml, hown, hts⟩ (c_X7_turnEnds l D E o M15 k1 hk1) (va_cwS 1 hts gX7_damOn_X7_turnEnds rfl rfl rfl (by decide +kernel) ⟨Nat.le_of_ble_eq_true rfl, Nat.le_of_ble_eq_true rfl⟩) hK hB rfl hl rfl (Nat.le_of_ble_eq_true rfl) dX7_damOn_39 ⟨Nat.zero_le _, Nat.zero_le _⟩) hS (fun q h => h) (fun M16 hM16 H locs hB _ hS => ?_)
    refine lv_iconst (v := 0) hx hb dX7_damOn_42 (by decide) ?_
    have e17 := p_X7_damOn_e17 M k1 x2 r12 hr12.symm M11 hM11.symm c13 M14 hM14.symm M15 hM15.symm M16 hM16.symm
    exact b_iret hx hb hr hlocks hS ⟨_, rfl, _, ⟨(congrArg Prod.fst e17).symm, (congrArg Prod.snd e17).symm⟩, hB⟩ dX7_damOn_43
  · refine lv_aload_n hx hb dX7_damOn_11 rfl (lv_at hl 2 rfl) ?_
    refine lv_bipush (v := 6) hx hb dX7_damOn_12 (by decide) ?_
    refine lv_dup2_11 hx hb dX7_damOn_14 rfl rfl ?_
    refine b_iald hx hb hK.1 hB k1 hk1 (vp_in_nI (n := 6) (by decide) (by decide)) dX7_damOn_15 ?_
    refine lv_const (y := M11 k1 6) (by rfl) ?_
    refine lv_iconst (v := 1) hx hb dX7_damOn_16 (by decide) ?_
    refine lv_iadd hx hb dX7_damOn_17 ?_
    refine b_iast hx hb hK.1 hB hS k1 (rB_of hk1) hk1 (vp_in_nI (n := 6) (by decide) (by decide)) dX7_damOn_18 (fun M18 hM18 H locs hB _ hS => ?_)
    rw [show (6 : Int32).toNatClampNeg = 6 from rfl] at hM18
    refine lv_iload_n hx hb dX7_damOn_19 rfl (lv_at hl 0 rfl) ?_
    have e19 := p_X7_damOn_e19 M k1 x2 r12 hr12.symm M11 hM11.symm c13 M18 hM18.symm
    exact b_iret hx hb hr hlocks hS ⟨_, rfl, _, ⟨(congrArg Prod.fst e19).symm, (congrArg Prod.snd e19).symm⟩, hB⟩ dX7_damOn_20
