def lp_X7_isOpen_2  : Nat → Nat → bM → (bM)
  | 0, i11, M12 => M12
  | n11 + 1, i11, M12 => (let M16 : bM := up2 M12 7 i11 0; lp_X7_isOpen_2 n11 (i11 + 1) M16)
theorem u0_lp_X7_isOpen_2  (i11 : Nat) (M12 : bM) : lp_X7_isOpen_2 0 i11 M12 = M12 := rfl
theorem u1_lp_X7_isOpen_2  (n11 i11 : Nat) (M12 : bM) : lp_X7_isOpen_2 (n11 + 1) i11 M12 = (let M16 : bM := up2 M12 7 i11 0; lp_X7_isOpen_2 n11 (i11 + 1) M16) := rfl
def lp_X7_isOpen_68 (k1 : Nat) (x2 : Int32) : Nat → Nat → Int32 → bM → (Int32 × bM)
  | 0, i31, x32, M33 => (x32, M33)
  | n31 + 1, i31, x32, M33 => (if x32 = 0 then (let r39 : Int32 := f_X7_stepFrom (nI i31 / 3) (nI i31 - nI i31 / 3 * 3); (if (M33 7 (nI i31 / 3).toNatClampNeg) = 1 then (if r39 = (-1) then lp_X7_isOpen_68 k1 x2 n31 (i31 + 1) x32 M33 else (let r44 : Int32 := f_X7_isDam M33 k1 r39; (if r44 = 0 then (let r47 : Int32 := f_X7_isRiver M33 k1 x2 r39; (if r47 = 0 then (let M50 : bM := up2 M33 7 r39.toNatClampNeg 1; (if (r39 / 8) = 7 then lp_X7_isOpen_68 k1 x2 n31 (i31 + 1) 1 M50 else (let r53 : Int32 := f_X7_isRiver M50 k1 ((1 : Int32) - x2) r39; (if r53 = 0 then lp_X7_isOpen_68 k1 x2 n31 (i31 + 1) 0 M50 else lp_X7_isOpen_68 k1 x2 n31 (i31 + 1) 1 M50)))) else lp_X7_isOpen_68 k1 x2 n31 (i31 + 1) x32 M33)) else lp_X7_isOpen_68 k1 x2 n31 (i31 + 1) x32 M33))) else lp_X7_isOpen_68 k1 x2 n31 (i31 + 1) x32 M33)) else (x32, M33))
theorem u0_lp_X7_isOpen_68 (k1 : Nat) (x2 : Int32) (i31 : Nat) (x32 : Int32) (M33 : bM) : lp_X7_isOpen_68 k1 x2 0 i31 x32 M33 = (x32, M33) := rfl
theorem u1_lp_X7_isOpen_68 (k1 : Nat) (x2 : Int32) (n31 i31 : Nat) (x32 : Int32) (M33 : bM) : lp_X7_isOpen_68 k1 x2 (n31 + 1) i31 x32 M33 = (if x32 = 0 then (let r39 : Int32 := f_X7_stepFrom (nI i31 / 3) (nI i31 - nI i31 / 3 * 3); (if (M33 7 (nI i31 / 3).toNatClampNeg) = 1 then (if r39 = (-1) then lp_X7_isOpen_68 k1 x2 n31 (i31 + 1) x32 M33 else (let r44 : Int32 := f_X7_isDam M33 k1 r39; (if r44 = 0 then (let r47 : Int32 := f_X7_isRiver M33 k1 x2 r39; (if r47 = 0 then (let M50 : bM := up2 M33 7 r39.toNatClampNeg 1; (if (r39 / 8) = 7 then lp_X7_isOpen_68 k1 x2 n31 (i31 + 1) 1 M50 else (let r53 : Int32 := f_X7_isRiver M50 k1 ((1 : Int32) - x2) r39; (if r53 = 0 then lp_X7_isOpen_68 k1 x2 n31 (i31 + 1) 0 M50 else lp_X7_isOpen_68 k1 x2 n31 (i31 + 1) 1 M50)))) else lp_X7_isOpen_68 k1 x2 n31 (i31 + 1) x32 M33)) else lp_X7_isOpen_68 k1 x2 n31 (i31 + 1) x32 M33))) else lp_X7_isOpen_68 k1 x2 n31 (i31 + 1) x32 M33)) else (x32, M33)) := rfl
def lp_X7_isOpen_54 (k1 : Nat) (x2 : Int32) : Nat → Nat → Int32 → bM → (Int32 × bM)
  | 0, i23, x24, M25 => (x24, M25)
  | n23 + 1, i23, x24, M25 => (if x24 = 0 then (let x57 : Int32 := (lp_X7_isOpen_68 k1 x2 192 0 x24 M25).1; (let M58 : bM := (lp_X7_isOpen_68 k1 x2 192 0 x24 M25).2; lp_X7_isOpen_54 k1 x2 n23 (i23 + 1) x57 M58)) else (x24, M25))
theorem u0_lp_X7_isOpen_54 (k1 : Nat) (x2 : Int32) (i23 : Nat) (x24 : Int32) (M25 : bM) : lp_X7_isOpen_54 k1 x2 0 i23 x24 M25 = (x24, M25) := rfl
theorem u1_lp_X7_isOpen_54 (k1 : Nat) (x2 : Int32) (n23 i23 : Nat) (x24 : Int32) (M25 : bM) : lp_X7_isOpen_54 k1 x2 (n23 + 1) i23 x24 M25 = (if x24 = 0 then (let x57 : Int32 := (lp_X7_isOpen_68 k1 x2 192 0 x24 M25).1; (let M58 : bM := (lp_X7_isOpen_68 k1 x2 192 0 x24 M25).2; lp_X7_isOpen_54 k1 x2 n23 (i23 + 1) x57 M58)) else (x24, M25)) := rfl
def f_X7_isOpen (M : bM) (k1 : Nat) (x2 : Int32) : Int32 × bM := (let M18 : bM := (lp_X7_isOpen_2 64 0 M); (let r19 : Int32 := f_X7_head M18 k1 x2; (let M20 : bM := up2 M18 7 r19.toNatClampNeg 1; (let r21 : Int32 := f_X7_head M20 k1 x2; (if (r21 / 8) = 7 then (let x100 : Int32 := (lp_X7_isOpen_54 k1 x2 64 0 1 M20).1; (let M101 : bM := (lp_X7_isOpen_54 k1 x2 64 0 1 M20).2; (x100, M101))) else (let x60 : Int32 := (lp_X7_isOpen_54 k1 x2 64 0 0 M20).1; (let M61 : bM := (lp_X7_isOpen_54 k1 x2 64 0 0 M20).2; (x60, M61))))))))
theorem u_f_X7_isOpen (M : bM) (k1 : Nat) (x2 : Int32) : f_X7_isOpen M k1 x2 = (let M18 : bM := (lp_X7_isOpen_2 64 0 M); (let r19 : Int32 := f_X7_head M18 k1 x2; (let M20 : bM := up2 M18 7 r19.toNatClampNeg 1; (let r21 : Int32 := f_X7_head M20 k1 x2; (if (r21 / 8) = 7 then (let x100 : Int32 := (lp_X7_isOpen_54 k1 x2 64 0 1 M20).1; (let M101 : bM := (lp_X7_isOpen_54 k1 x2 64 0 1 M20).2; (x100, M101))) else (let x60 : Int32 := (lp_X7_isOpen_54 k1 x2 64 0 0 M20).1; (let M61 : bM := (lp_X7_isOpen_54 k1 x2 64 0 0 M20).2; (x60, M61)))))))) := rfl
theorem p_X7_isOpen_e14 (M : bM) (k1 : Nat) (x2 : Int32) (M12 : bM) (i11 : Nat)  : lp_X7_isOpen_2 0 i11 M12 = M12 := by exact u0_lp_X7_isOpen_2 i11 M12
theorem p_X7_isOpen_e17 (M : bM) (k1 : Nat) (x2 : Int32) (M12 : bM) (i11 : Nat) (n11 : Nat) (M16 : bM) (hM16 : up2 M12 7 i11 0 = M16) : lp_X7_isOpen_2 (n11 + 1) i11 M12 = lp_X7_isOpen_2 n11 (i11 + 1) M16 := by subst hM16; exact u1_lp_X7_isOpen_2 n11 i11 M12
theorem p_X7_isOpen_e27 (M : bM) (k1 : Nat) (x2 : Int32) (M18 : bM) (r19 : Int32) (M20 : bM) (r21 : Int32) (x24 : Int32) (M25 : bM) (i23 : Nat)  : lp_X7_isOpen_54 k1 x2 0 i23 x24 M25 = (x24, M25) := by exact u0_lp_X7_isOpen_54 k1 x2 i23 x24 M25
theorem p_X7_isOpen_e30 (M : bM) (k1 : Nat) (x2 : Int32) (M18 : bM) (r19 : Int32) (M20 : bM) (r21 : Int32) (x24 : Int32) (M25 : bM) (i23 : Nat) (n23 : Nat) (c29 : ¬ x24 = 0) : lp_X7_isOpen_54 k1 x2 (n23 + 1) i23 x24 M25 = (x24, M25) := by exact Eq.trans (u1_lp_X7_isOpen_54 k1 x2 n23 i23 x24 M25) (if_neg c29)
theorem p_X7_isOpen_e35 (M : bM) (k1 : Nat) (x2 : Int32) (M18 : bM) (r19 : Int32) (M20 : bM) (r21 : Int32) (x24 : Int32) (M25 : bM) (i23 : Nat) (x32 : Int32) (M33 : bM) (i31 : Nat)  : lp_X7_isOpen_68 k1 x2 0 i31 x32 M33 = (x32, M33) := by exact u0_lp_X7_isOpen_68 k1 x2 i31 x32 M33
theorem p_X7_isOpen_e38 (M : bM) (k1 : Nat) (x2 : Int32) (M18 : bM) (r19 : Int32) (M20 : bM) (r21 : Int32) (x24 : Int32) (M25 : bM) (i23 : Nat) (x32 : Int32) (M33 : bM) (i31 : Nat) (n31 : Nat) (c37 : ¬ x32 = 0) : lp_X7_isOpen_68 k1 x2 (n31 + 1) i31 x32 M33 = (x32, M33) := by exact Eq.trans (u1_lp_X7_isOpen_68 k1 x2 n31 i31 x32 M33) (if_neg c37)
theorem p_X7_isOpen_e41 (M : bM) (k1 : Nat) (x2 : Int32) (M18 : bM) (r19 : Int32) (M20 : bM) (r21 : Int32) (x24 : Int32) (M25 : bM) (i23 : Nat) (x32 : Int32) (M33 : bM) (i31 : Nat) (n31 : Nat) (c37 : x32 = 0) (r39 : Int32) (hr39 : f_X7_stepFrom (nI i31 / 3) (nI i31 - nI i31 / 3 * 3) = r39) (c40 : ¬ (M33 7 (nI i31 / 3).toNatClampNeg) = 1) : lp_X7_isOpen_68 k1 x2 (n31 + 1) i31 x32 M33 = lp_X7_isOpen_68 k1 x2 n31 (i31 + 1) x32 M33 := by subst hr39; exact Eq.trans (u1_lp_X7_isOpen_68 k1 x2 n31 i31 x32 M33) (Eq.trans (if_pos c37) (if_neg c40))
theorem p_X7_isOpen_e43 (M : bM) (k1 : Nat) (x2 : Int32) (M18 : bM) (r19 : Int32) (M20 : bM) (r21 : Int32) (x24 : Int32) (M25 : bM) (i23 : Nat) (x32 : Int32) (M33 : bM) (i31 : Nat) (n31 : Nat) (c37 : x32 = 0) (r39 : Int32) (hr39 : f_X7_stepFrom (nI i31 / 3) (nI i31 - nI i31 / 3 * 3) = r39) (c40 : (M33 7 (nI i31 / 3).toNatClampNeg) = 1) (c42 : r39 = (-1)) : lp_X7_isOpen_68 k1 x2 (n31 + 1) i31 x32 M33 = lp_X7_isOpen_68 k1 x2 n31 (i31 + 1) x32 M33 := by subst hr39; exact Eq.trans (u1_lp_X7_isOpen_68 k1 x2 n31 i31 x32 M33) (Eq.trans (if_pos c37) (Eq.trans (if_pos c40) (if_pos c42)))
theorem p_X7_isOpen_e46 (M : bM) (k1 : Nat) (x2 : Int32) (M18 : bM) (r19 : Int32) (M20 : bM) (r21 : Int32) (x24 : Int32) (M25 : bM) (i23 : Nat) (x32 : Int32) (M33 : bM) (i31 : Nat) (n31 : Nat) (c37 : x32 = 0) (r39 : Int32) (hr39 : f_X7_stepFrom (nI i31 / 3) (nI i31 - nI i31 / 3 * 3) = r39) (c40 : (M33 7 (nI i31 / 3).toNatClampNeg) = 1) (c42 : ¬ r39 = (-1)) (r44 : Int32) (hr44 : f_X7_isDam M33 k1 r39 = r44) (c45 : ¬ r44 = 0) : lp_X7_isOpen_68 k1 x2 (n31 + 1) i31 x32 M33 = lp_X7_isOpen_68 k1 x2 n31 (i31 + 1) x32 M33 := by subst hr44 hr39; exact Eq.trans (u1_lp_X7_isOpen_68 k1 x2 n31 i31 x32 M33) (Eq.trans (if_pos c37) (Eq.trans (if_pos c40) (Eq.trans (if_neg c42) (if_neg c45))))
theorem p_X7_isOpen_e49 (M : bM) (k1 : Nat) (x2 : Int32) (M18 : bM) (r19 : Int32) (M20 : bM) (r21 : Int32) (x24 : Int32) (M25 : bM) (i23 : Nat) (x32 : Int32) (M33 : bM) (i31 : Nat) (n31 : Nat) (c37 : x32 = 0) (r39 : Int32) (hr39 : f_X7_stepFrom (nI i31 / 3) (nI i31 - nI i31 / 3 * 3) = r39) (c40 : (M33 7 (nI i31 / 3).toNatClampNeg) = 1) (c42 : ¬ r39 = (-1)) (r44 : Int32) (hr44 : f_X7_isDam M33 k1 r39 = r44) (c45 : r44 = 0) (r47 : Int32) (hr47 : f_X7_isRiver M33 k1 x2 r39 = r47) (c48 : ¬ r47 = 0) : lp_X7_isOpen_68 k1 x2 (n31 + 1) i31 x32 M33 = lp_X7_isOpen_68 k1 x2 n31 (i31 + 1) x32 M33 := by subst hr47 hr44 hr39; exact Eq.trans (u1_lp_X7_isOpen_68 k1 x2 n31 i31 x32 M33) (Eq.trans (if_pos c37) (Eq.trans (if_pos c40) (Eq.trans (if_neg c42) (Eq.trans (if_pos c45) (if_neg c48)))))
theorem p_X7_isOpen_e52 (M : bM) (k1 : Nat) (x2 : Int32) (M18 : bM) (r19 : Int32) (M20 : bM) (r21 : Int32) (x24 : Int32) (M25 : bM) (i23 : Nat) (x32 : Int32) (M33 : bM) (i31 : Nat) (n31 : Nat) (c37 : x32 = 0) (r39 : Int32) (hr39 : f_X7_stepFrom (nI i31 / 3) (nI i31 - nI i31 / 3 * 3) = r39) (c40 : (M33 7 (nI i31 / 3).toNatClampNeg) = 1) (c42 : ¬ r39 = (-1)) (r44 : Int32) (hr44 : f_X7_isDam M33 k1 r39 = r44) (c45 : r44 = 0) (r47 : Int32) (hr47 : f_X7_isRiver M33 k1 x2 r39 = r47) (c48 : r47 = 0) (M50 : bM) (hM50 : up2 M33 7 r39.toNatClampNeg 1 = M50) (c51 : (r39 / 8) = 7) : lp_X7_isOpen_68 k1 x2 (n31 + 1) i31 x32 M33 = lp_X7_isOpen_68 k1 x2 n31 (i31 + 1) 1 M50 := by subst hM50 hr47 hr44 hr39; exact Eq.trans (u1_lp_X7_isOpen_68 k1 x2 n31 i31 x32 M33) (Eq.trans (if_pos c37) (Eq.trans (if_pos c40) (Eq.trans (if_neg c42) (Eq.trans (if_pos c45) (Eq.trans (if_pos c48) (if_pos c51))))))
theorem p_X7_isOpen_e55 (M : bM) (k1 : Nat) (x2 : Int32) (M18 : bM) (r19 : Int32) (M20 : bM) (r21 : Int32) (x24 : Int32) (M25 : bM) (i23 : Nat) (x32 : Int32) (M33 : bM) (i31 : Nat) (n31 : Nat) (c37 : x32 = 0) (r39 : Int32) (hr39 : f_X7_stepFrom (nI i31 / 3) (nI i31 - nI i31 / 3 * 3) = r39) (c40 : (M33 7 (nI i31 / 3).toNatClampNeg) = 1) (c42 : ¬ r39 = (-1)) (r44 : Int32) (hr44 : f_X7_isDam M33 k1 r39 = r44) (c45 : r44 = 0) (r47 : Int32) (hr47 : f_X7_isRiver M33 k1 x2 r39 = r47) (c48 : r47 = 0) (M50 : bM) (hM50 : up2 M33 7 r39.toNatClampNeg 1 = M50) (c51 : ¬ (r39 / 8) = 7) (r53 : Int32) (hr53 : f_X7_isRiver M50 k1 ((1 : Int32) - x2) r39 = r53) (c54 : r53 = 0) : lp_X7_isOpen_68 k1 x2 (n31 + 1) i31 x32 M33 = lp_X7_isOpen_68 k1 x2 n31 (i31 + 1) 0 M50 := by subst hr53 hM50 hr47 hr44 hr39; exact Eq.trans (u1_lp_X7_isOpen_68 k1 x2 n31 i31 x32 M33) (Eq.trans (if_pos c37) (Eq.trans (if_pos c40) (Eq.trans (if_neg c42) (Eq.trans (if_pos c45) (Eq.trans (if_pos c48) (Eq.trans (if_neg c51) (if_pos c54)))))))
theorem p_X7_isOpen_e56 (M : bM) (k1 : Nat) (x2 : Int32) (M18 : bM) (r19 : Int32) (M20 : bM) (r21 : Int32) (x24 : Int32) (M25 : bM) (i23 : Nat) (x32 : Int32) (M33 : bM) (i31 : Nat) (n31 : Nat) (c37 : x32 = 0) (r39 : Int32) (hr39 : f_X7_stepFrom (nI i31 / 3) (nI i31 - nI i31 / 3 * 3) = r39) (c40 : (M33 7 (nI i31 / 3).toNatClampNeg) = 1) (c42 : ¬ r39 = (-1)) (r44 : Int32) (hr44 : f_X7_isDam M33 k1 r39 = r44) (c45 : r44 = 0) (r47 : Int32) (hr47 : f_X7_isRiver M33 k1 x2 r39 = r47) (c48 : r47 = 0) (M50 : bM) (hM50 : up2 M33 7 r39.toNatClampNeg 1 = M50) (c51 : ¬ (r39 / 8) = 7) (r53 : Int32) (hr53 : f_X7_isRiver M50 k1 ((1 : Int32) - x2) r39 = r53) (c54 : ¬ r53 = 0) : lp_X7_isOpen_68 k1 x2 (n31 + 1) i31 x32 M33 = lp_X7_isOpen_68 k1 x2 n31 (i31 + 1) 1 M50 := by subst hr53 hM50 hr47 hr44 hr39; exact Eq.trans (u1_lp_X7_isOpen_68 k1 x2 n31 i31 x32 M33) (Eq.trans (if_pos c37) (Eq.trans (if_pos c40) (Eq.trans (if_neg c42) (Eq.trans (if_pos c45) (Eq.trans (if_pos c48) (Eq.trans (if_neg c51) (if_neg c54)))))))
theorem p_X7_isOpen_e59 (M : bM) (k1 : Nat) (x2 : Int32) (M18 : bM) (r19 : Int32) (M20 : bM) (r21 : Int32) (x24 : Int32) (M25 : bM) (i23 : Nat) (n23 : Nat) (c29 : x24 = 0) (x57 : Int32) (hx57 : (lp_X7_isOpen_68 k1 x2 192 0 x24 M25).1 = x57) (M58 : bM) (hM58 : (lp_X7_isOpen_68 k1 x2 192 0 x24 M25).2 = M58) : lp_X7_isOpen_54 k1 x2 (n23 + 1) i23 x24 M25 = lp_X7_isOpen_54 k1 x2 n23 (i23 + 1) x57 M58 := by subst hM58 hx57; exact Eq.trans (u1_lp_X7_isOpen_54 k1 x2 n23 i23 x24 M25) (if_pos c29)
theorem p_X7_isOpen_e62 (M : bM) (k1 : Nat) (x2 : Int32) (M18 : bM) (hM18 : (lp_X7_isOpen_2 64 0 M) = M18) (r19 : Int32) (hr19 : f_X7_head M18 k1 x2 = r19) (M20 : bM) (hM20 : up2 M18 7 r19.toNatClampNeg 1 = M20) (r21 : Int32) (hr21 : f_X7_head M20 k1 x2 = r21) (c22 : ¬ (r21 / 8) = 7) (x60 : Int32) (hx60 : (lp_X7_isOpen_54 k1 x2 64 0 0 M20).1 = x60) (M61 : bM) (hM61 : (lp_X7_isOpen_54 k1 x2 64 0 0 M20).2 = M61) : f_X7_isOpen M k1 x2 = (x60, M61) := by subst hM61 hx60 hr21 hM20 hr19 hM18; exact Eq.trans (u_f_X7_isOpen M k1 x2) (if_neg c22)
theorem p_X7_isOpen_e102 (M : bM) (k1 : Nat) (x2 : Int32) (M18 : bM) (hM18 : (lp_X7_isOpen_2 64 0 M) = M18) (r19 : Int32) (hr19 : f_X7_head M18 k1 x2 = r19) (M20 : bM) (hM20 : up2 M18 7 r19.toNatClampNeg 1 = M20) (r21 : Int32) (hr21 : f_X7_head M20 k1 x2 = r21) (c22 : (r21 / 8) = 7) (x100 : Int32) (hx100 : (lp_X7_isOpen_54 k1 x2 64 0 1 M20).1 = x100) (M101 : bM) (hM101 : (lp_X7_isOpen_54 k1 x2 64 0 1 M20).2 = M101) : f_X7_isOpen M k1 x2 = (x100, M101) := by subst hM101 hx100 hr21 hM20 hr19 hM18; exact Eq.trans (u_f_X7_isOpen M k1 x2) (if_pos c22)
theorem fr_lp_X7_isOpen_2 (M : bM) (k1 : Nat) (x2 : Int32) (k : Nat) (hf : k ≠ 7) : ∀ (n11 i11 : Nat) (M12 : bM), (lp_X7_isOpen_2 n11 i11 M12) k = M12 k := by
  intro n11
  induction n11 with
  | zero =>
    intro i11 M12
    rw [p_X7_isOpen_e14 M k1 x2 M12 i11 ]
  | succ n11 ih11 =>
    intro i11 M12
    obtain ⟨M16, hM16⟩ : ∃ y : bM, y = up2 M12 7 i11 0 := ⟨_, rfl⟩
    rw [p_X7_isOpen_e17 M k1 x2 M12 i11 n11 M16 hM16.symm, ih11]
    try dsimp only
    rw [hM16, up2_row (by omega)]
theorem fr_lp_X7_isOpen_68 (M : bM) (k1 : Nat) (x2 : Int32) (M18 : bM) (r19 : Int32) (M20 : bM) (r21 : Int32) (x24 : Int32) (M25 : bM) (i23 : Nat) (k : Nat) (hf : k ≠ 7) : ∀ (n31 i31 : Nat) (x32 : Int32) (M33 : bM), (lp_X7_isOpen_68 k1 x2 n31 i31 x32 M33).2 k = M33 k := by
  intro n31
  induction n31 with
  | zero =>
    intro i31 x32 M33
    rw [p_X7_isOpen_e35 M k1 x2 M18 r19 M20 r21 x24 M25 i23 x32 M33 i31 ]
  | succ n31 ih31 =>
    intro i31 x32 M33
    by_cases c37 : x32 = 0
    · obtain ⟨r39, hr39⟩ : ∃ y : Int32, y = f_X7_stepFrom (nI i31 / 3) (nI i31 - nI i31 / 3 * 3) := ⟨_, rfl⟩
      by_cases c40 : (M33 7 (nI i31 / 3).toNatClampNeg) = 1
      · by_cases c42 : r39 = (-1)
        · rw [p_X7_isOpen_e43 M k1 x2 M18 r19 M20 r21 x24 M25 i23 x32 M33 i31 n31 c37 r39 hr39.symm c40 c42, ih31]
        · obtain ⟨r44, hr44⟩ : ∃ y : Int32, y = f_X7_isDam M33 k1 r39 := ⟨_, rfl⟩
          by_cases c45 : r44 = 0
          · obtain ⟨r47, hr47⟩ : ∃ y : Int32, y = f_X7_isRiver M33 k1 x2 r39 := ⟨_, rfl⟩
            by_cases c48 : r47 = 0
            · obtain ⟨M50, hM50⟩ : ∃ y : bM, y = up2 M33 7 r39.toNatClampNeg 1 := ⟨_, rfl⟩
              by_cases c51 : (r39 / 8) = 7
              · rw [p_X7_isOpen_e52 M k1 x2 M18 r19 M20 r21 x24 M25 i23 x32 M33 i31 n31 c37 r39 hr39.symm c40 c42 r44 hr44.symm c45 r47 hr47.symm c48 M50 hM50.symm c51, ih31]
                try dsimp only
                rw [hM50, up2_row (by omega)]
              · obtain ⟨r53, hr53⟩ : ∃ y : Int32, y = f_X7_isRiver M50 k1 ((1 : Int32) - x2) r39 := ⟨_, rfl⟩
                by_cases c54 : r53 = 0
                · rw [p_X7_isOpen_e55 M k1 x2 M18 r19 M20 r21 x24 M25 i23 x32 M33 i31 n31 c37 r39 hr39.symm c40 c42 r44 hr44.symm c45 r47 hr47.symm c48 M50 hM50.symm c51 r53 hr53.symm c54, ih31]
                  try dsimp only
                  rw [hM50, up2_row (by omega)]
                · rw [p_X7_isOpen_e56 M k1 x2 M18 r19 M20 r21 x24 M25 i23 x32 M33 i31 n31 c37 r39 hr39.symm c40 c42 r44 hr44.symm c45 r47 hr47.symm c48 M50 hM50.symm c51 r53 hr53.symm c54, ih31]
                  try dsimp only
                  rw [hM50, up2_row (by omega)]
            · rw [p_X7_isOpen_e49 M k1 x2 M18 r19 M20 r21 x24 M25 i23 x32 M33 i31 n31 c37 r39 hr39.symm c40 c42 r44 hr44.symm c45 r47 hr47.symm c48, ih31]
          · rw [p_X7_isOpen_e46 M k1 x2 M18 r19 M20 r21 x24 M25 i23 x32 M33 i31 n31 c37 r39 hr39.symm c40 c42 r44 hr44.symm c45, ih31]
      · rw [p_X7_isOpen_e41 M k1 x2 M18 r19 M20 r21 x24 M25 i23 x32 M33 i31 n31 c37 r39 hr39.symm c40, ih31]
    · rw [p_X7_isOpen_e38 M k1 x2 M18 r19 M20 r21 x24 M25 i23 x32 M33 i31 n31 c37]
theorem fr_lp_X7_isOpen_54 (M : bM) (k1 : Nat) (x2 : Int32) (M18 : bM) (r19 : Int32) (M20 : bM) (r21 : Int32) (k : Nat) (hf : k ≠ 7) : ∀ (n23 i23 : Nat) (x24 : Int32) (M25 : bM), (lp_X7_isOpen_54 k1 x2 n23 i23 x24 M25).2 k = M25 k := by
  intro n23
  induction n23 with
  | zero =>
    intro i23 x24 M25
    rw [p_X7_isOpen_e27 M k1 x2 M18 r19 M20 r21 x24 M25 i23 ]
  | succ n23 ih23 =>
    intro i23 x24 M25
    by_cases c29 : x24 = 0
    · obtain ⟨x57, hx57⟩ : ∃ y : Int32, y = (lp_X7_isOpen_68 k1 x2 192 0 x24 M25).1 := ⟨_, rfl⟩
      obtain ⟨M58, hM58⟩ : ∃ y : bM, y = (lp_X7_isOpen_68 k1 x2 192 0 x24 M25).2 := ⟨_, rfl⟩
      rw [p_X7_isOpen_e59 M k1 x2 M18 r19 M20 r21 x24 M25 i23 n23 c29 x57 hx57.symm M58 hM58.symm, ih23]
      try dsimp only
      rw [hM58, fr_lp_X7_isOpen_68 M k1 x2 M18 r19 M20 r21 x24 M25 i23 k hf 192 0 x24 M25]
    · rw [p_X7_isOpen_e30 M k1 x2 M18 r19 M20 r21 x24 M25 i23 n23 c29]
theorem fr_X7_isOpen (M : bM) (k1 : Nat) (x2 : Int32) (k : Nat) (hf : k ≠ 7) : (f_X7_isOpen M k1 x2).2 k = M k := by
  obtain ⟨M18, hM18⟩ : ∃ y : bM, y = (lp_X7_isOpen_2 64 0 M) := ⟨_, rfl⟩
  obtain ⟨r19, hr19⟩ : ∃ y : Int32, y = f_X7_head M18 k1 x2 := ⟨_, rfl⟩
  obtain ⟨M20, hM20⟩ : ∃ y : bM, y = up2 M18 7 r19.toNatClampNeg 1 := ⟨_, rfl⟩
  obtain ⟨r21, hr21⟩ : ∃ y : Int32, y = f_X7_head M20 k1 x2 := ⟨_, rfl⟩
  by_cases c22 : (r21 / 8) = 7
  · obtain ⟨x100, hx100⟩ : ∃ y : Int32, y = (lp_X7_isOpen_54 k1 x2 64 0 1 M20).1 := ⟨_, rfl⟩
    obtain ⟨M101, hM101⟩ : ∃ y : bM, y = (lp_X7_isOpen_54 k1 x2 64 0 1 M20).2 := ⟨_, rfl⟩
    rw [p_X7_isOpen_e102 M k1 x2 M18 hM18.symm r19 hr19.symm M20 hM20.symm r21 hr21.symm c22 x100 hx100.symm M101 hM101.symm]
    try dsimp only
    rw [hM101, fr_lp_X7_isOpen_54 M k1 x2 M18 r19 M20 r21 k hf 64 0 1 M20, hM20, up2_row (by omega), hM18, fr_lp_X7_isOpen_2 M k1 x2 k hf 64 0 M]
  · obtain ⟨x60, hx60⟩ : ∃ y : Int32, y = (lp_X7_isOpen_54 k1 x2 64 0 0 M20).1 := ⟨_, rfl⟩
    obtain ⟨M61, hM61⟩ : ∃ y : bM, y = (lp_X7_isOpen_54 k1 x2 64 0 0 M20).2 := ⟨_, rfl⟩
    rw [p_X7_isOpen_e62 M k1 x2 M18 hM18.symm r19 hr19.symm M20 hM20.symm r21 hr21.symm c22 x60 hx60.symm M61 hM61.symm]
    try dsimp only
    rw [hM61, fr_lp_X7_isOpen_54 M k1 x2 M18 r19 M20 r21 k hf 64 0 0 M20, hM20, up2_row (by omega), hM18, fr_lp_X7_isOpen_2 M k1 x2 k hf 64 0 M]
def f_X7_damReason (M : bM) (k1 : Nat) (x2 : Int32) : Int32 × bM := (let r11 : Int32 := f_X7_isBare M k1 x2; (if r11 = 0 then (1, M) else (let r13 : Int32 := f_X7_of M k1 (M k1 2) 1; (if r13 = 3 then (2, M) else (let M15 : bM := up2 M k1 ((148 : Int32) + x2).toNatClampNeg 0; (let r17 : Int32 := (f_X7_isOpen M15 k1 0).1; (let M16 : bM := (f_X7_isOpen M15 k1 0).2; (if r17 = 0 then (let M19 : bM := up2 M16 k1 ((148 : Int32) + x2).toNatClampNeg (-1); (3, M19)) else (let r23 : Int32 := (f_X7_isOpen M16 k1 1).1; (let M22 : bM := (f_X7_isOpen M16 k1 1).2; (if r23 = 0 then (let M25 : bM := up2 M22 k1 ((148 : Int32) + x2).toNatClampNeg (-1); (3, M25)) else (let M28 : bM := up2 M22 k1 ((148 : Int32) + x2).toNatClampNeg (-1); (0, M28)))))))))))))
theorem u_f_X7_damReason (M : bM) (k1 : Nat) (x2 : Int32) : f_X7_damReason M k1 x2 = (let r11 : Int32 := f_X7_isBare M k1 x2; (if r11 = 0 then (1, M) else (let r13 : Int32 := f_X7_of M k1 (M k1 2) 1; (if r13 = 3 then (2, M) else (let M15 : bM := up2 M k1 ((148 : Int32) + x2).toNatClampNeg 0; (let r17 : Int32 := (f_X7_isOpen M15 k1 0).1; (let M16 : bM := (f_X7_isOpen M15 k1 0).2; (if r17 = 0 then (let M19 : bM := up2 M16 k1 ((148 : Int32) + x2).toNatClampNeg (-1); (3, M19)) else (let r23 : Int32 := (f_X7_isOpen M16 k1 1).1; (let M22 : bM := (f_X7_isOpen M16 k1 1).2; (if r23 = 0 then (let M25 : bM := up2 M22 k1 ((148 : Int32) + x2).toNatClampNeg (-1); (3, M25)) else (let M28 : bM := up2 M22 k1 ((148 : Int32) + x2).toNatClampNeg (-1); (0, M28))))))))))))) := rfl
theorem p_X7_damReason_e21 (M : bM) (k1 : Nat) (x2 : Int32) (r11 : Int32) (hr11 : f_X7_isBare M k1 x2 = r11) (c12 : ¬ r11 = 0) (r13 : Int32) (hr13 : f_X7_of M k1 (M k1 2) 1 = r13) (c14 : ¬ r13 = 3) (M15 : bM) (hM15 : up2 M k1 ((148 : Int32) + x2).toNatClampNeg 0 = M15) (r17 : Int32) (hr17 : (f_X7_isOpen M15 k1 0).1 = r17) (M16 : bM) (hM16 : (f_X7_isOpen M15 k1 0).2 = M16) (c18 : r17 = 0) (M19 : bM) (hM19 : up2 M16 k1 ((148 : Int32) + x2).toNatClampNeg (-1) = M19) : f_X7_damReason M k1 x2 = (3, M19) := by subst hM19 hM16 hr17 hM15 hr13 hr11; exact Eq.trans (u_f_X7_damReason M k1 x2) (Eq.trans (if_neg c12) (Eq.trans (if_neg c14) (if_pos c18)))
theorem p_X7_damReason_e27 (M : bM) (k1 : Nat) (x2 : Int32) (r11 : Int32) (hr11 : f_X7_isBare M k1 x2 = r11) (c12 : ¬ r11 = 0) (r13 : Int32) (hr13 : f_X7_of M k1 (M k1 2) 1 = r13) (c14 : ¬ r13 = 3) (M15 : bM) (hM15 : up2 M k1 ((148 : Int32) + x2).toNatClampNeg 0 = M15) (r17 : Int32) (hr17 : (f_X7_isOpen M15 k1 0).1 = r17) (M16 : bM) (hM16 : (f_X7_isOpen M15 k1 0).2 = M16) (c18 : ¬ r17 = 0) (r23 : Int32) (hr23 : (f_X7_isOpen M16 k1 1).1 = r23) (M22 : bM) (hM22 : (f_X7_isOpen M16 k1 1).2 = M22) (c24 : r23 = 0) (M25 : bM) (hM25 : up2 M22 k1 ((148 : Int32) + x2).toNatClampNeg (-1) = M25) : f_X7_damReason M k1 x2 = (3, M25) := by subst hM25 hM22 hr23 hM16 hr17 hM15 hr13 hr11; exact Eq.trans (u_f_X7_damReason M k1 x2) (Eq.trans (if_neg c12) (Eq.trans (if_neg c14) (Eq.trans (if_neg c18) (if_pos c24))))
theorem p_X7_damReason_e30 (M : bM) (k1 : Nat) (x2 : Int32) (r11 : Int32) (hr11 : f_X7_isBare M k1 x2 = r11) (c12 : ¬ r11 = 0) (r13 : Int32) (hr13 : f_X7_of M k1 (M k1 2) 1 = r13) (c14 : ¬ r13 = 3) (M15 : bM) (hM15 : up2 M k1 ((148 : Int32) + x2).toNatClampNeg 0 = M15) (r17 : Int32) (hr17 : (f_X7_isOpen M15 k1 0).1 = r17) (M16 : bM) (hM16 : (f_X7_isOpen M15 k1 0).2 = M16) (c18 : ¬ r17 = 0) (r23 : Int32) (hr23 : (f_X7_isOpen M16 k1 1).1 = r23) (M22 : bM) (hM22 : (f_X7_isOpen M16 k1 1).2 = M22) (c24 : ¬ r23 = 0) (M28 : bM) (hM28 : up2 M22 k1 ((148 : Int32) + x2).toNatClampNeg (-1) = M28) : f_X7_damReason M k1 x2 = (0, M28) := by subst hM28 hM22 hr23 hM16 hr17 hM15 hr13 hr11; exact Eq.trans (u_f_X7_damReason M k1 x2) (Eq.trans (if_neg c12) (Eq.trans (if_neg c14) (Eq.trans (if_neg c18) (if_neg c24))))
theorem p_X7_damReason_e31 (M : bM) (k1 : Nat) (x2 : Int32) (r11 : Int32) (hr11 : f_X7_isBare M k1 x2 = r11) (c12 : ¬ r11 = 0) (r13 : Int32) (hr13 : f_X7_of M k1 (M k1 2) 1 = r13) (c14 : r13 = 3) : f_X7_damReason M k1 x2 = (2, M) := by subst hr13 hr11; exact Eq.trans (u_f_X7_damReason M k1 x2) (Eq.trans (if_neg c12) (if_pos c14))
theorem p_X7_damReason_e32 (M : bM) (k1 : Nat) (x2 : Int32) (r11 : Int32) (hr11 : f_X7_isBare M k1 x2 = r11) (c12 : r11 = 0) : f_X7_damReason M k1 x2 = (1, M) := by subst hr11; exact Eq.trans (u_f_X7_damReason M k1 x2) (if_pos c12)
theorem fr_X7_damReason (M : bM) (k1 : Nat) (x2 : Int32) (k : Nat) (hk : k ≠ k1) (hf : k ≠ 7) : (f_X7_damReason M k1 x2).2 k = M k := by
  obtain ⟨r11, hr11⟩ : ∃ y : Int32, y = f_X7_isBare M k1 x2 := ⟨_, rfl⟩
  by_cases c12 : r11 = 0
  · rw [p_X7_damReason_e32 M k1 x2 r11 hr11.symm c12]
  · obtain ⟨r13, hr13⟩ : ∃ y : Int32, y = f_X7_of M k1 (M k1 2) 1 := ⟨_, rfl⟩
    by_cases c14 : r13 = 3
    · rw [p_X7_damReason_e31 M k1 x2 r11 hr11.symm c12 r13 hr13.symm c14]
    · obtain ⟨M15, hM15⟩ : ∃ y : bM, y = up2 M k1 ((148 : Int32) + x2).toNatClampNeg 0 := ⟨_, rfl⟩
      obtain ⟨r17, hr17⟩ : ∃ y : Int32, y = (f_X7_isOpen M15 k1 0).1 := ⟨_, rfl⟩
      obtain ⟨M16, hM16⟩ : ∃ y : bM, y = (f_X7_isOpen M15 k1 0).2 := ⟨_, rfl⟩
      by_cases c18 : r17 = 0
      · obtain ⟨M19, hM19⟩ : ∃ y : bM, y = up2 M16 k1 ((148 : Int32) + x2).toNatClampNeg (-1) := ⟨_, rfl⟩
        rw [p_X7_damReason_e21 M k1 x2 r11 hr11.symm c12 r13 hr13.symm c14 M15 hM15.symm r17 hr17.symm M16 hM16.symm c18 M19 hM19.symm]
        try dsimp only
        rw [hM19, up2_row (by omega), hM16, fr_X7_isOpen M15 k1 0 k (by omega), hM15, up2_row (by omega)]
      · obtain ⟨r23, hr23⟩ : ∃ y : Int32, y = (f_X7_isOpen M16 k1 1).1 := ⟨_, rfl⟩
        obtain ⟨M22, hM22⟩ : ∃ y : bM, y = (f_X7_isOpen M16 k1 1).2 := ⟨_, rfl⟩
        by_cases c24 : r23 = 0
        · obtain ⟨M25, hM25⟩ : ∃ y : bM, y = up2 M22 k1 ((148 : Int32) + x2).toNatClampNeg (-1) := ⟨_, rfl⟩
          rw [p_X7_damReason_e27 M k1 x2 r11 hr11.symm c12 r13 hr13.symm c14 M15 hM15.symm r17 hr17.symm M16 hM16.symm c18 r23 hr23.symm M22 hM22.symm c24 M25 hM25.symm]
          try dsimp only
          rw [hM25, up2_row (by omega), hM22, fr_X7_isOpen M16 k1 1 k (by omega), hM16, fr_X7_isOpen M15 k1 0 k (by omega), hM15, up2_row (by omega)]
        · obtain ⟨M28, hM28⟩ : ∃ y : bM, y = up2 M22 k1 ((148 : Int32) + x2).toNatClampNeg (-1) := ⟨_, rfl⟩
          rw [p_X7_damReason_e30 M k1 x2 r11 hr11.symm c12 r13 hr13.symm c14 M15 hM15.symm r17 hr17.symm M16 hM16.symm c18 r23 hr23.symm M22 hM22.symm c24 M28 hM28.symm]
          try dsimp only
          rw [hM28, up2_row (by omega), hM22, fr_X7_isOpen M16 k1 1 k (by omega), hM16, fr_X7_isOpen M15 k1 0 k (by omega), hM15, up2_row (by omega)]
def f_X7_damOn (M : bM) (k1 : Nat) (x2 : Int32) : Int32 × bM := (let r12 : Int32 := (f_X7_damReason M k1 x2).1; (let M11 : bM := (f_X7_damReason M k1 x2).2; (if r12 ≤ 0 then (let M14 : bM := up2 M11 k1 ((148 : Int32) + x2).toNatClampNeg 0; (let M15 : bM := f_X7_add M14 k1 (M14 k1 2) 1 1; (let M16 : bM := f_X7_turnEnds M15 k1; (0, M16)))) else (let M18 : bM := up2 M11 k1 6 ((M11 k1 6) + 1); (r12, M18)))))
theorem u_f_X7_damOn (M : bM) (k1 : Nat) (x2 : Int32) : f_X7_damOn M k1 x2 = (let r12 : Int32 := (f_X7_damReason M k1 x2).1; (let M11 : bM := (f_X7_damReason M k1 x2).2; (if r12 ≤ 0 then (let M14 : bM := up2 M11 k1 ((148 : Int32) + x2).toNatClampNeg 0; (let M15 : bM := f_X7_add M14 k1 (M14 k1 2) 1 1; (let M16 : bM := f_X7_turnEnds M15 k1; (0, M16)))) else (let M18 : bM := up2 M11 k1 6 ((M11 k1 6) + 1); (r12, M18))))) := rfl
theorem p_X7_damOn_e17 (M : bM) (k1 : Nat) (x2 : Int32) (r12 : Int32) (hr12 : (f_X7_damReason M k1 x2).1 = r12) (M11 : bM) (hM11 : (f_X7_damReason M k1 x2).2 = M11) (c13 : r12 ≤ 0) (M14 : bM) (hM14 : up2 M11 k1 ((148 : Int32) + x2).toNatClampNeg 0 = M14) (M15 : bM) (hM15 : f_X7_add M14 k1 (M14 k1 2) 1 1 = M15) (M16 : bM) (hM16 : f_X7_turnEnds M15 k1 = M16) : f_X7_damOn M k1 x2 = (0, M16) := by subst hM16 hM15 hM14 hM11 hr12; exact Eq.trans (u_f_X7_damOn M k1 x2) (if_pos c13)
theorem p_X7_damOn_e19 (M : bM) (k1 : Nat) (x2 : Int32) (r12 : Int32) (hr12 : (f_X7_damReason M k1 x2).1 = r12) (M11 : bM) (hM11 : (f_X7_damReason M k1 x2).2 = M11) (c13 : ¬ r12 ≤ 0) (M18 : bM) (hM18 : up2 M11 k1 6 ((M11 k1 6) + 1) = M18) : f_X7_damOn M k1 x2 = (r12, M18) := by subst hM18 hM11 hr12; exact Eq.trans (u_f_X7_damOn M k1 x2) (if_neg c13)
theorem fr_X7_damOn (M : bM) (k1 : Nat) (x2 : Int32) (k : Nat) (hk : k ≠ k1) (hf : k ≠ 7) : (f_X7_damOn M k1 x2).2 k = M k := by
  obtain ⟨r12, hr12⟩ : ∃ y : Int32, y = (f_X7_damReason M k1 x2).1 := ⟨_, rfl⟩
  obtain ⟨M11, hM11⟩ : ∃ y : bM, y = (f_X7_damReason M k1 x2).2 := ⟨_, rfl⟩
  by_cases c13 : r12 ≤ 0
  · obtain ⟨M14, hM14⟩ : ∃ y : bM, y = up2 M11 k1 ((148 : Int32) + x2).toNatClampNeg 0 := ⟨_, rfl⟩
    obtain ⟨M15, hM15⟩ : ∃ y : bM, y = f_X7_add M14 k1 (M14 k1 2) 1 1 := ⟨_, rfl⟩
    obtain ⟨M16, hM16⟩ : ∃ y : bM, y = f_X7_turnEnds M15 k1 := ⟨_, rfl⟩
    rw [p_X7_damOn_e17 M k1 x2 r12 hr12.symm M11 hM11.symm c13 M14 hM14.symm M15 hM15.symm M16 hM16.symm]
    try dsimp only
    rw [hM16, fr_X7_turnEnds M15 k1 k (by omega), hM15, fr_X7_add M14 k1 (M14 k1 2) 1 1 k (by omega), hM14, up2_row (by omega), hM11, fr_X7_damReason M k1 x2 k (by omega) (by omega)]
  · obtain ⟨M18, hM18⟩ : ∃ y : bM, y = up2 M11 k1 6 ((M11 k1 6) + 1) := ⟨_, rfl⟩
    rw [p_X7_damOn_e19 M k1 x2 r12 hr12.symm M11 hM11.symm c13 M18 hM18.symm]
    try dsimp only
    rw [hM18, up2_row (by omega), hM11, fr_X7_damReason M k1 x2 k (by omega) (by omega)]
