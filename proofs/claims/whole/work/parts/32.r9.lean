def f_X7_readCommand (M : bM) (k1 : Nat) : Int32 × bM := (let x11 : Int32 := (M 1 (M 0 11).toNatClampNeg); (let M12 : bM := up2 M 0 11 ((M 0 11) + 1); (if x11 = 98 then (let r15 : Int32 := (f_X7_readBest M12 k1).1; (let M14 : bM := (f_X7_readBest M12 k1).2; (r15, M14))) else (if x11 = 100 then (let r19 : Int32 := (f_X7_readDam M12 k1).1; (let M18 : bM := (f_X7_readDam M12 k1).2; (r19, M18))) else (if x11 = 101 then (let r23 : Int32 := (f_X7_readStep M12 k1 1).1; (let M22 : bM := (f_X7_readStep M12 k1 1).2; (r23, M22))) else (if x11 = 102 then (let r26 : Int32 := f_X7_isUnderWay M12 k1; (if r26 = 0 then (let r29 : Int32 := (f_X7_done M12 0).1; (let M28 : bM := (f_X7_done M12 0).2; (r29, M28))) else (let r31 : Int32 := f_X7_canStep M12 k1; (if r31 = 0 then (let r37 : Int32 := (f_X7_floodOn M12 k1).1; (let M36 : bM := (f_X7_floodOn M12 k1).2; (if r37 < 0 then (let r40 : Int32 := (f_X7_done M36 0).1; (let M39 : bM := (f_X7_done M36 0).2; (r40, M39))) else (let r43 : Int32 := (f_X7_done M36 1).1; (let M42 : bM := (f_X7_done M36 1).2; (r43, M42)))))) else (let r34 : Int32 := (f_X7_done M12 0).1; (let M33 : bM := (f_X7_done M12 0).2; (r34, M33))))))) else (if x11 = 110 then (let r47 : Int32 := (f_X7_figures M12 0 2 0 99).1; (let M46 : bM := (f_X7_figures M12 0 2 0 99).2; (if r47 = (-1) then (0, M46) else (let r51 : Int32 := (f_X7_gameOn M46 k1 r47.toInt64).1; (let M50 : bM := (f_X7_gameOn M46 k1 r47.toInt64).2; (if r51 ≤ 0 then (let r54 : Int32 := (f_X7_done M50 0).1; (let M53 : bM := (f_X7_done M50 0).2; (if r54 = 0 then (0, M53) else (1, M53)))) else (let r59 : Int32 := (f_X7_done M50 1).1; (let M58 : bM := (f_X7_done M50 1).2; (if r59 = 0 then (0, M58) else (1, M58)))))))))) else (if x11 = 115 then (let r65 : Int32 := (f_X7_readStep M12 k1 0).1; (let M64 : bM := (f_X7_readStep M12 k1 0).2; (r65, M64))) else (if x11 = 118 then (let r69 : Int32 := (f_X7_figures M12 0 1 0 1).1; (let M68 : bM := (f_X7_figures M12 0 1 0 1).2; (let r71 : Int32 := (f_X7_figures M68 r69 2 1 40).1; (let M70 : bM := (f_X7_figures M68 r69 2 1 40).2; (if r71 = (-1) then (0, M70) else (let r74 : Int32 := f_X7_isSetting r69 r71; (if r74 = 0 then (let r77 : Int32 := (f_X7_done M70 0).1; (let M76 : bM := (f_X7_done M70 0).2; (if r77 = 0 then (0, M76) else (1, M76)))) else (let r82 : Int32 := (f_X7_change M70 k1 r69 r71).1; (let M81 : bM := (f_X7_change M70 k1 r69 r71).2; (if r82 < 0 then (let r85 : Int32 := (f_X7_done M81 0).1; (let M84 : bM := (f_X7_done M81 0).2; (if r85 = 0 then (0, M84) else (1, M84)))) else (let r90 : Int32 := (f_X7_done M81 1).1; (let M89 : bM := (f_X7_done M81 1).2; (if r90 = 0 then (0, M89) else (1, M89)))))))))))))) else (if x11 = 119 then (let r96 : Int32 := (f_X7_readStep M12 k1 2).1; (let M95 : bM := (f_X7_readStep M12 k1 2).2; (r96, M95))) else (let M98 : bM := up2 M12 0 11 ((M12 0 11) - 1); (0, M98))))))))))))
theorem u_f_X7_readCommand (M : bM) (k1 : Nat) : f_X7_readCommand M k1 = (let x11 : Int32 := (M 1 (M 0 11).toNatClampNeg); (let M12 : bM := up2 M 0 11 ((M 0 11) + 1); (if x11 = 98 then (let r15 : Int32 := (f_X7_readBest M12 k1).1; (let M14 : bM := (f_X7_readBest M12 k1).2; (r15, M14))) else (if x11 = 100 then (let r19 : Int32 := (f_X7_readDam M12 k1).1; (let M18 : bM := (f_X7_readDam M12 k1).2; (r19, M18))) else (if x11 = 101 then (let r23 : Int32 := (f_X7_readStep M12 k1 1).1; (let M22 : bM := (f_X7_readStep M12 k1 1).2; (r23, M22))) else (if x11 = 102 then (let r26 : Int32 := f_X7_isUnderWay M12 k1; (if r26 = 0 then (let r29 : Int32 := (f_X7_done M12 0).1; (let M28 : bM := (f_X7_done M12 0).2; (r29, M28))) else (let r31 : Int32 := f_X7_canStep M12 k1; (if r31 = 0 then (let r37 : Int32 := (f_X7_floodOn M12 k1).1; (let M36 : bM := (f_X7_floodOn M12 k1).2; (if r37 < 0 then (let r40 : Int32 := (f_X7_done M36 0).1; (let M39 : bM := (f_X7_done M36 0).2; (r40, M39))) else (let r43 : Int32 := (f_X7_done M36 1).1; (let M42 : bM := (f_X7_done M36 1).2; (r43, M42)))))) else (let r34 : Int32 := (f_X7_done M12 0).1; (let M33 : bM := (f_X7_done M12 0).2; (r34, M33))))))) else (if x11 = 110 then (let r47 : Int32 := (f_X7_figures M12 0 2 0 99).1; (let M46 : bM := (f_X7_figures M12 0 2 0 99).2; (if r47 = (-1) then (0, M46) else (let r51 : Int32 := (f_X7_gameOn M46 k1 r47.toInt64).1; (let M50 : bM := (f_X7_gameOn M46 k1 r47.toInt64).2; (if r51 ≤ 0 then (let r54 : Int32 := (f_X7_done M50 0).1; (let M53 : bM := (f_X7_done M50 0).2; (if r54 = 0 then (0, M53) else (1, M53)))) else (let r59 : Int32 := (f_X7_done M50 1).1; (let M58 : bM := (f_X7_done M50 1).2; (if r59 = 0 then (0, M58) else (1, M58)))))))))) else (if x11 = 115 then (let r65 : Int32 := (f_X7_readStep M12 k1 0).1; (let M64 : bM := (f_X7_readStep M12 k1 0).2; (r65, M64))) else (if x11 = 118 then (let r69 : Int32 := (f_X7_figures M12 0 1 0 1).1; (let M68 : bM := (f_X7_figures M12 0 1 0 1).2; (let r71 : Int32 := (f_X7_figures M68 r69 2 1 40).1; (let M70 : bM := (f_X7_figures M68 r69 2 1 40).2; (if r71 = (-1) then (0, M70) else (let r74 : Int32 := f_X7_isSetting r69 r71; (if r74 = 0 then (let r77 : Int32 := (f_X7_done M70 0).1; (let M76 : bM := (f_X7_done M70 0).2; (if r77 = 0 then (0, M76) else (1, M76)))) else (let r82 : Int32 := (f_X7_change M70 k1 r69 r71).1; (let M81 : bM := (f_X7_change M70 k1 r69 r71).2; (if r82 < 0 then (let r85 : Int32 := (f_X7_done M81 0).1; (let M84 : bM := (f_X7_done M81 0).2; (if r85 = 0 then (0, M84) else (1, M84)))) else (let r90 : Int32 := (f_X7_done M81 1).1; (let M89 : bM := (f_X7_done M81 1).2; (if r90 = 0 then (0, M89) else (1, M89)))))))))))))) else (if x11 = 119 then (let r96 : Int32 := (f_X7_readStep M12 k1 2).1; (let M95 : bM := (f_X7_readStep M12 k1 2).2; (r96, M95))) else (let M98 : bM := up2 M12 0 11 ((M12 0 11) - 1); (0, M98)))))))))))) := rfl
theorem z_X7_readCommand (M : bM) (k1 : Nat) : (f_X7_readCommand M k1).1 = 0 ∨ (f_X7_readCommand M k1).1 = 1 := by
  rw [u_f_X7_readCommand M k1]
  try dsimp only
  repeat' first | with_reducible exact z_X7_readStep .. | with_reducible exact z_X7_readBest .. | with_reducible exact z_X7_readDam .. | with_reducible exact z_X7_done .. | with_reducible apply zz_if | with_reducible apply zz_if0 | exact Or.inl rfl | exact Or.inr rfl
theorem p_X7_readCommand_e16 (M : bM) (k1 : Nat) (x11 : Int32) (hx11 : (M 1 (M 0 11).toNatClampNeg) = x11) (M12 : bM) (hM12 : up2 M 0 11 ((M 0 11) + 1) = M12) (c13 : x11 = 98) (r15 : Int32) (hr15 : (f_X7_readBest M12 k1).1 = r15) (M14 : bM) (hM14 : (f_X7_readBest M12 k1).2 = M14) : f_X7_readCommand M k1 = (r15, M14) := by subst hM14 hr15 hM12 hx11; exact Eq.trans (u_f_X7_readCommand M k1) (if_pos c13)
theorem p_X7_readCommand_e20 (M : bM) (k1 : Nat) (x11 : Int32) (hx11 : (M 1 (M 0 11).toNatClampNeg) = x11) (M12 : bM) (hM12 : up2 M 0 11 ((M 0 11) + 1) = M12) (c13 : ¬ x11 = 98) (c17 : x11 = 100) (r19 : Int32) (hr19 : (f_X7_readDam M12 k1).1 = r19) (M18 : bM) (hM18 : (f_X7_readDam M12 k1).2 = M18) : f_X7_readCommand M k1 = (r19, M18) := by subst hM18 hr19 hM12 hx11; exact Eq.trans (u_f_X7_readCommand M k1) (Eq.trans (if_neg c13) (if_pos c17))
theorem p_X7_readCommand_e24 (M : bM) (k1 : Nat) (x11 : Int32) (hx11 : (M 1 (M 0 11).toNatClampNeg) = x11) (M12 : bM) (hM12 : up2 M 0 11 ((M 0 11) + 1) = M12) (c13 : ¬ x11 = 98) (c17 : ¬ x11 = 100) (c21 : x11 = 101) (r23 : Int32) (hr23 : (f_X7_readStep M12 k1 1).1 = r23) (M22 : bM) (hM22 : (f_X7_readStep M12 k1 1).2 = M22) : f_X7_readCommand M k1 = (r23, M22) := by subst hM22 hr23 hM12 hx11; exact Eq.trans (u_f_X7_readCommand M k1) (Eq.trans (if_neg c13) (Eq.trans (if_neg c17) (if_pos c21)))
theorem p_X7_readCommand_e30 (M : bM) (k1 : Nat) (x11 : Int32) (hx11 : (M 1 (M 0 11).toNatClampNeg) = x11) (M12 : bM) (hM12 : up2 M 0 11 ((M 0 11) + 1) = M12) (c13 : ¬ x11 = 98) (c17 : ¬ x11 = 100) (c21 : ¬ x11 = 101) (c25 : x11 = 102) (r26 : Int32) (hr26 : f_X7_isUnderWay M12 k1 = r26) (c27 : r26 = 0) (r29 : Int32) (hr29 : (f_X7_done M12 0).1 = r29) (M28 : bM) (hM28 : (f_X7_done M12 0).2 = M28) : f_X7_readCommand M k1 = (r29, M28) := by subst hM28 hr29 hr26 hM12 hx11; exact Eq.trans (u_f_X7_readCommand M k1) (Eq.trans (if_neg c13) (Eq.trans (if_neg c17) (Eq.trans (if_neg c21) (Eq.trans (if_pos c25) (if_pos c27)))))
theorem p_X7_readCommand_e35 (M : bM) (k1 : Nat) (x11 : Int32) (hx11 : (M 1 (M 0 11).toNatClampNeg) = x11) (M12 : bM) (hM12 : up2 M 0 11 ((M 0 11) + 1) = M12) (c13 : ¬ x11 = 98) (c17 : ¬ x11 = 100) (c21 : ¬ x11 = 101) (c25 : x11 = 102) (r26 : Int32) (hr26 : f_X7_isUnderWay M12 k1 = r26) (c27 : ¬ r26 = 0) (r31 : Int32) (hr31 : f_X7_canStep M12 k1 = r31) (c32 : ¬ r31 = 0) (r34 : Int32) (hr34 : (f_X7_done M12 0).1 = r34) (M33 : bM) (hM33 : (f_X7_done M12 0).2 = M33) : f_X7_readCommand M k1 = (r34, M33) := by subst hM33 hr34 hr31 hr26 hM12 hx11; exact Eq.trans (u_f_X7_readCommand M k1) (Eq.trans (if_neg c13) (Eq.trans (if_neg c17) (Eq.trans (if_neg c21) (Eq.trans (if_pos c25) (Eq.trans (if_neg c27) (if_neg c32))))))
theorem p_X7_readCommand_e41 (M : bM) (k1 : Nat) (x11 : Int32) (hx11 : (M 1 (M 0 11).toNatClampNeg) = x11) (M12 : bM) (hM12 : up2 M 0 11 ((M 0 11) + 1) = M12) (c13 : ¬ x11 = 98) (c17 : ¬ x11 = 100) (c21 : ¬ x11 = 101) (c25 : x11 = 102) (r26 : Int32) (hr26 : f_X7_isUnderWay M12 k1 = r26) (c27 : ¬ r26 = 0) (r31 : Int32) (hr31 : f_X7_canStep M12 k1 = r31) (c32 : r31 = 0) (r37 : Int32) (hr37 : (f_X7_floodOn M12 k1).1 = r37) (M36 : bM) (hM36 : (f_X7_floodOn M12 k1).2 = M36) (c38 : r37 < 0) (r40 : Int32) (hr40 : (f_X7_done M36 0).1 = r40) (M39 : bM) (hM39 : (f_X7_done M36 0).2 = M39) : f_X7_readCommand M k1 = (r40, M39) := by subst hM39 hr40 hM36 hr37 hr31 hr26 hM12 hx11; exact Eq.trans (u_f_X7_readCommand M k1) (Eq.trans (if_neg c13) (Eq.trans (if_neg c17) (Eq.trans (if_neg c21) (Eq.trans (if_pos c25) (Eq.trans (if_neg c27) (Eq.trans (if_pos c32) (if_pos c38)))))))
theorem p_X7_readCommand_e44 (M : bM) (k1 : Nat) (x11 : Int32) (hx11 : (M 1 (M 0 11).toNatClampNeg) = x11) (M12 : bM) (hM12 : up2 M 0 11 ((M 0 11) + 1) = M12) (c13 : ¬ x11 = 98) (c17 : ¬ x11 = 100) (c21 : ¬ x11 = 101) (c25 : x11 = 102) (r26 : Int32) (hr26 : f_X7_isUnderWay M12 k1 = r26) (c27 : ¬ r26 = 0) (r31 : Int32) (hr31 : f_X7_canStep M12 k1 = r31) (c32 : r31 = 0) (r37 : Int32) (hr37 : (f_X7_floodOn M12 k1).1 = r37) (M36 : bM) (hM36 : (f_X7_floodOn M12 k1).2 = M36) (c38 : ¬ r37 < 0) (r43 : Int32) (hr43 : (f_X7_done M36 1).1 = r43) (M42 : bM) (hM42 : (f_X7_done M36 1).2 = M42) : f_X7_readCommand M k1 = (r43, M42) := by subst hM42 hr43 hM36 hr37 hr31 hr26 hM12 hx11; exact Eq.trans (u_f_X7_readCommand M k1) (Eq.trans (if_neg c13) (Eq.trans (if_neg c17) (Eq.trans (if_neg c21) (Eq.trans (if_pos c25) (Eq.trans (if_neg c27) (Eq.trans (if_pos c32) (if_neg c38)))))))
theorem p_X7_readCommand_e49 (M : bM) (k1 : Nat) (x11 : Int32) (hx11 : (M 1 (M 0 11).toNatClampNeg) = x11) (M12 : bM) (hM12 : up2 M 0 11 ((M 0 11) + 1) = M12) (c13 : ¬ x11 = 98) (c17 : ¬ x11 = 100) (c21 : ¬ x11 = 101) (c25 : ¬ x11 = 102) (c45 : x11 = 110) (r47 : Int32) (hr47 : (f_X7_figures M12 0 2 0 99).1 = r47) (M46 : bM) (hM46 : (f_X7_figures M12 0 2 0 99).2 = M46) (c48 : r47 = (-1)) : f_X7_readCommand M k1 = (0, M46) := by subst hM46 hr47 hM12 hx11; exact Eq.trans (u_f_X7_readCommand M k1) (Eq.trans (if_neg c13) (Eq.trans (if_neg c17) (Eq.trans (if_neg c21) (Eq.trans (if_neg c25) (Eq.trans (if_pos c45) (if_pos c48))))))
theorem p_X7_readCommand_e56 (M : bM) (k1 : Nat) (x11 : Int32) (hx11 : (M 1 (M 0 11).toNatClampNeg) = x11) (M12 : bM) (hM12 : up2 M 0 11 ((M 0 11) + 1) = M12) (c13 : ¬ x11 = 98) (c17 : ¬ x11 = 100) (c21 : ¬ x11 = 101) (c25 : ¬ x11 = 102) (c45 : x11 = 110) (r47 : Int32) (hr47 : (f_X7_figures M12 0 2 0 99).1 = r47) (M46 : bM) (hM46 : (f_X7_figures M12 0 2 0 99).2 = M46) (c48 : ¬ r47 = (-1)) (r51 : Int32) (hr51 : (f_X7_gameOn M46 k1 r47.toInt64).1 = r51) (M50 : bM) (hM50 : (f_X7_gameOn M46 k1 r47.toInt64).2 = M50) (c52 : r51 ≤ 0) (r54 : Int32) (hr54 : (f_X7_done M50 0).1 = r54) (M53 : bM) (hM53 : (f_X7_done M50 0).2 = M53) (c55 : r54 = 0) : f_X7_readCommand M k1 = (0, M53) := by subst hM53 hr54 hM50 hr51 hM46 hr47 hM12 hx11; exact Eq.trans (u_f_X7_readCommand M k1) (Eq.trans (if_neg c13) (Eq.trans (if_neg c17) (Eq.trans (if_neg c21) (Eq.trans (if_neg c25) (Eq.trans (if_pos c45) (Eq.trans (if_neg c48) (Eq.trans (if_pos c52) (if_pos c55))))))))
theorem p_X7_readCommand_e57 (M : bM) (k1 : Nat) (x11 : Int32) (hx11 : (M 1 (M 0 11).toNatClampNeg) = x11) (M12 : bM) (hM12 : up2 M 0 11 ((M 0 11) + 1) = M12) (c13 : ¬ x11 = 98) (c17 : ¬ x11 = 100) (c21 : ¬ x11 = 101) (c25 : ¬ x11 = 102) (c45 : x11 = 110) (r47 : Int32) (hr47 : (f_X7_figures M12 0 2 0 99).1 = r47) (M46 : bM) (hM46 : (f_X7_figures M12 0 2 0 99).2 = M46) (c48 : ¬ r47 = (-1)) (r51 : Int32) (hr51 : (f_X7_gameOn M46 k1 r47.toInt64).1 = r51) (M50 : bM) (hM50 : (f_X7_gameOn M46 k1 r47.toInt64).2 = M50) (c52 : r51 ≤ 0) (r54 : Int32) (hr54 : (f_X7_done M50 0).1 = r54) (M53 : bM) (hM53 : (f_X7_done M50 0).2 = M53) (c55 : ¬ r54 = 0) : f_X7_readCommand M k1 = (1, M53) := by subst hM53 hr54 hM50 hr51 hM46 hr47 hM12 hx11; exact Eq.trans (u_f_X7_readCommand M k1) (Eq.trans (if_neg c13) (Eq.trans (if_neg c17) (Eq.trans (if_neg c21) (Eq.trans (if_neg c25) (Eq.trans (if_pos c45) (Eq.trans (if_neg c48) (Eq.trans (if_pos c52) (if_neg c55))))))))
theorem p_X7_readCommand_e61 (M : bM) (k1 : Nat) (x11 : Int32) (hx11 : (M 1 (M 0 11).toNatClampNeg) = x11) (M12 : bM) (hM12 : up2 M 0 11 ((M 0 11) + 1) = M12) (c13 : ¬ x11 = 98) (c17 : ¬ x11 = 100) (c21 : ¬ x11 = 101) (c25 : ¬ x11 = 102) (c45 : x11 = 110) (r47 : Int32) (hr47 : (f_X7_figures M12 0 2 0 99).1 = r47) (M46 : bM) (hM46 : (f_X7_figures M12 0 2 0 99).2 = M46) (c48 : ¬ r47 = (-1)) (r51 : Int32) (hr51 : (f_X7_gameOn M46 k1 r47.toInt64).1 = r51) (M50 : bM) (hM50 : (f_X7_gameOn M46 k1 r47.toInt64).2 = M50) (c52 : ¬ r51 ≤ 0) (r59 : Int32) (hr59 : (f_X7_done M50 1).1 = r59) (M58 : bM) (hM58 : (f_X7_done M50 1).2 = M58) (c60 : r59 = 0) : f_X7_readCommand M k1 = (0, M58) := by subst hM58 hr59 hM50 hr51 hM46 hr47 hM12 hx11; exact Eq.trans (u_f_X7_readCommand M k1) (Eq.trans (if_neg c13) (Eq.trans (if_neg c17) (Eq.trans (if_neg c21) (Eq.trans (if_neg c25) (Eq.trans (if_pos c45) (Eq.trans (if_neg c48) (Eq.trans (if_neg c52) (if_pos c60))))))))
theorem p_X7_readCommand_e62 (M : bM) (k1 : Nat) (x11 : Int32) (hx11 : (M 1 (M 0 11).toNatClampNeg) = x11) (M12 : bM) (hM12 : up2 M 0 11 ((M 0 11) + 1) = M12) (c13 : ¬ x11 = 98) (c17 : ¬ x11 = 100) (c21 : ¬ x11 = 101) (c25 : ¬ x11 = 102) (c45 : x11 = 110) (r47 : Int32) (hr47 : (f_X7_figures M12 0 2 0 99).1 = r47) (M46 : bM) (hM46 : (f_X7_figures M12 0 2 0 99).2 = M46) (c48 : ¬ r47 = (-1)) (r51 : Int32) (hr51 : (f_X7_gameOn M46 k1 r47.toInt64).1 = r51) (M50 : bM) (hM50 : (f_X7_gameOn M46 k1 r47.toInt64).2 = M50) (c52 : ¬ r51 ≤ 0) (r59 : Int32) (hr59 : (f_X7_done M50 1).1 = r59) (M58 : bM) (hM58 : (f_X7_done M50 1).2 = M58) (c60 : ¬ r59 = 0) : f_X7_readCommand M k1 = (1, M58) := by subst hM58 hr59 hM50 hr51 hM46 hr47 hM12 hx11; exact Eq.trans (u_f_X7_readCommand M k1) (Eq.trans (if_neg c13) (Eq.trans (if_neg c17) (Eq.trans (if_neg c21) (Eq.trans (if_neg c25) (Eq.trans (if_pos c45) (Eq.trans (if_neg c48) (Eq.trans (if_neg c52) (if_neg c60))))))))
theorem p_X7_readCommand_e66 (M : bM) (k1 : Nat) (x11 : Int32) (hx11 : (M 1 (M 0 11).toNatClampNeg) = x11) (M12 : bM) (hM12 : up2 M 0 11 ((M 0 11) + 1) = M12) (c13 : ¬ x11 = 98) (c17 : ¬ x11 = 100) (c21 : ¬ x11 = 101) (c25 : ¬ x11 = 102) (c45 : ¬ x11 = 110) (c63 : x11 = 115) (r65 : Int32) (hr65 : (f_X7_readStep M12 k1 0).1 = r65) (M64 : bM) (hM64 : (f_X7_readStep M12 k1 0).2 = M64) : f_X7_readCommand M k1 = (r65, M64) := by subst hM64 hr65 hM12 hx11; exact Eq.trans (u_f_X7_readCommand M k1) (Eq.trans (if_neg c13) (Eq.trans (if_neg c17) (Eq.trans (if_neg c21) (Eq.trans (if_neg c25) (Eq.trans (if_neg c45) (if_pos c63))))))
theorem p_X7_readCommand_e73 (M : bM) (k1 : Nat) (x11 : Int32) (hx11 : (M 1 (M 0 11).toNatClampNeg) = x11) (M12 : bM) (hM12 : up2 M 0 11 ((M 0 11) + 1) = M12) (c13 : ¬ x11 = 98) (c17 : ¬ x11 = 100) (c21 : ¬ x11 = 101) (c25 : ¬ x11 = 102) (c45 : ¬ x11 = 110) (c63 : ¬ x11 = 115) (c67 : x11 = 118) (r69 : Int32) (hr69 : (f_X7_figures M12 0 1 0 1).1 = r69) (M68 : bM) (hM68 : (f_X7_figures M12 0 1 0 1).2 = M68) (r71 : Int32) (hr71 : (f_X7_figures M68 r69 2 1 40).1 = r71) (M70 : bM) (hM70 : (f_X7_figures M68 r69 2 1 40).2 = M70) (c72 : r71 = (-1)) : f_X7_readCommand M k1 = (0, M70) := by subst hM70 hr71 hM68 hr69 hM12 hx11; exact Eq.trans (u_f_X7_readCommand M k1) (Eq.trans (if_neg c13) (Eq.trans (if_neg c17) (Eq.trans (if_neg c21) (Eq.trans (if_neg c25) (Eq.trans (if_neg c45) (Eq.trans (if_neg c63) (Eq.trans (if_pos c67) (if_pos c72))))))))
theorem p_X7_readCommand_e79 (M : bM) (k1 : Nat) (x11 : Int32) (hx11 : (M 1 (M 0 11).toNatClampNeg) = x11) (M12 : bM) (hM12 : up2 M 0 11 ((M 0 11) + 1) = M12) (c13 : ¬ x11 = 98) (c17 : ¬ x11 = 100) (c21 : ¬ x11 = 101) (c25 : ¬ x11 = 102) (c45 : ¬ x11 = 110) (c63 : ¬ x11 = 115) (c67 : x11 = 118) (r69 : Int32) (hr69 : (f_X7_figures M12 0 1 0 1).1 = r69) (M68 : bM) (hM68 : (f_X7_figures M12 0 1 0 1).2 = M68) (r71 : Int32) (hr71 : (f_X7_figures M68 r69 2 1 40).1 = r71) (M70 : bM) (hM70 : (f_X7_figures M68 r69 2 1 40).2 = M70) (c72 : ¬ r71 = (-1)) (r74 : Int32) (hr74 : f_X7_isSetting r69 r71 = r74) (c75 : r74 = 0) (r77 : Int32) (hr77 : (f_X7_done M70 0).1 = r77) (M76 : bM) (hM76 : (f_X7_done M70 0).2 = M76) (c78 : r77 = 0) : f_X7_readCommand M k1 = (0, M76) := by subst hM76 hr77 hr74 hM70 hr71 hM68 hr69 hM12 hx11; exact Eq.trans (u_f_X7_readCommand M k1) (Eq.trans (if_neg c13) (Eq.trans (if_neg c17) (Eq.trans (if_neg c21) (Eq.trans (if_neg c25) (Eq.trans (if_neg c45) (Eq.trans (if_neg c63) (Eq.trans (if_pos c67) (Eq.trans (if_neg c72) (Eq.trans (if_pos c75) (if_pos c78))))))))))
theorem p_X7_readCommand_e80 (M : bM) (k1 : Nat) (x11 : Int32) (hx11 : (M 1 (M 0 11).toNatClampNeg) = x11) (M12 : bM) (hM12 : up2 M 0 11 ((M 0 11) + 1) = M12) (c13 : ¬ x11 = 98) (c17 : ¬ x11 = 100) (c21 : ¬ x11 = 101) (c25 : ¬ x11 = 102) (c45 : ¬ x11 = 110) (c63 : ¬ x11 = 115) (c67 : x11 = 118) (r69 : Int32) (hr69 : (f_X7_figures M12 0 1 0 1).1 = r69) (M68 : bM) (hM68 : (f_X7_figures M12 0 1 0 1).2 = M68) (r71 : Int32) (hr71 : (f_X7_figures M68 r69 2 1 40).1 = r71) (M70 : bM) (hM70 : (f_X7_figures M68 r69 2 1 40).2 = M70) (c72 : ¬ r71 = (-1)) (r74 : Int32) (hr74 : f_X7_isSetting r69 r71 = r74) (c75 : r74 = 0) (r77 : Int32) (hr77 : (f_X7_done M70 0).1 = r77) (M76 : bM) (hM76 : (f_X7_done M70 0).2 = M76) (c78 : ¬ r77 = 0) : f_X7_readCommand M k1 = (1, M76) := by subst hM76 hr77 hr74 hM70 hr71 hM68 hr69 hM12 hx11; exact Eq.trans (u_f_X7_readCommand M k1) (Eq.trans (if_neg c13) (Eq.trans (if_neg c17) (Eq.trans (if_neg c21) (Eq.trans (if_neg c25) (Eq.trans (if_neg c45) (Eq.trans (if_neg c63) (Eq.trans (if_pos c67) (Eq.trans (if_neg c72) (Eq.trans (if_pos c75) (if_neg c78))))))))))
theorem p_X7_readCommand_e87 (M : bM) (k1 : Nat) (x11 : Int32) (hx11 : (M 1 (M 0 11).toNatClampNeg) = x11) (M12 : bM) (hM12 : up2 M 0 11 ((M 0 11) + 1) = M12) (c13 : ¬ x11 = 98) (c17 : ¬ x11 = 100) (c21 : ¬ x11 = 101) (c25 : ¬ x11 = 102) (c45 : ¬ x11 = 110) (c63 : ¬ x11 = 115) (c67 : x11 = 118) (r69 : Int32) (hr69 : (f_X7_figures M12 0 1 0 1).1 = r69) (M68 : bM) (hM68 : (f_X7_figures M12 0 1 0 1).2 = M68) (r71 : Int32) (hr71 : (f_X7_figures M68 r69 2 1 40).1 = r71) (M70 : bM) (hM70 : (f_X7_figures M68 r69 2 1 40).2 = M70) (c72 : ¬ r71 = (-1)) (r74 : Int32) (hr74 : f_X7_isSetting r69 r71 = r74) (c75 : ¬ r74 = 0) (r82 : Int32) (hr82 : (f_X7_change M70 k1 r69 r71).1 = r82) (M81 : bM) (hM81 : (f_X7_change M70 k1 r69 r71).2 = M81) (c83 : r82 < 0) (r85 : Int32) (hr85 : (f_X7_done M81 0).1 = r85) (M84 : bM) (hM84 : (f_X7_done M81 0).2 = M84) (c86 : r85 = 0) : f_X7_readCommand M k1 = (0, M84) := by subst hM84 hr85 hM81 hr82 hr74 hM70 hr71 hM68 hr69 hM12 hx11; exact Eq.trans (u_f_X7_readCommand M k1) (Eq.trans (if_neg c13) (Eq.trans (if_neg c17) (Eq.trans (if_neg c21) (Eq.trans (if_neg c25) (Eq.trans (if_neg c45) (Eq.trans (if_neg c63) (Eq.trans (if_pos c67) (Eq.trans (if_neg c72) (Eq.trans (if_neg c75) (Eq.trans (if_pos c83) (if_pos c86)))))))))))
theorem p_X7_readCommand_e88 (M : bM) (k1 : Nat) (x11 : Int32) (hx11 : (M 1 (M 0 11).toNatClampNeg) = x11) (M12 : bM) (hM12 : up2 M 0 11 ((M 0 11) + 1) = M12) (c13 : ¬ x11 = 98) (c17 : ¬ x11 = 100) (c21 : ¬ x11 = 101) (c25 : ¬ x11 = 102) (c45 : ¬ x11 = 110) (c63 : ¬ x11 = 115) (c67 : x11 = 118) (r69 : Int32) (hr69 : (f_X7_figures M12 0 1 0 1).1 = r69) (M68 : bM) (hM68 : (f_X7_figures M12 0 1 0 1).2 = M68) (r71 : Int32) (hr71 : (f_X7_figures M68 r69 2 1 40).1 = r71) (M70 : bM) (hM70 : (f_X7_figures M68 r69 2 1 40).2 = M70) (c72 : ¬ r71 = (-1)) (r74 : Int32) (hr74 : f_X7_isSetting r69 r71 = r74) (c75 : ¬ r74 = 0) (r82 : Int32) (hr82 : (f_X7_change M70 k1 r69 r71).1 = r82) (M81 : bM) (hM81 : (f_X7_change M70 k1 r69 r71).2 = M81) (c83 : r82 < 0) (r85 : Int32) (hr85 : (f_X7_done M81 0).1 = r85) (M84 : bM) (hM84 : (f_X7_done M81 0).2 = M84) (c86 : ¬ r85 = 0) : f_X7_readCommand M k1 = (1, M84) := by subst hM84 hr85 hM81 hr82 hr74 hM70 hr71 hM68 hr69 hM12 hx11; exact Eq.trans (u_f_X7_readCommand M k1) (Eq.trans (if_neg c13) (Eq.trans (if_neg c17) (Eq.trans (if_neg c21) (Eq.trans (if_neg c25) (Eq.trans (if_neg c45) (Eq.trans (if_neg c63) (Eq.trans (if_pos c67) (Eq.trans (if_neg c72) (Eq.trans (if_neg c75) (Eq.trans (if_pos c83) (if_neg c86)))))))))))
theorem p_X7_readCommand_e92 (M : bM) (k1 : Nat) (x11 : Int32) (hx11 : (M 1 (M 0 11).toNatClampNeg) = x11) (M12 : bM) (hM12 : up2 M 0 11 ((M 0 11) + 1) = M12) (c13 : ¬ x11 = 98) (c17 : ¬ x11 = 100) (c21 : ¬ x11 = 101) (c25 : ¬ x11 = 102) (c45 : ¬ x11 = 110) (c63 : ¬ x11 = 115) (c67 : x11 = 118) (r69 : Int32) (hr69 : (f_X7_figures M12 0 1 0 1).1 = r69) (M68 : bM) (hM68 : (f_X7_figures M12 0 1 0 1).2 = M68) (r71 : Int32) (hr71 : (f_X7_figures M68 r69 2 1 40).1 = r71) (M70 : bM) (hM70 : (f_X7_figures M68 r69 2 1 40).2 = M70) (c72 : ¬ r71 = (-1)) (r74 : Int32) (hr74 : f_X7_isSetting r69 r71 = r74) (c75 : ¬ r74 = 0) (r82 : Int32) (hr82 : (f_X7_change M70 k1 r69 r71).1 = r82) (M81 : bM) (hM81 : (f_X7_change M70 k1 r69 r71).2 = M81) (c83 : ¬ r82 < 0) (r90 : Int32) (hr90 : (f_X7_done M81 1).1 = r90) (M89 : bM) (hM89 : (f_X7_done M81 1).2 = M89) (c91 : r90 = 0) : f_X7_readCommand M k1 = (0, M89) := by subst hM89 hr90 hM81 hr82 hr74 hM70 hr71 hM68 hr69 hM12 hx11; exact Eq.trans (u_f_X7_readCommand M k1) (Eq.trans (if_neg c13) (Eq.trans (if_neg c17) (Eq.trans (if_neg c21) (Eq.trans (if_neg c25) (Eq.trans (if_neg c45) (Eq.trans (if_neg c63) (Eq.trans (if_pos c67) (Eq.trans (if_neg c72) (Eq.trans (if_neg c75) (Eq.trans (if_neg c83) (if_pos c91)))))))))))
theorem p_X7_readCommand_e93 (M : bM) (k1 : Nat) (x11 : Int32) (hx11 : (M 1 (M 0 11).toNatClampNeg) = x11) (M12 : bM) (hM12 : up2 M 0 11 ((M 0 11) + 1) = M12) (c13 : ¬ x11 = 98) (c17 : ¬ x11 = 100) (c21 : ¬ x11 = 101) (c25 : ¬ x11 = 102) (c45 : ¬ x11 = 110) (c63 : ¬ x11 = 115) (c67 : x11 = 118) (r69 : Int32) (hr69 : (f_X7_figures M12 0 1 0 1).1 = r69) (M68 : bM) (hM68 : (f_X7_figures M12 0 1 0 1).2 = M68) (r71 : Int32) (hr71 : (f_X7_figures M68 r69 2 1 40).1 = r71) (M70 : bM) (hM70 : (f_X7_figures M68 r69 2 1 40).2 = M70) (c72 : ¬ r71 = (-1)) (r74 : Int32) (hr74 : f_X7_isSetting r69 r71 = r74) (c75 : ¬ r74 = 0) (r82 : Int32) (hr82 : (f_X7_change M70 k1 r69 r71).1 = r82) (M81 : bM) (hM81 : (f_X7_change M70 k1 r69 r71).2 = M81) (c83 : ¬ r82 < 0) (r90 : Int32) (hr90 : (f_X7_done M81 1).1 = r90) (M89 : bM) (hM89 : (f_X7_done M81 1).2 = M89) (c91 : ¬ r90 = 0) : f_X7_readCommand M k1 = (1, M89) := by subst hM89 hr90 hM81 hr82 hr74 hM70 hr71 hM68 hr69 hM12 hx11; exact Eq.trans (u_f_X7_readCommand M k1) (Eq.trans (if_neg c13) (Eq.trans (if_neg c17) (Eq.trans (if_neg c21) (Eq.trans (if_neg c25) (Eq.trans (if_neg c45) (Eq.trans (if_neg c63) (Eq.trans (if_pos c67) (Eq.trans (if_neg c72) (Eq.trans (if_neg c75) (Eq.trans (if_neg c83) (if_neg c91)))))))))))
theorem p_X7_readCommand_e97 (M : bM) (k1 : Nat) (x11 : Int32) (hx11 : (M 1 (M 0 11).toNatClampNeg) = x11) (M12 : bM) (hM12 : up2 M 0 11 ((M 0 11) + 1) = M12) (c13 : ¬ x11 = 98) (c17 : ¬ x11 = 100) (c21 : ¬ x11 = 101) (c25 : ¬ x11 = 102) (c45 : ¬ x11 = 110) (c63 : ¬ x11 = 115) (c67 : ¬ x11 = 118) (c94 : x11 = 119) (r96 : Int32) (hr96 : (f_X7_readStep M12 k1 2).1 = r96) (M95 : bM) (hM95 : (f_X7_readStep M12 k1 2).2 = M95) : f_X7_readCommand M k1 = (r96, M95) := by subst hM95 hr96 hM12 hx11; exact Eq.trans (u_f_X7_readCommand M k1) (Eq.trans (if_neg c13) (Eq.trans (if_neg c17) (Eq.trans (if_neg c21) (Eq.trans (if_neg c25) (Eq.trans (if_neg c45) (Eq.trans (if_neg c63) (Eq.trans (if_neg c67) (if_pos c94))))))))
theorem p_X7_readCommand_e99 (M : bM) (k1 : Nat) (x11 : Int32) (hx11 : (M 1 (M 0 11).toNatClampNeg) = x11) (M12 : bM) (hM12 : up2 M 0 11 ((M 0 11) + 1) = M12) (c13 : ¬ x11 = 98) (c17 : ¬ x11 = 100) (c21 : ¬ x11 = 101) (c25 : ¬ x11 = 102) (c45 : ¬ x11 = 110) (c63 : ¬ x11 = 115) (c67 : ¬ x11 = 118) (c94 : ¬ x11 = 119) (M98 : bM) (hM98 : up2 M12 0 11 ((M12 0 11) - 1) = M98) : f_X7_readCommand M k1 = (0, M98) := by subst hM98 hM12 hx11; exact Eq.trans (u_f_X7_readCommand M k1) (Eq.trans (if_neg c13) (Eq.trans (if_neg c17) (Eq.trans (if_neg c21) (Eq.trans (if_neg c25) (Eq.trans (if_neg c45) (Eq.trans (if_neg c63) (Eq.trans (if_neg c67) (if_neg c94))))))))
theorem fr_X7_readCommand (M : bM) (k1 : Nat) (k : Nat) (hk : k ≠ k1) (hf : k ≠ 7) (h0k : k ≠ 0) : (f_X7_readCommand M k1).2 k = M k := by
  obtain ⟨x11, hx11⟩ : ∃ y : Int32, y = (M 1 (M 0 11).toNatClampNeg) := ⟨_, rfl⟩
  obtain ⟨M12, hM12⟩ : ∃ y : bM, y = up2 M 0 11 ((M 0 11) + 1) := ⟨_, rfl⟩
  by_cases c13 : x11 = 98
  · obtain ⟨r15, hr15⟩ : ∃ y : Int32, y = (f_X7_readBest M12 k1).1 := ⟨_, rfl⟩
    obtain ⟨M14, hM14⟩ : ∃ y : bM, y = (f_X7_readBest M12 k1).2 := ⟨_, rfl⟩
    rw [p_X7_readCommand_e16 M k1 x11 hx11.symm M12 hM12.symm c13 r15 hr15.symm M14 hM14.symm]
    try dsimp only
    rw [hM14, fr_X7_readBest M12 k1 k (by omega) (by omega), hM12, up2_row (by omega)]
  by_cases c17 : x11 = 100
  · obtain ⟨r19, hr19⟩ : ∃ y : Int32, y = (f_X7_readDam M12 k1).1 := ⟨_, rfl⟩
    obtain ⟨M18, hM18⟩ : ∃ y : bM, y = (f_X7_readDam M12 k1).2 := ⟨_, rfl⟩
    rw [p_X7_readCommand_e20 M k1 x11 hx11.symm M12 hM12.symm c13 c17 r19 hr19.symm M18 hM18.symm]
    try dsimp only
    rw [hM18, fr_X7_readDam M12 k1 k (by omega) (by omega) (by omega), hM12, up2_row (by omega)]
  by_cases c21 : x11 = 101
  · obtain ⟨r23, hr23⟩ : ∃ y : Int32, y = (f_X7_readStep M12 k1 1).1 := ⟨_, rfl⟩
    obtain ⟨M22, hM22⟩ : ∃ y : bM, y = (f_X7_readStep M12 k1 1).2 := ⟨_, rfl⟩
    rw [p_X7_readCommand_e24 M k1 x11 hx11.symm M12 hM12.symm c13 c17 c21 r23 hr23.symm M22 hM22.symm]
    try dsimp only
    rw [hM22, fr_X7_readStep M12 k1 1 k (by omega) (by omega), hM12, up2_row (by omega)]
  by_cases c25 : x11 = 102
  · obtain ⟨r26, hr26⟩ : ∃ y : Int32, y = f_X7_isUnderWay M12 k1 := ⟨_, rfl⟩
    by_cases c27 : r26 = 0
    · obtain ⟨r29, hr29⟩ : ∃ y : Int32, y = (f_X7_done M12 0).1 := ⟨_, rfl⟩
      obtain ⟨M28, hM28⟩ : ∃ y : bM, y = (f_X7_done M12 0).2 := ⟨_, rfl⟩
      rw [p_X7_readCommand_e30 M k1 x11 hx11.symm M12 hM12.symm c13 c17 c21 c25 r26 hr26.symm c27 r29 hr29.symm M28 hM28.symm]
      try dsimp only
      rw [hM28, fr_X7_done M12 0 k (by omega), hM12, up2_row (by omega)]
    · obtain ⟨r31, hr31⟩ : ∃ y : Int32, y = f_X7_canStep M12 k1 := ⟨_, rfl⟩
      by_cases c32 : r31 = 0
      · obtain ⟨r37, hr37⟩ : ∃ y : Int32, y = (f_X7_floodOn M12 k1).1 := ⟨_, rfl⟩
        obtain ⟨M36, hM36⟩ : ∃ y : bM, y = (f_X7_floodOn M12 k1).2 := ⟨_, rfl⟩
        by_cases c38 : r37 < 0
        · obtain ⟨r40, hr40⟩ : ∃ y : Int32, y = (f_X7_done M36 0).1 := ⟨_, rfl⟩
          obtain ⟨M39, hM39⟩ : ∃ y : bM, y = (f_X7_done M36 0).2 := ⟨_, rfl⟩
          rw [p_X7_readCommand_e41 M k1 x11 hx11.symm M12 hM12.symm c13 c17 c21 c25 r26 hr26.symm c27 r31 hr31.symm c32 r37 hr37.symm M36 hM36.symm c38 r40 hr40.symm M39 hM39.symm]
          try dsimp only
          rw [hM39, fr_X7_done M36 0 k (by omega), hM36, fr_X7_floodOn M12 k1 k (by omega), hM12, up2_row (by omega)]
        · obtain ⟨r43, hr43⟩ : ∃ y : Int32, y = (f_X7_done M36 1).1 := ⟨_, rfl⟩
          obtain ⟨M42, hM42⟩ : ∃ y : bM, y = (f_X7_done M36 1).2 := ⟨_, rfl⟩
          rw [p_X7_readCommand_e44 M k1 x11 hx11.symm M12 hM12.symm c13 c17 c21 c25 r26 hr26.symm c27 r31 hr31.symm c32 r37 hr37.symm M36 hM36.symm c38 r43 hr43.symm M42 hM42.symm]
          try dsimp only
          rw [hM42, fr_X7_done M36 1 k (by omega), hM36, fr_X7_floodOn M12 k1 k (by omega), hM12, up2_row (by omega)]
      · obtain ⟨r34, hr34⟩ : ∃ y : Int32, y = (f_X7_done M12 0).1 := ⟨_, rfl⟩
        obtain ⟨M33, hM33⟩ : ∃ y : bM, y = (f_X7_done M12 0).2 := ⟨_, rfl⟩
        rw [p_X7_readCommand_e35 M k1 x11 hx11.symm M12 hM12.symm c13 c17 c21 c25 r26 hr26.symm c27 r31 hr31.symm c32 r34 hr34.symm M33 hM33.symm]
        try dsimp only
        rw [hM33, fr_X7_done M12 0 k (by omega), hM12, up2_row (by omega)]
  by_cases c45 : x11 = 110
  · obtain ⟨r47, hr47⟩ : ∃ y : Int32, y = (f_X7_figures M12 0 2 0 99).1 := ⟨_, rfl⟩
    obtain ⟨M46, hM46⟩ : ∃ y : bM, y = (f_X7_figures M12 0 2 0 99).2 := ⟨_, rfl⟩
    by_cases c48 : r47 = (-1)
    · rw [p_X7_readCommand_e49 M k1 x11 hx11.symm M12 hM12.symm c13 c17 c21 c25 c45 r47 hr47.symm M46 hM46.symm c48]
      try dsimp only
      rw [hM46, fr_X7_figures M12 0 2 0 99 k (by omega), hM12, up2_row (by omega)]
    · obtain ⟨r51, hr51⟩ : ∃ y : Int32, y = (f_X7_gameOn M46 k1 r47.toInt64).1 := ⟨_, rfl⟩
      obtain ⟨M50, hM50⟩ : ∃ y : bM, y = (f_X7_gameOn M46 k1 r47.toInt64).2 := ⟨_, rfl⟩
      by_cases c52 : r51 ≤ 0
      · obtain ⟨r54, hr54⟩ : ∃ y : Int32, y = (f_X7_done M50 0).1 := ⟨_, rfl⟩
        obtain ⟨M53, hM53⟩ : ∃ y : bM, y = (f_X7_done M50 0).2 := ⟨_, rfl⟩
        by_cases c55 : r54 = 0
        · rw [p_X7_readCommand_e56 M k1 x11 hx11.symm M12 hM12.symm c13 c17 c21 c25 c45 r47 hr47.symm M46 hM46.symm c48 r51 hr51.symm M50 hM50.symm c52 r54 hr54.symm M53 hM53.symm c55]
          try dsimp only
          rw [hM53, fr_X7_done M50 0 k (by omega), hM50, fr_X7_gameOn M46 k1 r47.toInt64 k (by omega), hM46, fr_X7_figures M12 0 2 0 99 k (by omega), hM12, up2_row (by omega)]
        · rw [p_X7_readCommand_e57 M k1 x11 hx11.symm M12 hM12.symm c13 c17 c21 c25 c45 r47 hr47.symm M46 hM46.symm c48 r51 hr51.symm M50 hM50.symm c52 r54 hr54.symm M53 hM53.symm c55]
          try dsimp only
          rw [hM53, fr_X7_done M50 0 k (by omega), hM50, fr_X7_gameOn M46 k1 r47.toInt64 k (by omega), hM46, fr_X7_figures M12 0 2 0 99 k (by omega), hM12, up2_row (by omega)]
      · obtain ⟨r59, hr59⟩ : ∃ y : Int32, y = (f_X7_done M50 1).1 := ⟨_, rfl⟩
        obtain ⟨M58, hM58⟩ : ∃ y : bM, y = (f_X7_done M50 1).2 := ⟨_, rfl⟩
        by_cases c60 : r59 = 0
        · rw [p_X7_readCommand_e61 M k1 x11 hx11.symm M12 hM12.symm c13 c17 c21 c25 c45 r47 hr47.symm M46 hM46.symm c48 r51 hr51.symm M50 hM50.symm c52 r59 hr59.symm M58 hM58.symm c60]
          try dsimp only
          rw [hM58, fr_X7_done M50 1 k (by omega), hM50, fr_X7_gameOn M46 k1 r47.toInt64 k (by omega), hM46, fr_X7_figures M12 0 2 0 99 k (by omega), hM12, up2_row (by omega)]
        · rw [p_X7_readCommand_e62 M k1 x11 hx11.symm M12 hM12.symm c13 c17 c21 c25 c45 r47 hr47.symm M46 hM46.symm c48 r51 hr51.symm M50 hM50.symm c52 r59 hr59.symm M58 hM58.symm c60]
          try dsimp only
          rw [hM58, fr_X7_done M50 1 k (by omega), hM50, fr_X7_gameOn M46 k1 r47.toInt64 k (by omega), hM46, fr_X7_figures M12 0 2 0 99 k (by omega), hM12, up2_row (by omega)]
  by_cases c63 : x11 = 115
  · obtain ⟨r65, hr65⟩ : ∃ y : Int32, y = (f_X7_readStep M12 k1 0).1 := ⟨_, rfl⟩
    obtain ⟨M64, hM64⟩ : ∃ y : bM, y = (f_X7_readStep M12 k1 0).2 := ⟨_, rfl⟩
    rw [p_X7_readCommand_e66 M k1 x11 hx11.symm M12 hM12.symm c13 c17 c21 c25 c45 c63 r65 hr65.symm M64 hM64.symm]
    try dsimp only
    rw [hM64, fr_X7_readStep M12 k1 0 k (by omega) (by omega), hM12, up2_row (by omega)]
  by_cases c67 : x11 = 118
  · obtain ⟨r69, hr69⟩ : ∃ y : Int32, y = (f_X7_figures M12 0 1 0 1).1 := ⟨_, rfl⟩
    obtain ⟨M68, hM68⟩ : ∃ y : bM, y = (f_X7_figures M12 0 1 0 1).2 := ⟨_, rfl⟩
    obtain ⟨r71, hr71⟩ : ∃ y : Int32, y = (f_X7_figures M68 r69 2 1 40).1 := ⟨_, rfl⟩
    obtain ⟨M70, hM70⟩ : ∃ y : bM, y = (f_X7_figures M68 r69 2 1 40).2 := ⟨_, rfl⟩
    by_cases c72 : r71 = (-1)
    · rw [p_X7_readCommand_e73 M k1 x11 hx11.symm M12 hM12.symm c13 c17 c21 c25 c45 c63 c67 r69 hr69.symm M68 hM68.symm r71 hr71.symm M70 hM70.symm c72]
      try dsimp only
      rw [hM70, fr_X7_figures M68 r69 2 1 40 k (by omega), hM68, fr_X7_figures M12 0 1 0 1 k (by omega), hM12, up2_row (by omega)]
    · obtain ⟨r74, hr74⟩ : ∃ y : Int32, y = f_X7_isSetting r69 r71 := ⟨_, rfl⟩
      by_cases c75 : r74 = 0
      · obtain ⟨r77, hr77⟩ : ∃ y : Int32, y = (f_X7_done M70 0).1 := ⟨_, rfl⟩
        obtain ⟨M76, hM76⟩ : ∃ y : bM, y = (f_X7_done M70 0).2 := ⟨_, rfl⟩
        by_cases c78 : r77 = 0
        · rw [p_X7_readCommand_e79 M k1 x11 hx11.symm M12 hM12.symm c13 c17 c21 c25 c45 c63 c67 r69 hr69.symm M68 hM68.symm r71 hr71.symm M70 hM70.symm c72 r74 hr74.symm c75 r77 hr77.symm M76 hM76.symm c78]
          try dsimp only
          rw [hM76, fr_X7_done M70 0 k (by omega), hM70, fr_X7_figures M68 r69 2 1 40 k (by omega), hM68, fr_X7_figures M12 0 1 0 1 k (by omega), hM12, up2_row (by omega)]
        · rw [p_X7_readCommand_e80 M k1 x11 hx11.symm M12 hM12.symm c13 c17 c21 c25 c45 c63 c67 r69 hr69.symm M68 hM68.symm r71 hr71.symm M70 hM70.symm c72 r74 hr74.symm c75 r77 hr77.symm M76 hM76.symm c78]
          try dsimp only
          rw [hM76, fr_X7_done M70 0 k (by omega), hM70, fr_X7_figures M68 r69 2 1 40 k (by omega), hM68, fr_X7_figures M12 0 1 0 1 k (by omega), hM12, up2_row (by omega)]
      · obtain ⟨r82, hr82⟩ : ∃ y : Int32, y = (f_X7_change M70 k1 r69 r71).1 := ⟨_, rfl⟩
        obtain ⟨M81, hM81⟩ : ∃ y : bM, y = (f_X7_change M70 k1 r69 r71).2 := ⟨_, rfl⟩
        by_cases c83 : r82 < 0
        · obtain ⟨r85, hr85⟩ : ∃ y : Int32, y = (f_X7_done M81 0).1 := ⟨_, rfl⟩
          obtain ⟨M84, hM84⟩ : ∃ y : bM, y = (f_X7_done M81 0).2 := ⟨_, rfl⟩
          by_cases c86 : r85 = 0
          · rw [p_X7_readCommand_e87 M k1 x11 hx11.symm M12 hM12.symm c13 c17 c21 c25 c45 c63 c67 r69 hr69.symm M68 hM68.symm r71 hr71.symm M70 hM70.symm c72 r74 hr74.symm c75 r82 hr82.symm M81 hM81.symm c83 r85 hr85.symm M84 hM84.symm c86]
            try dsimp only
            rw [hM84, fr_X7_done M81 0 k (by omega), hM81, fr_X7_change M70 k1 r69 r71 k (by omega), hM70, fr_X7_figures M68 r69 2 1 40 k (by omega), hM68, fr_X7_figures M12 0 1 0 1 k (by omega), hM12, up2_row (by omega)]
          · rw [p_X7_readCommand_e88 M k1 x11 hx11.symm M12 hM12.symm c13 c17 c21 c25 c45 c63 c67 r69 hr69.symm M68 hM68.symm r71 hr71.symm M70 hM70.symm c72 r74 hr74.symm c75 r82 hr82.symm M81 hM81.symm c83 r85 hr85.symm M84 hM84.symm c86]
            try dsimp only
            rw [hM84, fr_X7_done M81 0 k (by omega), hM81, fr_X7_change M70 k1 r69 r71 k (by omega), hM70, fr_X7_figures M68 r69 2 1 40 k (by omega), hM68, fr_X7_figures M12 0 1 0 1 k (by omega), hM12, up2_row (by omega)]
        · obtain ⟨r90, hr90⟩ : ∃ y : Int32, y = (f_X7_done M81 1).1 := ⟨_, rfl⟩
          obtain ⟨M89, hM89⟩ : ∃ y : bM, y = (f_X7_done M81 1).2 := ⟨_, rfl⟩
          by_cases c91 : r90 = 0
          · rw [p_X7_readCommand_e92 M k1 x11 hx11.symm M12 hM12.symm c13 c17 c21 c25 c45 c63 c67 r69 hr69.symm M68 hM68.symm r71 hr71.symm M70 hM70.symm c72 r74 hr74.symm c75 r82 hr82.symm M81 hM81.symm c83 r90 hr90.symm M89 hM89.symm c91]
            try dsimp only
            rw [hM89, fr_X7_done M81 1 k (by omega), hM81, fr_X7_change M70 k1 r69 r71 k (by omega), hM70, fr_X7_figures M68 r69 2 1 40 k (by omega), hM68, fr_X7_figures M12 0 1 0 1 k (by omega), hM12, up2_row (by omega)]
          · rw [p_X7_readCommand_e93 M k1 x11 hx11.symm M12 hM12.symm c13 c17 c21 c25 c45 c63 c67 r69 hr69.symm M68 hM68.symm r71 hr71.symm M70 hM70.symm c72 r74 hr74.symm c75 r82 hr82.symm M81 hM81.symm c83 r90 hr90.symm M89 hM89.symm c91]
            try dsimp only
            rw [hM89, fr_X7_done M81 1 k (by omega), hM81, fr_X7_change M70 k1 r69 r71 k (by omega), hM70, fr_X7_figures M68 r69 2 1 40 k (by omega), hM68, fr_X7_figures M12 0 1 0 1 k (by omega), hM12, up2_row (by omega)]
  by_cases c94 : x11 = 119
  · obtain ⟨r96, hr96⟩ : ∃ y : Int32, y = (f_X7_readStep M12 k1 2).1 := ⟨_, rfl⟩
    obtain ⟨M95, hM95⟩ : ∃ y : bM, y = (f_X7_readStep M12 k1 2).2 := ⟨_, rfl⟩
    rw [p_X7_readCommand_e97 M k1 x11 hx11.symm M12 hM12.symm c13 c17 c21 c25 c45 c63 c67 c94 r96 hr96.symm M95 hM95.symm]
    try dsimp only
    rw [hM95, fr_X7_readStep M12 k1 2 k (by omega) (by omega), hM12, up2_row (by omega)]
  obtain ⟨M98, hM98⟩ : ∃ y : bM, y = up2 M12 0 11 ((M12 0 11) - 1) := ⟨_, rfl⟩
  rw [p_X7_readCommand_e99 M k1 x11 hx11.symm M12 hM12.symm c13 c17 c21 c25 c45 c63 c67 c94 M98 hM98.symm]
  try dsimp only
  rw [hM98, up2_row (by omega), hM12, up2_row (by omega)]
set_option maxHeartbeats 4000000 in
set_option maxRecDepth 100000 in
theorem c_X7_readCommand (l : Launch) (D : va_G) (E : Nat → ClassId) (o : Nat) (M : bM) (k1 : Nat) (hk1 : LRR[k1]? = some (.inl (0, 404))) (hg : gR (M k1)) (h7 : 7 ≠ k1) (h0 : 0 ≠ k1) (ht : txR M) (hlt : ¬ M 0 2 ≤ M 0 11) : Met l yX7_readCommand wsX7_readCommand (rmF 8) (bPc D E [.ref (o + 0), .ref (o + k1)] (fun H => bk D E LRR o M H)) (bQ (aI fun r H => ∃ M1 : bM, (r = (f_X7_readCommand M k1).1 ∧ M1 = (f_X7_readCommand M k1).2) ∧ bk D E LRR o M1 H) (rB o)) 0 0 (rB o) := by
  refine Met.ofW (cc := cX7_readCommand) (maxL := 5) (ret := (some .boolean)) (by decide) rfl ?_
  intro p e s m args below meth c s₁ B hml hv
  obtain ⟨rfl, hB, hK⟩ := hv
  have hx := B.exec
  have hb := B.bytes
  have hr := B.returns
  have hts := atoms_spec (ws := wsX7_readCommand) B.pre
  have hown : s.vm.findClass RX7 = some m.cls := findClass_of_methodNamed B.named
  have hlocks := B.notSynchronized
  have hS : bS (rB o) s.heap s.heap [] := bS.rf
  have hl := lv_entry ([.ref (o + 0), .ref (o + k1)]) (n := 5) (Nat.le_of_ble_eq_true rfl)
  rw [lg_entry_eq]
  generalize (lg_sl ([.ref (o + 0), .ref (o + k1)]) ++ List.replicate (5 - (lg_sl ([.ref (o + 0), .ref (o + k1)])).length) Slot.unset).toArray = ls at hl ⊢
  have hl : lv_has ls 5 [(0, .ref (o + 0)), (1, .ref (o + k1))] := hl
  have hB : bk D E LRR o M s.heap := hB
  have hinX7 : ∀ w ∈ wsX70, w ∈ wsX7_readCommand := by decide +kernel
  refine lv_aload_n hx hb dX7_readCommand_0 rfl (lv_at hl 0 rfl) ?_
  refine b_get (D := D) (E := E) (L := LRR) (o := o) (M := M) (v := .ref (o + 1)) (C := RX7) (T := TX7) (N := 13) hx hb hts hinX7 hown hK.1 hB 0 lay_m0 rfl 1 (by decide) (hts (.fieldLink RX7 7 "RiverMeetingModel" "text" "[I") (List.mem_of_getElem? (i := 1) rfl)) (fun _ h9 => h9) rfl dX7_readCommand_1 ?_
  refine lv_aload_n hx hb dX7_readCommand_4 rfl (lv_at hl 0 rfl) ?_
  refine b_get (D := D) (E := E) (L := LRR) (o := o) (M := M) (v := .int (M 0 11)) (C := RX7) (T := TX7) (N := 13) hx hb hts hinX7 hown hK.1 hB 0 lay_m0 rfl 11 (by decide) (hts (.fieldLink RX7 141 "RiverMeetingModel" "spot" "I") (List.mem_of_getElem? (i := 2) rfl)) (fun _ h9 => h9) rfl dX7_readCommand_5 ?_
  refine b_iald hx hb hK.1 hB 1 lay_m1 (tx_in ht hlt) dX7_readCommand_8 ?_
  refine lv_topi (fun x11 hx11 => ?_)
  refine lv_istore_n (lv' := [(2, .int x11), (0, .ref (o + 0)), (1, .ref (o + k1))]) hx hb dX7_readCommand_9 rfl hl (by decide) rfl (fun ls hl => ?_)
  refine lv_aload_n hx hb dX7_readCommand_10 rfl (lv_at hl 1 rfl) ?_
  refine lv_dup hx hb dX7_readCommand_11 rfl ?_
  refine b_get (D := D) (E := E) (L := LRR) (o := o) (M := M) (v := .int (M 0 11)) (C := RX7) (T := TX7) (N := 13) hx hb hts hinX7 hown hK.1 hB 0 lay_m0 rfl 11 (by decide) (hts (.fieldLink RX7 141 "RiverMeetingModel" "spot" "I") (List.mem_of_getElem? (i := 2) rfl)) (fun _ h9 => h9) rfl dX7_readCommand_12 ?_
  refine lv_iconst (v := 1) hx hb dX7_readCommand_15 (by decide) ?_
  refine lv_iadd hx hb dX7_readCommand_16 ?_
  refine b_put (D := D) (E := E) (L := LRR) (o := o) (M := M) (v := ((M 0 11) + 1)) (ty := .int) (C := RX7) (T := TX7) (N := 13) hx hb hts hinX7 tyX7 tyX7_ok nmX7 hown hK.1 hB hS 0 (rB_of lay_m0) lay_m0 rfl 11 (by decide) rfl (hts (.fieldLink RX7 141 "RiverMeetingModel" "spot" "I") (List.mem_of_getElem? (i := 2) rfl)) (fun _ h9 => h9) rfl (by decide +kernel) rfl rfl dX7_readCommand_17 (fun M12 hM12 H locs hB _ hS => ?_)
  refine lv_iload_n hx hb dX7_readCommand_20 rfl (lv_at hl 0 rfl) ?_
  by_cases c13 : x11 = 98
  · refine b_tabI (tgt := 224) hx hb 98 dX7_readCommand_21 (by rw [c13]; rfl) (by decide) (by decide) rfl (by decide) ?_
    refine lv_aload_n hx hb dX7_readCommand_224 rfl (lv_at hl 1 rfl) ?_
    refine lv_aload_n hx hb dX7_readCommand_225 rfl (lv_at hl 2 rfl) ?_
    refine b_mI (b_runV (As := [.ref (o + k1)]) (rest := []) ⟨hx, hb, hml, hown, hts⟩ (c_X7_readBest l D E o M12 k1 hk1 (gR_of (M := M) (by rw [hM12]; exact up2_row (Ne.symm h0)) hg) h7) (cwV 1 hts gX7_readCommand_X7_readBest rfl rfl rfl (by decide +kernel) ⟨Nat.le_of_ble_eq_true rfl, Nat.le_of_ble_eq_true rfl⟩) hK (bk_recv hK.1 hB lay_m0 rfl) hB rfl hl rfl (Nat.le_of_ble_eq_true rfl) dX7_readCommand_226 ⟨Nat.zero_le _, Nat.zero_le _⟩) hS (fun q h => h) (fun r15 M14 hM14 H locs hB _ hS => ?_)
    obtain ⟨hr15, hM14⟩ := hM14
    have e16 := p_X7_readCommand_e16 M k1 x11 hx11.symm M12 hM12.symm c13 r15 hr15.symm M14 hM14.symm
    exact b_zret hx hb hr (nar_z (by rw [hr15]; exact z_X7_readBest M12 k1)) hlocks hS ⟨_, rfl, _, ⟨(congrArg Prod.fst e16).symm, (congrArg Prod.snd e16).symm⟩, hB⟩ dX7_readCommand_229
  by_cases c17 : x11 = 100
  · refine b_tabI (tgt := 187) hx hb 100 dX7_readCommand_21 (by rw [c17]; rfl) (by decide) (by decide) rfl (by decide) ?_
    refine lv_aload_n hx hb dX7_readCommand_187 rfl (lv_at hl 1 rfl) ?_
    refine lv_aload_n hx hb dX7_readCommand_188 rfl (lv_at hl 2 rfl) ?_
    refine b_mI (b_runV (As := [.ref (o + k1)]) (rest := []) ⟨hx, hb, hml, hown, hts⟩ (c_X7_readDam l D E o M12 k1 hk1 (gR_of (M := M) (by rw [hM12]; exact up2_row (Ne.symm h0)) hg) h7 h0 (by rw [hM12]; exact tx_up ht hlt)) (cwV 1 hts gX7_readCommand_X7_readDam rfl rfl rfl (by decide +kernel) ⟨Nat.le_of_ble_eq_true rfl, Nat.le_of_ble_eq_true rfl⟩) hK (bk_recv hK.1 hB lay_m0 rfl) hB rfl hl rfl (Nat.le_of_ble_eq_true rfl) dX7_readCommand_189 ⟨Nat.zero_le _, Nat.zero_le _⟩) hS (fun q h => h) (fun r19 M18 hM18 H locs hB _ hS => ?_)
    obtain ⟨hr19, hM18⟩ := hM18
    have e20 := p_X7_readCommand_e20 M k1 x11 hx11.symm M12 hM12.symm c13 c17 r19 hr19.symm M18 hM18.symm
    exact b_zret hx hb hr (nar_z (by rw [hr19]; exact z_X7_readDam M12 k1)) hlocks hS ⟨_, rfl, _, ⟨(congrArg Prod.fst e20).symm, (congrArg Prod.snd e20).symm⟩, hB⟩ dX7_readCommand_192
  by_cases c21 : x11 = 101
  · refine b_tabI (tgt := 173) hx hb 101 dX7_readCommand_21 (by rw [c21]; rfl) (by decide) (by decide) rfl (by decide) ?_
    refine lv_aload_n hx hb dX7_readCommand_173 rfl (lv_at hl 1 rfl) ?_
    refine lv_aload_n hx hb dX7_readCommand_174 rfl (lv_at hl 2 rfl) ?_
    refine lv_iconst (v := 1) hx hb dX7_readCommand_175 (by decide) ?_
    refine b_mI (b_runV (As := [.ref (o + k1), .int 1]) (rest := []) ⟨hx, hb, hml, hown, hts⟩ (c_X7_readStep l D E o M12 k1 1 hk1 (gR_of (M := M) (by rw [hM12]; exact up2_row (Ne.symm h0)) hg)) (cwV 2 hts gX7_readCommand_X7_readStep rfl rfl rfl (by decide +kernel) ⟨Nat.le_of_ble_eq_true rfl, Nat.le_of_ble_eq_true rfl⟩) hK (bk_recv hK.1 hB lay_m0 rfl) hB rfl hl rfl (Nat.le_of_ble_eq_true rfl) dX7_readCommand_176 ⟨Nat.zero_le _, Nat.zero_le _⟩) hS (fun q h => h) (fun r23 M22 hM22 H locs hB _ hS => ?_)
    obtain ⟨hr23, hM22⟩ := hM22
    have e24 := p_X7_readCommand_e24 M k1 x11 hx11.symm M12 hM12.symm c13 c17 c21 r23 hr23.symm M22 hM22.symm
    exact b_zret hx hb hr (nar_z (by rw [hr23]; exact z_X7_readStep M12 k1 1)) hlocks hS ⟨_, rfl, _, ⟨(congrArg Prod.fst e24).symm, (congrArg Prod.snd e24).symm⟩, hB⟩ dX7_readCommand_179
  by_cases c25 : x11 = 102
  · refine b_tabI (tgt := 193) hx hb 102 dX7_readCommand_21 (by rw [c25]; rfl) (by decide) (by decide) rfl (by decide) ?_
    refine lv_aload_n hx hb dX7_readCommand_193 rfl (lv_at hl 1 rfl) ?_
    refine lv_aload_n hx hb dX7_readCommand_194 rfl (lv_at hl 2 rfl) ?_
    refine b_pI (b_runS (As := [.ref (o + k1)]) (rest := [.ref (o + 0)]) ⟨hx, hb, hml, hown, hts⟩ (c_X7_isUnderWay l D E o M12 k1 hk1) (va_cwS 1 hts gX7_readCommand_X7_isUnderWay rfl rfl rfl (by decide +kernel) ⟨Nat.le_of_ble_eq_true rfl, Nat.le_of_ble_eq_true rfl⟩) hK hB rfl hl rfl (Nat.le_of_ble_eq_true rfl) dX7_readCommand_195 ⟨Nat.zero_le _, Nat.zero_le _⟩) hS (fun r26 hr26 locs hS => ?_)
    refine lv_if_eq (tgt := 219) hx hb dX7_readCommand_198 (by decide) (fun c27 => ?_) (fun c27 => ?_)
    · refine lv_iconst (v := 0) hx hb dX7_readCommand_219 (by decide) ?_
      refine b_mI (b_runV (As := [.int 0]) (rest := []) ⟨hx, hb, hml, hown, hts⟩ (c_X7_done l D E o M12 0) (cwV 1 hts gX7_readCommand_X7_done rfl rfl rfl (by decide +kernel) ⟨Nat.le_of_ble_eq_true rfl, Nat.le_of_ble_eq_true rfl⟩) hK (bk_recv hK.1 hB lay_m0 rfl) hB rfl hl rfl (Nat.le_of_ble_eq_true rfl) dX7_readCommand_220 ⟨Nat.zero_le _, Nat.zero_le _⟩) hS (fun q h => h) (fun r29 M28 hM28 H locs hB _ hS => ?_)
      obtain ⟨hr29, hM28⟩ := hM28
      have e30 := p_X7_readCommand_e30 M k1 x11 hx11.symm M12 hM12.symm c13 c17 c21 c25 r26 hr26.symm c27 r29 hr29.symm M28 hM28.symm
      exact b_zret hx hb hr (nar_z (by rw [hr29]; exact z_X7_done M12 0)) hlocks hS ⟨_, rfl, _, ⟨(congrArg Prod.fst e30).symm, (congrArg Prod.snd e30).symm⟩, hB⟩ dX7_readCommand_223
    · refine lv_aload_n hx hb dX7_readCommand_201 rfl (lv_at hl 2 rfl) ?_
      refine b_pI (b_runS (As := [.ref (o + k1)]) (rest := [.ref (o + 0)]) ⟨hx, hb, hml, hown, hts⟩ (c_X7_canStep l D E o M12 k1 hk1 (gR_wf (gR_of (M := M) (by rw [hM12]; exact up2_row (Ne.symm h0)) hg))) (va_cwS 1 hts gX7_readCommand_X7_canStep rfl rfl rfl (by decide +kernel) ⟨Nat.le_of_ble_eq_true rfl, Nat.le_of_ble_eq_true rfl⟩) hK hB rfl hl rfl (Nat.le_of_ble_eq_true rfl) dX7_readCommand_202 ⟨Nat.zero_le _, Nat.zero_le _⟩) hS (fun r31 hr31 locs hS => ?_)
      refine lv_if_ne (tgt := 219) hx hb dX7_readCommand_205 (by decide) (fun c32 => ?_) (fun c32 => ?_)
      · refine lv_iconst (v := 0) hx hb dX7_readCommand_219 (by decide) ?_
        refine b_mI (b_runV (As := [.int 0]) (rest := []) ⟨hx, hb, hml, hown, hts⟩ (c_X7_done l D E o M12 0) (cwV 1 hts gX7_readCommand_X7_done rfl rfl rfl (by decide +kernel) ⟨Nat.le_of_ble_eq_true rfl, Nat.le_of_ble_eq_true rfl⟩) hK (bk_recv hK.1 hB lay_m0 rfl) hB rfl hl rfl (Nat.le_of_ble_eq_true rfl) dX7_readCommand_220 ⟨Nat.zero_le _, Nat.zero_le _⟩) hS (fun q h => h) (fun r34 M33 hM33 H locs hB _ hS => ?_)
        obtain ⟨hr34, hM33⟩ := hM33
        have e35 := p_X7_readCommand_e35 M k1 x11 hx11.symm M12 hM12.symm c13 c17 c21 c25 r26 hr26.symm c27 r31 hr31.symm c32 r34 hr34.symm M33 hM33.symm
        exact b_zret hx hb hr (nar_z (by rw [hr34]; exact z_X7_done M12 0)) hlocks hS ⟨_, rfl, _, ⟨(congrArg Prod.fst e35).symm, (congrArg Prod.snd e35).symm⟩, hB⟩ dX7_readCommand_223
      · refine lv_aload_n hx hb dX7_readCommand_208 rfl (lv_at hl 2 rfl) ?_
        refine b_mI (b_runS (As := [.ref (o + k1)]) (rest := [.ref (o + 0)]) ⟨hx, hb, hml, hown, hts⟩ (c_X7_floodOn l D E o M12 k1 hk1 (gR_wf (gR_of (M := M) (by rw [hM12]; exact up2_row (Ne.symm h0)) hg))) (va_cwS 1 hts gX7_readCommand_X7_floodOn rfl rfl rfl (by decide +kernel) ⟨Nat.le_of_ble_eq_true rfl, Nat.le_of_ble_eq_true rfl⟩) hK hB rfl hl rfl (Nat.le_of_ble_eq_true rfl) dX7_readCommand_209 ⟨Nat.zero_le _, Nat.zero_le _⟩) hS (fun q h => h) (fun r37 M36 hM36 H locs hB _ hS => ?_)
        obtain ⟨hr37, hM36⟩ := hM36
        refine lv_if_lt (tgt := 219) hx hb dX7_readCommand_212 (by decide) (fun c38 => ?_) (fun c38 => ?_)
        · refine lv_iconst (v := 0) hx hb dX7_readCommand_219 (by decide) ?_
          refine b_mI (b_runV (As := [.int 0]) (rest := []) ⟨hx, hb, hml, hown, hts⟩ (c_X7_done l D E o M36 0) (cwV 1 hts gX7_readCommand_X7_done rfl rfl rfl (by decide +kernel) ⟨Nat.le_of_ble_eq_true rfl, Nat.le_of_ble_eq_true rfl⟩) hK (bk_recv hK.1 hB lay_m0 rfl) hB rfl hl rfl (Nat.le_of_ble_eq_true rfl) dX7_readCommand_220 ⟨Nat.zero_le _, Nat.zero_le _⟩) hS (fun q h => h) (fun r40 M39 hM39 H locs hB _ hS => ?_)
          obtain ⟨hr40, hM39⟩ := hM39
          have e41 := p_X7_readCommand_e41 M k1 x11 hx11.symm M12 hM12.symm c13 c17 c21 c25 r26 hr26.symm c27 r31 hr31.symm c32 r37 hr37.symm M36 hM36.symm c38 r40 hr40.symm M39 hM39.symm
          exact b_zret hx hb hr (nar_z (by rw [hr40]; exact z_X7_done M36 0)) hlocks hS ⟨_, rfl, _, ⟨(congrArg Prod.fst e41).symm, (congrArg Prod.snd e41).symm⟩, hB⟩ dX7_readCommand_223
        · refine lv_iconst (v := 1) hx hb dX7_readCommand_215 (by decide) ?_
          refine lv_goto (tgt := 220) hx hb dX7_readCommand_216 (by decide) ?_
          refine b_mI (b_runV (As := [.int 1]) (rest := []) ⟨hx, hb, hml, hown, hts⟩ (c_X7_done l D E o M36 1) (cwV 1 hts gX7_readCommand_X7_done rfl rfl rfl (by decide +kernel) ⟨Nat.le_of_ble_eq_true rfl, Nat.le_of_ble_eq_true rfl⟩) hK (bk_recv hK.1 hB lay_m0 rfl) hB rfl hl rfl (Nat.le_of_ble_eq_true rfl) dX7_readCommand_220 ⟨Nat.zero_le _, Nat.zero_le _⟩) hS (fun q h => h) (fun r43 M42 hM42 H locs hB _ hS => ?_)
          obtain ⟨hr43, hM42⟩ := hM42
          have e44 := p_X7_readCommand_e44 M k1 x11 hx11.symm M12 hM12.symm c13 c17 c21 c25 r26 hr26.symm c27 r31 hr31.symm c32 r37 hr37.symm M36 hM36.symm c38 r43 hr43.symm M42 hM42.symm
          exact b_zret hx hb hr (nar_z (by rw [hr43]; exact z_X7_done M36 1)) hlocks hS ⟨_, rfl, _, ⟨(congrArg Prod.fst e44).symm, (congrArg Prod.snd e44).symm⟩, hB⟩ dX7_readCommand_223
  by_cases c45 : x11 = 110
  · refine b_tabI (tgt := 124) hx hb 110 dX7_readCommand_21 (by rw [c45]; rfl) (by decide) (by decide) rfl (by decide) ?_
    refine lv_aload_n hx hb dX7_readCommand_124 rfl (lv_at hl 1 rfl) ?_
    refine lv_iconst (v := 0) hx hb dX7_readCommand_125 (by decide) ?_
    refine lv_iconst (v := 2) hx hb dX7_readCommand_126 (by decide) ?_
    refine lv_iconst (v := 0) hx hb dX7_readCommand_127 (by decide) ?_
    refine lv_bipush (v := 99) hx hb dX7_readCommand_128 (by decide) ?_
    refine b_mI (b_runV (As := [.int 0, .int 2, .int 0, .int 99]) (rest := []) ⟨hx, hb, hml, hown, hts⟩ (c_X7_figures l D E o M12 0 2 0 99 (by rw [hM12]; exact tx_up ht hlt)) (cwV 4 hts gX7_readCommand_X7_figures rfl rfl rfl (by decide +kernel) ⟨Nat.le_of_ble_eq_true rfl, Nat.le_of_ble_eq_true rfl⟩) hK (bk_recv hK.1 hB lay_m0 rfl) hB rfl hl rfl (Nat.le_of_ble_eq_true rfl) dX7_readCommand_130 ⟨Nat.zero_le _, Nat.zero_le _⟩) hS (fun q h => h) (fun r47 M46 hM46 H locs hB _ hS => ?_)
    obtain ⟨hr47, hM46⟩ := hM46
    refine lv_istore_n (lv' := [(3, .int r47), (2, .int x11), (0, .ref (o + 0)), (1, .ref (o + k1))]) hx hb dX7_readCommand_133 rfl hl (by decide) rfl (fun ls hl => ?_)
    refine lv_iload_n hx hb dX7_readCommand_134 rfl (lv_at hl 0 rfl) ?_
    refine lv_iconst (v := (-1)) hx hb dX7_readCommand_135 (by decide) ?_
    refine lv_icmp_eq (tgt := 164) hx hb dX7_readCommand_136 (by decide) (fun c48 => ?_) (fun c48 => ?_)
    · refine lv_iconst (v := 0) hx hb dX7_readCommand_164 (by decide) ?_
      have e49 := p_X7_readCommand_e49 M k1 x11 hx11.symm M12 hM12.symm c13 c17 c21 c25 c45 r47 hr47.symm M46 hM46.symm c48
      exact b_zret hx hb hr rfl hlocks hS ⟨_, rfl, _, ⟨(congrArg Prod.fst e49).symm, (congrArg Prod.snd e49).symm⟩, hB⟩ dX7_readCommand_165
    · refine lv_aload_n hx hb dX7_readCommand_139 rfl (lv_at hl 2 rfl) ?_
      refine lv_aload_n hx hb dX7_readCommand_140 rfl (lv_at hl 3 rfl) ?_
      refine lv_iload_n hx hb dX7_readCommand_141 rfl (lv_at hl 0 rfl) ?_
      refine lv_i2l hx hb dX7_readCommand_142 rfl ?_
      refine b_mI (b_runS (As := [.ref (o + k1), .long r47.toInt64]) (rest := [.ref (o + 0)]) ⟨hx, hb, hml, hown, hts⟩ (c_X7_gameOn l D E o M46 k1 r47.toInt64 hk1) (va_cwS 2 hts gX7_readCommand_X7_gameOn rfl rfl rfl (by decide +kernel) ⟨Nat.le_of_ble_eq_true rfl, Nat.le_of_ble_eq_true rfl⟩) hK hB rfl hl rfl (Nat.le_of_ble_eq_true rfl) dX7_readCommand_143 ⟨Nat.zero_le _, Nat.zero_le _⟩) hS (fun q h => h) (fun r51 M50 hM50 H locs hB _ hS => ?_)
      obtain ⟨hr51, hM50⟩ := hM50
      refine lv_if_le (tgt := 153) hx hb dX7_readCommand_146 (by decide) (fun c52 => ?_) (fun c52 => ?_)
      · refine lv_iconst (v := 0) hx hb dX7_readCommand_153 (by decide) ?_
        refine b_mI (b_runV (As := [.int 0]) (rest := []) ⟨hx, hb, hml, hown, hts⟩ (c_X7_done l D E o M50 0) (cwV 1 hts gX7_readCommand_X7_done rfl rfl rfl (by decide +kernel) ⟨Nat.le_of_ble_eq_true rfl, Nat.le_of_ble_eq_true rfl⟩) hK (bk_recv hK.1 hB lay_m0 rfl) hB rfl hl rfl (Nat.le_of_ble_eq_true rfl) dX7_readCommand_154 ⟨Nat.zero_le _, Nat.zero_le _⟩) hS (fun q h => h) (fun r54 M53 hM53 H locs hB _ hS => ?_)
        obtain ⟨hr54, hM53⟩ := hM53
        refine lv_if_eq (tgt := 164) hx hb dX7_readCommand_157 (by decide) (fun c55 => ?_) (fun c55 => ?_)
        · refine lv_iconst (v := 0) hx hb dX7_readCommand_164 (by decide) ?_
          have e56 := p_X7_readCommand_e56 M k1 x11 hx11.symm M12 hM12.symm c13 c17 c21 c25 c45 r47 hr47.symm M46 hM46.symm c48 r51 hr51.symm M50 hM50.symm c52 r54 hr54.symm M53 hM53.symm c55
          exact b_zret hx hb hr rfl hlocks hS ⟨_, rfl, _, ⟨(congrArg Prod.fst e56).symm, (congrArg Prod.snd e56).symm⟩, hB⟩ dX7_readCommand_165
        · refine lv_iconst (v := 1) hx hb dX7_readCommand_160 (by decide) ?_
          refine lv_goto (tgt := 165) hx hb dX7_readCommand_161 (by decide) ?_
          have e57 := p_X7_readCommand_e57 M k1 x11 hx11.symm M12 hM12.symm c13 c17 c21 c25 c45 r47 hr47.symm M46 hM46.symm c48 r51 hr51.symm M50 hM50.symm c52 r54 hr54.symm M53 hM53.symm c55
          exact b_zret hx hb hr rfl hlocks hS ⟨_, rfl, _, ⟨(congrArg Prod.fst e57).symm, (congrArg Prod.snd e57).symm⟩, hB⟩ dX7_readCommand_165
      · refine lv_iconst (v := 1) hx hb dX7_readCommand_149 (by decide) ?_
        refine lv_goto (tgt := 154) hx hb dX7_readCommand_150 (by decide) ?_
        refine b_mI (b_runV (As := [.int 1]) (rest := []) ⟨hx, hb, hml, hown, hts⟩ (c_X7_done l D E o M50 1) (cwV 1 hts gX7_readCommand_X7_done rfl rfl rfl (by decide +kernel) ⟨Nat.le_of_ble_eq_true rfl, Nat.le_of_ble_eq_true rfl⟩) hK (bk_recv hK.1 hB lay_m0 rfl) hB rfl hl rfl (Nat.le_of_ble_eq_true rfl) dX7_readCommand_154 ⟨Nat.zero_le _, Nat.zero_le _⟩) hS (fun q h => h) (fun r59 M58 hM58 H locs hB _ hS => ?_)
        obtain ⟨hr59, hM58⟩ := hM58
        refine lv_if_eq (tgt := 164) hx hb dX7_readCommand_157 (by decide) (fun c60 => ?_) (fun c60 => ?_)
        · refine lv_iconst (v := 0) hx hb dX7_readCommand_164 (by decide) ?_
          have e61 := p_X7_readCommand_e61 M k1 x11 hx11.symm M12 hM12.symm c13 c17 c21 c25 c45 r47 hr47.symm M46 hM46.symm c48 r51 hr51.symm M50 hM50.symm c52 r59 hr59.symm M58 hM58.symm c60
          exact b_zret hx hb hr rfl hlocks hS ⟨_, rfl, _, ⟨(congrArg Prod.fst e61).symm, (congrArg Prod.snd e61).symm⟩, hB⟩ dX7_readCommand_165
        · refine lv_iconst (v := 1) hx hb dX7_readCommand_160 (by decide) ?_
          refine lv_goto (tgt := 165) hx hb dX7_readCommand_161 (by decide) ?_
          have e62 := p_X7_readCommand_e62 M k1 x11 hx11.symm M12 hM12.symm c13 c17 c21 c25 c45 r47 hr47.symm M46 hM46.symm c48 r51 hr51.symm M50 hM50.symm c52 r59 hr59.symm M58 hM58.symm c60
          exact b_zret hx hb hr rfl hlocks hS ⟨_, rfl, _, ⟨(congrArg Prod.fst e62).symm, (congrArg Prod.snd e62).symm⟩, hB⟩ dX7_readCommand_165
  by_cases c63 : x11 = 115
  · refine b_tabI (tgt := 166) hx hb 115 dX7_readCommand_21 (by rw [c63]; rfl) (by decide) (by decide) rfl (by decide) ?_
    refine lv_aload_n hx hb dX7_readCommand_166 rfl (lv_at hl 1 rfl) ?_
    refine lv_aload_n hx hb dX7_readCommand_167 rfl (lv_at hl 2 rfl) ?_
    refine lv_iconst (v := 0) hx hb dX7_readCommand_168 (by decide) ?_
    refine b_mI (b_runV (As := [.ref (o + k1), .int 0]) (rest := []) ⟨hx, hb, hml, hown, hts⟩ (c_X7_readStep l D E o M12 k1 0 hk1 (gR_of (M := M) (by rw [hM12]; exact up2_row (Ne.symm h0)) hg)) (cwV 2 hts gX7_readCommand_X7_readStep rfl rfl rfl (by decide +kernel) ⟨Nat.le_of_ble_eq_true rfl, Nat.le_of_ble_eq_true rfl⟩) hK (bk_recv hK.1 hB lay_m0 rfl) hB rfl hl rfl (Nat.le_of_ble_eq_true rfl) dX7_readCommand_169 ⟨Nat.zero_le _, Nat.zero_le _⟩) hS (fun q h => h) (fun r65 M64 hM64 H locs hB _ hS => ?_)
    obtain ⟨hr65, hM64⟩ := hM64
    have e66 := p_X7_readCommand_e66 M k1 x11 hx11.symm M12 hM12.symm c13 c17 c21 c25 c45 c63 r65 hr65.symm M64 hM64.symm
    exact b_zret hx hb hr (nar_z (by rw [hr65]; exact z_X7_readStep M12 k1 0)) hlocks hS ⟨_, rfl, _, ⟨(congrArg Prod.fst e66).symm, (congrArg Prod.snd e66).symm⟩, hB⟩ dX7_readCommand_172
  by_cases c67 : x11 = 118
  · refine b_tabI (tgt := 230) hx hb 118 dX7_readCommand_21 (by rw [c67]; rfl) (by decide) (by decide) rfl (by decide) ?_
    refine lv_aload_n hx hb dX7_readCommand_230 rfl (lv_at hl 1 rfl) ?_
    refine lv_iconst (v := 0) hx hb dX7_readCommand_231 (by decide) ?_
    refine lv_iconst (v := 1) hx hb dX7_readCommand_232 (by decide) ?_
    refine lv_iconst (v := 0) hx hb dX7_readCommand_233 (by decide) ?_
    refine lv_iconst (v := 1) hx hb dX7_readCommand_234 (by decide) ?_
    refine b_mI (b_runV (As := [.int 0, .int 1, .int 0, .int 1]) (rest := []) ⟨hx, hb, hml, hown, hts⟩ (c_X7_figures l D E o M12 0 1 0 1 (by rw [hM12]; exact tx_up ht hlt)) (cwV 4 hts gX7_readCommand_X7_figures rfl rfl rfl (by decide +kernel) ⟨Nat.le_of_ble_eq_true rfl, Nat.le_of_ble_eq_true rfl⟩) hK (bk_recv hK.1 hB lay_m0 rfl) hB rfl hl rfl (Nat.le_of_ble_eq_true rfl) dX7_readCommand_235 ⟨Nat.zero_le _, Nat.zero_le _⟩) hS (fun q h => h) (fun r69 M68 hM68 H locs hB _ hS => ?_)
    obtain ⟨hr69, hM68⟩ := hM68
    refine lv_istore_n (lv' := [(3, .int r69), (2, .int x11), (0, .ref (o + 0)), (1, .ref (o + k1))]) hx hb dX7_readCommand_238 rfl hl (by decide) rfl (fun ls hl => ?_)
    refine lv_aload_n hx hb dX7_readCommand_239 rfl (lv_at hl 2 rfl) ?_
    refine lv_iload_n hx hb dX7_readCommand_240 rfl (lv_at hl 0 rfl) ?_
    refine lv_iconst (v := 2) hx hb dX7_readCommand_241 (by decide) ?_
    refine lv_iconst (v := 1) hx hb dX7_readCommand_242 (by decide) ?_
    refine lv_bipush (v := 40) hx hb dX7_readCommand_243 (by decide) ?_
    refine b_mI (b_runV (As := [.int r69, .int 2, .int 1, .int 40]) (rest := []) ⟨hx, hb, hml, hown, hts⟩ (c_X7_figures l D E o M68 r69 2 1 40 (by rw [hM68]; exact figures_tx (by rw [hM12]; exact tx_up ht hlt))) (cwV 4 hts gX7_readCommand_X7_figures rfl rfl rfl (by decide +kernel) ⟨Nat.le_of_ble_eq_true rfl, Nat.le_of_ble_eq_true rfl⟩) hK (bk_recv hK.1 hB lay_m0 rfl) hB rfl hl rfl (Nat.le_of_ble_eq_true rfl) dX7_readCommand_245 ⟨Nat.zero_le _, Nat.zero_le _⟩) hS (fun q h => h) (fun r71 M70 hM70 H locs hB _ hS => ?_)
    obtain ⟨hr71, hM70⟩ := hM70
    refine lv_istore (lv' := [(4, .int r71), (3, .int r69), (2, .int x11), (0, .ref (o + 0)), (1, .ref (o + k1))]) hx hb dX7_readCommand_248 hl (by decide) rfl (fun ls hl => ?_)
    refine lv_iload hx hb dX7_readCommand_250 (lv_at hl 0 rfl) ?_
    refine lv_iconst (v := (-1)) hx hb dX7_readCommand_252 (by decide) ?_
    refine lv_icmp_eq (tgt := 291) hx hb dX7_readCommand_253 (by decide) (fun c72 => ?_) (fun c72 => ?_)
    · refine lv_iconst (v := 0) hx hb dX7_readCommand_291 (by decide) ?_
      have e73 := p_X7_readCommand_e73 M k1 x11 hx11.symm M12 hM12.symm c13 c17 c21 c25 c45 c63 c67 r69 hr69.symm M68 hM68.symm r71 hr71.symm M70 hM70.symm c72
      exact b_zret hx hb hr rfl hlocks hS ⟨_, rfl, _, ⟨(congrArg Prod.fst e73).symm, (congrArg Prod.snd e73).symm⟩, hB⟩ dX7_readCommand_292
    · refine lv_aload_n hx hb dX7_readCommand_256 rfl (lv_at hl 3 rfl) ?_
      refine lv_iload_n hx hb dX7_readCommand_257 rfl (lv_at hl 1 rfl) ?_
      refine lv_iload hx hb dX7_readCommand_258 (lv_at hl 0 rfl) ?_
      refine b_pI (b_runS (As := [.int r69, .int r71]) (rest := [.ref (o + 0)]) ⟨hx, hb, hml, hown, hts⟩ (c_X7_isSetting l D E r69 r71) (va_cwS 2 hts gX7_readCommand_X7_isSetting rfl rfl rfl (by decide +kernel) ⟨Nat.le_of_ble_eq_true rfl, Nat.le_of_ble_eq_true rfl⟩) hK trivial rfl hl rfl (Nat.le_of_ble_eq_true rfl) dX7_readCommand_260 ⟨Nat.zero_le _, Nat.zero_le _⟩) hS (fun r74 hr74 locs hS => ?_)
      refine lv_if_eq (tgt := 280) hx hb dX7_readCommand_263 (by decide) (fun c75 => ?_) (fun c75 => ?_)
      · refine lv_iconst (v := 0) hx hb dX7_readCommand_280 (by decide) ?_
        refine b_mI (b_runV (As := [.int 0]) (rest := []) ⟨hx, hb, hml, hown, hts⟩ (c_X7_done l D E o M70 0) (cwV 1 hts gX7_readCommand_X7_done rfl rfl rfl (by decide +kernel) ⟨Nat.le_of_ble_eq_true rfl, Nat.le_of_ble_eq_true rfl⟩) hK (bk_recv hK.1 hB lay_m0 rfl) hB rfl hl rfl (Nat.le_of_ble_eq_true rfl) dX7_readCommand_281 ⟨Nat.zero_le _, Nat.zero_le _⟩) hS (fun q h => h) (fun r77 M76 hM76 H locs hB _ hS => ?_)
        obtain ⟨hr77, hM76⟩ := hM76
        refine lv_if_eq (tgt := 291) hx hb dX7_readCommand_284 (by decide) (fun c78 => ?_) (fun c78 => ?_)
        · refine lv_iconst (v := 0) hx hb dX7_readCommand_291 (by decide) ?_
          have e79 := p_X7_readCommand_e79 M k1 x11 hx11.symm M12 hM12.symm c13 c17 c21 c25 c45 c63 c67 r69 hr69.symm M68 hM68.symm r71 hr71.symm M70 hM70.symm c72 r74 hr74.symm c75 r77 hr77.symm M76 hM76.symm c78
          exact b_zret hx hb hr rfl hlocks hS ⟨_, rfl, _, ⟨(congrArg Prod.fst e79).symm, (congrArg Prod.snd e79).symm⟩, hB⟩ dX7_readCommand_292
        · refine lv_iconst (v := 1) hx hb dX7_readCommand_287 (by decide) ?_
          refine lv_goto (tgt := 292) hx hb dX7_readCommand_288 (by decide) ?_
          have e80 := p_X7_readCommand_e80 M k1 x11 hx11.symm M12 hM12.symm c13 c17 c21 c25 c45 c63 c67 r69 hr69.symm M68 hM68.symm r71 hr71.symm M70 hM70.symm c72 r74 hr74.symm c75 r77 hr77.symm M76 hM76.symm c78
          exact b_zret hx hb hr rfl hlocks hS ⟨_, rfl, _, ⟨(congrArg Prod.fst e80).symm, (congrArg Prod.snd e80).symm⟩, hB⟩ dX7_readCommand_292
      · refine lv_aload_n hx hb dX7_readCommand_266 rfl (lv_at hl 4 rfl) ?_
        refine lv_iload_n hx hb dX7_readCommand_267 rfl (lv_at hl 1 rfl) ?_
        refine lv_iload hx hb dX7_readCommand_268 (lv_at hl 0 rfl) ?_
        refine b_mI (b_runS (As := [.ref (o + k1), .int r69, .int r71]) (rest := [.ref (o + 0)]) ⟨hx, hb, hml, hown, hts⟩ (c_X7_change l D E o M70 k1 r69 r71 hk1 (isSet_pb (by rw [← hr74]; exact c75))) (va_cwS 3 hts gX7_readCommand_X7_change rfl rfl rfl (by decide +kernel) ⟨Nat.le_of_ble_eq_true rfl, Nat.le_of_ble_eq_true rfl⟩) hK hB rfl hl rfl (Nat.le_of_ble_eq_true rfl) dX7_readCommand_270 ⟨Nat.zero_le _, Nat.zero_le _⟩) hS (fun q h => h) (fun r82 M81 hM81 H locs hB _ hS => ?_)
        obtain ⟨hr82, hM81⟩ := hM81
        refine lv_if_lt (tgt := 280) hx hb dX7_readCommand_273 (by decide) (fun c83 => ?_) (fun c83 => ?_)
        · refine lv_iconst (v := 0) hx hb dX7_readCommand_280 (by decide) ?_
          refine b_mI (b_runV (As := [.int 0]) (rest := []) ⟨hx, hb, hml, hown, hts⟩ (c_X7_done l D E o M81 0) (cwV 1 hts gX7_readCommand_X7_done rfl rfl rfl (by decide +kernel) ⟨Nat.le_of_ble_eq_true rfl, Nat.le_of_ble_eq_true rfl⟩) hK (bk_recv hK.1 hB lay_m0 rfl) hB rfl hl rfl (Nat.le_of_ble_eq_true rfl) dX7_readCommand_281 ⟨Nat.zero_le _, Nat.zero_le _⟩) hS (fun q h => h) (fun r85 M84 hM84 H locs hB _ hS => ?_)
          obtain ⟨hr85, hM84⟩ := hM84
          refine lv_if_eq (tgt := 291) hx hb dX7_readCommand_284 (by decide) (fun c86 => ?_) (fun c86 => ?_)
          · refine lv_iconst (v := 0) hx hb dX7_readCommand_291 (by decide) ?_
            have e87 := p_X7_readCommand_e87 M k1 x11 hx11.symm M12 hM12.symm c13 c17 c21 c25 c45 c63 c67 r69 hr69.symm M68 hM68.symm r71 hr71.symm M70 hM70.symm c72 r74 hr74.symm c75 r82 hr82.symm M81 hM81.symm c83 r85 hr85.symm M84 hM84.symm c86
            exact b_zret hx hb hr rfl hlocks hS ⟨_, rfl, _, ⟨(congrArg Prod.fst e87).symm, (congrArg Prod.snd e87).symm⟩, hB⟩ dX7_readCommand_292
          · refine lv_iconst (v := 1) hx hb dX7_readCommand_287 (by decide) ?_
            refine lv_goto (tgt := 292) hx hb dX7_readCommand_288 (by decide) ?_
            have e88 := p_X7_readCommand_e88 M k1 x11 hx11.symm M12 hM12.symm c13 c17 c21 c25 c45 c63 c67 r69 hr69.symm M68 hM68.symm r71 hr71.symm M70 hM70.symm c72 r74 hr74.symm c75 r82 hr82.symm M81 hM81.symm c83 r85 hr85.symm M84 hM84.symm c86
            exact b_zret hx hb hr rfl hlocks hS ⟨_, rfl, _, ⟨(congrArg Prod.fst e88).symm, (congrArg Prod.snd e88).symm⟩, hB⟩ dX7_readCommand_292
        · refine lv_iconst (v := 1) hx hb dX7_readCommand_276 (by decide) ?_
          refine lv_goto (tgt := 281) hx hb dX7_readCommand_277 (by decide) ?_
          refine b_mI (b_runV (As := [.int 1]) (rest := []) ⟨hx, hb, hml, hown, hts⟩ (c_X7_done l D E o M81 1) (cwV 1 hts gX7_readCommand_X7_done rfl rfl rfl (by decide +kernel) ⟨Nat.le_of_ble_eq_true rfl, Nat.le_of_ble_eq_true rfl⟩) hK (bk_recv hK.1 hB lay_m0 rfl) hB rfl hl rfl (Nat.le_of_ble_eq_true rfl) dX7_readCommand_281 ⟨Nat.zero_le _, Nat.zero_le _⟩) hS (fun q h => h) (fun r90 M89 hM89 H locs hB _ hS => ?_)
          obtain ⟨hr90, hM89⟩ := hM89
          refine lv_if_eq (tgt := 291) hx hb dX7_readCommand_284 (by decide) (fun c91 => ?_) (fun c91 => ?_)
          · refine lv_iconst (v := 0) hx hb dX7_readCommand_291 (by decide) ?_
            have e92 := p_X7_readCommand_e92 M k1 x11 hx11.symm M12 hM12.symm c13 c17 c21 c25 c45 c63 c67 r69 hr69.symm M68 hM68.symm r71 hr71.symm M70 hM70.symm c72 r74 hr74.symm c75 r82 hr82.symm M81 hM81.symm c83 r90 hr90.symm M89 hM89.symm c91
            exact b_zret hx hb hr rfl hlocks hS ⟨_, rfl, _, ⟨(congrArg Prod.fst e92).symm, (congrArg Prod.snd e92).symm⟩, hB⟩ dX7_readCommand_292
          · refine lv_iconst (v := 1) hx hb dX7_readCommand_287 (by decide) ?_
            refine lv_goto (tgt := 292) hx hb dX7_readCommand_288 (by decide) ?_
            have e93 := p_X7_readCommand_e93 M k1 x11 hx11.symm M12 hM12.symm c13 c17 c21 c25 c45 c63 c67 r69 hr69.symm M68 hM68.symm r71 hr71.symm M70 hM70.symm c72 r74 hr74.symm c75 r82 hr82.symm M81 hM81.symm c83 r90 hr90.symm M89 hM89.symm c91
            exact b_zret hx hb hr rfl hlocks hS ⟨_, rfl, _, ⟨(congrArg Prod.fst e93).symm, (congrArg Prod.snd e93).symm⟩, hB⟩ dX7_readCommand_292
  by_cases c94 : x11 = 119
  · refine b_tabI (tgt := 180) hx hb 119 dX7_readCommand_21 (by rw [c94]; rfl) (by decide) (by decide) rfl (by decide) ?_
    refine lv_aload_n hx hb dX7_readCommand_180 rfl (lv_at hl 1 rfl) ?_
    refine lv_aload_n hx hb dX7_readCommand_181 rfl (lv_at hl 2 rfl) ?_
    refine lv_iconst (v := 2) hx hb dX7_readCommand_182 (by decide) ?_
    refine b_mI (b_runV (As := [.ref (o + k1), .int 2]) (rest := []) ⟨hx, hb, hml, hown, hts⟩ (c_X7_readStep l D E o M12 k1 2 hk1 (gR_of (M := M) (by rw [hM12]; exact up2_row (Ne.symm h0)) hg)) (cwV 2 hts gX7_readCommand_X7_readStep rfl rfl rfl (by decide +kernel) ⟨Nat.le_of_ble_eq_true rfl, Nat.le_of_ble_eq_true rfl⟩) hK (bk_recv hK.1 hB lay_m0 rfl) hB rfl hl rfl (Nat.le_of_ble_eq_true rfl) dX7_readCommand_183 ⟨Nat.zero_le _, Nat.zero_le _⟩) hS (fun q h => h) (fun r96 M95 hM95 H locs hB _ hS => ?_)
    obtain ⟨hr96, hM95⟩ := hM95
    have e97 := p_X7_readCommand_e97 M k1 x11 hx11.symm M12 hM12.symm c13 c17 c21 c25 c45 c63 c67 c94 r96 hr96.symm M95 hM95.symm
    exact b_zret hx hb hr (nar_z (by rw [hr96]; exact z_X7_readStep M12 k1 2)) hlocks hS ⟨_, rfl, _, ⟨(congrArg Prod.fst e97).symm, (congrArg Prod.snd e97).symm⟩, hB⟩ dX7_readCommand_186
  refine b_tabD (tgt := 293) hx hb [98, 100, 101, 102, 110, 115, 118, 119] dX7_readCommand_21 (by decide) (by decide) (List.forall_mem_cons.mpr ⟨lv_neT c13 (a := 98) rfl, (List.forall_mem_cons.mpr ⟨lv_neT c17 (a := 100) rfl, (List.forall_mem_cons.mpr ⟨lv_neT c21 (a := 101) rfl, (List.forall_mem_cons.mpr ⟨lv_neT c25 (a := 102) rfl, (List.forall_mem_cons.mpr ⟨lv_neT c45 (a := 110) rfl, (List.forall_mem_cons.mpr ⟨lv_neT c63 (a := 115) rfl, (List.forall_mem_cons.mpr ⟨lv_neT c67 (a := 118) rfl, (List.forall_mem_cons.mpr ⟨lv_neT c94 (a := 119) rfl, (fun v h => absurd h List.not_mem_nil)⟩)⟩)⟩)⟩)⟩)⟩)⟩)⟩) (by decide) ?_
  refine lv_aload_n hx hb dX7_readCommand_293 rfl (lv_at hl 1 rfl) ?_
  refine lv_dup hx hb dX7_readCommand_294 rfl ?_
  refine b_get (D := D) (E := E) (L := LRR) (o := o) (M := M12) (v := .int (M12 0 11)) (C := RX7) (T := TX7) (N := 13) hx hb hts hinX7 hown hK.1 hB 0 lay_m0 rfl 11 (by decide) (hts (.fieldLink RX7 141 "RiverMeetingModel" "spot" "I") (List.mem_of_getElem? (i := 2) rfl)) (fun _ h9 => h9) rfl dX7_readCommand_295 ?_
  refine lv_iconst (v := 1) hx hb dX7_readCommand_298 (by decide) ?_
  refine lv_isub hx hb dX7_readCommand_299 ?_
  refine b_put (D := D) (E := E) (L := LRR) (o := o) (M := M12) (v := ((M12 0 11) - 1)) (ty := .int) (C := RX7) (T := TX7) (N := 13) hx hb hts hinX7 tyX7 tyX7_ok nmX7 hown hK.1 hB hS 0 (rB_of lay_m0) lay_m0 rfl 11 (by decide) rfl (hts (.fieldLink RX7 141 "RiverMeetingModel" "spot" "I") (List.mem_of_getElem? (i := 2) rfl)) (fun _ h9 => h9) rfl (by decide +kernel) rfl rfl dX7_readCommand_300 (fun M98 hM98 H locs hB _ hS => ?_)
  refine lv_iconst (v := 0) hx hb dX7_readCommand_303 (by decide) ?_
  have e99 := p_X7_readCommand_e99 M k1 x11 hx11.symm M12 hM12.symm c13 c17 c21 c25 c45 c63 c67 c94 M98 hM98.symm
  exact b_zret hx hb hr rfl hlocks hS ⟨_, rfl, _, ⟨(congrArg Prod.fst e99).symm, (congrArg Prod.snd e99).symm⟩, hB⟩ dX7_readCommand_304
