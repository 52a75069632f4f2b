theorem gR_ext {r r' : Nat → Int32} (h : gR r) (e : ∀ j, j < 404 → r' j = r j) : gR r' := by
  obtain ⟨m, hm, hX⟩ := h
  obtain ⟨x, y, n10, n15, nx, ny⟩ := gR_paid (r' := r) (by omega) hX
  have hX' := hX
  obtain ⟨s8, s9⟩ := gX_set hX
  obtain ⟨a, b, x0, y0, ⟨⟨n3, n2, n1, n4⟩, ⟨n14, n19, na, nb'⟩, _⟩, ⟨c1, c2, c3, c8, c9⟩, ⟨m1, m2, m3⟩, l⟩ := hX'
  have hmk : ∀ c v, c < 64 → (mkIs r' c v ↔ mkIs r c v) := fun c v hc => by
    unfold mkIs; rw [e (212 + c) (by omega)]
  refine ⟨m, hm, a, b, x, y, ⟨⟨?_, ?_, ?_, ?_⟩, ⟨?_, ?_, na, nb'⟩, ⟨?_, ?_, nx, ny⟩⟩, ⟨fun i hi' => ?_, fun i hi' => ?_, fun i hi' => ?_, ?_, ?_⟩, ⟨fun c hc => ?_, ?_, ?_⟩, ?_⟩
  · rw [e _ (by omega)]; exact n3
  · rw [e _ (by omega)]; exact n2
  · unfold phI at n1 ⊢
    rw [e 1 (by omega), e 4 (by omega)]; exact n1
  · rw [e 4 (by omega)]; exact n4
  · rw [e _ (by omega)]; exact n14
  · rw [e _ (by omega)]; exact n19
  · rw [e _ (by omega)]; exact n10
  · rw [e _ (by omega)]; exact n15
  · rw [e _ (by omega)]; exact c1 i hi'
  · rw [e _ (by omega)]; exact c2 i hi'
  · rw [e _ (by omega)]; exact c3 i hi'
  · rw [e _ (by omega)]; exact s8
  · rw [e _ (by omega)]; exact s9
  · obtain ⟨v, hv⟩ := m1 c hc
    exact ⟨v, (hmk c v hc).mpr hv⟩
  · obtain ⟨h', v, hh, e1, e2, e3⟩ := m2
    exact ⟨h', v, hh, by rw [e _ (by omega)]; exact e1, (hmk h' v hh).mpr e2, e3⟩
  · obtain ⟨h', v, hh, e1, e2, e3⟩ := m3
    exact ⟨h', v, hh, by rw [e _ (by omega)]; exact e1, (hmk h' v hh).mpr e2, e3⟩
  · intro e4 c v hc hv
    rw [e 4 (by omega)] at e4
    exact l e4 c v hc ((hmk c v hc).mp hv)
def lp_X7_simulate_48  : Nat → Nat → Int32 → Int64 → bM → (Int32 × Int64 × bM)
  | 0, i21, x22, x23, M24 => (x22, x23, M24)
  | n21 + 1, i21, x22, x23, M24 => (let r28 : Int32 := f_X7_isUnderWay M24 3; (let x29 : Int64 := ((x23 * 6364136223846793005) + 1442695040888963407); (let x30 : Int32 := ((x29.toUInt64 >>> ((33 : Int32).toInt64.toUInt64 &&& Int64.toUInt64 63)).toInt64).toInt32; (let M31 : bM := f_X7_turnOf M24 3 (x30 - x30 / 8 * 8) (x30 / 8); (if r28 = 0 then (let x33 : Int32 := (x22 + 0); lp_X7_simulate_48 n21 (i21 + 1) x33 x29 M31) else (if (M31 3 1) = 2 then (let x38 : Int32 := (x22 + 1); lp_X7_simulate_48 n21 (i21 + 1) x38 x29 M31) else (let x36 : Int32 := (x22 + 0); lp_X7_simulate_48 n21 (i21 + 1) x36 x29 M31)))))))
theorem u0_lp_X7_simulate_48  (i21 : Nat) (x22 : Int32) (x23 : Int64) (M24 : bM) : lp_X7_simulate_48 0 i21 x22 x23 M24 = (x22, x23, M24) := rfl
theorem u1_lp_X7_simulate_48  (n21 i21 : Nat) (x22 : Int32) (x23 : Int64) (M24 : bM) : lp_X7_simulate_48 (n21 + 1) i21 x22 x23 M24 = (let r28 : Int32 := f_X7_isUnderWay M24 3; (let x29 : Int64 := ((x23 * 6364136223846793005) + 1442695040888963407); (let x30 : Int32 := ((x29.toUInt64 >>> ((33 : Int32).toInt64.toUInt64 &&& Int64.toUInt64 63)).toInt64).toInt32; (let M31 : bM := f_X7_turnOf M24 3 (x30 - x30 / 8 * 8) (x30 / 8); (if r28 = 0 then (let x33 : Int32 := (x22 + 0); lp_X7_simulate_48 n21 (i21 + 1) x33 x29 M31) else (if (M31 3 1) = 2 then (let x38 : Int32 := (x22 + 1); lp_X7_simulate_48 n21 (i21 + 1) x38 x29 M31) else (let x36 : Int32 := (x22 + 0); lp_X7_simulate_48 n21 (i21 + 1) x36 x29 M31))))))) := rfl
def f_X7_simulate (M : bM) (x1 : Int64) (x2 : Int32) : Int32 × bM := (let r11 : Int32 := f_X7_in x2.toInt64 1 200; (if r11 = 0 then (let r14 : Int32 := (f_X7_refused M 1).1; (let M13 : bM := (f_X7_refused M 1).2; (0, M13))) else (let r18 : Int32 := (f_X7_refused M 0).1; (let M17 : bM := (f_X7_refused M 0).2; (let M20 : bM := f_X7_copyState M17 2 404 0 3 404 0; (let x40 : Int32 := (lp_X7_simulate_48 x2.toNatClampNeg 0 0 x1 M20).1; (let x41 : Int64 := (lp_X7_simulate_48 x2.toNatClampNeg 0 0 x1 M20).2.1; (let M42 : bM := (lp_X7_simulate_48 x2.toNatClampNeg 0 0 x1 M20).2.2; (let r43 : Int32 := f_X7_of M42 3 0 4; (let r44 : Int32 := f_X7_of M42 3 1 4; ((((((10000 : Int32) * ((M42 3 0) - (M42 2 0))) + ((100 : Int32) * x40)) + r43) + r44), M42)))))))))))
theorem u_f_X7_simulate (M : bM) (x1 : Int64) (x2 : Int32) : f_X7_simulate M x1 x2 = (let r11 : Int32 := f_X7_in x2.toInt64 1 200; (if r11 = 0 then (let r14 : Int32 := (f_X7_refused M 1).1; (let M13 : bM := (f_X7_refused M 1).2; (0, M13))) else (let r18 : Int32 := (f_X7_refused M 0).1; (let M17 : bM := (f_X7_refused M 0).2; (let M20 : bM := f_X7_copyState M17 2 404 0 3 404 0; (let x40 : Int32 := (lp_X7_simulate_48 x2.toNatClampNeg 0 0 x1 M20).1; (let x41 : Int64 := (lp_X7_simulate_48 x2.toNatClampNeg 0 0 x1 M20).2.1; (let M42 : bM := (lp_X7_simulate_48 x2.toNatClampNeg 0 0 x1 M20).2.2; (let r43 : Int32 := f_X7_of M42 3 0 4; (let r44 : Int32 := f_X7_of M42 3 1 4; ((((((10000 : Int32) * ((M42 3 0) - (M42 2 0))) + ((100 : Int32) * x40)) + r43) + r44), M42))))))))))) := rfl
theorem p_X7_simulate_e16 (M : bM) (x1 : Int64) (x2 : Int32) (r11 : Int32) (hr11 : f_X7_in x2.toInt64 1 200 = r11) (c12 : r11 = 0) (r14 : Int32) (hr14 : (f_X7_refused M 1).1 = r14) (M13 : bM) (hM13 : (f_X7_refused M 1).2 = M13) : f_X7_simulate M x1 x2 = (0, M13) := by subst hM13 hr14 hr11; exact Eq.trans (u_f_X7_simulate M x1 x2) (if_pos c12)
theorem p_X7_simulate_e26 (M : bM) (x1 : Int64) (x2 : Int32) (r11 : Int32) (r18 : Int32) (M17 : bM) (M20 : bM) (x22 : Int32) (x23 : Int64) (M24 : bM) (i21 : Nat)  : lp_X7_simulate_48 0 i21 x22 x23 M24 = (x22, x23, M24) := by exact u0_lp_X7_simulate_48 i21 x22 x23 M24
theorem p_X7_simulate_e34 (M : bM) (x1 : Int64) (x2 : Int32) (r11 : Int32) (r18 : Int32) (M17 : bM) (M20 : bM) (x22 : Int32) (x23 : Int64) (M24 : bM) (i21 : Nat) (n21 : Nat) (r28 : Int32) (hr28 : f_X7_isUnderWay M24 3 = r28) (x29 : Int64) (hx29 : ((x23 * 6364136223846793005) + 1442695040888963407) = x29) (x30 : Int32) (hx30 : ((x29.toUInt64 >>> ((33 : Int32).toInt64.toUInt64 &&& Int64.toUInt64 63)).toInt64).toInt32 = x30) (M31 : bM) (hM31 : f_X7_turnOf M24 3 (x30 - x30 / 8 * 8) (x30 / 8) = M31) (c32 : r28 = 0) (x33 : Int32) (hx33 : (x22 + 0) = x33) : lp_X7_simulate_48 (n21 + 1) i21 x22 x23 M24 = lp_X7_simulate_48 n21 (i21 + 1) x33 x29 M31 := by subst hx33 hM31 hx30 hx29 hr28; exact Eq.trans (u1_lp_X7_simulate_48 n21 i21 x22 x23 M24) (if_pos c32)
theorem p_X7_simulate_e37 (M : bM) (x1 : Int64) (x2 : Int32) (r11 : Int32) (r18 : Int32) (M17 : bM) (M20 : bM) (x22 : Int32) (x23 : Int64) (M24 : bM) (i21 : Nat) (n21 : Nat) (r28 : Int32) (hr28 : f_X7_isUnderWay M24 3 = r28) (x29 : Int64) (hx29 : ((x23 * 6364136223846793005) + 1442695040888963407) = x29) (x30 : Int32) (hx30 : ((x29.toUInt64 >>> ((33 : Int32).toInt64.toUInt64 &&& Int64.toUInt64 63)).toInt64).toInt32 = x30) (M31 : bM) (hM31 : f_X7_turnOf M24 3 (x30 - x30 / 8 * 8) (x30 / 8) = M31) (c32 : ¬ r28 = 0) (c35 : ¬ (M31 3 1) = 2) (x36 : Int32) (hx36 : (x22 + 0) = x36) : lp_X7_simulate_48 (n21 + 1) i21 x22 x23 M24 = lp_X7_simulate_48 n21 (i21 + 1) x36 x29 M31 := by subst hx36 hM31 hx30 hx29 hr28; exact Eq.trans (u1_lp_X7_simulate_48 n21 i21 x22 x23 M24) (Eq.trans (if_neg c32) (if_neg c35))
theorem p_X7_simulate_e39 (M : bM) (x1 : Int64) (x2 : Int32) (r11 : Int32) (r18 : Int32) (M17 : bM) (M20 : bM) (x22 : Int32) (x23 : Int64) (M24 : bM) (i21 : Nat) (n21 : Nat) (r28 : Int32) (hr28 : f_X7_isUnderWay M24 3 = r28) (x29 : Int64) (hx29 : ((x23 * 6364136223846793005) + 1442695040888963407) = x29) (x30 : Int32) (hx30 : ((x29.toUInt64 >>> ((33 : Int32).toInt64.toUInt64 &&& Int64.toUInt64 63)).toInt64).toInt32 = x30) (M31 : bM) (hM31 : f_X7_turnOf M24 3 (x30 - x30 / 8 * 8) (x30 / 8) = M31) (c32 : ¬ r28 = 0) (c35 : (M31 3 1) = 2) (x38 : Int32) (hx38 : (x22 + 1) = x38) : lp_X7_simulate_48 (n21 + 1) i21 x22 x23 M24 = lp_X7_simulate_48 n21 (i21 + 1) x38 x29 M31 := by subst hx38 hM31 hx30 hx29 hr28; exact Eq.trans (u1_lp_X7_simulate_48 n21 i21 x22 x23 M24) (Eq.trans (if_neg c32) (if_pos c35))
theorem p_X7_simulate_e45 (M : bM) (x1 : Int64) (x2 : Int32) (r11 : Int32) (hr11 : f_X7_in x2.toInt64 1 200 = r11) (c12 : ¬ r11 = 0) (r18 : Int32) (hr18 : (f_X7_refused M 0).1 = r18) (M17 : bM) (hM17 : (f_X7_refused M 0).2 = M17) (M20 : bM) (hM20 : f_X7_copyState M17 2 404 0 3 404 0 = M20) (x40 : Int32) (hx40 : (lp_X7_simulate_48 x2.toNatClampNeg 0 0 x1 M20).1 = x40) (x41 : Int64) (hx41 : (lp_X7_simulate_48 x2.toNatClampNeg 0 0 x1 M20).2.1 = x41) (M42 : bM) (hM42 : (lp_X7_simulate_48 x2.toNatClampNeg 0 0 x1 M20).2.2 = M42) (r43 : Int32) (hr43 : f_X7_of M42 3 0 4 = r43) (r44 : Int32) (hr44 : f_X7_of M42 3 1 4 = r44) : f_X7_simulate M x1 x2 = ((((((10000 : Int32) * ((M42 3 0) - (M42 2 0))) + ((100 : Int32) * x40)) + r43) + r44), M42) := by subst hr44 hr43 hM42 hx41 hx40 hM20 hM17 hr18 hr11; exact Eq.trans (u_f_X7_simulate M x1 x2) (if_neg c12)
theorem fr_lp_X7_simulate_48 (M : bM) (x1 : Int64) (x2 : Int32) (r11 : Int32) (r18 : Int32) (M17 : bM) (M20 : bM) (k : Nat) (hk3 : k ≠ 3) (hf : k ≠ 7) (hk0 : k ≠ 0) : ∀ (n21 i21 : Nat) (x22 : Int32) (x23 : Int64) (M24 : bM), (lp_X7_simulate_48 n21 i21 x22 x23 M24).2.2 k = M24 k := by
  intro n21
  induction n21 with
  | zero =>
    intro i21 x22 x23 M24
    rw [p_X7_simulate_e26 M x1 x2 r11 r18 M17 M20 x22 x23 M24 i21 ]
  | succ n21 ih21 =>
    intro i21 x22 x23 M24
    obtain ⟨r28, hr28⟩ : ∃ y : Int32, y = f_X7_isUnderWay M24 3 := ⟨_, rfl⟩
    obtain ⟨x29, hx29⟩ : ∃ y : Int64, y = ((x23 * 6364136223846793005) + 1442695040888963407) := ⟨_, rfl⟩
    obtain ⟨x30, hx30⟩ : ∃ y : Int32, y = ((x29.toUInt64 >>> ((33 : Int32).toInt64.toUInt64 &&& Int64.toUInt64 63)).toInt64).toInt32 := ⟨_, rfl⟩
    obtain ⟨M31, hM31⟩ : ∃ y : bM, y = f_X7_turnOf M24 3 (x30 - x30 / 8 * 8) (x30 / 8) := ⟨_, rfl⟩
    by_cases c32 : r28 = 0
    · obtain ⟨x33, hx33⟩ : ∃ y : Int32, y = (x22 + 0) := ⟨_, rfl⟩
      rw [p_X7_simulate_e34 M x1 x2 r11 r18 M17 M20 x22 x23 M24 i21 n21 r28 hr28.symm x29 hx29.symm x30 hx30.symm M31 hM31.symm c32 x33 hx33.symm, ih21]
      try dsimp only
      rw [hM31, fr_X7_turnOf M24 3 (x30 - x30 / 8 * 8) (x30 / 8) k (by omega) (by omega)]
    · by_cases c35 : (M31 3 1) = 2
      · obtain ⟨x38, hx38⟩ : ∃ y : Int32, y = (x22 + 1) := ⟨_, rfl⟩
        rw [p_X7_simulate_e39 M x1 x2 r11 r18 M17 M20 x22 x23 M24 i21 n21 r28 hr28.symm x29 hx29.symm x30 hx30.symm M31 hM31.symm c32 c35 x38 hx38.symm, ih21]
        try dsimp only
        rw [hM31, fr_X7_turnOf M24 3 (x30 - x30 / 8 * 8) (x30 / 8) k (by omega) (by omega)]
      · obtain ⟨x36, hx36⟩ : ∃ y : Int32, y = (x22 + 0) := ⟨_, rfl⟩
        rw [p_X7_simulate_e37 M x1 x2 r11 r18 M17 M20 x22 x23 M24 i21 n21 r28 hr28.symm x29 hx29.symm x30 hx30.symm M31 hM31.symm c32 c35 x36 hx36.symm, ih21]
        try dsimp only
        rw [hM31, fr_X7_turnOf M24 3 (x30 - x30 / 8 * 8) (x30 / 8) k (by omega) (by omega)]
theorem fr_X7_simulate (M : bM) (x1 : Int64) (x2 : Int32) (k : Nat) (hk3 : k ≠ 3) (hf : k ≠ 7) (hk0 : k ≠ 0) : (f_X7_simulate M x1 x2).2 k = M k := by
  obtain ⟨r11, hr11⟩ : ∃ y : Int32, y = f_X7_in x2.toInt64 1 200 := ⟨_, rfl⟩
  by_cases c12 : r11 = 0
  · obtain ⟨r14, hr14⟩ : ∃ y : Int32, y = (f_X7_refused M 1).1 := ⟨_, rfl⟩
    obtain ⟨M13, hM13⟩ : ∃ y : bM, y = (f_X7_refused M 1).2 := ⟨_, rfl⟩
    rw [p_X7_simulate_e16 M x1 x2 r11 hr11.symm c12 r14 hr14.symm M13 hM13.symm]
    try dsimp only
    rw [hM13, fr_X7_refused M 1 k (by omega)]
  · obtain ⟨r18, hr18⟩ : ∃ y : Int32, y = (f_X7_refused M 0).1 := ⟨_, rfl⟩
    obtain ⟨M17, hM17⟩ : ∃ y : bM, y = (f_X7_refused M 0).2 := ⟨_, rfl⟩
    obtain ⟨M20, hM20⟩ : ∃ y : bM, y = f_X7_copyState M17 2 404 0 3 404 0 := ⟨_, rfl⟩
    obtain ⟨x40, hx40⟩ : ∃ y : Int32, y = (lp_X7_simulate_48 x2.toNatClampNeg 0 0 x1 M20).1 := ⟨_, rfl⟩
    obtain ⟨x41, hx41⟩ : ∃ y : Int64, y = (lp_X7_simulate_48 x2.toNatClampNeg 0 0 x1 M20).2.1 := ⟨_, rfl⟩
    obtain ⟨M42, hM42⟩ : ∃ y : bM, y = (lp_X7_simulate_48 x2.toNatClampNeg 0 0 x1 M20).2.2 := ⟨_, rfl⟩
    obtain ⟨r43, hr43⟩ : ∃ y : Int32, y = f_X7_of M42 3 0 4 := ⟨_, rfl⟩
    obtain ⟨r44, hr44⟩ : ∃ y : Int32, y = f_X7_of M42 3 1 4 := ⟨_, rfl⟩
    rw [p_X7_simulate_e45 M x1 x2 r11 hr11.symm c12 r18 hr18.symm M17 hM17.symm M20 hM20.symm x40 hx40.symm x41 hx41.symm M42 hM42.symm r43 hr43.symm r44 hr44.symm]
    try dsimp only
    rw [hM42, fr_lp_X7_simulate_48 M x1 x2 r11 r18 M17 M20 k hk3 hf hk0 x2.toNatClampNeg 0 0 x1 M20, hM20, fr_X7_copyState M17 2 404 0 3 404 0 k (by omega), hM17, fr_X7_refused M 0 k (by omega)]
