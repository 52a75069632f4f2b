/-! THE VIEW: a game of the class, seen as a row of the reference -/
def mkI (b0 b1 : Int32) : Int32 := b0 ||| (b1 <<< 1)
def gv (M : bM) (g : Nat) : Nat → Int32 := fun j =>
  if j = 0 then M g 5 else if j = 1 then f_X0_phase M g else if j = 2 then M g 7 else if j = 3 then M g 6 else if j = 4 then M g 8 else
  if j = 5 then M g 9 else if j = 6 then M g 10 else if j = 7 then M g 11 else if j = 8 then M g 3 else if j = 9 then M g 4 else
  if j = 10 then M (g + 1) 4 else if j = 11 then M (g + 1) 5 else if j = 12 then M (g + 1) 6 else if j = 13 then M (g + 1) 7 else if j = 14 then M (g + 1) 3 else
  if j = 15 then M (g + 5) 4 else if j = 16 then M (g + 5) 5 else if j = 17 then M (g + 5) 6 else if j = 18 then M (g + 5) 7 else if j = 19 then M (g + 5) 3 else
  if j < 84 then M (g + 2) (j - 20) else if j < 148 then M (g + 6) (j - 84) else if j < 212 then M (g + 9) (j - 148) else
  if j < 276 then mkI (M (g + 4) (j - 212)) (M (g + 8) (j - 212)) else if j < 340 then M (g + 3) (j - 276) else if j < 404 then M (g + 7) (j - 340) else 0
theorem gv_c0 {M : bM} {g c : Nat} (hc : c < 64) : gv M g (20 + c) = M (g + 2) c := by
  unfold gv
  simp only [show ¬ 20 + c = 0 by omega, show ¬ 20 + c = 1 by omega, show ¬ 20 + c = 2 by omega, show ¬ 20 + c = 3 by omega, show ¬ 20 + c = 4 by omega, show ¬ 20 + c = 5 by omega, show ¬ 20 + c = 6 by omega, show ¬ 20 + c = 7 by omega, show ¬ 20 + c = 8 by omega, show ¬ 20 + c = 9 by omega, show ¬ 20 + c = 10 by omega, show ¬ 20 + c = 11 by omega, show ¬ 20 + c = 12 by omega, show ¬ 20 + c = 13 by omega, show ¬ 20 + c = 14 by omega, show ¬ 20 + c = 15 by omega, show ¬ 20 + c = 16 by omega, show ¬ 20 + c = 17 by omega, show ¬ 20 + c = 18 by omega, show ¬ 20 + c = 19 by omega, if_false]
  rw [if_pos (show 20 + c < 84 by omega), show 20 + c - 20 = c by omega]
theorem gv_c1 {M : bM} {g c : Nat} (hc : c < 64) : gv M g (84 + c) = M (g + 6) c := by
  unfold gv
  simp only [show ¬ 84 + c = 0 by omega, show ¬ 84 + c = 1 by omega, show ¬ 84 + c = 2 by omega, show ¬ 84 + c = 3 by omega, show ¬ 84 + c = 4 by omega, show ¬ 84 + c = 5 by omega, show ¬ 84 + c = 6 by omega, show ¬ 84 + c = 7 by omega, show ¬ 84 + c = 8 by omega, show ¬ 84 + c = 9 by omega, show ¬ 84 + c = 10 by omega, show ¬ 84 + c = 11 by omega, show ¬ 84 + c = 12 by omega, show ¬ 84 + c = 13 by omega, show ¬ 84 + c = 14 by omega, show ¬ 84 + c = 15 by omega, show ¬ 84 + c = 16 by omega, show ¬ 84 + c = 17 by omega, show ¬ 84 + c = 18 by omega, show ¬ 84 + c = 19 by omega, if_false]
  rw [if_neg (show ¬ 84 + c < 84 by omega), if_pos (show 84 + c < 148 by omega), show 84 + c - 84 = c by omega]
theorem gv_dm {M : bM} {g c : Nat} (hc : c < 64) : gv M g (148 + c) = M (g + 9) c := by
  unfold gv
  simp only [show ¬ 148 + c = 0 by omega, show ¬ 148 + c = 1 by omega, show ¬ 148 + c = 2 by omega, show ¬ 148 + c = 3 by omega, show ¬ 148 + c = 4 by omega, show ¬ 148 + c = 5 by omega, show ¬ 148 + c = 6 by omega, show ¬ 148 + c = 7 by omega, show ¬ 148 + c = 8 by omega, show ¬ 148 + c = 9 by omega, show ¬ 148 + c = 10 by omega, show ¬ 148 + c = 11 by omega, show ¬ 148 + c = 12 by omega, show ¬ 148 + c = 13 by omega, show ¬ 148 + c = 14 by omega, show ¬ 148 + c = 15 by omega, show ¬ 148 + c = 16 by omega, show ¬ 148 + c = 17 by omega, show ¬ 148 + c = 18 by omega, show ¬ 148 + c = 19 by omega, if_false]
  rw [if_neg (show ¬ 148 + c < 84 by omega), if_neg (show ¬ 148 + c < 148 by omega), if_pos (show 148 + c < 212 by omega), show 148 + c - 148 = c by omega]
theorem gv_mk {M : bM} {g c : Nat} (hc : c < 64) : gv M g (212 + c) = mkI (M (g + 4) c) (M (g + 8) c) := by
  unfold gv
  simp only [show ¬ 212 + c = 0 by omega, show ¬ 212 + c = 1 by omega, show ¬ 212 + c = 2 by omega, show ¬ 212 + c = 3 by omega, show ¬ 212 + c = 4 by omega, show ¬ 212 + c = 5 by omega, show ¬ 212 + c = 6 by omega, show ¬ 212 + c = 7 by omega, show ¬ 212 + c = 8 by omega, show ¬ 212 + c = 9 by omega, show ¬ 212 + c = 10 by omega, show ¬ 212 + c = 11 by omega, show ¬ 212 + c = 12 by omega, show ¬ 212 + c = 13 by omega, show ¬ 212 + c = 14 by omega, show ¬ 212 + c = 15 by omega, show ¬ 212 + c = 16 by omega, show ¬ 212 + c = 17 by omega, show ¬ 212 + c = 18 by omega, show ¬ 212 + c = 19 by omega, if_false]
  rw [if_neg (show ¬ 212 + c < 84 by omega), if_neg (show ¬ 212 + c < 148 by omega), if_neg (show ¬ 212 + c < 212 by omega), if_pos (show 212 + c < 276 by omega), show 212 + c - 212 = c by omega]
theorem gv_p0 {M : bM} {g c : Nat} (hc : c < 64) : gv M g (276 + c) = M (g + 3) c := by
  unfold gv
  simp only [show ¬ 276 + c = 0 by omega, show ¬ 276 + c = 1 by omega, show ¬ 276 + c = 2 by omega, show ¬ 276 + c = 3 by omega, show ¬ 276 + c = 4 by omega, show ¬ 276 + c = 5 by omega, show ¬ 276 + c = 6 by omega, show ¬ 276 + c = 7 by omega, show ¬ 276 + c = 8 by omega, show ¬ 276 + c = 9 by omega, show ¬ 276 + c = 10 by omega, show ¬ 276 + c = 11 by omega, show ¬ 276 + c = 12 by omega, show ¬ 276 + c = 13 by omega, show ¬ 276 + c = 14 by omega, show ¬ 276 + c = 15 by omega, show ¬ 276 + c = 16 by omega, show ¬ 276 + c = 17 by omega, show ¬ 276 + c = 18 by omega, show ¬ 276 + c = 19 by omega, if_false]
  rw [if_neg (show ¬ 276 + c < 84 by omega), if_neg (show ¬ 276 + c < 148 by omega), if_neg (show ¬ 276 + c < 212 by omega), if_neg (show ¬ 276 + c < 276 by omega), if_pos (show 276 + c < 340 by omega), show 276 + c - 276 = c by omega]
theorem gv_p1 {M : bM} {g c : Nat} (hc : c < 64) : gv M g (340 + c) = M (g + 7) c := by
  unfold gv
  simp only [show ¬ 340 + c = 0 by omega, show ¬ 340 + c = 1 by omega, show ¬ 340 + c = 2 by omega, show ¬ 340 + c = 3 by omega, show ¬ 340 + c = 4 by omega, show ¬ 340 + c = 5 by omega, show ¬ 340 + c = 6 by omega, show ¬ 340 + c = 7 by omega, show ¬ 340 + c = 8 by omega, show ¬ 340 + c = 9 by omega, show ¬ 340 + c = 10 by omega, show ¬ 340 + c = 11 by omega, show ¬ 340 + c = 12 by omega, show ¬ 340 + c = 13 by omega, show ¬ 340 + c = 14 by omega, show ¬ 340 + c = 15 by omega, show ¬ 340 + c = 16 by omega, show ¬ 340 + c = 17 by omega, show ¬ 340 + c = 18 by omega, show ¬ 340 + c = 19 by omega, if_false]
  rw [if_neg (show ¬ 340 + c < 84 by omega), if_neg (show ¬ 340 + c < 148 by omega), if_neg (show ¬ 340 + c < 212 by omega), if_neg (show ¬ 340 + c < 276 by omega), if_neg (show ¬ 340 + c < 340 by omega), if_pos (show 340 + c < 404 by omega), show 340 + c - 340 = c by omega]
theorem gv_big {M : bM} {g j : Nat} (hj : 404 ≤ j) : gv M g j = 0 := by
  unfold gv
  simp only [show ¬ j = 0 by omega, show ¬ j = 1 by omega, show ¬ j = 2 by omega, show ¬ j = 3 by omega, show ¬ j = 4 by omega, show ¬ j = 5 by omega, show ¬ j = 6 by omega, show ¬ j = 7 by omega, show ¬ j = 8 by omega, show ¬ j = 9 by omega, show ¬ j = 10 by omega, show ¬ j = 11 by omega, show ¬ j = 12 by omega, show ¬ j = 13 by omega, show ¬ j = 14 by omega, show ¬ j = 15 by omega, show ¬ j = 16 by omega, show ¬ j = 17 by omega, show ¬ j = 18 by omega, show ¬ j = 19 by omega, if_false]
  rw [if_neg (show ¬ j < 84 by omega), if_neg (show ¬ j < 148 by omega), if_neg (show ¬ j < 212 by omega), if_neg (show ¬ j < 276 by omega), if_neg (show ¬ j < 340 by omega), if_neg (show ¬ j < 404 by omega)]
/-- two rows are one if they are so place by place -/
theorem row_ext {f h : Nat → Int32} (h0 : ∀ j, j < 20 → f j = h j) (c0 : ∀ c, c < 64 → f (20 + c) = h (20 + c)) (c1 : ∀ c, c < 64 → f (84 + c) = h (84 + c)) (dm : ∀ c, c < 64 → f (148 + c) = h (148 + c)) (mk : ∀ c, c < 64 → f (212 + c) = h (212 + c)) (p0 : ∀ c, c < 64 → f (276 + c) = h (276 + c)) (p1 : ∀ c, c < 64 → f (340 + c) = h (340 + c)) (hb : ∀ j, 404 ≤ j → f j = h j) : f = h := by
  funext j
  by_cases a0 : j < 20
  · exact h0 j a0
  by_cases a1 : j < 84
  · have := c0 (j - 20) (by omega); rwa [show 20 + (j - 20) = j by omega] at this
  by_cases a2 : j < 148
  · have := c1 (j - 84) (by omega); rwa [show 84 + (j - 84) = j by omega] at this
  by_cases a3 : j < 212
  · have := dm (j - 148) (by omega); rwa [show 148 + (j - 148) = j by omega] at this
  by_cases a4 : j < 276
  · have := mk (j - 212) (by omega); rwa [show 212 + (j - 212) = j by omega] at this
  by_cases a5 : j < 340
  · have := p0 (j - 276) (by omega); rwa [show 276 + (j - 276) = j by omega] at this
  by_cases a6 : j < 404
  · have := p1 (j - 340) (by omega); rwa [show 340 + (j - 340) = j by omega] at this
  · exact hb j (by omega)
theorem j20 {P : Nat → Prop} (h : P 0 ∧ P 1 ∧ P 2 ∧ P 3 ∧ P 4 ∧ P 5 ∧ P 6 ∧ P 7 ∧ P 8 ∧ P 9 ∧ P 10 ∧ P 11 ∧ P 12 ∧ P 13 ∧ P 14 ∧ P 15 ∧ P 16 ∧ P 17 ∧ P 18 ∧ P 19) : ∀ j, j < 20 → P j := by
  obtain ⟨a0, a1, a2, a3, a4, a5, a6, a7, a8, a9, a10, a11, a12, a13, a14, a15, a16, a17, a18, a19⟩ := h
  intro j hj
  rcases (by omega : j = 0 ∨ j = 1 ∨ j = 2 ∨ j = 3 ∨ j = 4 ∨ j = 5 ∨ j = 6 ∨ j = 7 ∨ j = 8 ∨ j = 9 ∨ j = 10 ∨ j = 11 ∨ j = 12 ∨ j = 13 ∨ j = 14 ∨ j = 15 ∨ j = 16 ∨ j = 17 ∨ j = 18 ∨ j = 19) with rfl | rfl | rfl | rfl | rfl | rfl | rfl | rfl | rfl | rfl | rfl | rfl | rfl | rfl | rfl | rfl | rfl | rfl | rfl | rfl <;> assumption
theorem gv_0 (M : bM) (g : Nat) : gv M g 0 = M g 5 := by simp [gv]
theorem gv_1 (M : bM) (g : Nat) : gv M g 1 = f_X0_phase M g := by simp [gv]
theorem gv_2 (M : bM) (g : Nat) : gv M g 2 = M g 7 := by simp [gv]
theorem gv_3 (M : bM) (g : Nat) : gv M g 3 = M g 6 := by simp [gv]
theorem gv_4 (M : bM) (g : Nat) : gv M g 4 = M g 8 := by simp [gv]
theorem gv_5 (M : bM) (g : Nat) : gv M g 5 = M g 9 := by simp [gv]
theorem gv_6 (M : bM) (g : Nat) : gv M g 6 = M g 10 := by simp [gv]
theorem gv_7 (M : bM) (g : Nat) : gv M g 7 = M g 11 := by simp [gv]
theorem gv_8 (M : bM) (g : Nat) : gv M g 8 = M g 3 := by simp [gv]
theorem gv_9 (M : bM) (g : Nat) : gv M g 9 = M g 4 := by simp [gv]
theorem gv_10 (M : bM) (g : Nat) : gv M g 10 = M (g + 1) 4 := by simp [gv]
theorem gv_11 (M : bM) (g : Nat) : gv M g 11 = M (g + 1) 5 := by simp [gv]
theorem gv_12 (M : bM) (g : Nat) : gv M g 12 = M (g + 1) 6 := by simp [gv]
theorem gv_13 (M : bM) (g : Nat) : gv M g 13 = M (g + 1) 7 := by simp [gv]
theorem gv_14 (M : bM) (g : Nat) : gv M g 14 = M (g + 1) 3 := by simp [gv]
theorem gv_15 (M : bM) (g : Nat) : gv M g 15 = M (g + 5) 4 := by simp [gv]
theorem gv_16 (M : bM) (g : Nat) : gv M g 16 = M (g + 5) 5 := by simp [gv]
theorem gv_17 (M : bM) (g : Nat) : gv M g 17 = M (g + 5) 6 := by simp [gv]
theorem gv_18 (M : bM) (g : Nat) : gv M g 18 = M (g + 5) 7 := by simp [gv]
theorem gv_19 (M : bM) (g : Nat) : gv M g 19 = M (g + 5) 3 := by simp [gv]
theorem gv20 {M N : bM} {g g' : Nat} (h : M g 5 = N g' 5 ∧ M g 8 = N g' 8 ∧ M g 6 = N g' 6 ∧ M g 7 = N g' 7 ∧ M g 9 = N g' 9 ∧ M g 10 = N g' 10 ∧ M g 11 = N g' 11 ∧ M g 3 = N g' 3 ∧ M g 4 = N g' 4) (h1 : ∀ j, 3 ≤ j → j < 8 → M (g + 1) j = N (g' + 1) j) (h5 : ∀ j, 3 ≤ j → j < 8 → M (g + 5) j = N (g' + 5) j) : ∀ j, j < 20 → gv M g j = gv N g' j := by
  obtain ⟨a5, a8, a6, a7, a9, a10, a11, a3, a4⟩ := h
  have hp : f_X0_phase M g = f_X0_phase N g' := by rw [u_f_X0_phase, u_f_X0_phase, a8, a6]
  refine j20 ⟨?_, ?_, ?_, ?_, ?_, ?_, ?_, ?_, ?_, ?_, ?_, ?_, ?_, ?_, ?_, ?_, ?_, ?_, ?_, ?_⟩
  · rw [gv_0, gv_0]; exact a5
  · rw [gv_1, gv_1]; exact hp
  · rw [gv_2, gv_2]; exact a7
  · rw [gv_3, gv_3]; exact a6
  · rw [gv_4, gv_4]; exact a8
  · rw [gv_5, gv_5]; exact a9
  · rw [gv_6, gv_6]; exact a10
  · rw [gv_7, gv_7]; exact a11
  · rw [gv_8, gv_8]; exact a3
  · rw [gv_9, gv_9]; exact a4
  · rw [gv_10, gv_10]; exact h1 4 (by decide) (by decide)
  · rw [gv_11, gv_11]; exact h1 5 (by decide) (by decide)
  · rw [gv_12, gv_12]; exact h1 6 (by decide) (by decide)
  · rw [gv_13, gv_13]; exact h1 7 (by decide) (by decide)
  · rw [gv_14, gv_14]; exact h1 3 (by decide) (by decide)
  · rw [gv_15, gv_15]; exact h5 4 (by decide) (by decide)
  · rw [gv_16, gv_16]; exact h5 5 (by decide) (by decide)
  · rw [gv_17, gv_17]; exact h5 6 (by decide) (by decide)
  · rw [gv_18, gv_18]; exact h5 7 (by decide) (by decide)
  · rw [gv_19, gv_19]; exact h5 3 (by decide) (by decide)
theorem u2 {M : bM} {k j a b : Nat} {v : Int32} : up2 M k j v a b = if a = k ∧ b = j then v else M a b := rfl
/-- pay -/
theorem pay_at {M : bM} {w : Nat} {v : Int32} {a b : Nat} : f_X2_pay M w v a b = if a = w ∧ b = 7 then M w 7 + v else if a = w ∧ b = 4 then M w 4 + v else M a b := by
  rw [u_f_X2_pay]
  simp only [u2]
  simp
theorem gv_pay {M : bM} {g p : Nat} {v : Int32} (hp : p < 2) : gv (f_X2_pay M (g + 1 + 4 * p) v) g = paysR (gv M g) p v := by
  have hph : f_X0_phase (f_X2_pay M (g + 1 + 4 * p) v) g = f_X0_phase M g := by
    rw [u_f_X0_phase, u_f_X0_phase]
    simp only [pay_at, show ¬ g = g + 1 + 4 * p by omega, false_and, if_false]
  rcases (by omega : p = 0 ∨ p = 1) with rfl | rfl
  · refine row_ext (j20 ⟨?_, ?_, ?_, ?_, ?_, ?_, ?_, ?_, ?_, ?_, ?_, ?_, ?_, ?_, ?_, ?_, ?_, ?_, ?_, ?_⟩) (fun c hc => ?_) (fun c hc => ?_) (fun c hc => ?_) (fun c hc => ?_) (fun c hc => ?_) (fun c hc => ?_) (fun j hj => ?_)
    all_goals first
      | (rw [paysR_ne (by omega) (by omega)]; first | (rw [gv_c0 hc, gv_c0 hc]; simp [pay_at]) | (rw [gv_c1 hc, gv_c1 hc]; simp [pay_at]) | (rw [gv_dm hc, gv_dm hc]; simp [pay_at]) | (rw [gv_mk hc, gv_mk hc]; simp [pay_at]) | (rw [gv_p0 hc, gv_p0 hc]; simp [pay_at]) | (rw [gv_p1 hc, gv_p1 hc]; simp [pay_at]) | (rw [gv_big hj, gv_big hj]))
      | (simp [gv, paysR, pay_at]; done)
      | (simp [gv, paysR, pay_at]; intro h; omega)
      | (simp only [gv_1]; rw [hph]; simp [paysR, gv_1])
  · refine row_ext (j20 ⟨?_, ?_, ?_, ?_, ?_, ?_, ?_, ?_, ?_, ?_, ?_, ?_, ?_, ?_, ?_, ?_, ?_, ?_, ?_, ?_⟩) (fun c hc => ?_) (fun c hc => ?_) (fun c hc => ?_) (fun c hc => ?_) (fun c hc => ?_) (fun c hc => ?_) (fun j hj => ?_)
    all_goals first
      | (rw [paysR_ne (by omega) (by omega)]; first | (rw [gv_c0 hc, gv_c0 hc]; simp [pay_at]) | (rw [gv_c1 hc, gv_c1 hc]; simp [pay_at]) | (rw [gv_dm hc, gv_dm hc]; simp [pay_at]) | (rw [gv_mk hc, gv_mk hc]; simp [pay_at]) | (rw [gv_p0 hc, gv_p0 hc]; simp [pay_at]) | (rw [gv_p1 hc, gv_p1 hc]; simp [pay_at]) | (rw [gv_big hj, gv_big hj]))
      | (simp [gv, paysR, pay_at]; done)
      | (simp [gv, paysR, pay_at]; intro h; omega)
      | (simp only [gv_1]; rw [hph]; simp [paysR, gv_1])
/-! THE VIEW, second part: what the class's acts on a game do to its row -/
theorem fits_nI {c : Nat} (hc : c < 64) : f_X6_fits (nI c) = 1 := by
  have h : ∀ i : Fin 64, f_X6_fits (nI i.val) = 1 := by decide +kernel
  exact h ⟨c, hc⟩
theorem fits_no {x : Int32} (h : f_X6_fits x = 0) : ¬ vp_in x 64 := by
  intro q
  obtain ⟨c, hc, rfl⟩ := vp_in_of q (by decide)
  rw [fits_nI hc] at h
  exact absurd h (by decide)
abbrev bt (x : Int32) : Prop := x = 0 ∨ x = 1
abbrev isB (M : bM) (g : Nat) : Prop := ∀ c, c < 64 → bt (M (g + 4) c) ∧ bt (M (g + 8) c)
theorem mk_or0 {b0 b1 : Int32} (h0 : bt b0) (h1 : bt b1) : mkI 1 b1 = mkI b0 b1 ||| bitI 0 := by
  rcases h0 with rfl | rfl <;> rcases h1 with rfl | rfl <;> decide
theorem mk_or1 {b0 b1 : Int32} (h0 : bt b0) (h1 : bt b1) : mkI b0 1 = mkI b0 b1 ||| bitI 1 := by
  rcases h0 with rfl | rfl <;> rcases h1 with rfl | rfl <;> decide
theorem mk_v {b0 b1 : Int32} (h0 : bt b0) (h1 : bt b1) : ∃ v, mkI b0 b1 = nI v ∧ v < 4 ∧ (b0 = 0 ↔ v % 2 = 0) ∧ (b1 = 0 ↔ v / 2 % 2 = 0) := by
  rcases h0 with rfl | rfl <;> rcases h1 with rfl | rfl
  · exact ⟨0, by decide, by decide, by decide, by decide⟩
  · exact ⟨2, by decide, by decide, by decide, by decide⟩
  · exact ⟨1, by decide, by decide, by decide, by decide⟩
  · exact ⟨3, by decide, by decide, by decide, by decide⟩
theorem flow_at {M : bM} {w c a : Nat} (hc : c < 64) (ha : M w 3 = nI a) (ha64 : a < 64) (x y : Nat) : f_X2_flowTo M w (nI c) x y = if x = w ∧ y = 3 then nI (a + 1) else if x = w + 3 ∧ y = c then 1 else if x = w + 2 ∧ y = a then nI c else M x y := by
  rw [u_f_X2_flowTo]
  dsimp only
  rw [fits_nI hc, if_neg (by decide), ha, fits_nI ha64, if_neg (by decide), nI_clamp (by omega), nI_clamp (by omega)]
  have e : up2 (up2 M (w + 2) a (nI c)) (w + 3) c 1 w 3 = nI a := by
    rw [u2, if_neg (by omega), u2, if_neg (by omega)]; exact ha
  rw [e, show nI a + 1 = nI (a + 1) from nI_add a 1]
  simp only [u2]
theorem gv_flow {M : bM} {g p c a : Nat} (hp : p < 2) (hc : c < 64) (ha : gv M g (14 + 5 * p) = nI a) (ha64 : a < 64) (hB : isB M g) : gv (f_X2_flowTo M (g + 1 + 4 * p) (nI c)) g = flowsR (gv M g) p c a := by
  rcases (by omega : p = 0 ∨ p = 1) with rfl | rfl
  · have ha' : M (g + 1) 3 = nI a := by rw [← gv_14 M g]; exact ha
    have hf := flow_at (M := M) (w := g + 1) hc ha' ha64
    rw [show g + 1 + 4 * 0 = g + 1 by omega]
    generalize f_X2_flowTo M (g + 1) (nI c) = F at *
    have hk : ∀ x y, (x ≠ g + 1 ∨ y ≠ 3) → (x ≠ g + 4 ∨ y ≠ c) → (x ≠ g + 3 ∨ y ≠ a) → F x y = M x y := fun x y q1 q2 q3 => by
      rw [hf, if_neg (by omega), if_neg (by omega), if_neg (by omega)]
    have hs : ∀ j, j ≠ 212 + c → j ≠ 14 → j ≠ 276 + a → flowsR (gv M g) 0 c a j = gv M g j := fun j q1 q2 q3 => by
      unfold flowsR
      rw [if_neg q1, if_neg (by omega), if_neg (by omega)]
    refine row_ext (fun j hj => ?_) (fun d hd => ?_) (fun d hd => ?_) (fun d hd => ?_) (fun d hd => ?_) (fun d hd => ?_) (fun d hd => ?_) (fun j hj => ?_)
    · by_cases e : j = 14
      · subst e
        rw [gv_14, hf, if_pos ⟨rfl, rfl⟩]
        unfold flowsR
        rw [if_neg (by omega), if_pos (by omega)]
      · rw [hs j (by omega) e (by omega)]
        by_cases e2 : j < 14 ∨ 14 < j
        · have h20 : ∀ j, j < 20 → j ≠ 14 → gv F g j = gv M g j := by
            intro j hj hne
            have a1 : ∀ y, F g y = M g y := fun y => hk _ _ (by omega) (by omega) (by omega)
            have a2 : ∀ y, y ≠ 3 → F (g + 1) y = M (g + 1) y := fun y q => hk _ _ (by omega) (by omega) (by omega)
            have a5 : ∀ y, F (g + 5) y = M (g + 5) y := fun y => hk _ _ (by omega) (by omega) (by omega)
            have hp : f_X0_phase F g = f_X0_phase M g := by rw [u_f_X0_phase, u_f_X0_phase, a1, a1]
            rcases (by omega : j = 0 ∨ j = 1 ∨ j = 2 ∨ j = 3 ∨ j = 4 ∨ j = 5 ∨ j = 6 ∨ j = 7 ∨ j = 8 ∨ j = 9 ∨ j = 10 ∨ j = 11 ∨ j = 12 ∨ j = 13 ∨ j = 15 ∨ j = 16 ∨ j = 17 ∨ j = 18 ∨ j = 19) with rfl | rfl | rfl | rfl | rfl | rfl | rfl | rfl | rfl | rfl | rfl | rfl | rfl | rfl | rfl | rfl | rfl | rfl | rfl
            · rw [gv_0, gv_0, a1]
            · rw [gv_1, gv_1, hp]
            · rw [gv_2, gv_2, a1]
            · rw [gv_3, gv_3, a1]
            · rw [gv_4, gv_4, a1]
            · rw [gv_5, gv_5, a1]
            · rw [gv_6, gv_6, a1]
            · rw [gv_7, gv_7, a1]
            · rw [gv_8, gv_8, a1]
            · rw [gv_9, gv_9, a1]
            · rw [gv_10, gv_10, a2 _ (by decide)]
            · rw [gv_11, gv_11, a2 _ (by decide)]
            · rw [gv_12, gv_12, a2 _ (by decide)]
            · rw [gv_13, gv_13, a2 _ (by decide)]
            · rw [gv_15, gv_15, a5]
            · rw [gv_16, gv_16, a5]
            · rw [gv_17, gv_17, a5]
            · rw [gv_18, gv_18, a5]
            · rw [gv_19, gv_19, a5]
          exact h20 j hj e
        · omega
    · rw [hs _ (by omega) (by omega) (by omega), gv_c0 hd, gv_c0 hd, hk _ _ (by omega) (by omega) (by omega)]
    · rw [hs _ (by omega) (by omega) (by omega), gv_c1 hd, gv_c1 hd, hk _ _ (by omega) (by omega) (by omega)]
    · rw [hs _ (by omega) (by omega) (by omega), gv_dm hd, gv_dm hd, hk _ _ (by omega) (by omega) (by omega)]
    · by_cases e : d = c
      · subst e
        rw [gv_mk hd, hf, if_neg (by omega), if_pos ⟨rfl, rfl⟩, hk (g + 8) d (by omega) (by omega) (by omega)]
        unfold flowsR
        rw [if_pos rfl, gv_mk hd]
        exact mk_or0 (hB d hd).1 (hB d hd).2
      · rw [hs _ (by omega) (by omega) (by omega), gv_mk hd, gv_mk hd, hk _ _ (by omega) (by omega) (by omega), hk _ _ (by omega) (by omega) (by omega)]
    · by_cases e : d = a
      · subst e
        rw [gv_p0 hd, hf, if_neg (by omega), if_neg (by omega), if_pos ⟨rfl, rfl⟩]
        unfold flowsR
        rw [if_neg (by omega), if_neg (by omega), if_pos (by omega)]
      · rw [hs _ (by omega) (by omega) (by omega), gv_p0 hd, gv_p0 hd, hk _ _ (by omega) (by omega) (by omega)]
    · rw [hs _ (by omega) (by omega) (by omega), gv_p1 hd, gv_p1 hd, hk _ _ (by omega) (by omega) (by omega)]
    · rw [hs _ (by omega) (by omega) (by omega), gv_big hj, gv_big hj]
  · have ha' : M (g + 5) 3 = nI a := by rw [← gv_19 M g]; exact ha
    have hf := flow_at (M := M) (w := g + 5) hc ha' ha64
    rw [show g + 1 + 4 * 1 = g + 5 by omega]
    generalize f_X2_flowTo M (g + 5) (nI c) = F at *
    have hk : ∀ x y, (x ≠ g + 5 ∨ y ≠ 3) → (x ≠ g + 8 ∨ y ≠ c) → (x ≠ g + 7 ∨ y ≠ a) → F x y = M x y := fun x y q1 q2 q3 => by
      rw [hf, if_neg (by omega), if_neg (by omega), if_neg (by omega)]
    have hs : ∀ j, j ≠ 212 + c → j ≠ 19 → j ≠ 340 + a → flowsR (gv M g) 1 c a j = gv M g j := fun j q1 q2 q3 => by
      unfold flowsR
      rw [if_neg q1, if_neg (by omega), if_neg (by omega)]
    refine row_ext (fun j hj => ?_) (fun d hd => ?_) (fun d hd => ?_) (fun d hd => ?_) (fun d hd => ?_) (fun d hd => ?_) (fun d hd => ?_) (fun j hj => ?_)
    · by_cases e : j = 19
      · subst e
        rw [gv_19, hf, if_pos ⟨rfl, rfl⟩]
        unfold flowsR
        rw [if_neg (by omega), if_pos (by omega)]
      · rw [hs j (by omega) e (by omega)]
        by_cases e2 : j < 19 ∨ 19 < j
        · have h20 : ∀ j, j < 20 → j ≠ 19 → gv F g j = gv M g j := by
            intro j hj hne
            have a1 : ∀ y, F g y = M g y := fun y => hk _ _ (by omega) (by omega) (by omega)
            have a2 : ∀ y, F (g + 1) y = M (g + 1) y := fun y => hk _ _ (by omega) (by omega) (by omega)
            have a5 : ∀ y, y ≠ 3 → F (g + 5) y = M (g + 5) y := fun y q => hk _ _ (by omega) (by omega) (by omega)
            have hp : f_X0_phase F g = f_X0_phase M g := by rw [u_f_X0_phase, u_f_X0_phase, a1, a1]
            rcases (by omega : j = 0 ∨ j = 1 ∨ j = 2 ∨ j = 3 ∨ j = 4 ∨ j = 5 ∨ j = 6 ∨ j = 7 ∨ j = 8 ∨ j = 9 ∨ j = 10 ∨ j = 11 ∨ j = 12 ∨ j = 13 ∨ j = 14 ∨ j = 15 ∨ j = 16 ∨ j = 17 ∨ j = 18) with rfl | rfl | rfl | rfl | rfl | rfl | rfl | rfl | rfl | rfl | rfl | rfl | rfl | rfl | rfl | rfl | rfl | rfl | rfl
            · rw [gv_0, gv_0, a1]
            · rw [gv_1, gv_1, hp]
            · rw [gv_2, gv_2, a1]
            · rw [gv_3, gv_3, a1]
            · rw [gv_4, gv_4, a1]
            · rw [gv_5, gv_5, a1]
            · rw [gv_6, gv_6, a1]
            · rw [gv_7, gv_7, a1]
            · rw [gv_8, gv_8, a1]
            · rw [gv_9, gv_9, a1]
            · rw [gv_10, gv_10, a2]
            · rw [gv_11, gv_11, a2]
            · rw [gv_12, gv_12, a2]
            · rw [gv_13, gv_13, a2]
            · rw [gv_14, gv_14, a2]
            · rw [gv_15, gv_15, a5 _ (by decide)]
            · rw [gv_16, gv_16, a5 _ (by decide)]
            · rw [gv_17, gv_17, a5 _ (by decide)]
            · rw [gv_18, gv_18, a5 _ (by decide)]
          exact h20 j hj e
        · omega
    · rw [hs _ (by omega) (by omega) (by omega), gv_c0 hd, gv_c0 hd, hk _ _ (by omega) (by omega) (by omega)]
    · rw [hs _ (by omega) (by omega) (by omega), gv_c1 hd, gv_c1 hd, hk _ _ (by omega) (by omega) (by omega)]
    · rw [hs _ (by omega) (by omega) (by omega), gv_dm hd, gv_dm hd, hk _ _ (by omega) (by omega) (by omega)]
    · by_cases e : d = c
      · subst e
        rw [gv_mk hd, hk (g + 4) d (by omega) (by omega) (by omega), hf, if_neg (by omega), if_pos ⟨rfl, rfl⟩]
        unfold flowsR
        rw [if_pos rfl, gv_mk hd]
        exact mk_or1 (hB d hd).1 (hB d hd).2
      · rw [hs _ (by omega) (by omega) (by omega), gv_mk hd, gv_mk hd, hk _ _ (by omega) (by omega) (by omega), hk _ _ (by omega) (by omega) (by omega)]
    · rw [hs _ (by omega) (by omega) (by omega), gv_p0 hd, gv_p0 hd, hk _ _ (by omega) (by omega) (by omega)]
    · by_cases e : d = a
      · subst e
        rw [gv_p1 hd, hf, if_neg (by omega), if_neg (by omega), if_pos ⟨rfl, rfl⟩]
        unfold flowsR
        rw [if_neg (by omega), if_neg (by omega), if_pos (by omega)]
      · rw [hs _ (by omega) (by omega) (by omega), gv_p1 hd, gv_p1 hd, hk _ _ (by omega) (by omega) (by omega)]
    · rw [hs _ (by omega) (by omega) (by omega), gv_big hj, gv_big hj]
theorem et_loop {g : Nat} : ∀ (n i : Nat) (M : bM), i + n = 64 → ∀ x y, lp_X0_endTurn_22 g n i M x y = if x = g + 9 ∧ i ≤ y ∧ y < 64 then ageI (M (g + 9) y) (M g 3) else M x y := by
  intro n
  induction n with
  | zero => intro i M hi x y; rw [u0_lp_X0_endTurn_22, if_neg (show ¬ (x = g + 9 ∧ i ≤ y ∧ y < 64) by omega)]
  | succ n ih =>
    intro i M hi x y
    rw [u1_lp_X0_endTurn_22]
    dsimp only
    have key : ∀ N : bM, (∀ a b, N a b = if a = g + 9 ∧ b = i then ageI (M (g + 9) i) (M g 3) else M a b) → lp_X0_endTurn_22 g n (i + 1) N x y = if x = g + 9 ∧ i ≤ y ∧ y < 64 then ageI (M (g + 9) y) (M g 3) else M x y := by
      intro N hN
      rw [ih (i + 1) N (by omega) x y, hN g 3, if_neg (show ¬ (g = g + 9 ∧ 3 = i) by omega), hN x y]
      by_cases e : x = g + 9 ∧ y = i
      · rw [if_neg (show ¬ (x = g + 9 ∧ i + 1 ≤ y ∧ y < 64) by omega), if_pos e, if_pos (show x = g + 9 ∧ i ≤ y ∧ y < 64 by omega), e.2]
      · rw [if_neg e]
        by_cases h : x = g + 9 ∧ i ≤ y ∧ y < 64
        · rw [if_pos h, if_pos (show x = g + 9 ∧ i + 1 ≤ y ∧ y < 64 by omega), hN (g + 9) y, if_neg (show ¬ (g + 9 = g + 9 ∧ y = i) by omega)]
        · rw [if_neg h, if_neg (show ¬ (x = g + 9 ∧ i + 1 ≤ y ∧ y < 64) by omega)]
    by_cases c1 : M (g + 9) i = -1
    · rw [if_pos c1]
      refine key M (fun a b => ?_)
      by_cases e : a = g + 9 ∧ b = i
      · rw [if_pos e, e.1, e.2]; unfold ageI; rw [if_pos c1]
      · rw [if_neg e]
    · rw [if_neg c1]
      have e1 : up2 M (g + 9) i (M (g + 9) i + 1) (g + 9) i = M (g + 9) i + 1 := by rw [u2, if_pos ⟨rfl, rfl⟩]
      have e2 : up2 M (g + 9) i (M (g + 9) i + 1) g 3 = M g 3 := by rw [u2, if_neg (show ¬ (g = g + 9 ∧ 3 = i) by omega)]
      rw [e1, e2]
      by_cases c2 : M (g + 9) i + 1 < M g 3
      · rw [if_pos c2]
        refine key _ (fun a b => ?_)
        rw [u2]
        by_cases e : a = g + 9 ∧ b = i
        · rw [if_pos e, if_pos e]; unfold ageI; rw [if_neg c1, if_pos c2]
        · rw [if_neg e, if_neg e]
      · rw [if_neg c2]
        refine key _ (fun a b => ?_)
        rw [u2, u2]
        by_cases e : a = g + 9 ∧ b = i
        · rw [if_pos e, if_pos e]; unfold ageI; rw [if_neg c1, if_neg c2]
        · rw [if_neg e, if_neg e, if_neg e]
theorem et_at {M : bM} {g : Nat} (x y : Nat) : f_X0_endTurn M g x y = if x = g + 9 ∧ y < 64 then ageI (M (g + 9) y) (M g 3) else if x = g ∧ y = 7 then 1 - M g 7 else if x = g ∧ y = 6 then M g 6 + 1 else M x y := by
  rw [u_f_X0_endTurn]
  dsimp only
  rw [et_loop 64 0 _ rfl]
  have e7 : up2 M g 6 (M g 6 + 1) g 7 = M g 7 := by rw [u2, if_neg (by omega)]
  rw [e7]
  have e : ∀ a b, up2 (up2 M g 6 (M g 6 + 1)) g 7 (1 - M g 7) a b = if a = g ∧ b = 7 then 1 - M g 7 else if a = g ∧ b = 6 then M g 6 + 1 else M a b := fun a b => by rw [u2, u2]
  rw [e, e, e, if_neg (show ¬ (g + 9 = g ∧ y = 7) by omega), if_neg (show ¬ (g + 9 = g ∧ y = 6) by omega), if_neg (show ¬ (g = g ∧ 3 = 7) by omega), if_neg (show ¬ (g = g ∧ 3 = 6) by omega)]
  by_cases h : x = g + 9 ∧ y < 64
  · rw [if_pos h, if_pos (show x = g + 9 ∧ 0 ≤ y ∧ y < 64 by omega)]
  · rw [if_neg h, if_neg (show ¬ (x = g + 9 ∧ 0 ≤ y ∧ y < 64) by omega)]
theorem gv_et {M : bM} {g m : Nat} (hm : M g 6 = nI m) (hm8 : m ≤ 80) : gv (f_X0_endTurn M g) g = teR (gv M g) := by
  have hf := et_at (M := M) (g := g)
  generalize f_X0_endTurn M g = F at *
  have hk : ∀ x y, (x ≠ g + 9 ∨ 64 ≤ y) → (x ≠ g ∨ y ≠ 7) → (x ≠ g ∨ y ≠ 6) → F x y = M x y := fun x y q1 q2 q3 => by
    rw [hf, if_neg (by omega), if_neg (by omega), if_neg (by omega)]
  have hs : ∀ j, 4 ≤ j ∨ j = 0 → ¬ (148 ≤ j ∧ j < 212) → teR (gv M g) j = gv M g j := fun j h1 h2 => by
    unfold teR
    rw [if_neg (show ¬ j = 1 by omega), if_neg (show ¬ j = 2 by omega), if_neg (show ¬ j = 3 by omega), if_neg h2]
  have h6 : F g 6 = M g 6 + 1 := by rw [hf, if_neg (by omega), if_neg (by omega), if_pos ⟨rfl, rfl⟩]
  have h7 : F g 7 = 1 - M g 7 := by rw [hf, if_neg (by omega), if_pos ⟨rfl, rfl⟩]
  have h8 : F g 8 = M g 8 := hk _ _ (by omega) (by omega) (by omega)
  have hph : f_X0_phase F g = (if f_X0_phase M g = 1 then (if M g 6 + 1 = 80 then 3 else f_X0_phase M g) else f_X0_phase M g) := by
    rw [u_f_X0_phase, u_f_X0_phase, h8, h6, hm, show nI m + 1 = nI (m + 1) from nI_add m 1]
    by_cases c1 : M g 8 = -1
    · rw [if_pos c1, if_pos c1]
      by_cases c2 : m < 80
      · have e1 : nI m < 80 := nI_lt (b := 80) c2 (by decide)
        rw [if_pos e1, if_pos rfl]
        by_cases c3 : m + 1 < 80
        · rw [if_pos (show nI (m + 1) < 80 from nI_lt (b := 80) c3 (by decide)), if_neg (fun q => by have := nI_inj (b := 80) (by omega) (by decide) q; omega)]
        · have e3 : nI (m + 1) = 80 := by rw [show m + 1 = 80 by omega]; rfl
          rw [e3, if_neg (by decide), if_pos rfl]
      · have e1 : nI m = 80 := by rw [show m = 80 by omega]; rfl
        have e2 : nI (m + 1) = 81 := by rw [show m + 1 = 81 by omega]; rfl
        rw [e1, e2]; decide
    · rw [if_neg c1, if_neg c1, if_neg (by decide)]
  refine row_ext (j20 ⟨?_, ?_, ?_, ?_, ?_, ?_, ?_, ?_, ?_, ?_, ?_, ?_, ?_, ?_, ?_, ?_, ?_, ?_, ?_, ?_⟩) (fun d hd => ?_) (fun d hd => ?_) (fun d hd => ?_) (fun d hd => ?_) (fun d hd => ?_) (fun d hd => ?_) (fun j hj => ?_)
  · rw [hs 0 (by omega) (by omega), gv_0, gv_0, hk _ _ (by omega) (by omega) (by omega)]
  · rw [gv_1, hph]
    unfold teR
    rw [if_pos rfl, gv_1, gv_3]
  · rw [gv_2, h7]
    unfold teR
    rw [if_neg (by decide), if_pos rfl, gv_2]
  · rw [gv_3, h6]
    unfold teR
    rw [if_neg (by decide), if_neg (by decide), if_pos rfl, gv_3]
  · rw [hs 4 (by omega) (by omega), gv_4, gv_4, h8]
  · rw [hs 5 (by omega) (by omega), gv_5, gv_5, hk _ _ (by omega) (by omega) (by omega)]
  · rw [hs 6 (by omega) (by omega), gv_6, gv_6, hk _ _ (by omega) (by omega) (by omega)]
  · rw [hs 7 (by omega) (by omega), gv_7, gv_7, hk _ _ (by omega) (by omega) (by omega)]
  · rw [hs 8 (by omega) (by omega), gv_8, gv_8, hk _ _ (by omega) (by omega) (by omega)]
  · rw [hs 9 (by omega) (by omega), gv_9, gv_9, hk _ _ (by omega) (by omega) (by omega)]
  · rw [hs 10 (by omega) (by omega), gv_10, gv_10, hk _ _ (by omega) (by omega) (by omega)]
  · rw [hs 11 (by omega) (by omega), gv_11, gv_11, hk _ _ (by omega) (by omega) (by omega)]
  · rw [hs 12 (by omega) (by omega), gv_12, gv_12, hk _ _ (by omega) (by omega) (by omega)]
  · rw [hs 13 (by omega) (by omega), gv_13, gv_13, hk _ _ (by omega) (by omega) (by omega)]
  · rw [hs 14 (by omega) (by omega), gv_14, gv_14, hk _ _ (by omega) (by omega) (by omega)]
  · rw [hs 15 (by omega) (by omega), gv_15, gv_15, hk _ _ (by omega) (by omega) (by omega)]
  · rw [hs 16 (by omega) (by omega), gv_16, gv_16, hk _ _ (by omega) (by omega) (by omega)]
  · rw [hs 17 (by omega) (by omega), gv_17, gv_17, hk _ _ (by omega) (by omega) (by omega)]
  · rw [hs 18 (by omega) (by omega), gv_18, gv_18, hk _ _ (by omega) (by omega) (by omega)]
  · rw [hs 19 (by omega) (by omega), gv_19, gv_19, hk _ _ (by omega) (by omega) (by omega)]
  · rw [hs _ (by omega) (by omega), gv_c0 hd, gv_c0 hd, hk _ _ (by omega) (by omega) (by omega)]
  · rw [hs _ (by omega) (by omega), gv_c1 hd, gv_c1 hd, hk _ _ (by omega) (by omega) (by omega)]
  · rw [gv_dm hd, hf, if_pos ⟨rfl, hd⟩]
    unfold teR
    rw [if_neg (show ¬ 148 + d = 1 by omega), if_neg (show ¬ 148 + d = 2 by omega), if_neg (show ¬ 148 + d = 3 by omega), if_pos (show 148 ≤ 148 + d ∧ 148 + d < 212 by omega), gv_dm hd, gv_8]
  · rw [hs _ (by omega) (by omega), gv_mk hd, gv_mk hd, hk _ _ (by omega) (by omega) (by omega), hk _ _ (by omega) (by omega) (by omega)]
  · rw [hs _ (by omega) (by omega), gv_p0 hd, gv_p0 hd, hk _ _ (by omega) (by omega) (by omega)]
  · rw [hs _ (by omega) (by omega), gv_p1 hd, gv_p1 hd, hk _ _ (by omega) (by omega) (by omega)]
  · rw [hs _ (by omega) (by omega), gv_big hj, gv_big hj]
/-! THE VIEW, third part: meetings; rows that say the same; reads of both sides -/
theorem costOf_nI {M : bM} {w c : Nat} (hc : c < 64) : f_X2_costOf M w (nI c) = M (w + 1) c := by
  rw [u_f_X2_costOf, if_neg (in_nneg (vp_in_nI hc (by decide))), if_neg (show ¬ (64 : Int32) ≤ nI c from nI_ge (b := 64) hc (by decide)), nI_clamp (by omega)]
theorem holds_nI {M : bM} {w c : Nat} (hc : c < 64) : f_X2_holds M w (nI c) = if M (w + 3) c = 0 then 0 else 1 := by
  rw [u_f_X2_holds, fits_nI hc]
  dsimp only
  rw [if_neg (by decide), nI_clamp (by omega)]
theorem hasDam_nI {M : bM} {g c : Nat} (hc : c < 64) : f_X0_hasDam M g (nI c) = if M (g + 9) c = -1 then 0 else 1 := by
  rw [u_f_X0_hasDam, fits_nI hc]
  dsimp only
  rw [if_neg (by decide), nI_clamp (by omega)]
theorem gv_meet {M : bM} {g c : Nat} (hc : c < 64) (h9 : M g 9 = -1)
    (hlt : ((M (g + 1) 4 + M g 4 * M (g + 2) c) - (M (g + 5) 4 + M g 4 * M (g + 6) c) < 0) ↔ (M (g + 1) 4 + M g 4 * M (g + 2) c) < (M (g + 5) 4 + M g 4 * M (g + 6) c))
    (hgt : (0 < (M (g + 1) 4 + M g 4 * M (g + 2) c) - (M (g + 5) 4 + M g 4 * M (g + 6) c)) ↔ (M (g + 5) 4 + M g 4 * M (g + 6) c) < (M (g + 1) 4 + M g 4 * M (g + 2) c)) :
    gv (f_X0_meetAt M g (nI c)) g = meetR (gv M g) c ∧ (∀ x y, x ≠ g → x ≠ g + 1 → x ≠ g + 5 → f_X0_meetAt M g (nI c) x y = M x y) ∧ f_X0_meetAt M g (nI c) g 6 = M g 6 := by
  rw [u_f_X0_meetAt]
  dsimp only
  have b1 : ∀ x y, up2 M g 8 (nI c) x y = if x = g ∧ y = 8 then nI c else M x y := fun x y => u2
  have c1 : f_X2_costOf (up2 M g 8 (nI c)) (g + 1) (nI c) = M (g + 2) c := by rw [costOf_nI hc, b1, if_neg (by omega)]
  have e1 : up2 M g 8 (nI c) g 4 = M g 4 := by rw [b1, if_neg (by omega)]
  rw [c1, e1]
  generalize hv0 : M g 4 * M (g + 2) c = v0 at *
  have b3 : ∀ x y, f_X2_pay (up2 M g 8 (nI c)) (g + 1) v0 x y = if x = g + 1 ∧ y = 7 then M (g + 1) 7 + v0 else if x = g + 1 ∧ y = 4 then M (g + 1) 4 + v0 else if x = g ∧ y = 8 then nI c else M x y := fun x y => by
    rw [pay_at, b1 x y, b1 (g + 1) 7, b1 (g + 1) 4, if_neg (show ¬ (g + 1 = g ∧ 7 = 8) by omega), if_neg (show ¬ (g + 1 = g ∧ 4 = 8) by omega)]
  have c2 : f_X2_costOf (f_X2_pay (up2 M g 8 (nI c)) (g + 1) v0) (g + 5) (nI c) = M (g + 6) c := by
    rw [costOf_nI hc, b3, if_neg (by omega), if_neg (by omega), if_neg (by omega)]
  have e3 : f_X2_pay (up2 M g 8 (nI c)) (g + 1) v0 g 4 = M g 4 := by rw [b3, if_neg (by omega), if_neg (by omega), if_neg (by omega)]
  rw [c2, e3]
  generalize hv1 : M g 4 * M (g + 6) c = v1 at *
  have b5 : ∀ x y, f_X2_pay (f_X2_pay (up2 M g 8 (nI c)) (g + 1) v0) (g + 5) v1 x y = if x = g + 5 ∧ y = 7 then M (g + 5) 7 + v1 else if x = g + 5 ∧ y = 4 then M (g + 5) 4 + v1 else if x = g + 1 ∧ y = 7 then M (g + 1) 7 + v0 else if x = g + 1 ∧ y = 4 then M (g + 1) 4 + v0 else if x = g ∧ y = 8 then nI c else M x y := fun x y => by
    rw [pay_at, b3 (g + 5) 7, b3 (g + 5) 4, if_neg (show ¬ (g + 5 = g + 1 ∧ 7 = 7) by omega), if_neg (show ¬ (g + 5 = g + 1 ∧ 7 = 4) by omega), if_neg (show ¬ (g + 5 = g ∧ 7 = 8) by omega), if_neg (show ¬ (g + 5 = g + 1 ∧ 4 = 7) by omega), if_neg (show ¬ (g + 5 = g + 1 ∧ 4 = 4) by omega), if_neg (show ¬ (g + 5 = g ∧ 4 = 8) by omega), b3 x y]
  generalize f_X2_pay (f_X2_pay (up2 M g 8 (nI c)) (g + 1) v0) (g + 5) v1 = B at *
  have p0 : B (g + 1) 4 = M (g + 1) 4 + v0 := by rw [b5, if_neg (by omega), if_neg (by omega), if_neg (by omega), if_pos ⟨rfl, rfl⟩]
  have p1 : B (g + 5) 4 = M (g + 5) 4 + v1 := by rw [b5, if_neg (by omega), if_pos ⟨rfl, rfl⟩]
  have w0 : B (g + 1) 6 = M (g + 1) 6 := by rw [b5, if_neg (by omega), if_neg (by omega), if_neg (by omega), if_neg (by omega), if_neg (by omega)]
  have w1 : B (g + 5) 6 = M (g + 5) 6 := by rw [b5, if_neg (by omega), if_neg (by omega), if_neg (by omega), if_neg (by omega), if_neg (by omega)]
  have g9 : B g 9 = -1 := by rw [b5, if_neg (by omega), if_neg (by omega), if_neg (by omega), if_neg (by omega), if_neg (by omega)]; exact h9
  rw [p0, p1]
  generalize hX : M (g + 1) 4 + v0 = X at *
  generalize hY : M (g + 5) 4 + v1 = Y at *
  generalize hz : X - Y = z at *
  have fin : ∀ (w a b : Int32) (F : bM), (∀ x y, F x y = if x = g ∧ y = 9 then w else if x = g + 1 ∧ y = 6 then a else if x = g + 5 ∧ y = 6 then b else B x y) → w = (if z < 0 then 0 else if 0 < z then 1 else -1) → a = (if z < 0 then M (g + 1) 6 + 1 else M (g + 1) 6) → b = (if 0 < z then M (g + 5) 6 + 1 else M (g + 5) 6) → gv F g = meetR (gv M g) c ∧ (∀ x y, x ≠ g → x ≠ g + 1 → x ≠ g + 5 → F x y = M x y) ∧ F g 6 = M g 6 := by
    intro w a b F hF hw ha hb
    have hk : ∀ x y, (x ≠ g ∨ (y ≠ 9 ∧ y ≠ 8)) → (x ≠ g + 1 ∨ (y ≠ 6 ∧ y ≠ 4 ∧ y ≠ 7)) → (x ≠ g + 5 ∨ (y ≠ 6 ∧ y ≠ 4 ∧ y ≠ 7)) → F x y = M x y := fun x y q1 q2 q3 => by
      rw [hF, if_neg (by omega), if_neg (by omega), if_neg (by omega), b5, if_neg (by omega), if_neg (by omega), if_neg (by omega), if_neg (by omega), if_neg (by omega)]
    have f8 : F g 8 = nI c := by rw [hF, if_neg (by omega), if_neg (by omega), if_neg (by omega), b5, if_neg (by omega), if_neg (by omega), if_neg (by omega), if_neg (by omega), if_pos ⟨rfl, rfl⟩]
    have hs : ∀ j, j ≠ 1 → j ≠ 4 → j ≠ 5 → j ≠ 12 → j ≠ 17 → j ≠ 10 → j ≠ 13 → j ≠ 15 → j ≠ 18 → meetR (gv M g) c j = gv M g j := fun j a1 a2 a3 a4 a5 a6 a7 a8 a9 => by
      unfold meetR
      rw [if_neg a1, if_neg a2, if_neg a3, if_neg a4, if_neg a5, if_neg a6, if_neg a7, if_neg a8, if_neg a9]
    have e20 : gv M g (20 + c) = M (g + 2) c := gv_c0 hc
    have e84 : gv M g (84 + c) = M (g + 6) c := gv_c1 hc
    refine ⟨?_, fun x y q1 q2 q3 => hk x y (by omega) (by omega) (by omega), hk _ _ (by omega) (by omega) (by omega)⟩
    refine row_ext (j20 ⟨?_, ?_, ?_, ?_, ?_, ?_, ?_, ?_, ?_, ?_, ?_, ?_, ?_, ?_, ?_, ?_, ?_, ?_, ?_, ?_⟩) (fun d hd => ?_) (fun d hd => ?_) (fun d hd => ?_) (fun d hd => ?_) (fun d hd => ?_) (fun d hd => ?_) (fun j hj => ?_)
    · rw [hs 0 (by omega) (by omega) (by omega) (by omega) (by omega) (by omega) (by omega) (by omega) (by omega), gv_0, gv_0, hk _ _ (by omega) (by omega) (by omega)]
    · rw [gv_1, u_f_X0_phase, f8, if_neg (nI_ne_m1 (by omega))]; unfold meetR; rw [if_pos rfl]
    · rw [hs 2 (by omega) (by omega) (by omega) (by omega) (by omega) (by omega) (by omega) (by omega) (by omega), gv_2, gv_2, hk _ _ (by omega) (by omega) (by omega)]
    · rw [hs 3 (by omega) (by omega) (by omega) (by omega) (by omega) (by omega) (by omega) (by omega) (by omega), gv_3, gv_3, hk _ _ (by omega) (by omega) (by omega)]
    · rw [gv_4, f8]; unfold meetR; rw [if_neg (by decide), if_pos rfl]
    · rw [gv_5, hF, if_pos ⟨rfl, rfl⟩]; unfold meetR; rw [if_neg (by decide), if_neg (by decide), if_pos rfl, gv_10, gv_15, gv_9, e20, e84, hv0, hv1, hX, hY, hz]; exact hw
    · rw [hs 6 (by omega) (by omega) (by omega) (by omega) (by omega) (by omega) (by omega) (by omega) (by omega), gv_6, gv_6, hk _ _ (by omega) (by omega) (by omega)]
    · rw [hs 7 (by omega) (by omega) (by omega) (by omega) (by omega) (by omega) (by omega) (by omega) (by omega), gv_7, gv_7, hk _ _ (by omega) (by omega) (by omega)]
    · rw [hs 8 (by omega) (by omega) (by omega) (by omega) (by omega) (by omega) (by omega) (by omega) (by omega), gv_8, gv_8, hk _ _ (by omega) (by omega) (by omega)]
    · rw [hs 9 (by omega) (by omega) (by omega) (by omega) (by omega) (by omega) (by omega) (by omega) (by omega), gv_9, gv_9, hk _ _ (by omega) (by omega) (by omega)]
    · rw [gv_10, hF, if_neg (by omega), if_neg (by omega), if_neg (by omega), p0]; unfold meetR; rw [if_neg (by decide), if_neg (by decide), if_neg (by decide), if_neg (by decide), if_neg (by decide), if_pos rfl, gv_10, gv_9, e20, hv0, hX]
    · rw [hs 11 (by omega) (by omega) (by omega) (by omega) (by omega) (by omega) (by omega) (by omega) (by omega), gv_11, gv_11, hk _ _ (by omega) (by omega) (by omega)]
    · rw [gv_12, hF, if_neg (by omega), if_pos ⟨rfl, rfl⟩]; unfold meetR; rw [if_neg (by decide), if_neg (by decide), if_neg (by decide), if_pos rfl, gv_10, gv_15, gv_9, gv_12, e20, e84, hv0, hv1, hX, hY, hz]; exact ha
    · rw [gv_13, hF, if_neg (by omega), if_neg (by omega), if_neg (by omega), b5, if_neg (by omega), if_neg (by omega), if_pos ⟨rfl, rfl⟩]; unfold meetR; rw [if_neg (by decide), if_neg (by decide), if_neg (by decide), if_neg (by decide), if_neg (by decide), if_neg (by decide), if_pos rfl, gv_13, gv_9, e20, hv0]
    · rw [hs 14 (by omega) (by omega) (by omega) (by omega) (by omega) (by omega) (by omega) (by omega) (by omega), gv_14, gv_14, hk _ _ (by omega) (by omega) (by omega)]
    · rw [gv_15, hF, if_neg (by omega), if_neg (by omega), if_neg (by omega), p1]; unfold meetR; rw [if_neg (by decide), if_neg (by decide), if_neg (by decide), if_neg (by decide), if_neg (by decide), if_neg (by decide), if_neg (by decide), if_pos rfl, gv_15, gv_9, e84, hv1, hY]
    · rw [hs 16 (by omega) (by omega) (by omega) (by omega) (by omega) (by omega) (by omega) (by omega) (by omega), gv_16, gv_16, hk _ _ (by omega) (by omega) (by omega)]
    · rw [gv_17, hF, if_neg (by omega), if_neg (by omega), if_pos ⟨rfl, rfl⟩]; unfold meetR; rw [if_neg (by decide), if_neg (by decide), if_neg (by decide), if_neg (by decide), if_pos rfl, gv_10, gv_15, gv_9, gv_17, e20, e84, hv0, hv1, hX, hY, hz]; exact hb
    · rw [gv_18, hF, if_neg (by omega), if_neg (by omega), if_neg (by omega), b5, if_pos ⟨rfl, rfl⟩]; unfold meetR; rw [if_neg (by decide), if_neg (by decide), if_neg (by decide), if_neg (by decide), if_neg (by decide), if_neg (by decide), if_neg (by decide), if_neg (by decide), if_pos rfl, gv_18, gv_9, e84, hv1]
    · rw [hs 19 (by omega) (by omega) (by omega) (by omega) (by omega) (by omega) (by omega) (by omega) (by omega), gv_19, gv_19, hk _ _ (by omega) (by omega) (by omega)]
    · rw [hs _ (by omega) (by omega) (by omega) (by omega) (by omega) (by omega) (by omega) (by omega) (by omega), gv_c0 hd, gv_c0 hd, hk _ _ (by omega) (by omega) (by omega)]
    · rw [hs _ (by omega) (by omega) (by omega) (by omega) (by omega) (by omega) (by omega) (by omega) (by omega), gv_c1 hd, gv_c1 hd, hk _ _ (by omega) (by omega) (by omega)]
    · rw [hs _ (by omega) (by omega) (by omega) (by omega) (by omega) (by omega) (by omega) (by omega) (by omega), gv_dm hd, gv_dm hd, hk _ _ (by omega) (by omega) (by omega)]
    · rw [hs _ (by omega) (by omega) (by omega) (by omega) (by omega) (by omega) (by omega) (by omega) (by omega), gv_mk hd, gv_mk hd, hk _ _ (by omega) (by omega) (by omega), hk _ _ (by omega) (by omega) (by omega)]
    · rw [hs _ (by omega) (by omega) (by omega) (by omega) (by omega) (by omega) (by omega) (by omega) (by omega), gv_p0 hd, gv_p0 hd, hk _ _ (by omega) (by omega) (by omega)]
    · rw [hs _ (by omega) (by omega) (by omega) (by omega) (by omega) (by omega) (by omega) (by omega) (by omega), gv_p1 hd, gv_p1 hd, hk _ _ (by omega) (by omega) (by omega)]
    · rw [hs _ (by omega) (by omega) (by omega) (by omega) (by omega) (by omega) (by omega) (by omega) (by omega), gv_big hj, gv_big hj]
  by_cases c1 : Y ≤ X
  · have n1 : ¬ z < 0 := fun q => i32_nlt.mpr c1 (hlt.mp q)
    rw [if_pos c1]
    by_cases c2 : X ≤ Y
    · have n2 : ¬ 0 < z := fun q => i32_nlt.mpr c2 (hgt.mp q)
      rw [if_pos c2]
      refine fin (-1) (M (g + 1) 6) (M (g + 5) 6) B (fun x y => ?_) (by rw [if_neg n1, if_neg n2]) (by rw [if_neg n1]) (by rw [if_neg n2])
      by_cases q1 : x = g ∧ y = 9
      · rw [if_pos q1, q1.1, q1.2]; exact g9
      rw [if_neg q1]
      by_cases q2 : x = g + 1 ∧ y = 6
      · rw [if_pos q2, q2.1, q2.2]; exact w0
      rw [if_neg q2]
      by_cases q3 : x = g + 5 ∧ y = 6
      · rw [if_pos q3, q3.1, q3.2]; exact w1
      rw [if_neg q3]
    · have n2 : 0 < z := hgt.mpr (i32_nle.mp c2)
      rw [if_neg c2]
      refine fin 1 (M (g + 1) 6) (M (g + 5) 6 + 1) _ (fun x y => ?_) (by rw [if_neg n1, if_pos n2]) (by rw [if_neg n1]) (by rw [if_pos n2])
      rw [u2, u2, if_neg (show ¬ (g + 5 = g ∧ 6 = 9) by omega), w1, u2]
      by_cases q3 : x = g + 5 ∧ y = 6
      · rw [if_pos q3, if_neg (by omega), if_neg (by omega), if_pos q3]
      rw [if_neg q3]
      by_cases q1 : x = g ∧ y = 9
      · rw [if_pos q1, if_pos q1]
      rw [if_neg q1, if_neg q1]
      by_cases q2 : x = g + 1 ∧ y = 6
      · rw [if_pos q2, q2.1, q2.2]; exact w0
      rw [if_neg q2, if_neg q3]
  · have n1 : z < 0 := hlt.mpr (i32_nle.mp c1)
    have n2 : ¬ 0 < z := i32_asymm n1
    rw [if_neg c1]
    refine fin 0 (M (g + 1) 6 + 1) (M (g + 5) 6) _ (fun x y => ?_) (by rw [if_pos n1]) (by rw [if_pos n1]) (by rw [if_neg n2])
    rw [u2, u2, if_neg (show ¬ (g + 1 = g ∧ 6 = 9) by omega), w0, u2]
    by_cases q2 : x = g + 1 ∧ y = 6
    · rw [if_pos q2, if_neg (by omega), if_pos q2]
    rw [if_neg q2]
    by_cases q1 : x = g ∧ y = 9
    · rw [if_pos q1, if_pos q1]
    rw [if_neg q1, if_neg q1, if_neg q2]
    by_cases q3 : x = g + 5 ∧ y = 6
    · rw [if_pos q3, q3.1, q3.2]; exact w1
    rw [if_neg q3]
