/-! WHAT HOLDS ASKS OF A PLAYER AND OF THE WHOLE -/
theorem FS_of {V a b : Nat} {S : aT} (g : gI V S) (ha : a ≤ 62) (hb : b ≤ 62) (h14 : S.1 14 = nI (a + 1)) (h19 : S.1 19 = nI (b + 1)) : sumN (pcR S.1) 64 = (a + 1) + (b + 1) := by
  obtain ⟨g1, g2, g3, g4, g5, g6, g7⟩ := g.2.1.2.2
  rw [← g4 a b ha hb h14 h19]
  refine sumN_cong (fun i hi => ?_)
  show popC (ctR S.1 i) = popC (S.1 (212 + i))
  unfold ctR
  rcases g2 i hi with z | ⟨v, v1, v2, v3⟩
  · rw [if_pos z]
  · rw [if_neg (by rw [v2]; exact nI_ne_m1 (by omega)), v3]
    decide
theorem hoC_of {V P a : Nat} {S : aT} (g : gI V S) (hV : V < 2 ^ 30) (hP : P < 2) (ha62 : a ≤ 62) (ha : S.1 (14 + 5 * P) = nI (a + 1)) (m7 : ¬ S.1 (276 + 64 * P + a) < 56 → aF 14 S (nI P) 0 0 = 0) (m8 : S.1 1 = 2 ↔ aF 15 S (nI P) 0 0 = 0) : hoC S P a := by
  have hD := g.2.1.2.1
  obtain ⟨g1, g2, g3, g4, g5, g6, g7⟩ := g.2.1.2.2
  obtain ⟨k1, k2⟩ := g5 P a hP ha62 ha
  obtain ⟨x, X, x1, x2, x3, x4⟩ := g6 P hP
  refine ⟨ha, by omega, k1, ?_, ?_, ?_, m7, m8⟩
  · have hv : vp_in (S.1 (11 + 5 * P)) 4 := by
      rcases (by omega : P = 0 ∨ P = 1) with e | e
      · subst e; exact hD.1
      · subst e; exact hD.2
    obtain ⟨w, w4, ew⟩ := vp_in_of hv (by decide)
    rw [ew]
    intro z
    have := (nI_ltI (a := 3) (b := w) (by decide) (by omega)).mp z
    omega
  · rw [x1, x2]
    intro z
    have := (nI_ltI (a := X) (b := x) (by omega) (by omega)).mp z
    omega
  · intro k hk1 hk2
    obtain ⟨c, j, hc, hj, hn, e1, e2⟩ := k2 (k - 1) (by omega)
    rw [show k - 1 + 1 = k by omega] at e2
    exact ⟨j, hj, by rw [e1, e2]; exact ((toI_nI ⟨c, hc⟩ ⟨j, hj⟩).trans (nbI_of rfl hn)).symm⟩
theorem hoD_of {V : Nat} {S : aT} (g : gI V S) (d1 : ¬ aW S = -1 → ∃ w, w < 64 ∧ aW S = nI w ∧ ctR S.1 w = 0) : hoD S := by
  have hR := g.2.1.1
  obtain ⟨g1, g2, g3, g4, g5, g6, g7⟩ := g.2.1.2.2
  obtain ⟨m, _, _, _, _, _, _, _, n1, _⟩ := gR_nums hR
  refine ⟨d1, best_why, fun h => ?_, fun c p hc hp => ?_⟩
  · have h4 : ¬ S.1 4 = -1 := by
      intro q
      rw [n1] at h
      unfold phI at h
      rw [if_pos q] at h
      by_cases z : 80 ≤ m
      · rw [if_pos z] at h; exact absurd h (by decide)
      · rw [if_neg z] at h; exact absurd h (by decide)
    exact g7 h4
  · obtain ⟨w, w9, ew⟩ := vp_in_of (cost_p (gR_cost hR) hp hc) (by decide)
    rw [ew]
    intro z
    have := (nI_leI (a := 10) (b := w) (by decide) (by omega)).mp z
    omega
