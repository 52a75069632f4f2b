/-! leastWished picks a bare cell; all that holds asks -/
theorem lw71 {M : bM} : ∀ (n i : Nat) (x y : Int32), i + n = 64 → (y = -1 ∨ ∃ w, w < 64 ∧ y = nI w ∧ bareR (M 2) w) → ((lp_X7_leastWished_71 M n i x y).2 = -1 ∨ ∃ w, w < 64 ∧ (lp_X7_leastWished_71 M n i x y).2 = nI w ∧ bareR (M 2) w) := by
  intro n
  induction n with
  | zero => intro i x y _ h; rw [u0_lp_X7_leastWished_71]; exact h
  | succ n ih =>
    intro i x y hi h
    have hb := isBare_iff (M := M) (k := 2) (c := i) (by omega)
    rw [u1_lp_X7_leastWished_71]
    dsimp only
    by_cases c1 : f_X7_isBare M 2 (nI i) = 0
    · rw [if_pos c1]; exact ih _ _ _ (by omega) h
    rw [if_neg c1]
    by_cases c2 : (99999 : Int32) ≤ M 7 i
    · rw [if_pos c2]; exact ih _ _ _ (by omega) h
    rw [if_neg c2]
    by_cases c3 : (99999 : Int32) ≤ M 8 i
    · rw [if_pos c3]; exact ih _ _ _ (by omega) h
    rw [if_neg c3]
    by_cases c4 : f_X7_cost M 2 0 (nI i) + f_X7_cost M 2 1 (nI i) ≤ x
    · rw [if_pos c4]; exact ih _ _ _ (by omega) h
    · rw [if_neg c4]
      exact ih _ _ _ (by omega) (Or.inr ⟨i, by omega, rfl, Classical.byContradiction (fun q => c1 (hb.mpr q))⟩)
theorem aW_at {S : aT} : ¬ aW S = -1 → ∃ w, w < 64 ∧ aW S = nI w ∧ ctR S.1 w = 0 := by
  unfold aW
  rw [u_f_X7_leastWished]
  dsimp only
  generalize hM : f_X7_measure (lp_X7_leastWished_24 64 0 (f_X7_measure (up2 (mkR S) 0 0 0) 2 0 (f_X7_head (up2 (mkR S) 0 0 0) 2 0))) 2 1 _ = M23
  have h2 : M23 2 = S.1 := by rw [← hM, fr_X7_measure _ _ _ _ 2 (by decide), (copy78 64 0 _ rfl).1 2 (by decide), fr_X7_measure _ _ _ _ 2 (by decide), m2]
  have h := lw71 (M := M23) 64 0 (-1) (-1) rfl (Or.inl rfl)
  generalize lp_X7_leastWished_71 M23 64 0 (-1) (-1) = Z at *
  intro hn
  rcases h with q | ⟨w, hw, e, b⟩
  · exact absurd q hn
  · rw [h2] at b
    exact ⟨w, hw, e, by unfold ctR; rw [if_pos b.1]; exact b.2⟩
theorem holds_of {V : Nat} {S : aT} (g : gI V S) (hV : V < 2 ^ 30) (h5 : S.1 4 = -1 → S.1 5 = -1) : ∃ a0 a1, hoA S ∧ (∀ i, i < 64 → hoB S i) ∧ hoC S 0 a0 ∧ hoC S 1 a1 ∧ sumN (pcR S.1) 64 = (a0 + 1) + (a1 + 1) ∧ hoD S := by
  have hR := gR_cost g.2.1.1
  obtain ⟨m, a, b, h0, h1', hm, n3, n2, n1, n14, n19, ha, hb, hh0, hh1, e0, e1⟩ := gR_nums g.2.1.1
  refine ⟨a, b, hoA_of g h5, fun i hi => hoB_of g hi, ?_, ?_, FS_of g (by omega) (by omega) n14 n19, hoD_of g aW_at⟩
  · exact hoC_of g hV (P := 0) (by decide) (by omega) n14 (ch_56 (P := 0) hR (by decide) n14 (by omega) e0 hh0) (me_of (by decide))
  · exact hoC_of g hV (P := 1) (by decide) (by omega) n19 (ch_56 (P := 1) hR (by decide) n19 (by omega) e1 hh1) (me_of (by decide))
