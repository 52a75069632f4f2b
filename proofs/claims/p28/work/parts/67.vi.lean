/-! errorPosition and load -/
/-! THE GAMES: how many there are in every row that is kept, call by call -/
abbrev gB (V : Nat) (R : bM) : Prop := gmB V (R 2 0) ∧ (∀ i, i < 14 → gmB V (R 4 (404 * i))) ∧ ∀ s, s < 2 → gmB V (R 5 (404 * s))
theorem gmB_le {V W : Nat} {x : Int32} (h : V ≤ W) (q : gmB V x) : gmB W x := by obtain ⟨v, h1, h2⟩ := q; exact ⟨v, by omega, h2⟩
theorem rem4 {R : bM} {n : Nat} (hn : n ≤ 14) (h6 : R 0 6 = nI n) : ∀ i, i < 14 → f_X7_remember R 4 (404 * i) = R 2 0 ∨ ∃ i', i' < 14 ∧ f_X7_remember R 4 (404 * i) = R 4 (404 * i') := by
  have cs : ∀ (M : bM) (c : Nat), c ≤ 14 → ∀ j, f_X7_copyState M 2 404 0 4 5656 (nI (404 * c)) 4 j = if 404 * c ≤ j ∧ j < 404 * c + 404 then M 2 (j - 404 * c) else M 4 j := by
    intro M c hc j
    have := cs_at (M := M) (k1 := 2) (n1 := 404) (k3 := 4) (n3 := 5656) (a := 0) (b := 404 * c) (by decide) (by decide) (by omega) j
    rw [Nat.zero_add] at this
    exact this
  intro i hi
  rw [u_f_X7_remember, h6]
  dsimp only
  by_cases c : n = 14
  · subst c
    rw [if_pos (show nI 14 = 14 from rfl)]
    obtain ⟨s1, s2⟩ := shift_loop (N := 5252) (Nat.le_refl _) 5252 0 R rfl
    generalize lp_X7_remember_11 5252 0 R = S at *
    have e6 : S 0 6 - 1 = nI 13 := by rw [s1 0 (by decide), h6]; rfl
    rw [e6]
    have e0 : up2 S 0 6 (nI 13) 0 6 = nI 13 := by rw [up2_at, if_pos rfl]
    rw [e0, idx404]
    have cs' := cs (up2 S 0 6 (nI 13)) 13 (by decide)
    generalize f_X7_copyState (up2 S 0 6 (nI 13)) 2 404 0 4 5656 (nI (404 * 13)) = T at *
    rw [up2_row (show (4 : Nat) ≠ 0 by decide), cs', up2_row (show (2 : Nat) ≠ 0 by decide), up2_row (show (4 : Nat) ≠ 0 by decide), s1 2 (by decide)]
    by_cases e : i = 13
    · rw [if_pos (by omega), show 404 * i - 404 * 13 = 0 by omega]; exact Or.inl rfl
    · rw [if_neg (by omega), s2, if_pos (by omega)]
      exact Or.inr ⟨i + 1, by omega, by rw [show 404 * (i + 1) = 404 * i + 404 by omega]⟩
  · rw [if_neg (show ¬ nI n = 14 from fun q => c (nI_inj (a := n) (b := 14) (by omega) (by decide) q)), idx404]
    have cs' := cs R n hn
    generalize f_X7_copyState R 2 404 0 4 5656 (nI (404 * n)) = T at *
    rw [up2_row (show (4 : Nat) ≠ 0 by decide), cs']
    by_cases e : i = n
    · rw [if_pos (by omega), show 404 * i - 404 * n = 0 by omega]; exact Or.inl rfl
    · rw [if_neg (by omega)]; exact Or.inr ⟨i, hi, rfl⟩
theorem sS_n {M R : bM} (hs : sS M R) : ∃ n, n ≤ 14 ∧ R 0 6 = nI n := by
  obtain ⟨x, n, _, hn, _, _, e3, _⟩ := hs.2.2.1
  exact ⟨n, hn, e3⟩
theorem rem_2 {R : bM} : f_X7_remember (up2 R 0 0 0) 2 = R 2 := (fr_X7_remember _ 2 (by decide) (by decide)).trans (up2_row (by decide))
theorem gb_pr {V : Nat} {v : Int32} {X : bM} (h : gB V X) : gB V (v, X).2 := h
theorem gb_if {c : Prop} [Decidable c] {a b : Int32 × bM} {V : Nat} (h1 : c → gB V a.2) (h2 : ¬ c → gB V b.2) : gB V (if c then a else b).2 := by
  by_cases h : c
  · rw [if_pos h]; exact h1 h
  · rw [if_neg h]; exact h2 h
theorem gR2 {M R : bM} (hs : sS M R) : gR (f_X7_remember (up2 R 0 0 0) 2) := by rw [rem_2]; exact hs.1.2.1
