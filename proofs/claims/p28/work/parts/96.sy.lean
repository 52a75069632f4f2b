/-! A POSSIBLE STEP, AS STEPS ASKS -/
theorem stepR_at {r : Nat → Int32} {p c q : Nat} {b : Bool} (hp : p < 2) (hc : c < 64) (h1 : r 1 = 1) (hq : q ≤ 61) : stepR r p c q b (14 + 5 * p) = nI (q + 1 + 1) ∧ stepR r p c q b (276 + 64 * p + (q + 1)) = nI c ∧ stepR r p c q b 3 = r 3 + 1 ∧ stepR r p c q b (10 + 5 * p) = r (10 + 5 * p) + (if b = true then r 9 * r (20 + 64 * p + c) else r (20 + 64 * p + c)) ∧ (stepR r p c q b 1 = 2 ↔ b = true) ∧ stepR r p c q b 9 = r 9 := by
  have e1 : flowsR r p c (q + 1) (14 + 5 * p) = nI (q + 1 + 1) := by unfold flowsR; rw [if_neg (by omega), if_pos rfl]
  have e2 : flowsR r p c (q + 1) (276 + 64 * p + (q + 1)) = nI c := by unfold flowsR; rw [if_neg (by omega), if_neg (by omega), if_pos rfl]
  have ne : ∀ x, x ≠ 212 + c → x ≠ 14 + 5 * p → x ≠ 276 + 64 * p + (q + 1) → flowsR r p c (q + 1) x = r x := fun x a b d => flowsR_ne a b d
  have t3 : ∀ f : Nat → Int32, teR f 3 = f 3 + 1 := fun f => by unfold teR; rw [if_neg (by decide), if_neg (by decide), if_pos rfl]
  have t1 : ∀ f : Nat → Int32, teR f 1 = if f 1 = 1 then (if f 3 + 1 = 80 then 3 else f 1) else f 1 := fun f => by unfold teR; rw [if_pos rfl]
  unfold stepR
  generalize flowsR r p c (q + 1) = F at *
  cases b with
  | true =>
    have mn : ∀ x, x ≠ 1 → x ≠ 4 → x ≠ 5 → x ≠ 12 → x ≠ 17 → x ≠ 10 → x ≠ 13 → x ≠ 15 → x ≠ 18 → meetR F c x = F x := fun x a b c d e f g h i => meetR_ne a b c d e f g h i
    rw [if_pos rfl, if_pos rfl]
    refine ⟨?_, ?_, ?_, ?_, ?_, ?_⟩
    · rw [teR_ne (by omega) (by omega), mn _ (by omega) (by omega) (by omega) (by omega) (by omega) (by omega) (by omega) (by omega) (by omega)]; exact e1
    · rw [teR_ne (by omega) (by omega), mn _ (by omega) (by omega) (by omega) (by omega) (by omega) (by omega) (by omega) (by omega) (by omega)]; exact e2
    · rw [t3, mn 3 (by omega) (by omega) (by omega) (by omega) (by omega) (by omega) (by omega) (by omega) (by omega), ne 3 (by omega) (by omega) (by omega)]
    · rw [teR_ne (by omega) (by omega)]
      have n9 := ne 9 (by omega) (by omega) (by omega)
      have nc := ne (20 + 64 * p + c) (by omega) (by omega) (by omega)
      have n10 := ne (10 + 5 * p) (by omega) (by omega) (by omega)
      rw [← n9, ← nc, ← n10]
      rcases (by omega : p = 0 ∨ p = 1) with e | e
      · subst e
        rw [show 20 + 64 * 0 + c = 20 + c by omega]
        simp [meetR]
      · subst e
        rw [show 20 + 64 * 1 + c = 84 + c by omega]
        simp [meetR]
    · have e : meetR F c 1 = 2 := by simp [meetR]
      rw [t1, e, if_neg (by decide)]
      exact ⟨fun _ => rfl, fun _ => rfl⟩
    · rw [teR_ne (by omega) (by omega), mn _ (by omega) (by omega) (by omega) (by omega) (by omega) (by omega) (by omega) (by omega) (by omega), ne 9 (by omega) (by omega) (by omega)]
  | false =>
    rw [if_neg (show ¬ (false = true) by decide), if_neg (show ¬ (false = true) by decide)]
    refine ⟨?_, ?_, ?_, ?_, ?_, ?_⟩
    · rw [teR_ne (by omega) (by omega), paysR_ne (by omega) (by omega)]; exact e1
    · rw [teR_ne (by omega) (by omega), paysR_ne (by omega) (by omega)]; exact e2
    · rw [t3, paysR_ne (by omega) (by omega), ne 3 (by omega) (by omega) (by omega)]
    · rw [teR_ne (by omega) (by omega)]
      unfold paysR
      rw [if_neg (by omega), if_pos rfl, ne (10 + 5 * p) (by omega) (by omega) (by omega)]
    · have e : paysR F p (r (20 + 64 * p + c)) 1 = 1 := by rw [paysR_ne (by omega) (by omega), ne 1 (by omega) (by omega) (by omega)]; exact h1
      rw [t1, e, if_pos rfl]
      refine ⟨fun z => ?_, fun z => absurd z (by decide)⟩
      by_cases y : paysR F p (r (20 + 64 * p + c)) 3 + 1 = 80
      · rw [if_pos y] at z; exact absurd z (by decide)
      · rw [if_neg y] at z; exact absurd z (by decide)
    · rw [teR_ne (by omega) (by omega), paysR_ne (by omega) (by omega), ne 9 (by omega) (by omega) (by omega)]
