/-! the best step is the first of the least worth -/
abbrev bsI (Z : bM) (k : Nat) (W : Nat → Int32) (i : Nat) (x y : Int32) : Prop := (y = -1 ∧ ∀ j, j < i → ¬ f_X7_reason Z k (nI j) = 0) ∨ ∃ b, b < i ∧ y = nI b ∧ x = W b ∧ f_X7_reason Z k (nI b) = 0 ∧ ∀ j, j < i → f_X7_reason Z k (nI j) = 0 → W b ≤ W j ∧ (W j = W b → b ≤ j)
theorem best_first {Z : bM} {k : Nat} {W : Nat → Int32} (hk : k ≠ 7) (h1 : Z k 1 = 1) (hW : ∀ N j, N k = Z k → j < 3 → f_X7_reason Z k (nI j) = 0 → (f_X7_worth N k (nI j)).1 = W j) : ∀ (n i : Nat) (x y : Int32) (R : bM), i + n = 3 → R k = Z k → bsI Z k W i x y → bsI Z k W 3 (lp_X7_bestOf_7 k n i x y R).1 (lp_X7_bestOf_7 k n i x y R).2.1 := by
  intro n
  induction n with
  | zero =>
    intro i x y R hi hr h
    rw [u0_lp_X7_bestOf_7]
    have e : i = 3 := by omega
    subst e
    exact h
  | succ n ih =>
    intro i x y R hi hr h
    rw [u1_lp_X7_bestOf_7]
    dsimp only
    have hi3 : i < 3 := by omega
    have hw : (f_X7_worth R k (nI i)).2 k = Z k := (fr_X7_worth R k (nI i) k hk).trans hr
    rw [if_neg (fun q => uw_iff.mp q (by rw [hr]; exact h1))]
    by_cases c2 : f_X7_reason R k (nI i) = 0
    · rw [if_pos c2]
      have c2' : f_X7_reason Z k (nI i) = 0 := by rw [← reason_c hr]; exact c2
      rw [hW R i hr hi3 c2']
      rcases h with ⟨hy, hno⟩ | ⟨b, hb, ey, ex, hr0, hm⟩
      · rw [if_pos hy]
        refine ih (i + 1) _ _ _ (by omega) hw (Or.inr ⟨i, by omega, rfl, rfl, c2', fun j hj hz => ?_⟩)
        have e : j = i := by
          rcases (by omega : j < i ∨ j = i) with q | q
          · exact absurd hz (hno j q)
          · exact q
        subst e
        exact ⟨Int32.le_refl _, fun _ => Nat.le_refl _⟩
      · rw [if_neg (by rw [ey]; exact nI_ne_m1 (by omega))]
        by_cases c4 : x ≤ W i
        · rw [if_pos c4]
          refine ih (i + 1) _ _ _ (by omega) hw (Or.inr ⟨b, by omega, ey, ex, hr0, fun j hj hz => ?_⟩)
          rcases (by omega : j < i ∨ j = i) with q | q
          · exact hm j q hz
          · subst q; exact ⟨by rw [← ex]; exact c4, fun _ => by omega⟩
        · rw [if_neg c4]
          rw [ex] at c4
          have hlt : W i < W b := Int32.not_le.mp c4
          refine ih (i + 1) _ _ _ (by omega) hw (Or.inr ⟨i, by omega, rfl, rfl, c2', fun j hj hz => ?_⟩)
          rcases (by omega : j < i ∨ j = i) with q | q
          · have hbj := (hm j q hz).1
            have hij : W i < W j := Int32.lt_of_lt_of_le hlt hbj
            exact ⟨Int32.le_of_lt hij, fun e => absurd hij (by rw [e]; exact Int32.lt_irrefl)⟩
          · subst q; exact ⟨Int32.le_refl _, fun _ => Nat.le_refl _⟩
    · rw [if_neg c2]
      have c2' : ¬ f_X7_reason Z k (nI i) = 0 := by rw [← reason_c hr]; exact c2
      refine ih (i + 1) _ _ _ (by omega) hr ?_
      rcases h with ⟨hy, hno⟩ | ⟨b, hb, ey, ex, hr0, hm⟩
      · refine Or.inl ⟨hy, fun j hj => ?_⟩
        rcases (by omega : j < i ∨ j = i) with q | q
        · exact hno j q
        · subst q; exact c2'
      · refine Or.inr ⟨b, by omega, ey, ex, hr0, fun j hj hz => ?_⟩
        rcases (by omega : j < i ∨ j = i) with q | q
        · exact hm j q hz
        · subst q; exact absurd hz c2'
