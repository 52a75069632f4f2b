/-! THE TRIAL: a game of the class and a row of the reference that say the same -/
abbrev tG (P : Prop) (M R : bM) (g k : Nat) : Prop := sG P M g (R k) ∧ gR (R k) ∧ gD (R k) ∧ besR M
abbrev gmB (V : Nat) (x : Int32) : Prop := ∃ v, v ≤ V ∧ x = nI v
theorem besR_fr {M N : bM} (h : N 24 = M 24) (hb : besR M) : besR N := fun i hi => by rw [h]; exact hb i hi
theorem tG_row {P : Prop} {M R N S : bM} {g k : Nat} (h : ∀ a, g ≤ a → a < g + 10 → N a = M a) (h24 : N 24 = M 24) (hr : S k = R k) (t : tG P M R g k) : tG P N S g k :=
  ⟨by rw [hr]; exact sG_row h t.1, by rw [hr]; exact t.2.1, by rw [hr]; exact t.2.2.1, besR_fr h24 t.2.2.2⟩
/-! the acts -/
theorem tG_new {P : Prop} {M R : bM} {g k : Nat} {s : Int64} (hg : g + 10 ≤ 23) (t : tG P M R g k) : tG P (f_X0_beginGame M g s) (f_X7_gameOn R k s).2 g k :=
  ⟨(sG_new t.1).2.2, gR_gameOn t.2.1, gD_gameOn, besR_fr (fr_X0_beginGame M g s 24 (by omega)) t.2.2.2⟩
theorem tG_best {P : Prop} {M R : bM} {g k : Nat} (hk : k ≠ 7) (hg : g + 10 ≤ 23) (t : tG P M R g k) : (f_X5_bestStep M g).1 = (f_X7_bestOf R k).1 ∧ tG P (f_X5_bestStep M g).2 (f_X7_bestOf R k).2 g k ∧ (f_X7_bestOf R k).2 k = R k := by
  obtain ⟨b1, b2, b3⟩ := sG_best hk hg t.2.2.2 t.1 t.2.1
  exact ⟨b1, tG_row (fun a q1 q2 => b2 a (by omega) (by omega) (by omega)) (b2 24 (by decide) (by decide) (by decide)) (b3 k hk) t, b3 k hk⟩
theorem reason_c {M N : bM} {k : Nat} {d : Int32} (h : N k = M k) : f_X7_reason N k d = f_X7_reason M k d := by
  have e1 : ∀ p, f_X7_head N k p = f_X7_head M k p := fun p => head7_c h
  have e2 : ∀ c, f_X7_isDam N k c = f_X7_isDam M k c := fun c => by rw [u_f_X7_isDam, u_f_X7_isDam, h]
  have e3 : ∀ p c, f_X7_isRiver N k p c = f_X7_isRiver M k p c := fun p c => by rw [u_f_X7_isRiver, u_f_X7_isRiver, h]
  rw [u_f_X7_reason, u_f_X7_reason]
  dsimp only
  rw [h, e1, e2, e3]
theorem best_in_loop {k : Nat} {Z : bM} (hk : k ≠ 7) : ∀ (n i : Nat) (x y : Int32) (R : bM), i + n = 3 → R k = Z k → (y = -1 ∨ ∃ j, j < 3 ∧ y = nI j ∧ f_X7_reason Z k (nI j) = 0) →
    ((lp_X7_bestOf_7 k n i x y R).2.1 = -1 ∨ ∃ j, j < 3 ∧ (lp_X7_bestOf_7 k n i x y R).2.1 = nI j ∧ f_X7_reason Z k (nI j) = 0) ∧ ((lp_X7_bestOf_7 k n i x y R).2.1 = -1 → y = -1 ∧ (Z k 1 = 1 → ∀ j, i ≤ j → j < 3 → ¬ f_X7_reason Z k (nI j) = 0)) := by
  intro n
  induction n with
  | zero =>
    intro i x y R hi hr hy
    rw [u0_lp_X7_bestOf_7]
    exact ⟨hy, fun q => ⟨q, fun _ j h1 h2 => absurd h1 (by omega)⟩⟩
  | succ n ih =>
    intro i x y R hi hr hy
    rw [u1_lp_X7_bestOf_7]
    dsimp only
    have hi3 : i < 3 := by omega
    have hw : (f_X7_worth R k (nI i)).2 k = Z k := (fr_X7_worth R k (nI i) k hk).trans hr
    by_cases c1 : f_X7_isUnderWay R k = 0
    · rw [if_pos c1]
      exact ⟨hy, fun q => ⟨q, fun h => absurd (show R k 1 = 1 by rw [hr]; exact h) (uw_iff.mp c1)⟩⟩
    · rw [if_neg c1]
      by_cases c2 : f_X7_reason R k (nI i) = 0
      · rw [if_pos c2]
        have c2' : f_X7_reason Z k (nI i) = 0 := by rw [← reason_c hr]; exact c2
        have hne : ∀ N : bM, ∀ a : Int32, N k = Z k → ((lp_X7_bestOf_7 k n (i + 1) a (nI i) N).2.1 = -1 ∨ ∃ j, j < 3 ∧ (lp_X7_bestOf_7 k n (i + 1) a (nI i) N).2.1 = nI j ∧ f_X7_reason Z k (nI j) = 0) ∧ ((lp_X7_bestOf_7 k n (i + 1) a (nI i) N).2.1 = -1 → y = -1 ∧ (Z k 1 = 1 → ∀ j, i ≤ j → j < 3 → ¬ f_X7_reason Z k (nI j) = 0)) := fun N a hN => by
          obtain ⟨i1, i2⟩ := ih (i + 1) a (nI i) N (by omega) hN (Or.inr ⟨i, hi3, rfl, c2'⟩)
          exact ⟨i1, fun q => absurd (i2 q).1 (nI_ne_m1 (by omega))⟩
        by_cases c3 : y = -1
        · rw [if_pos c3]; exact hne _ _ hw
        · rw [if_neg c3]
          split
          · obtain ⟨i1, i2⟩ := ih (i + 1) x y (f_X7_worth R k (nI i)).2 (by omega) hw hy
            exact ⟨i1, fun q => absurd (i2 q).1 c3⟩
          · exact hne _ _ hw
      · rw [if_neg c2]
        obtain ⟨i1, i2⟩ := ih (i + 1) x y R (by omega) hr hy
        refine ⟨i1, fun q => ⟨(i2 q).1, fun h j h1 h2 => ?_⟩⟩
        by_cases e : j = i
        · rw [e, ← reason_c hr]; exact c2
        · exact (i2 q).2 h j (by omega) h2
theorem best_ok {R : bM} {k : Nat} (hk : k ≠ 7) : (f_X7_bestOf R k).1 = -1 ∨ ∃ j, j < 3 ∧ (f_X7_bestOf R k).1 = nI j ∧ f_X7_reason R k (nI j) = 0 := by
  rw [u_f_X7_bestOf]
  exact (best_in_loop (Z := R) hk 3 0 0 (-1) R rfl rfl (Or.inl rfl)).1
theorem best_in {R : bM} {k : Nat} (hk : k ≠ 7) : (f_X7_bestOf R k).1 = -1 ∨ ∃ j, j < 3 ∧ (f_X7_bestOf R k).1 = nI j := by
  rcases best_ok (R := R) hk with h | ⟨j, hj, e, _⟩
  · exact Or.inl h
  · exact Or.inr ⟨j, hj, e⟩
theorem best_any {R : bM} {k : Nat} (hk : k ≠ 7) (h1 : R k 1 = 1) (h : ¬ f_X7_canStep R k = 0) : ∃ j, j < 3 ∧ (f_X7_bestOf R k).1 = nI j := by
  have hb := best_in (R := R) (k := k) hk
  rcases hb with hb | hb
  · exfalso
    have h0 := (best_in_loop (k := k) (Z := R) hk 3 0 0 (-1) R rfl rfl (Or.inl rfl)).2
    rw [u_f_X7_bestOf] at hb
    have h2 := (h0 hb).2 h1
    apply h
    rw [u_f_X7_canStep]
    dsimp only
    rw [if_neg (show ¬ f_X7_reason R k 0 = 0 from h2 0 (by decide) (by decide)), if_neg (show ¬ f_X7_reason R k 1 = 0 from h2 1 (by decide) (by decide)), if_neg (show ¬ f_X7_reason R k 2 = 0 from h2 2 (by decide) (by decide))]
  · exact hb
theorem tG_try {M R : bM} {g k j : Nat} (hg : g + 10 ≤ 23) (t : tG True M R g k) (h1 : R k 1 = 1) (hj : j < 3) : tG True (f_X0_tryStep M g (nI j)).2 (f_X7_stepOn R k (nI j)).2 g k :=
  ⟨(sG_try trivial t.1 t.2.1 h1 hj).2, gR_stepOn t.2.1 h1, gD_stepOn t.2.1 t.2.2.1, besR_fr (fr_X0_tryStep M g (nI j) 24 (by omega)) t.2.2.2⟩
theorem tG_tryDam {M R : bM} {g k c : Nat} (hk : k ≠ 7) (hg : g + 10 ≤ 23) (t : tG True M R g k) (h1 : R k 1 = 1) (hc : c < 64) : tG True (f_X0_tryDam M g (nI c)).2 (f_X7_damOn R k (nI c)).2 g k :=
  ⟨(sG_tryDam trivial hk hg t.2.2.2 t.1 t.2.1 t.2.2.1 h1 hc).2, gR_damOn hk hc t.2.1 h1, gD_damOn hk hc t.2.1 t.2.2.1, besR_fr (fr_X0_tryDam M g (nI c) 24 (by omega) (by omega)) t.2.2.2⟩
theorem tG_flood {P : Prop} {M R : bM} {g k : Nat} (hg : g + 10 ≤ 23) (t : tG P M R g k) (h1 : R k 1 = 1) : tG P (f_X0_washAway M g).2 (f_X7_floodOn R k).2 g k ∧ ¬ (f_X7_floodOn R k).1 < 0 :=
  ⟨⟨(sG_flood t.1 t.2.1 h1).2.1, gR_floodOn t.2.1 h1, gD_floodOn t.2.1 t.2.2.1, besR_fr (fr_X0_washAway M g 24 (by omega)) t.2.2.2⟩, (sG_flood t.1 t.2.1 h1).2.2⟩
theorem damOn_1 {R : bM} {k : Nat} {x : Int32} : (f_X7_damOn R k x).1 = 0 ↔ (f_X7_damReason R k x).1 = 0 := by
  have hle := damReason_le (R := R) (k := k) (x := x)
  rw [u_f_X7_damOn]
  dsimp only
  by_cases c : (f_X7_damReason R k x).1 ≤ 0
  · rw [if_pos c]; exact ⟨fun _ => hle.mp c, fun _ => rfl⟩
  · rw [if_neg c]
theorem reason_le {R : bM} {k : Nat} {d : Int32} : f_X7_reason R k d ≤ 0 ↔ f_X7_reason R k d = 0 := by
  rw [u_f_X7_reason]
  dsimp only
  split
  · decide
  · split
    · split <;> decide
    · decide
theorem stepOn_1 {R : bM} {k : Nat} {d : Int32} : (f_X7_stepOn R k d).1 = 0 ↔ f_X7_reason R k d = 0 := by
  have hle := reason_le (R := R) (k := k) (d := d)
  rw [u_f_X7_stepOn]
  dsimp only
  by_cases c : f_X7_reason R k d ≤ 0
  · rw [if_pos c]
    refine ⟨fun _ => hle.mp c, fun _ => ?_⟩
    split <;> rfl
  · rw [if_neg c]
/-! SCRIPTS: a group of four digits on both sides -/
theorem side_fld {P : Prop} {M R : bM} {g k p : Nat} (hs : sG P M g (R k)) (hp : p < 2) : M (g + 1 + 4 * p) 3 = R k (10 + 5 * p + 4) ∧ M (g + 1 + 4 * p) 4 = R k (10 + 5 * p + 0) := by
  have q := fun j hj hn => (hs.1.1 j hj hn).symm
  rcases (by omega : p = 0 ∨ p = 1) with rfl | rfl
  · exact ⟨(gv_14 M g).symm.trans (q 14 (by decide) (by decide)), (gv_10 M g).symm.trans (q 10 (by decide) (by decide))⟩
  · exact ⟨(gv_19 M g).symm.trans (q 19 (by decide) (by decide)), (gv_15 M g).symm.trans (q 15 (by decide) (by decide))⟩
