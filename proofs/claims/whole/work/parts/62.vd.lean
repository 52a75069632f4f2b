/-! THE TRIAL: a game of the class and a row of the reference that say the same -/
abbrev tG (P : Prop) (M R : bM) (g k : Nat) : Prop := sG P M g (R k) ∧ gR (R k) ∧ gD (R k) ∧ besR M
abbrev gmB (V : Nat) (x : Int32) : Prop := ∃ v, v ≤ V ∧ x = nI v
theorem besR_fr {M N : bM} (h : N 24 = M 24) (hb : besR M) : besR N := fun i hi => by rw [h]; exact hb i hi
theorem tG_row {P : Prop} {M R N S : bM} {g k : Nat} (h : ∀ a, g ≤ a → a < g + 10 → N a = M a) (h24 : N 24 = M 24) (hr : S k = R k) (t : tG P M R g k) : tG P N S g k :=
  ⟨by rw [hr]; exact sG_row h t.1, by rw [hr]; exact t.2.1, by rw [hr]; exact t.2.2.1, besR_fr h24 t.2.2.2⟩
theorem nI_z {a : Nat} (h : a < 2 ^ 31) : nI a = 0 ↔ a = 0 := nI_eq (a := a) (b := 0) h (by decide)
theorem r0_te {r : Nat → Int32} : teR r 0 = r 0 := by simp [teR]
theorem r0_stepOn {R : bM} {k : Nat} {d : Int32} (hg : gR (R k)) : (f_X7_stepOn R k d).2 k 0 = R k 0 := by
  by_cases hr : f_X7_reason R k d ≤ 0
  · obtain ⟨c, hc, ec, _, _⟩ := reason_ok hr
    obtain ⟨m, a, b, h0, h1, hm, n3, n2, n1, n14, n19, na, nb', _⟩ := gR_nums hg
    have hp : m % 2 < 2 := Nat.mod_lt m (by decide)
    have hl : ∃ a', a' ≤ 61 ∧ R k (14 + 5 * (m % 2)) = nI (a' + 1) := by
      rcases (by omega : m % 2 = 0 ∨ m % 2 = 1) with e | e <;> rw [e]
      · exact ⟨a, by omega, n14⟩
      · exact ⟨b, by omega, n19⟩
    obtain ⟨a', ha, hl'⟩ := hl
    obtain ⟨_, s2⟩ := step_ref (d := d) hp hc n2 hl' ha hr ec
    rw [s2]
    have f0 : flowsR (R k) (m % 2) c (a' + 1) 0 = R k 0 := flowsR_ne (by omega) (by omega) (by omega)
    have hm0 : ∀ r : Nat → Int32, meetR r c 0 = r 0 := fun r => by simp [meetR]
    unfold stepR
    split
    · rw [r0_te, hm0, f0]
    · rw [r0_te, paysR_ne (by omega) (by omega), f0]
  · rw [u_f_X7_stepOn]
    dsimp only
    rw [if_neg hr]
    dsimp only
    rw [up2_upd]
    unfold upd
    rw [if_neg (by decide)]
theorem r0_damOn {R : bM} {k c : Nat} (hk : k ≠ 7) (hc : c < 64) (hg : gR (R k)) : (f_X7_damOn R k (nI c)).2 k 0 = R k 0 := by
  obtain ⟨hrow, _⟩ := damReason_row (M := R) hk hc
  obtain ⟨m, a, b, h0, h1, hm, n3, n2, _⟩ := gR_nums hg
  have hp : m % 2 < 2 := Nat.mod_lt m (by decide)
  rw [u_f_X7_damOn]
  dsimp only
  generalize f_X7_damReason R k (nI c) = Z at *
  by_cases c1 : Z.1 ≤ 0
  · rw [if_pos c1, idxK 148 (by omega)]
    dsimp only
    rw [te_row, r0_te, dam_row hp hrow n2]
    unfold upd
    rw [if_neg (by omega), if_neg (by omega)]
  · rw [if_neg c1]
    dsimp only
    rw [up2_upd, hrow]
    unfold upd
    rw [if_neg (by decide)]
theorem r0_floodOn {R : bM} {k : Nat} (hg : gR (R k)) : (f_X7_floodOn R k).2 k 0 = R k 0 := by
  have hL := flood_loop (k := k) 3 0 0 R
  obtain ⟨m, a, b, h0, h1, hm, n3, n2, _⟩ := gR_nums hg
  rw [u_f_X7_floodOn]
  dsimp only
  generalize lp_X7_floodOn_4 k 3 0 0 R = Z at *
  rw [te_row, r0_te, hL 2 (by omega), n2]
  have hP := pays_row (M := Z.2) (k := k) (p := m % 2) (v := 5) (Nat.mod_lt m (by decide))
  generalize f_X7_pays Z.2 k (nI (m % 2)) 5 = P at *
  rw [up2_at, if_neg (by decide), hP, paysR_ne (by omega) (by omega), hL 0 (by omega)]
theorem r0_change {R : bM} {k w : Nat} {v : Int32} (hw : w < 2) : (f_X7_change R k (nI w) v).2 k 0 = R k 0 := by
  rw [(change_row (M := R) (k := k) (v := v) hw).2, up2_upd]
  unfold upd
  rw [if_neg (by omega)]
theorem r0_gameOn {R : bM} {k : Nat} {s : Int64} : (f_X7_gameOn R k s).2 k 0 = R k 0 + 1 := by
  rw [on_row.2]
  simp [newR]
theorem r0_bestOf {R : bM} {k : Nat} (hk : k ≠ 7) : (f_X7_bestOf R k).2 k = R k := fr_X7_bestOf R k k hk
/-! the acts -/
theorem tG_new {P : Prop} {M R : bM} {g k : Nat} {s : Int64} (hg : g + 10 ≤ 23) (t : tG P M R g k) : tG P (f_X0_beginGame M g s) (f_X7_gameOn R k s).2 g k :=
  ⟨(sG_new t.1).2.2, gR_gameOn t.2.1, gD_gameOn, besR_fr (fr_X0_beginGame M g s 24 (by omega)) t.2.2.2⟩
theorem tG_ifp {P : Prop} {M R : bM} {g k j : Nat} (hg : g + 10 ≤ 23) (t : tG P M R g k) (hj : j < 3) :
    (R k 1 = 1 ∧ f_X7_reason R k (nI j) = 0 → (f_X0_stepIfPossible M g (nI j)).1 = 1 ∧ (f_X7_stepOn R k (nI j)).1 = 0 ∧ tG P (f_X0_stepIfPossible M g (nI j)).2 (f_X7_stepOn R k (nI j)).2 g k) ∧
    (¬ (R k 1 = 1 ∧ f_X7_reason R k (nI j) = 0) → f_X0_stepIfPossible M g (nI j) = (0, M)) := by
  obtain ⟨a, b⟩ := sG_ifp t.1 t.2.1 hj
  refine ⟨fun q => ?_, b⟩
  obtain ⟨a1, a2, a3⟩ := a q
  exact ⟨a1, a2, a3, gR_stepOn t.2.1 q.1, gD_stepOn t.2.1 t.2.2.1, besR_fr (fr_X0_stepIfPossible M g (nI j) 24 (by omega)) t.2.2.2⟩
theorem sip_bad {M : bM} {g : Nat} {x : Int32} (h : ¬ vp_in x 3) : f_X0_stepIfPossible M g x = (0, M) := by
  have hn : ∀ i : Nat, i < 3 → ¬ x = nI i := fun i hi e => h (by rw [e]; exact vp_in_nI hi (by decide))
  have hc : ∀ y : Int32, f_X6_cellBeside y x = -1 := fun y => by
    rw [u_f_X6_cellBeside]
    dsimp only
    rw [if_neg (show ¬ x = 0 from hn 0 (by decide)), if_neg (show ¬ x = 1 from hn 1 (by decide)), if_neg (show ¬ x = 2 from hn 2 (by decide)), ite_self]
  have hr : f_X0_reasonAgainstStep M g x = 1 := by
    rw [u_f_X0_reasonAgainstStep]
    dsimp only
    rw [hc, if_pos rfl]
  rw [u_f_X0_stepIfPossible]
  dsimp only
  rw [hr, if_neg (show ¬ (1 : Int32) = 0 by decide), ite_self]
theorem tG_best {P : Prop} {M R : bM} {g k : Nat} (hk : k ≠ 7) (hg : g + 10 ≤ 23) (t : tG P M R g k) : (f_X5_bestStep M g).1 = (f_X7_bestOf R k).1 ∧ tG P (f_X5_bestStep M g).2 (f_X7_bestOf R k).2 g k ∧ (f_X7_bestOf R k).2 k = R k := by
  obtain ⟨b1, b2, b3⟩ := sG_best hk hg t.2.2.2 t.1 t.2.1
  exact ⟨b1, tG_row (fun a q1 q2 => b2 a (by omega) (by omega) (by omega)) (b2 24 (by decide) (by decide) (by decide)) (b3 k hk) t, b3 k hk⟩
theorem reason_c {M N : bM} {k : Nat} {d : Int32} (h : N k = M k) : f_X7_reason N k d = f_X7_reason M k d := by
  have e1 : ∀ p, f_X7_head N k p = f_X7_head M k p := fun p => head7_c h
  have e2 : ∀ c, f_X7_isDam N k c = f_X7_isDam M k c := fun c => by rw [u_f_X7_isDam, u_f_X7_isDam, h]
  have e3 : ∀ p c, f_X7_isRiver N k p c = f_X7_isRiver M k p c := fun p c => by rw [u_f_X7_isRiver, u_f_X7_isRiver, h]
  rw [u_f_X7_reason, u_f_X7_reason]
  dsimp only
  rw [h, e1, e2, e3]
theorem best_in_loop {k : Nat} {Z : bM} (hk : k ≠ 7) : ∀ (n i : Nat) (x y : Int32) (R : bM), i + n = 3 → R k = Z k → (y = -1 ∨ ∃ j, j < 3 ∧ y = nI j ∧ f_X7_reason Z k (nI j) = 0) →
    ((lp_X7_bestOf_7 k n i x y R).2.1 = -1 ∨ ∃ j, j < 3 ∧ (lp_X7_bestOf_7 k n i x y R).2.1 = nI j ∧ f_X7_reason Z k (nI j) = 0) ∧ ((lp_X7_bestOf_7 k n i x y R).2.1 = -1 → y = -1 ∧ (Z k 1 = 1 → ∀ j, i ≤ j → j < 3 → ¬ f_X7_reason Z k (nI j) = 0)) := by
  intro n
  induction n with
  | zero =>
    intro i x y R hi hr hy
    rw [u0_lp_X7_bestOf_7]
    exact ⟨hy, fun q => ⟨q, fun _ j h1 h2 => absurd h1 (by omega)⟩⟩
  | succ n ih =>
    intro i x y R hi hr hy
    rw [u1_lp_X7_bestOf_7]
    dsimp only
    have hi3 : i < 3 := by omega
    have hw : (f_X7_worth R k (nI i)).2 k = Z k := (fr_X7_worth R k (nI i) k hk).trans hr
    by_cases c1 : f_X7_isUnderWay R k = 0
    · rw [if_pos c1]
      exact ⟨hy, fun q => ⟨q, fun h => absurd (show R k 1 = 1 by rw [hr]; exact h) (uw_iff.mp c1)⟩⟩
    · rw [if_neg c1]
      by_cases c2 : f_X7_reason R k (nI i) = 0
      · rw [if_pos c2]
        have c2' : f_X7_reason Z k (nI i) = 0 := by rw [← reason_c hr]; exact c2
        have hne : ∀ N : bM, ∀ a : Int32, N k = Z k → ((lp_X7_bestOf_7 k n (i + 1) a (nI i) N).2.1 = -1 ∨ ∃ j, j < 3 ∧ (lp_X7_bestOf_7 k n (i + 1) a (nI i) N).2.1 = nI j ∧ f_X7_reason Z k (nI j) = 0) ∧ ((lp_X7_bestOf_7 k n (i + 1) a (nI i) N).2.1 = -1 → y = -1 ∧ (Z k 1 = 1 → ∀ j, i ≤ j → j < 3 → ¬ f_X7_reason Z k (nI j) = 0)) := fun N a hN => by
          obtain ⟨i1, i2⟩ := ih (i + 1) a (nI i) N (by omega) hN (Or.inr ⟨i, hi3, rfl, c2'⟩)
          exact ⟨i1, fun q => absurd (i2 q).1 (nI_ne_m1 (by omega))⟩
        by_cases c3 : y = -1
        · rw [if_pos c3]; exact hne _ _ hw
        · rw [if_neg c3]
          split
          · obtain ⟨i1, i2⟩ := ih (i + 1) x y (f_X7_worth R k (nI i)).2 (by omega) hw hy
            exact ⟨i1, fun q => absurd (i2 q).1 c3⟩
          · exact hne _ _ hw
      · rw [if_neg c2]
        obtain ⟨i1, i2⟩ := ih (i + 1) x y R (by omega) hr hy
        refine ⟨i1, fun q => ⟨(i2 q).1, fun h j h1 h2 => ?_⟩⟩
        by_cases e : j = i
        · rw [e, ← reason_c hr]; exact c2
        · exact (i2 q).2 h j (by omega) h2
theorem best_ok {R : bM} {k : Nat} (hk : k ≠ 7) : (f_X7_bestOf R k).1 = -1 ∨ ∃ j, j < 3 ∧ (f_X7_bestOf R k).1 = nI j ∧ f_X7_reason R k (nI j) = 0 := by
  rw [u_f_X7_bestOf]
  exact (best_in_loop (Z := R) hk 3 0 0 (-1) R rfl rfl (Or.inl rfl)).1
theorem best_in {R : bM} {k : Nat} (hk : k ≠ 7) : (f_X7_bestOf R k).1 = -1 ∨ ∃ j, j < 3 ∧ (f_X7_bestOf R k).1 = nI j := by
  rcases best_ok (R := R) hk with h | ⟨j, hj, e, _⟩
  · exact Or.inl h
  · exact Or.inr ⟨j, hj, e⟩
theorem best_any {R : bM} {k : Nat} (hk : k ≠ 7) (h1 : R k 1 = 1) (h : ¬ f_X7_canStep R k = 0) : ∃ j, j < 3 ∧ (f_X7_bestOf R k).1 = nI j := by
  have hb := best_in (R := R) (k := k) hk
  rcases hb with hb | hb
  · exfalso
    have h0 := (best_in_loop (k := k) (Z := R) hk 3 0 0 (-1) R rfl rfl (Or.inl rfl)).2
    rw [u_f_X7_bestOf] at hb
    have h2 := (h0 hb).2 h1
    apply h
    rw [u_f_X7_canStep]
    dsimp only
    rw [if_neg (show ¬ f_X7_reason R k 0 = 0 from h2 0 (by decide) (by decide)), if_neg (show ¬ f_X7_reason R k 1 = 0 from h2 1 (by decide) (by decide)), if_neg (show ¬ f_X7_reason R k 2 = 0 from h2 2 (by decide) (by decide))]
  · exact hb
theorem tG_try {M R : bM} {g k j : Nat} (hg : g + 10 ≤ 23) (t : tG True M R g k) (h1 : R k 1 = 1) (hj : j < 3) : tG True (f_X0_tryStep M g (nI j)).2 (f_X7_stepOn R k (nI j)).2 g k :=
  ⟨(sG_try trivial t.1 t.2.1 h1 hj).2, gR_stepOn t.2.1 h1, gD_stepOn t.2.1 t.2.2.1, besR_fr (fr_X0_tryStep M g (nI j) 24 (by omega)) t.2.2.2⟩
theorem tG_tryDam {M R : bM} {g k c : Nat} (hk : k ≠ 7) (hg : g + 10 ≤ 23) (t : tG True M R g k) (h1 : R k 1 = 1) (hc : c < 64) : tG True (f_X0_tryDam M g (nI c)).2 (f_X7_damOn R k (nI c)).2 g k :=
  ⟨(sG_tryDam trivial hk hg t.2.2.2 t.1 t.2.1 t.2.2.1 h1 hc).2, gR_damOn hk hc t.2.1 h1, gD_damOn hk hc t.2.1 t.2.2.1, besR_fr (fr_X0_tryDam M g (nI c) 24 (by omega) (by omega)) t.2.2.2⟩
theorem tG_dip {P : Prop} {M R : bM} {g k c : Nat} (hk : k ≠ 7) (hg : g + 10 ≤ 23) (t : tG P M R g k) (hc : c < 64) :
    (R k 1 = 1 ∧ (f_X7_damReason R k (nI c)).1 = 0 → (f_X0_damIfPossible M g (nI c)).1 = 1 ∧ (f_X7_damOn R k (nI c)).1 = 0 ∧ tG P (f_X0_damIfPossible M g (nI c)).2 (f_X7_damOn R k (nI c)).2 g k) ∧
    (¬ (R k 1 = 1 ∧ (f_X7_damReason R k (nI c)).1 = 0) → (f_X0_damIfPossible M g (nI c)).1 = 0 ∧ tG P (f_X0_damIfPossible M g (nI c)).2 R g k) := by
  obtain ⟨a, b⟩ := sG_dip hk hg t.2.2.2 t.1 t.2.1 t.2.2.1 hc
  have hb := besR_fr (fr_X0_damIfPossible M g (nI c) 24 (by omega) (by omega)) t.2.2.2
  refine ⟨fun q => ?_, fun q => ?_⟩
  · obtain ⟨a1, a2, a3⟩ := a q
    exact ⟨a1, a2, a3, gR_damOn hk hc t.2.1 q.1, gD_damOn hk hc t.2.1 t.2.2.1, hb⟩
  · obtain ⟨a1, a2⟩ := b q
    exact ⟨a1, a2, t.2.1, t.2.2.1, hb⟩
theorem tG_flood {P : Prop} {M R : bM} {g k : Nat} (hg : g + 10 ≤ 23) (t : tG P M R g k) (h1 : R k 1 = 1) : tG P (f_X0_washAway M g).2 (f_X7_floodOn R k).2 g k ∧ ¬ (f_X7_floodOn R k).1 < 0 :=
  ⟨⟨(sG_flood t.1 t.2.1 h1).2.1, gR_floodOn t.2.1 h1, gD_floodOn t.2.1 t.2.2.1, besR_fr (fr_X0_washAway M g 24 (by omega)) t.2.2.2⟩, (sG_flood t.1 t.2.1 h1).2.2⟩
theorem tG_change {P : Prop} {M R : bM} {g k w : Nat} {v : Int32} (hg : g + 10 ≤ 23) (hw : w < 2) (hs : ¬ f_X7_isSetting (nI w) v = 0) (t : tG P M R g k) : tG P (f_X0_changeSetting M g (nI w) v).2 (f_X7_change R k (nI w) v).2 g k ∧ ¬ (f_X7_change R k (nI w) v).1 < 0 := by
  refine ⟨⟨(sG_change hw t.1).2, gR_change t.2.1 hs, ?_, besR_fr (fr_X0_changeSetting M g (nI w) v 24 (by omega)) t.2.2.2⟩, ?_⟩
  · rw [(change_row (M := R) (k := k) (v := v) hw).2, up2_upd]
    exact gD_eq t.2.2.1 (by unfold upd; rw [if_neg (by omega)]) (by unfold upd; rw [if_neg (by omega)])
  · rw [(change_row (M := R) (k := k) (v := v) hw).1]
    obtain ⟨m, hm, hX⟩ := t.2.1
    obtain ⟨q8, q9⟩ := gX_set hX
    rcases (by omega : w = 0 ∨ w = 1) with rfl | rfl
    · exact fun q => q8 (Or.inl q)
    · exact fun q => q9 (Or.inl q)
theorem damOn_1 {R : bM} {k : Nat} {x : Int32} : (f_X7_damOn R k x).1 = 0 ↔ (f_X7_damReason R k x).1 = 0 := by
  have hle := damReason_le (R := R) (k := k) (x := x)
  rw [u_f_X7_damOn]
  dsimp only
  by_cases c : (f_X7_damReason R k x).1 ≤ 0
  · rw [if_pos c]; exact ⟨fun _ => hle.mp c, fun _ => rfl⟩
  · rw [if_neg c]
theorem reason_le {R : bM} {k : Nat} {d : Int32} : f_X7_reason R k d ≤ 0 ↔ f_X7_reason R k d = 0 := by
  rw [u_f_X7_reason]
  dsimp only
  split
  · decide
  · split
    · split <;> decide
    · decide
theorem stepOn_1 {R : bM} {k : Nat} {d : Int32} : (f_X7_stepOn R k d).1 = 0 ↔ f_X7_reason R k d = 0 := by
  have hle := reason_le (R := R) (k := k) (d := d)
  rw [u_f_X7_stepOn]
  dsimp only
  by_cases c : f_X7_reason R k d ≤ 0
  · rw [if_pos c]
    refine ⟨fun _ => hle.mp c, fun _ => ?_⟩
    split <;> rfl
  · rw [if_neg c]
/-! SCRIPTS: a group of four digits on both sides -/
theorem not_in3 : ¬ vp_in (-1) 3 := fun q => by
  obtain ⟨i, hi, e⟩ := vp_in_of q (by decide)
  exact nI_ne_m1 (a := i) (by omega) e.symm
theorem sb_0 : ∀ (n i : Nat) (R : bM), lp_X7_stepsBest_4 n i 0 R = (0, R) := by
  intro n i R
  cases n with
  | zero => rw [u0_lp_X7_stepsBest_4]
  | succ n => rw [u1_lp_X7_stepsBest_4, if_pos rfl]
theorem fb_loop {V : Nat} : ∀ (n i : Nat) (M R : bM), tG False M R 13 3 → gmB V (R 3 0) →
    ((lp_X6_followBest_2 n i M).1 = true → (lp_X6_followBest_2 n i M).2.1 = 0 ∧ (lp_X7_stepsBest_4 n i 1 R).1 = 0) ∧
    (¬ (lp_X6_followBest_2 n i M).1 = true → (lp_X7_stepsBest_4 n i 1 R).1 = 1 ∧ tG False (lp_X6_followBest_2 n i M).2.2 (lp_X7_stepsBest_4 n i 1 R).2 13 3 ∧ gmB V ((lp_X7_stepsBest_4 n i 1 R).2 3 0)) := by
  intro n
  induction n with
  | zero =>
    intro i M R t hv
    rw [u0_lp_X6_followBest_2, u0_lp_X7_stepsBest_4]
    exact ⟨fun q => absurd q (show ¬ false = true by decide), fun _ => ⟨rfl, t, hv⟩⟩
  | succ n ih =>
    intro i M R t hv
    rw [u1_lp_X6_followBest_2, u1_lp_X7_stepsBest_4]
    dsimp only
    rw [if_neg (show ¬ (1 : Int32) = 0 by decide)]
    obtain ⟨b1, b2, b3⟩ := tG_best (k := 3) (g := 13) (by decide) (by decide) t
    have hin := best_in (R := R) (k := 3) (by decide)
    have hun := best_under (M := R) (k := 3)
    rw [b1]
    generalize f_X5_bestStep M 13 = A at *
    generalize f_X7_bestOf R 3 = B at *
    have fail : ((true, (0 : Int32), A.2).1 = true → (true, (0 : Int32), A.2).2.1 = 0 ∧ ((0 : Int32), B.2).1 = 0) ∧ (¬ (true, (0 : Int32), A.2).1 = true → ((0 : Int32), B.2).1 = 1 ∧ tG False (true, (0 : Int32), A.2).2.2 ((0 : Int32), B.2).2 13 3 ∧ gmB V (((0 : Int32), B.2).2 3 0)) := ⟨fun _ => ⟨rfl, rfl⟩, fun q => absurd rfl q⟩
    by_cases c : B.1 = -1
    · rw [if_pos c, c, sip_bad not_in3, sb_0]
      dsimp only
      rw [if_pos rfl]
      exact fail
    · rw [if_neg c]
      rcases hin with hin | ⟨j, hj, e⟩
      · exact absurd hin c
      rw [e]
      obtain ⟨y, no⟩ := tG_ifp (by decide) b2 hj
      have h1 : B.2 3 1 = 1 := by rw [b3]; exact hun c
      by_cases d : f_X7_reason B.2 3 (nI j) = 0
      · obtain ⟨y1, y2, y3⟩ := y ⟨h1, d⟩
        have y4 : gmB V ((f_X7_stepOn B.2 3 (nI j)).2 3 0) := by rw [r0_stepOn b2.2.1, b3]; exact hv
        rw [y1, y2, if_neg (show ¬ (1 : Int32) = 0 by decide), if_pos rfl]
        exact ih (i + 1) _ _ y3 y4
      · rw [no (fun q => d q.2), if_neg (fun q => d (stepOn_1.mp q)), sb_0]
        dsimp only
        rw [if_pos rfl]
        exact ⟨fun _ => ⟨rfl, rfl⟩, fun q => absurd rfl q⟩
abbrev oG (V : Nat) (A B : Int32 × bM) : Prop := (A.1 = 0 ↔ B.1 = 0) ∧ (¬ A.1 = 0 → tG False A.2 B.2 13 3 ∧ gmB (V + 1) (B.2 3 0))
theorem oG_no {V : Nat} {M R : bM} : oG V (0, M) (0, R) := ⟨⟨fun _ => rfl, fun _ => rfl⟩, fun q => absurd rfl q⟩
theorem oG_yes1 {V : Nat} {M R : bM} (t : tG False M R 13 3) (hv : gmB (V + 1) (R 3 0)) : oG V (1, M) (1, R) :=
  ⟨⟨fun q => absurd q (show ¬ (1 : Int32) = 0 by decide), fun q => absurd q (show ¬ (1 : Int32) = 0 by decide)⟩, fun _ => ⟨t, hv⟩⟩
theorem oG_yes {V : Nat} {M R : bM} (t : tG False M R 13 3) (hv : gmB V (R 3 0)) : oG V (1, M) (1, R) :=
  ⟨⟨fun q => absurd q (show ¬ (1 : Int32) = 0 by decide), fun q => absurd q (show ¬ (1 : Int32) = 0 by decide)⟩, fun _ => ⟨t, by obtain ⟨v, h1, h2⟩ := hv; exact ⟨v, by omega, h2⟩⟩⟩
theorem fol_ok {V c : Nat} {M R : bM} (hc : c < 10) (t : tG False M R 13 3) (hv : gmB V (R 3 0)) : oG V (if (f_X6_followBest M (nI c)).1 = 0 then (0, (f_X6_followBest M (nI c)).2) else (1, (f_X6_followBest M (nI c)).2)) (if (f_X7_stepsBest R (nI c)).1 = 0 then (0, (f_X7_stepsBest R (nI c)).2) else (1, (f_X7_stepsBest R (nI c)).2)) := by
  rw [u_f_X6_followBest, u_f_X7_stepsBest, nI_clamp (by omega)]
  dsimp only
  obtain ⟨l1, l2⟩ := fb_loop (V := V) c 0 M R t hv
  generalize lp_X6_followBest_2 c 0 M = A at *
  generalize lp_X7_stepsBest_4 c 0 1 R = B at *
  by_cases q : A.1 = true
  · obtain ⟨m1, m2⟩ := l1 q
    rw [if_pos q, m1, m2, if_pos rfl, if_pos rfl]
    exact oG_no
  · obtain ⟨m1, m2, m3⟩ := l2 q
    rw [if_neg q, m1, if_neg (show ¬ (1 : Int32) = 0 by decide), if_neg (show ¬ (1 : Int32) = 0 by decide)]
    exact oG_yes m2 m3
theorem side_fld {P : Prop} {M R : bM} {g k p : Nat} (hs : sG P M g (R k)) (hp : p < 2) : M (g + 1 + 4 * p) 3 = R k (10 + 5 * p + 4) ∧ M (g + 1 + 4 * p) 4 = R k (10 + 5 * p + 0) := by
  have q := fun j hj hn => (hs.1.1 j hj hn).symm
  rcases (by omega : p = 0 ∨ p = 1) with rfl | rfl
  · exact ⟨(gv_14 M g).symm.trans (q 14 (by decide) (by decide)), (gv_10 M g).symm.trans (q 10 (by decide) (by decide))⟩
  · exact ⟨(gv_19 M g).symm.trans (q 19 (by decide) (by decide)), (gv_15 M g).symm.trans (q 15 (by decide) (by decide))⟩
theorem dip_none {M : bM} {g : Nat} : f_X0_damIfPossible M g (-1) = (0, M) := by
  rw [u_f_X0_damIfPossible]
  dsimp only
  rw [if_pos (show f_X6_fits (-1) = 0 by decide)]
theorem ge_iff {a b : Nat} (ha : a < 2 ^ 31) (hb : b < 2 ^ 31) : (nI a ≤ nI b) ↔ a ≤ b := nI_leI ha hb
theorem isPl_nI {a : Nat} (ha : a < 10) : f_X6_isPlayer (nI a) = 0 ↔ 2 ≤ a := by
  rw [isPl]
  constructor
  · intro h
    rcases Nat.lt_or_ge a 2 with z | z
    · exact absurd (vp_in_nI z (by decide)) h
    · exact z
  · intro h q
    obtain ⟨i, hi, e⟩ := vp_in_of q (by decide)
    have := nI_inj (by omega) (by omega) e
    omega
/-- a group with the digits h a b c -/
theorem grp_ok {V h a b c : Nat} {M R : bM} (hh : h < 10) (ha : a < 10) (hb : b < 10) (hc : c < 10) (hV : V < 2 ^ 20) (t : tG False M R 13 3) (hv : gmB V (R 3 0)) :
    oG V (f_X6_doGroup M (nI (1000 * h + 100 * a + 10 * b + c))) (f_X7_command R (nI h) (nI (100 * a + 10 * b + c))) := by
  obtain ⟨A, hA⟩ : ∃ A, f_X6_doGroup M (nI (1000 * h + 100 * a + 10 * b + c)) = A := ⟨_, rfl⟩
  obtain ⟨B, hB⟩ : ∃ B, f_X7_command R (nI h) (nI (100 * a + 10 * b + c)) = B := ⟨_, rfl⟩
  rw [hA, hB]
  rw [u_f_X6_doGroup] at hA
  rw [u_f_X7_command] at hB
  dsimp only at hA hB
  have d1 : nI (1000 * h + 100 * a + 10 * b + c) / 1000 = nI h := by rw [show (1000 : Int32) = nI 1000 from rfl, pk_div (by omega) (by decide) (by decide)]; exact congrArg nI (by omega)
  have d2 : nI (1000 * h + 100 * a + 10 * b + c) / 100 - nI (1000 * h + 100 * a + 10 * b + c) / 100 / 10 * 10 = nI a := by rw [show (100 : Int32) = nI 100 from rfl, show (10 : Int32) = nI 10 from rfl, pk_div (by omega) (by decide) (by decide), pk_rem (by omega) (by decide) (by decide)]; exact congrArg nI (by omega)
  have d3 : nI (1000 * h + 100 * a + 10 * b + c) / 10 - nI (1000 * h + 100 * a + 10 * b + c) / 10 / 10 * 10 = nI b := by rw [show (10 : Int32) = nI 10 from rfl, pk_div (by omega) (by decide) (by decide), pk_rem (by omega) (by decide) (by decide)]; exact congrArg nI (by omega)
  have d4 : nI (1000 * h + 100 * a + 10 * b + c) - nI (1000 * h + 100 * a + 10 * b + c) / 10 * 10 = nI c := by rw [show (10 : Int32) = nI 10 from rfl, pk_rem (by omega) (by decide) (by decide)]; exact congrArg nI (by omega)
  have d5 : nI (1000 * h + 100 * a + 10 * b + c) - nI (1000 * h + 100 * a + 10 * b + c) / 100 * 100 = nI (10 * b + c) := by rw [show (100 : Int32) = nI 100 from rfl, pk_rem (by omega) (by decide) (by decide)]; exact congrArg nI (by omega)
  have e2 : nI (100 * a + 10 * b + c) / 100 = nI a := by rw [show (100 : Int32) = nI 100 from rfl, pk_div (by omega) (by decide) (by decide)]; exact congrArg nI (by omega)
  have e3 : nI (100 * a + 10 * b + c) / 10 - nI (100 * a + 10 * b + c) / 10 / 10 * 10 = nI b := by rw [show (10 : Int32) = nI 10 from rfl, pk_div (by omega) (by decide) (by decide), pk_rem (by omega) (by decide) (by decide)]; exact congrArg nI (by omega)
  have e4 : nI (100 * a + 10 * b + c) - nI (100 * a + 10 * b + c) / 10 * 10 = nI c := by rw [show (10 : Int32) = nI 10 from rfl, pk_rem (by omega) (by decide) (by decide)]; exact congrArg nI (by omega)
  have e5 : nI (100 * a + 10 * b + c) - nI (100 * a + 10 * b + c) / 100 * 100 = nI (10 * b + c) := by rw [show (100 : Int32) = nI 100 from rfl, pk_rem (by omega) (by decide) (by decide)]; exact congrArg nI (by omega)
  rw [d1, d2, d3, d4, d5] at hA
  rw [e5, e3, e4, e2] at hB
  have za : nI a = 0 ↔ a = 0 := nI_z (by omega)
  have zb : nI b = 0 ↔ b = 0 := nI_z (by omega)
  have z4 : nI (1000 * h + 100 * a + 10 * b + c) = 4000 ↔ 1000 * h + 100 * a + 10 * b + c = 4000 := nI_eq (b := 4000) (by omega) (by decide)
  have zt : nI (100 * a + 10 * b + c) = 0 ↔ 100 * a + 10 * b + c = 0 := nI_z (by omega)
  have z3 : (3 : Int32) ≤ nI (100 * a + 10 * b + c) ↔ 3 ≤ 100 * a + 10 * b + c := nI_leI (a := 3) (by decide) (by omega)
  have z10 : (10 : Int32) ≤ nI (100 * a + 10 * b + c) ↔ 10 ≤ 100 * a + 10 * b + c := nI_leI (a := 10) (by decide) (by omega)
  have z2 : (2 : Int32) ≤ nI a ↔ 2 ≤ a := nI_leI (a := 2) (by decide) (by omega)
  have zh : ∀ i : Nat, i < 10 → (nI h = nI i ↔ h = i) := fun i hi => nI_eq (by omega) (by omega)
  have huw := uw_iff (R := R) (k := 3)
  have hov := sG_over (k := 3) t.1
  by_cases k1 : nI h = 1
  · rw [if_pos k1] at hA hB
    by_cases ca : nI a = 0
    · rw [if_pos ca] at hA hB
      obtain ⟨v, v1, v2⟩ := id hv
      have hg1 : ¬ (f_X7_gameOn R 3 (nI (10 * b + c)).toInt64).1 ≤ 0 := by
        rw [(sG_new t.1).1, v2, nI_1]
        exact nI_nle (by omega) (by omega)
      rw [if_neg hg1] at hB
      rw [← hA, ← hB]
      have t1 := tG_new (s := (nI (10 * b + c)).toInt64) (by decide) t
      have v1' : gmB (V + 1) ((f_X7_gameOn R 3 (nI (10 * b + c)).toInt64).2 3 0) := ⟨v + 1, Nat.succ_le_succ v1, by rw [r0_gameOn, v2, nI_1]⟩
      exact oG_yes1 t1 v1'
    · rw [if_neg ca] at hA hB
      rw [← hA, ← hB]; exact oG_no
  rw [if_neg k1] at hA hB
  by_cases k2 : nI h = 2
  · rw [if_pos k2] at hA hB
    by_cases ct : (3 : Int32) ≤ nI (100 * a + 10 * b + c)
    · rw [if_pos ct] at hB
      have ct' := z3.mp ct
      rw [← hB]
      by_cases ca : nI a = 0
      · rw [if_pos ca] at hA
        by_cases cb : nI b = 0
        · have ca' := za.mp ca
          have cb' := zb.mp cb
          have hbad : ¬ vp_in (nI c) 3 := fun q => by
            obtain ⟨i, hi, e⟩ := vp_in_of q (by decide)
            have := nI_inj (a := c) (b := i) (by omega) (by omega) e
            omega
          rw [if_pos cb, sip_bad hbad] at hA
          dsimp only at hA
          rw [if_pos rfl] at hA
          rw [← hA]; exact oG_no
        · rw [if_neg cb] at hA
          rw [← hA]; exact oG_no
      · rw [if_neg ca] at hA
        rw [← hA]; exact oG_no
    · rw [if_neg ct] at hB
      have ct' : ¬ 3 ≤ 100 * a + 10 * b + c := fun q => ct (z3.mpr q)
      rw [if_pos (za.mpr (by omega)), if_pos (zb.mpr (by omega))] at hA
      obtain ⟨y, no⟩ := tG_ifp (j := c) (by decide) t (by omega)
      by_cases u : R 3 1 = 1
      · rw [if_neg (fun q => huw.mp q u)] at hB
        by_cases d : f_X7_reason R 3 (nI c) = 0
        · obtain ⟨y1, y2, y3⟩ := y ⟨u, d⟩
          rw [y1, if_neg (show ¬ (1 : Int32) = 0 by decide)] at hA
          rw [if_pos y2] at hB
          rw [← hA, ← hB]
          exact oG_yes y3 (by rw [r0_stepOn t.2.1]; exact hv)
        · rw [no (fun q => d q.2)] at hA
          dsimp only at hA
          rw [if_pos rfl] at hA
          rw [if_neg (fun q => d (stepOn_1.mp q))] at hB
          rw [← hA, ← hB]; exact oG_no
      · rw [if_pos (huw.mpr u)] at hB
        rw [no (fun q => u q.1)] at hA
        dsimp only at hA
        rw [if_pos rfl] at hA
        rw [← hA, ← hB]; exact oG_no
  rw [if_neg k2] at hA hB
  by_cases k3 : nI h = 3
  · rw [if_pos k3] at hA hB
    by_cases ca : nI a = 0
    · rw [if_pos ca] at hA hB
      rw [cellAt_eq] at hA
      by_cases ci : f_X7_isCell (nI b) (nI c) = 0
      · rw [if_pos ci, dip_none] at hA
        dsimp only at hA
        rw [if_pos rfl] at hA
        rw [if_pos ci] at hB
        rw [← hA, ← hB]; exact oG_no
      · obtain ⟨x, hx, e⟩ := cell_nI ci
        rw [if_neg ci, e] at hA
        rw [if_neg ci, e] at hB
        obtain ⟨y, no⟩ := tG_dip (k := 3) (by decide) (by decide) t hx
        by_cases u : R 3 1 = 1
        · rw [if_neg (fun q => huw.mp q u)] at hB
          by_cases d : (f_X7_damReason R 3 (nI x)).1 = 0
          · obtain ⟨y1, y2, y3⟩ := y ⟨u, d⟩
            rw [y1, if_neg (show ¬ (1 : Int32) = 0 by decide)] at hA
            rw [if_pos y2] at hB
            rw [← hA, ← hB]
            exact oG_yes y3 (by rw [r0_damOn (by decide) hx t.2.1]; exact hv)
          · rw [if_pos (no (fun q => d q.2)).1] at hA
            rw [if_neg (fun q => d (damOn_1.mp q))] at hB
            rw [← hA, ← hB]; exact oG_no
        · rw [if_pos (huw.mpr u)] at hB
          rw [if_pos (no (fun q => u q.1)).1] at hA
          rw [← hA, ← hB]; exact oG_no
    · rw [if_neg ca] at hA hB
      rw [← hA, ← hB]; exact oG_no
  rw [if_neg k3] at hA hB
  by_cases k4 : nI h = 4
  · rw [if_pos k4] at hA hB
    have h4 : h = 4 := (zh 4 (by decide)).mp k4
    by_cases ct : nI (100 * a + 10 * b + c) = 0
    · have ct' := zt.mp ct
      rw [if_pos (z4.mpr (by omega)), u_f_X0_floodIfPossible] at hA
      dsimp only at hA
      rw [if_pos ct] at hB
      have hcf := sG_canFlood (k := 3) t.1 t.2.1
      by_cases u : R 3 1 = 1
      · rw [if_neg (fun q => huw.mp q u)] at hB
        by_cases d : f_X7_canStep R 3 = 0
        · obtain ⟨f1, f2⟩ := tG_flood (k := 3) (by decide) t u
          rw [if_neg (hcf.mpr ⟨u, d⟩)] at hA
          dsimp only at hA
          rw [if_neg (show ¬ (1 : Int32) = 0 by decide)] at hA
          rw [if_pos d, if_neg f2] at hB
          rw [← hA, ← hB]
          exact oG_yes f1 (by rw [r0_floodOn t.2.1]; exact hv)
        · rw [if_pos (Classical.byContradiction (fun q => d (hcf.mp q).2))] at hA
          dsimp only at hA
          rw [if_pos rfl] at hA
          rw [if_neg d] at hB
          rw [← hA, ← hB]; exact oG_no
      · rw [if_pos (Classical.byContradiction (fun q => u (hcf.mp q).1))] at hA
        dsimp only at hA
        rw [if_pos rfl] at hA
        rw [if_pos (huw.mpr u)] at hB
        rw [← hA, ← hB]; exact oG_no
    · rw [if_neg ct] at hB
      have ct' : ¬ 100 * a + 10 * b + c = 0 := fun q => ct (zt.mpr q)
      rw [if_neg (fun q => by have := z4.mp q; omega)] at hA
      rw [← hA, ← hB]; exact oG_no
  rw [if_neg k4] at hA hB
  by_cases k5 : nI h = 5
  · rw [if_pos k5] at hA hB
    rw [u_f_X0_changeIfPossible, setting_eq] at hA
    dsimp only at hA
    by_cases ci : f_X7_isSetting (nI a) (nI (10 * b + c)) = 0
    · rw [if_pos ci] at hA hB
      rw [← hA, ← hB]; exact oG_no
    · have hw : a < 2 := by
        rcases isSet_in ci with ⟨q, _⟩ | ⟨q, _⟩
        · have := za.mp q; omega
        · have := (nI_eq (a := a) (b := 1) (by omega) (by decide)).mp q; omega
      obtain ⟨f1, f2⟩ := tG_change (k := 3) (g := 13) (by decide) hw ci t
      rw [if_neg ci] at hA
      rw [if_neg ci, if_neg f2] at hB
      rw [← hA, ← hB]
      exact oG_yes f1 (by rw [r0_change hw]; exact hv)
  rw [if_neg k5] at hA hB
  by_cases k6 : nI h = 6
  · rw [if_pos k6] at hA hB
    by_cases ct : (10 : Int32) ≤ nI (100 * a + 10 * b + c)
    · rw [if_pos ct] at hB
      have ct' := z10.mp ct
      rw [← hB]
      by_cases ca : nI a = 0
      · rw [if_pos ca] at hA
        have ca' := za.mp ca
        rw [if_neg (fun q => by have := zb.mp q; omega)] at hA
        rw [← hA]; exact oG_no
      · rw [if_neg ca] at hA
        rw [← hA]; exact oG_no
    · rw [if_neg ct] at hB
      have ct' : ¬ 10 ≤ 100 * a + 10 * b + c := fun q => ct (z10.mpr q)
      rw [if_pos (za.mpr (by omega)), if_pos (zb.mpr (by omega))] at hA
      rw [← hA, ← hB]
      exact fol_ok hc t hv
  rw [if_neg k6] at hA hB
  by_cases k7 : nI h = 7
  · rw [if_pos k7] at hA hB
    by_cases c2 : 2 ≤ a
    · rw [if_pos ((isPl_nI ha).mpr c2)] at hA
      rw [if_pos (z2.mpr c2)] at hB
      rw [← hA, ← hB]; exact oG_no
    · have ha2 : a < 2 := by omega
      obtain ⟨s4, s0⟩ := side_fld t.1 ha2
      rw [if_neg (fun q => c2 ((isPl_nI ha).mp q)), side_nI ha2, s0] at hA
      rw [if_neg (fun q => c2 (z2.mp q)), show f_X7_of R 3 (nI a) 0 = R 3 (10 + 5 * a + 0) from of_at (w := 0) ha2 (by decide)] at hB
      by_cases d : nI (10 * b + c) < R 3 (10 + 5 * a + 0)
      · rw [if_pos d] at hA hB
        rw [← hA, ← hB]; exact oG_no
      · rw [if_neg d] at hA hB
        rw [← hA, ← hB]; exact oG_yes t hv
  rw [if_neg k7] at hA hB
  by_cases k8 : nI h = 8
  · rw [if_pos k8] at hA hB
    by_cases ct : (10 : Int32) ≤ nI (100 * a + 10 * b + c)
    · rw [if_pos ct] at hB
      have ct' := z10.mp ct
      rw [← hB]
      by_cases ca : nI a = 0
      · rw [if_pos ca] at hA
        have ca' := za.mp ca
        rw [if_neg (fun q => by have := zb.mp q; omega)] at hA
        rw [← hA]; exact oG_no
      · rw [if_neg ca] at hA
        rw [← hA]; exact oG_no
    · rw [if_neg ct] at hB
      have ct' : ¬ 10 ≤ 100 * a + 10 * b + c := fun q => ct (z10.mpr q)
      rw [if_pos (za.mpr (by omega)), if_pos (zb.mpr (by omega)), sG_phase (k := 3) t.1] at hA
      by_cases d : R 3 1 = nI c
      · rw [if_pos d] at hA hB
        rw [← hA, ← hB]; exact oG_yes t hv
      · rw [if_neg d] at hA hB
        rw [← hA, ← hB]; exact oG_no
  rw [if_neg k8] at hA hB
  by_cases k9 : nI h = 9
  · rw [if_pos k9] at hA hB
    by_cases c2 : 2 ≤ a
    · rw [if_pos ((isPl_nI ha).mpr c2)] at hA
      rw [if_pos (z2.mpr c2)] at hB
      rw [← hA, ← hB]; exact oG_no
    · have ha2 : a < 2 := by omega
      obtain ⟨s4, s0⟩ := side_fld t.1 ha2
      rw [if_neg (fun q => c2 ((isPl_nI ha).mp q)), side_nI ha2, s4] at hA
      rw [if_neg (fun q => c2 (z2.mp q)), show f_X7_of R 3 (nI a) 4 = R 3 (10 + 5 * a + 4) from of_at (w := 4) ha2 (by decide)] at hB
      by_cases d : R 3 (10 + 5 * a + 4) < nI (10 * b + c)
      · rw [if_pos d] at hA hB
        rw [← hA, ← hB]; exact oG_no
      · rw [if_neg d] at hA hB
        rw [← hA, ← hB]; exact oG_yes t hv
  rw [if_neg k9] at hA hB
  rw [← hA, ← hB]; exact oG_no
