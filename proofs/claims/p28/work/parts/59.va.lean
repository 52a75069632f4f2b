/-! THE RING and the diary: a state is remembered -/
theorem goodS_ext {M : bM} {g : Nat} {r r' : Nat → Int32} (h : ∀ j, j < 404 → r' j = r j) (hs : goodS M g r) : goodS M g r' := ⟨sG_ext h hs.1, gR_ext hs.2.1 h, gD_eq hs.2.2 (h 11 (by decide)) (h 16 (by decide))⟩
theorem goodS_copy {M : bM} {g g1 : Nat} {r : Nat → Int32} (hg : g + 10 ≤ g1 ∨ g1 + 10 ≤ g) (hs : goodS M g1 r) : goodS (f_X0_copyFrom M g g1) g r := ⟨sG_copy hg hs.1, hs.2⟩
theorem shift_loop {N : Nat} (hN : N ≤ 5252) : ∀ (n i : Nat) (M : bM), i + n = N → (∀ a, a ≠ 4 → lp_X7_remember_11 n i M a = M a) ∧ ∀ j, lp_X7_remember_11 n i M 4 j = if i ≤ j ∧ j < N then M 4 (j + 404) else M 4 j := by
  intro n
  induction n with
  | zero =>
    intro i M hi
    rw [u0_lp_X7_remember_11]
    exact ⟨fun _ _ => rfl, fun j => by rw [if_neg (by omega)]⟩
  | succ n ih =>
    intro i M hi
    rw [u1_lp_X7_remember_11]
    dsimp only
    rw [show nI i + 404 = nI (i + 404) from by rw [show (404 : Int32) = nI 404 from rfl, nI_add], nI_clamp (by omega)]
    obtain ⟨h1, h2⟩ := ih (i + 1) (up2 M 4 i (M 4 (i + 404))) (by omega)
    refine ⟨fun a ha => (h1 a ha).trans (up2_row ha), fun j => ?_⟩
    rw [h2, up2_at, up2_at]
    by_cases e : j = i
    · rw [if_neg (by omega), if_pos e, if_pos (by omega), e]
    · by_cases c : i + 1 ≤ j ∧ j < N
      · rw [if_pos c, if_neg (by omega), if_pos (by omega)]
      · rw [if_neg c, if_neg e, if_neg (by omega)]
theorem idx404 {n : Nat} : (404 : Int32) * nI n = nI (404 * n) := by rw [show (404 : Int32) = nI 404 from rfl, pk_mul]
/-- what the reference's diary holds after it remembers -/
theorem remR {R : bM} {n : Nat} (hn : n ≤ 14) (h6 : R 0 6 = nI n) :
    (∀ a, a ≠ 4 → a ≠ 0 → f_X7_remember R a = R a) ∧ (∀ j, j ≠ 6 → f_X7_remember R 0 j = R 0 j) ∧ f_X7_remember R 0 6 = nI (if n = 14 then 14 else n + 1) ∧
    (∀ i j, j < 404 → i < (if n = 14 then 14 else n + 1) → f_X7_remember R 4 (404 * i + j) = if i + 1 = (if n = 14 then 14 else n + 1) then R 2 j else if n = 14 then R 4 (404 * (i + 1) + j) else R 4 (404 * i + j)) := by
  have cs : ∀ (M : bM) (c : Nat), c ≤ 14 → ∀ j, f_X7_copyState M 2 404 0 4 5656 (nI (404 * c)) 4 j = if 404 * c ≤ j ∧ j < 404 * c + 404 then M 2 (j - 404 * c) else M 4 j := by
    intro M c hc j
    have := cs_at (M := M) (k1 := 2) (n1 := 404) (k3 := 4) (n3 := 5656) (a := 0) (b := 404 * c) (by decide) (by decide) (by omega) j
    rw [Nat.zero_add] at this
    exact this
  rw [u_f_X7_remember, h6]
  dsimp only
  by_cases c : n = 14
  · subst c
    rw [if_pos (show nI 14 = 14 from rfl), if_pos rfl]
    obtain ⟨s1, s2⟩ := shift_loop (N := 5252) (Nat.le_refl _) 5252 0 R rfl
    generalize lp_X7_remember_11 5252 0 R = S at *
    have e6 : S 0 6 - 1 = nI 13 := by rw [s1 0 (by decide), h6]; rfl
    rw [e6]
    have e0 : up2 S 0 6 (nI 13) 0 6 = nI 13 := by rw [up2_at, if_pos rfl]
    rw [e0, idx404]
    have fr := fun k (hk : k ≠ 4) => fr_X7_copyState (up2 S 0 6 (nI 13)) 2 404 0 4 5656 (nI (404 * 13)) k hk
    have cs' := cs (up2 S 0 6 (nI 13)) 13 (by decide)
    generalize f_X7_copyState (up2 S 0 6 (nI 13)) 2 404 0 4 5656 (nI (404 * 13)) = T at *
    refine ⟨fun a q1 q2 => (up2_row q2).trans ((fr a q1).trans ((up2_row q2).trans (s1 a q1))), fun j q => ?_, ?_, fun i j hj hi => ?_⟩
    · rw [up2_at, if_neg q, fr 0 (by decide), up2_at, if_neg q, s1 0 (by decide)]
    · rw [up2_at, if_pos rfl, fr 0 (by decide), e0]; rfl
    · rw [up2_row (show (4 : Nat) ≠ 0 by decide), cs', up2_row (show (2 : Nat) ≠ 0 by decide), up2_row (show (4 : Nat) ≠ 0 by decide), s1 2 (by decide)]
      by_cases e : i + 1 = 14
      · rw [if_pos e, if_pos (by omega), show 404 * i + j - 404 * 13 = j by omega]
      · rw [if_neg e, if_neg (by omega), s2, if_pos (by omega), show 404 * i + j + 404 = 404 * (i + 1) + j by omega, if_pos rfl]
  · rw [if_neg (show ¬ nI n = 14 from fun q => c (nI_inj (a := n) (b := 14) (by omega) (by decide) q)), if_neg c, idx404]
    have fr := fun k (hk : k ≠ 4) => fr_X7_copyState R 2 404 0 4 5656 (nI (404 * n)) k hk
    have cs' := cs R n hn
    generalize f_X7_copyState R 2 404 0 4 5656 (nI (404 * n)) = T at *
    refine ⟨fun a q1 q2 => (up2_row q2).trans (fr a q1), fun j q => ?_, ?_, fun i j hj hi => ?_⟩
    · rw [up2_at, if_neg q, fr 0 (by decide)]
    · rw [up2_at, if_pos rfl, fr 0 (by decide), h6, nI_1]
    · rw [up2_row (show (4 : Nat) ≠ 0 by decide), cs']
      by_cases e : i + 1 = n + 1
      · rw [if_pos e, if_pos (by omega), show 404 * i + j - 404 * n = j by omega]
      · rw [if_neg e, if_neg (by omega), if_neg c]
theorem stateAt_nI {M : bM} {x : Nat} (h : x < 14) : f_X1_stateAt M (nI x) = 32 + 10 * x := by
  rw [u_f_X1_stateAt, if_neg (nI_pos (by omega)), if_neg (show ¬ (14 : Int32) ≤ nI x from nI_ge (a := x) (b := 14) h (by decide)), nI_clamp (by omega)]
/-- both remember -/
theorem sS_rem {M R : bM} (hs : sS M R) : sS (f_X1_remember M 3) (f_X7_remember R) ∧ f_X7_remember R 2 = R 2 ∧ (∀ j, j ≠ 6 → f_X7_remember R 0 j = R 0 j) := by
  obtain ⟨a1, a2, ⟨x, n, hx, hn, e1, e2, e3, e4⟩, a4, a5⟩ := id hs
  obtain ⟨r1, r2, r3, r4⟩ := remR hn e3
  have r22 := r1 2 (by decide) (by decide)
  rw [u_f_X1_remember, e1, stateAt_nI hx]
  dsimp only
  have fr := fun k (hk : k < 32 + 10 * x ∨ 32 + 10 * x + 10 ≤ k) => fr_X0_copyFrom M (32 + 10 * x) 3 k hk
  have hc := goodS_copy (g := 32 + 10 * x) (g1 := 3) (by omega) a1
  generalize f_X0_copyFrom M (32 + 10 * x) 3 = C at *
  have c30 : C 30 = M 30 := fr 30 (by omega)
  have e14 : (C 30 1 + 1) - (C 30 1 + 1) / 14 * 14 = nI ((x + 1) % 14) := by
    rw [c30, e1, nI_1, show (14 : Int32) = nI 14 from rfl, pk_rem (by omega) (by decide) (by decide)]
  rw [e14]
  generalize hQ : (if 14 < ((up2 C 30 1 (nI ((x + 1) % 14)) 30 2) + 1) then 14 else ((up2 C 30 1 (nI ((x + 1) % 14)) 30 2) + 1)) = Q
  have hQ' : Q = nI (if n = 14 then 14 else n + 1) := by
    have e302 : up2 C 30 1 (nI ((x + 1) % 14)) 30 2 = nI n := by rw [up2_at, if_neg (show ¬ (2 : Nat) = 1 by decide), c30, e2]
    rw [← hQ, e302, nI_1]
    by_cases c : n = 14
    · rw [if_pos c, if_pos (show (14 : Int32) < nI (n + 1) from by rw [c]; decide)]; rfl
    · rw [if_neg c, if_neg (show ¬ (14 : Int32) < nI (n + 1) from fun q => by
        have := (nI_ltI (a := 14) (b := n + 1) (by decide) (by omega)).mp q; omega)]
  rw [hQ']
  have hrow : ∀ a, a ≠ 30 → up2 (up2 C 30 1 (nI ((x + 1) % 14))) 30 2 (nI (if n = 14 then 14 else n + 1)) a = C a := fun a q => (up2_row q).trans (up2_row q)
  generalize hF : up2 (up2 C 30 1 (nI ((x + 1) % 14))) 30 2 (nI (if n = 14 then 14 else n + 1)) = F at *
  refine ⟨⟨goodS_fr (fun a q1 q2 => (hrow a (by omega)).trans (fr a (by omega))) r22 a1, txS2_fr ((hrow 1 (by decide)).trans (fr 1 (by omega))) ((hrow 2 (by decide)).trans (fr 2 (by omega))) (r2 2 (by decide)) (r1 1 (by decide) (by decide)) a2, ⟨(x + 1) % 14, if n = 14 then 14 else n + 1, by omega, by split <;> omega, ?_, ?_, r3, fun i hi => ?_⟩, slS_fr (fun a q1 q2 => (hrow a (by omega)).trans (fr a (by omega))) (r1 5 (by decide) (by decide)) (r1 6 (by decide) (by decide)) a4, fun i hi => by rw [hrow 24 (by decide), fr 24 (by omega)]; exact a5 i hi⟩, r22, r2⟩
  · rw [← hF, up2_at, if_neg (by decide), up2_at, if_pos rfl]
  · rw [← hF, up2_at, if_pos rfl]
  · have r4' := fun j (hj : j < 404) => r4 i j hj hi
    by_cases e : i + 1 = (if n = 14 then 14 else n + 1)
    · have hpl : 32 + 10 * (((x + 1) % 14 + 14 - (if n = 14 then 14 else n + 1) + i) % 14) = 32 + 10 * x := by
        by_cases c : n = 14
        · rw [if_pos c] at e ⊢; omega
        · rw [if_neg c] at e ⊢; omega
      rw [hpl]
      refine goodS_ext (r := R 2) (fun j hj => by rw [r4' j hj, if_pos e]) (goodS_fr (fun a q1 q2 => hrow a (by omega)) rfl hc)
    · by_cases c : n = 14
      · rw [if_pos c] at e hi ⊢
        refine goodS_ext (fun j hj => by rw [r4' j hj, if_pos c, if_neg e, if_pos c]) (goodS_fr (M := M) (fun a q1 q2 => (hrow a (by omega)).trans (fr a (by omega))) rfl ?_)
        have := e4 (i + 1) (by omega)
        rw [show (x + 14 - n + (i + 1)) % 14 = ((x + 1) % 14 + 14 - 14 + i) % 14 by omega] at this
        exact this
      · rw [if_neg c] at e hi ⊢
        refine goodS_ext (fun j hj => by rw [r4' j hj, if_neg c, if_neg e, if_neg c]) (goodS_fr (M := M) (fun a q1 q2 => (hrow a (by omega)).trans (fr a (by omega))) rfl ?_)
        have := e4 i (by omega)
        rw [show (x + 14 - n + i) % 14 = ((x + 1) % 14 + 14 - (n + 1) + i) % 14 by omega] at this
        exact this
/-! ACTS on the game: the state's relation is kept -/
theorem sS_act {M R M' R' : bM} (h : ∀ a, ¬ (3 ≤ a ∧ a < 24) → ¬ (25 ≤ a ∧ a < 30) → M' a = M a) (hr : ∀ a, a ≠ 0 → a ≠ 2 → a ≠ 3 → a ≠ 7 → a ≠ 8 → R' a = R a) (r2 : R' 0 2 = R 0 2) (r6 : R' 0 6 = R 0 6) (hg : goodS M' 3 (R' 2)) (hs : sS M R) : sS M' R' := by
  obtain ⟨a1, a2, a3, a4, a5⟩ := hs
  exact ⟨hg, txS2_fr (h 1 (by omega) (by omega)) (h 2 (by omega) (by omega)) r2 (hr 1 (by decide) (by decide) (by decide) (by decide) (by decide)) a2, hiS_fr (fun a q1 q2 => h a (by omega) (by omega)) r6 (hr 4 (by decide) (by decide) (by decide) (by decide) (by decide)) a3, slS_fr (fun a q1 q2 => h a (by omega) (by omega)) (hr 5 (by decide) (by decide) (by decide) (by decide) (by decide)) (hr 6 (by decide) (by decide) (by decide) (by decide) (by decide)) a4, fun i hi => by rw [h 24 (by omega) (by omega)]; exact a5 i hi⟩
theorem ok_dam {M R : bM} {x1 x2 : Int32} (hs : sS M R) : okF 3 2 (f_X6_dam M x1 x2) (f_X7_dam R x1 x2) := by
  rw [u_f_X6_dam, u_f_X7_dam]
  dsimp only
  rw [ref_e, ref_e, ref_e, cellAt_eq]
  by_cases c1 : f_X7_isCell x1 x2 = 0
  · rw [if_pos c1, if_pos rfl, if_pos c1]
    exact ⟨ref_00 (R := R), Or.inr (Or.inl rfl), fun q => absurd q (show ¬ (3 : Nat) = 0 by decide), sS_ref hs⟩
  · obtain ⟨c, hc, e⟩ := cell_nI c1
    rw [if_neg c1, e, if_neg (nI_ne_m1 (by omega)), if_neg c1]
    have e2 := sG_over (k := 2) hs.1.1
    by_cases h1 : R 2 1 = 1
    · rw [if_pos (e2.mpr h1), if_neg (fun q => uw_iff.mp q h1)]
      obtain ⟨b1, b2, b3⟩ := sS_rem (sS_ref (v := 0) hs)
      have h1' : f_X7_remember (up2 R 0 0 0) 2 1 = 1 := by rw [b2, up2_row (by decide)]; exact h1
      have b00 : f_X7_remember (up2 R 0 0 0) 0 0 = 0 := by rw [b3 0 (by decide)]; exact ref_00
      generalize f_X7_remember (up2 R 0 0 0) = N at *
      generalize f_X1_remember M 3 = L at *
      obtain ⟨a1, a2, a3, a4, a5⟩ := id b1
      obtain ⟨k1, k2⟩ := sG_tryDam (k := 2) trivial (by decide) (by decide) a5 a1.1 a1.2.1 a1.2.2 h1' hc
      have g1 := gR_damOn (k := 2) (by decide) hc a1.2.1 h1'
      have g2 := gD_damOn (k := 2) (by decide) hc a1.2.1 a1.2.2
      have f1 := fun (a : Nat) (q : a < 3 ∨ 3 + 10 ≤ a) (q2 : a < 23 ∨ 30 ≤ a ∨ a = 24) => fr_X0_tryDam L 3 (nI c) a q q2
      have f2 := fun (a : Nat) (q : a ≠ 2) (q2 : a ≠ 7) => fr_X7_damOn N 2 (nI c) a q q2
      generalize f_X0_tryDam L 3 (nI c) = A at *
      generalize f_X7_damOn N 2 (nI c) = B at *
      have f20 := f2 0 (by decide) (by decide)
      exact ⟨by rw [f20]; exact b00, Or.inl rfl, fun _ => k1, sS_act (fun a q1 q2 => f1 a (by omega) (by omega)) (fun a q1 q2 q3 q4 q5 => f2 a q2 q4) (by rw [f20]) (by rw [f20]) ⟨k2, g1, g2⟩ b1⟩
    · rw [if_neg (fun q => h1 (e2.mp q)), if_pos (uw_iff.mpr h1)]
      exact ⟨ref_00 (R := R), Or.inr (Or.inr rfl), fun q => absurd q (show ¬ (2 : Nat) = 0 by decide), sS_ref hs⟩
theorem gD_stepOn {R : bM} {k : Nat} {d : Int32} (hg : gR (R k)) (h : gD (R k)) : gD ((f_X7_stepOn R k d).2 k) := by
  by_cases hr : f_X7_reason R k d ≤ 0
  · obtain ⟨c, hc, ec, _, _⟩ := reason_ok hr
    obtain ⟨m, a, b, h0, h1, hm, n3, n2, n1, n14, n19, na, nb', _⟩ := gR_nums hg
    have hp : m % 2 < 2 := Nat.mod_lt m (by decide)
    have hl : ∃ a', a' ≤ 61 ∧ R k (14 + 5 * (m % 2)) = nI (a' + 1) := by
      rcases (by omega : m % 2 = 0 ∨ m % 2 = 1) with e | e <;> rw [e]
      · exact ⟨a, by omega, n14⟩
      · exact ⟨b, by omega, n19⟩
    obtain ⟨a', ha, hl'⟩ := hl
    obtain ⟨_, s2⟩ := step_ref (d := d) hp hc n2 hl' ha hr ec
    rw [s2]
    have hm11 : ∀ (r : Nat → Int32) (c : Nat), meetR r c 11 = r 11 ∧ meetR r c 16 = r 16 := fun r c => ⟨by simp [meetR], by simp [meetR]⟩
    have f11 : ∀ j, j = 11 ∨ j = 16 → flowsR (R k) (m % 2) c (a' + 1) j = R k j := fun j hj => flowsR_ne (by omega) (by omega) (by omega)
    unfold stepR
    split
    · refine gD_eq h ?_ ?_
      · rw [teR_ne (by decide) (by decide), (hm11 _ _).1, f11 11 (Or.inl rfl)]
      · rw [teR_ne (by decide) (by decide), (hm11 _ _).2, f11 16 (Or.inr rfl)]
    · refine gD_eq h ?_ ?_
      · rw [teR_ne (by decide) (by decide), paysR_ne (by omega) (by omega), f11 11 (Or.inl rfl)]
      · rw [teR_ne (by decide) (by decide), paysR_ne (by omega) (by omega), f11 16 (Or.inr rfl)]
  · rw [u_f_X7_stepOn]
    dsimp only
    rw [if_neg hr]
    dsimp only
    rw [up2_upd]
    exact gD_eq h (by unfold upd; rw [if_neg (by decide)]) (by unfold upd; rw [if_neg (by decide)])
theorem ok_step {M R : bM} {x1 : Int32} (hs : sS M R) : okF 1 2 (f_X6_step M x1) (f_X7_step R x1) := by
  rw [u_f_X6_step, u_f_X7_step]
  dsimp only
  rw [ref_e, ref_e, ref_e]
  have i1 := in_small (x := x1) (n := 2) (hi := 2) (by decide) (by decide)
  by_cases c1 : f_X6_isDirection x1 = 0
  · rw [if_pos c1, if_pos (Classical.byContradiction (fun q => isDir.mp c1 (i1.mp q)))]
    exact ⟨ref_00 (R := R), Or.inr (Or.inl rfl), fun q => absurd q (show ¬ (1 : Nat) = 0 by decide), sS_ref hs⟩
  · have hp : vp_in x1 3 := Classical.byContradiction (fun q => c1 (isDir.mpr q))
    rw [if_neg c1, if_neg (i1.mpr hp)]
    obtain ⟨j, hj, rfl⟩ := vp_in_of hp (by decide)
    have e2 := sG_over (k := 2) hs.1.1
    by_cases h1 : R 2 1 = 1
    · rw [if_pos (e2.mpr h1), if_neg (fun q => uw_iff.mp q h1)]
      obtain ⟨b1, b2, b3⟩ := sS_rem (sS_ref (v := 0) hs)
      have h1' : f_X7_remember (up2 R 0 0 0) 2 1 = 1 := by rw [b2, up2_row (by decide)]; exact h1
      have b00 : f_X7_remember (up2 R 0 0 0) 0 0 = 0 := by rw [b3 0 (by decide)]; exact ref_00
      generalize f_X7_remember (up2 R 0 0 0) = N at *
      generalize f_X1_remember M 3 = L at *
      obtain ⟨a1, a2, a3, a4, a5⟩ := id b1
      obtain ⟨k1, k2⟩ := sG_try (k := 2) trivial a1.1 a1.2.1 h1' hj
      have g1 := gR_stepOn (k := 2) (d := nI j) a1.2.1 h1'
      have g2 := gD_stepOn (k := 2) (d := nI j) a1.2.1 a1.2.2
      have f1 := fun (a : Nat) (q : a < 3 ∨ 3 + 10 ≤ a) => fr_X0_tryStep L 3 (nI j) a q
      have f2 := fun (a : Nat) (q : a ≠ 2) => fr_X7_stepOn N 2 (nI j) a q
      generalize f_X0_tryStep L 3 (nI j) = A at *
      generalize f_X7_stepOn N 2 (nI j) = B at *
      have f20 := f2 0 (by decide)
      exact ⟨by rw [f20]; exact b00, Or.inl rfl, fun _ => k1, sS_act (fun a q1 q2 => f1 a (by omega)) (fun a q1 q2 q3 q4 q5 => f2 a q2) (by rw [f20]) (by rw [f20]) ⟨k2, g1, g2⟩ b1⟩
    · rw [if_neg (fun q => h1 (e2.mp q)), if_pos (uw_iff.mpr h1)]
      exact ⟨ref_00 (R := R), Or.inr (Or.inr rfl), fun q => absurd q (show ¬ (2 : Nat) = 0 by decide), sS_ref hs⟩
theorem gD_gameOn {R : bM} {k : Nat} {s : Int64} : gD ((f_X7_gameOn R k s).2 k) := by
  rw [on_row.2]
  have h0 : vp_in 0 4 := vp_in_nI (n := 0) (by decide) (by decide)
  exact ⟨by rw [show newR (R k) s 11 = 0 by simp [newR]]; exact h0, by rw [show newR (R k) s 16 = 0 by simp [newR]]; exact h0⟩
