/-! THE RING and the diary: a state is remembered -/
theorem goodS_ext {M : bM} {g : Nat} {r r' : Nat → Int32} (h : ∀ j, j < 404 → r' j = r j) (hs : goodS M g r) : goodS M g r' := ⟨sG_ext h hs.1, gR_ext hs.2.1 h, gD_eq hs.2.2 (h 11 (by decide)) (h 16 (by decide))⟩
theorem goodS_copy {M : bM} {g g1 : Nat} {r : Nat → Int32} (hg : g + 10 ≤ g1 ∨ g1 + 10 ≤ g) (hs : goodS M g1 r) : goodS (f_X0_copyFrom M g g1) g r := ⟨sG_copy hg hs.1, hs.2⟩
theorem shift_loop {N : Nat} (hN : N ≤ 5252) : ∀ (n i : Nat) (M : bM), i + n = N → (∀ a, a ≠ 4 → lp_X7_remember_11 n i M a = M a) ∧ ∀ j, lp_X7_remember_11 n i M 4 j = if i ≤ j ∧ j < N then M 4 (j + 404) else M 4 j := by
  intro n
  induction n with
  | zero =>
    intro i M hi
    rw [u0_lp_X7_remember_11]
    exact ⟨fun _ _ => rfl, fun j => by rw [if_neg (by omega)]⟩
  | succ n ih =>
    intro i M hi
    rw [u1_lp_X7_remember_11]
    dsimp only
    rw [show nI i + 404 = nI (i + 404) from by rw [show (404 : Int32) = nI 404 from rfl, nI_add], nI_clamp (by omega)]
    obtain ⟨h1, h2⟩ := ih (i + 1) (up2 M 4 i (M 4 (i + 404))) (by omega)
    refine ⟨fun a ha => (h1 a ha).trans (up2_row ha), fun j => ?_⟩
    rw [h2, up2_at, up2_at]
    by_cases e : j = i
    · rw [if_neg (by omega), if_pos e, if_pos (by omega), e]
    · by_cases c : i + 1 ≤ j ∧ j < N
      · rw [if_pos c, if_neg (by omega), if_pos (by omega)]
      · rw [if_neg c, if_neg e, if_neg (by omega)]
theorem idx404 {n : Nat} : (404 : Int32) * nI n = nI (404 * n) := by rw [show (404 : Int32) = nI 404 from rfl, pk_mul]
/-- what the reference's diary holds after it remembers -/
theorem remR {R : bM} {n : Nat} (hn : n ≤ 14) (h6 : R 0 6 = nI n) :
    (∀ a, a ≠ 4 → a ≠ 0 → f_X7_remember R a = R a) ∧ (∀ j, j ≠ 6 → f_X7_remember R 0 j = R 0 j) ∧ f_X7_remember R 0 6 = nI (if n = 14 then 14 else n + 1) ∧
    (∀ i j, j < 404 → i < (if n = 14 then 14 else n + 1) → f_X7_remember R 4 (404 * i + j) = if i + 1 = (if n = 14 then 14 else n + 1) then R 2 j else if n = 14 then R 4 (404 * (i + 1) + j) else R 4 (404 * i + j)) := by
  have cs : ∀ (M : bM) (c : Nat), c ≤ 14 → ∀ j, f_X7_copyState M 2 404 0 4 5656 (nI (404 * c)) 4 j = if 404 * c ≤ j ∧ j < 404 * c + 404 then M 2 (j - 404 * c) else M 4 j := by
    intro M c hc j
    have := cs_at (M := M) (k1 := 2) (n1 := 404) (k3 := 4) (n3 := 5656) (a := 0) (b := 404 * c) (by decide) (by decide) (by omega) j
    rw [Nat.zero_add] at this
    exact this
  rw [u_f_X7_remember, h6]
  dsimp only
  by_cases c : n = 14
  · subst c
    rw [if_pos (show nI 14 = 14 from rfl), if_pos rfl]
    obtain ⟨s1, s2⟩ := shift_loop (N := 5252) (Nat.le_refl _) 5252 0 R rfl
    generalize lp_X7_remember_11 5252 0 R = S at *
    have e6 : S 0 6 - 1 = nI 13 := by rw [s1 0 (by decide), h6]; rfl
    rw [e6]
    have e0 : up2 S 0 6 (nI 13) 0 6 = nI 13 := by rw [up2_at, if_pos rfl]
    rw [e0, idx404]
    have fr := fun k (hk : k ≠ 4) => fr_X7_copyState (up2 S 0 6 (nI 13)) 2 404 0 4 5656 (nI (404 * 13)) k hk
    have cs' := cs (up2 S 0 6 (nI 13)) 13 (by decide)
    generalize f_X7_copyState (up2 S 0 6 (nI 13)) 2 404 0 4 5656 (nI (404 * 13)) = T at *
    refine ⟨fun a q1 q2 => (up2_row q2).trans ((fr a q1).trans ((up2_row q2).trans (s1 a q1))), fun j q => ?_, ?_, fun i j hj hi => ?_⟩
    · rw [up2_at, if_neg q, fr 0 (by decide), up2_at, if_neg q, s1 0 (by decide)]
    · rw [up2_at, if_pos rfl, fr 0 (by decide), e0]; rfl
    · rw [up2_row (show (4 : Nat) ≠ 0 by decide), cs', up2_row (show (2 : Nat) ≠ 0 by decide), up2_row (show (4 : Nat) ≠ 0 by decide), s1 2 (by decide)]
      by_cases e : i + 1 = 14
      · rw [if_pos e, if_pos (by omega), show 404 * i + j - 404 * 13 = j by omega]
      · rw [if_neg e, if_neg (by omega), s2, if_pos (by omega), show 404 * i + j + 404 = 404 * (i + 1) + j by omega, if_pos rfl]
  · rw [if_neg (show ¬ nI n = 14 from fun q => c (nI_inj (a := n) (b := 14) (by omega) (by decide) q)), if_neg c, idx404]
    have fr := fun k (hk : k ≠ 4) => fr_X7_copyState R 2 404 0 4 5656 (nI (404 * n)) k hk
    have cs' := cs R n hn
    generalize f_X7_copyState R 2 404 0 4 5656 (nI (404 * n)) = T at *
    refine ⟨fun a q1 q2 => (up2_row q2).trans (fr a q1), fun j q => ?_, ?_, fun i j hj hi => ?_⟩
    · rw [up2_at, if_neg q, fr 0 (by decide)]
    · rw [up2_at, if_pos rfl, fr 0 (by decide), h6, nI_1]
    · rw [up2_row (show (4 : Nat) ≠ 0 by decide), cs']
      by_cases e : i + 1 = n + 1
      · rw [if_pos e, if_pos (by omega), show 404 * i + j - 404 * n = j by omega]
      · rw [if_neg e, if_neg (by omega), if_neg c]
theorem stateAt_nI {M : bM} {x : Nat} (h : x < 14) : f_X1_stateAt M (nI x) = 32 + 10 * x := by
  rw [u_f_X1_stateAt, if_neg (nI_pos (by omega)), if_neg (show ¬ (14 : Int32) ≤ nI x from nI_ge (a := x) (b := 14) h (by decide)), nI_clamp (by omega)]
/-- both remember -/
theorem sS_rem {M R : bM} (hs : sS M R) : sS (f_X1_remember M 3) (f_X7_remember R) ∧ f_X7_remember R 2 = R 2 ∧ (∀ j, j ≠ 6 → f_X7_remember R 0 j = R 0 j) := by
  obtain ⟨a1, a2, ⟨x, n, hx, hn, e1, e2, e3, e4⟩, a4, a5⟩ := id hs
  obtain ⟨r1, r2, r3, r4⟩ := remR hn e3
  have r22 := r1 2 (by decide) (by decide)
  rw [u_f_X1_remember, e1, stateAt_nI hx]
  dsimp only
  have fr := fun k (hk : k < 32 + 10 * x ∨ 32 + 10 * x + 10 ≤ k) => fr_X0_copyFrom M (32 + 10 * x) 3 k hk
  have hc := goodS_copy (g := 32 + 10 * x) (g1 := 3) (by omega) a1
  generalize f_X0_copyFrom M (32 + 10 * x) 3 = C at *
  have c30 : C 30 = M 30 := fr 30 (by omega)
  have e14 : (C 30 1 + 1) - (C 30 1 + 1) / 14 * 14 = nI ((x + 1) % 14) := by
    rw [c30, e1, nI_1, show (14 : Int32) = nI 14 from rfl, pk_rem (by omega) (by decide) (by decide)]
  rw [e14]
  generalize hQ : (if 14 < ((up2 C 30 1 (nI ((x + 1) % 14)) 30 2) + 1) then 14 else ((up2 C 30 1 (nI ((x + 1) % 14)) 30 2) + 1)) = Q
  have hQ' : Q = nI (if n = 14 then 14 else n + 1) := by
    have e302 : up2 C 30 1 (nI ((x + 1) % 14)) 30 2 = nI n := by rw [up2_at, if_neg (show ¬ (2 : Nat) = 1 by decide), c30, e2]
    rw [← hQ, e302, nI_1]
    by_cases c : n = 14
    · rw [if_pos c, if_pos (show (14 : Int32) < nI (n + 1) from by rw [c]; decide)]; rfl
    · rw [if_neg c, if_neg (show ¬ (14 : Int32) < nI (n + 1) from fun q => by
        have := (nI_ltI (a := 14) (b := n + 1) (by decide) (by omega)).mp q; omega)]
  rw [hQ']
  have hrow : ∀ a, a ≠ 30 → up2 (up2 C 30 1 (nI ((x + 1) % 14))) 30 2 (nI (if n = 14 then 14 else n + 1)) a = C a := fun a q => (up2_row q).trans (up2_row q)
  generalize hF : up2 (up2 C 30 1 (nI ((x + 1) % 14))) 30 2 (nI (if n = 14 then 14 else n + 1)) = F at *
  refine ⟨⟨goodS_fr (fun a q1 q2 => (hrow a (by omega)).trans (fr a (by omega))) r22 a1, txS2_fr ((hrow 1 (by decide)).trans (fr 1 (by omega))) ((hrow 2 (by decide)).trans (fr 2 (by omega))) (r2 2 (by decide)) (r1 1 (by decide) (by decide)) a2, ⟨(x + 1) % 14, if n = 14 then 14 else n + 1, by omega, by split <;> omega, ?_, ?_, r3, fun i hi => ?_⟩, slS_fr (fun a q1 q2 => (hrow a (by omega)).trans (fr a (by omega))) (r1 5 (by decide) (by decide)) (r1 6 (by decide) (by decide)) a4, fun i hi => by rw [hrow 24 (by decide), fr 24 (by omega)]; exact a5 i hi⟩, r22, r2⟩
  · rw [← hF, up2_at, if_neg (by decide), up2_at, if_pos rfl]
  · rw [← hF, up2_at, if_pos rfl]
  · have r4' := fun j (hj : j < 404) => r4 i j hj hi
    by_cases e : i + 1 = (if n = 14 then 14 else n + 1)
    · have hpl : 32 + 10 * (((x + 1) % 14 + 14 - (if n = 14 then 14 else n + 1) + i) % 14) = 32 + 10 * x := by
        by_cases c : n = 14
        · rw [if_pos c] at e ⊢; omega
        · rw [if_neg c] at e ⊢; omega
      rw [hpl]
      refine goodS_ext (r := R 2) (fun j hj => by rw [r4' j hj, if_pos e]) (goodS_fr (fun a q1 q2 => hrow a (by omega)) rfl hc)
    · by_cases c : n = 14
      · rw [if_pos c] at e hi ⊢
        refine goodS_ext (fun j hj => by rw [r4' j hj, if_pos c, if_neg e, if_pos c]) (goodS_fr (M := M) (fun a q1 q2 => (hrow a (by omega)).trans (fr a (by omega))) rfl ?_)
        have := e4 (i + 1) (by omega)
        rw [show (x + 14 - n + (i + 1)) % 14 = ((x + 1) % 14 + 14 - 14 + i) % 14 by omega] at this
        exact this
      · rw [if_neg c] at e hi ⊢
        refine goodS_ext (fun j hj => by rw [r4' j hj, if_neg c, if_neg e, if_neg c]) (goodS_fr (M := M) (fun a q1 q2 => (hrow a (by omega)).trans (fr a (by omega))) rfl ?_)
        have := e4 i (by omega)
        rw [show (x + 14 - n + i) % 14 = ((x + 1) % 14 + 14 - (n + 1) + i) % 14 by omega] at this
        exact this
