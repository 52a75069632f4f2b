/-! game, undo, save, restore -/
theorem ok_game {M R : bM} {x1 : Int64} (hs : sS M R) : okP (f_X6_game M x1) (f_X7_game R x1) := by
  rw [u_f_X6_game, u_f_X7_game]
  dsimp only
  obtain ⟨b1, b2, b3⟩ := sS_rem (sS_ref (v := 0) hs)
  have b00 : f_X7_remember (up2 R 0 0 0) 0 0 = 0 := by rw [b3 0 (by decide)]; exact ref_00
  generalize f_X7_remember (up2 R 0 0 0) = N at *
  generalize f_X1_remember M 3 = L at *
  obtain ⟨a1, a2, a3, a4, a5⟩ := id b1
  obtain ⟨k1, k2, k3⟩ := sG_new (k := 2) (s := x1) a1.1
  have g1 := gR_gameOn (k := 2) (x := x1) a1.2.1
  have g2 := gD_gameOn (R := N) (k := 2) (s := x1)
  have f1 := fun (a : Nat) (q : a < 3 ∨ 3 + 10 ≤ a) => fr_X0_beginGame L 3 x1 a q
  have f2 := fun (a : Nat) (q : a ≠ 2) => fr_X7_gameOn N 2 x1 a q
  generalize f_X0_beginGame L 3 x1 = A at *
  generalize f_X7_gameOn N 2 x1 = B at *
  have f20 := f2 0 (by decide)
  exact ⟨by rw [f20]; exact b00, k2.trans k1.symm, sS_act (fun a q1 q2 => f1 a (by omega)) (fun a q1 q2 q3 q4 q5 => f2 a q2) (by rw [f20]) (by rw [f20]) ⟨k3, g1, g2⟩ b1⟩
theorem ok_undo {M R : bM} (hs : sS M R) : okF 2 9 (f_X6_undo M) (f_X7_undo R) := by
  rw [u_f_X6_undo, u_f_X7_undo]
  dsimp only
  rw [ref_e, ref_e]
  obtain ⟨a1, a2, ⟨x, n, hx, hn, e1, e2, e3, e4⟩, a4, a5⟩ := id hs
  rw [e2, e3]
  by_cases c : n = 0
  · subst c
    rw [if_neg (show ¬ (0 : Int32) < nI 0 by decide), if_pos (show nI 0 = 0 from rfl)]
    exact ⟨ref_00 (R := R), Or.inr (Or.inl rfl), fun q => absurd q (show ¬ (2 : Nat) = 0 by decide), sS_ref hs⟩
  · have e06 : up2 R 0 0 0 0 6 = nI n := by rw [up2_at, if_neg (by decide)]; exact e3
    have en1 : nI n - 1 = nI (n - 1) := by rw [show (1 : Int32) = nI 1 from rfl, pk_sub (by omega)]
    rw [if_pos (show (0 : Int32) < nI n from (nI_ltI (a := 0) (b := n) (by decide) (by omega)).mpr (by omega)), if_neg (show ¬ nI n = 0 from fun q => c (nI_inj (a := n) (b := 0) (by omega) (by decide) q)), e06, en1]
    have e06' : up2 (up2 R 0 0 0) 0 6 (nI (n - 1)) 0 6 = nI (n - 1) := by rw [up2_at, if_pos rfl]
    rw [e06', idx404, u_f_X1_takeBack]
    have ex : ((M 30 1 + 14) - 1) - (((M 30 1) + 14) - 1) / 14 * 14 = nI ((x + 13) % 14) := by
      rw [e1, show (14 : Int32) = nI 14 from rfl, nI_add, show (1 : Int32) = nI 1 from rfl, pk_sub (by omega), pk_rem (by omega) (by decide) (by decide), show x + 14 - 1 = x + 13 by omega]
    rw [ex]
    dsimp only
    rw [stateAt_nI (by omega), e2]
    rw [if_neg (show ¬ nI n ≤ 0 from nI_ge (a := 0) (b := n) (by omega) (by omega))]
    have hst := e4 (n - 1) (by omega)
    rw [show (x + 14 - n + (n - 1)) % 14 = (x + 13) % 14 by omega] at hst
    have fr := fun k (hk : k < 3 ∨ 3 + 10 ≤ k) => fr_X0_copyFrom M 3 (32 + 10 * ((x + 13) % 14)) k hk
    have hc := goodS_copy (g := 3) (g1 := 32 + 10 * ((x + 13) % 14)) (by omega) hst
    generalize f_X0_copyFrom M 3 (32 + 10 * ((x + 13) % 14)) = C at *
    have e302 : up2 C 30 1 (nI ((x + 13) % 14)) 30 2 = nI n := by rw [up2_at, if_neg (show ¬ (2 : Nat) = 1 by decide), fr 30 (by omega), e2]
    rw [e302, en1]
    have cs := fun j => cs_at (M := up2 (up2 R 0 0 0) 0 6 (nI (n - 1))) (k1 := 4) (n1 := 5656) (k3 := 2) (n3 := 404) (a := 404 * (n - 1)) (b := 0) (by decide) (by omega) (by decide) j
    have fR := fun k (hk : k ≠ 2) => fr_X7_copyState (up2 (up2 R 0 0 0) 0 6 (nI (n - 1))) 4 5656 (nI (404 * (n - 1))) 2 404 0 k hk
    rw [show (nI 0 : Int32) = 0 from rfl] at cs
    generalize f_X7_copyState (up2 (up2 R 0 0 0) 0 6 (nI (n - 1))) 4 5656 (nI (404 * (n - 1))) 2 404 0 = T at *
    have r0 : T 0 = up2 (up2 R 0 0 0) 0 6 (nI (n - 1)) 0 := fR 0 (by decide)
    have t00 : T 0 0 = 0 := by rw [r0, up2_at, if_neg (show ¬ (0 : Nat) = 6 by decide)]; exact ref_00
    have t06 : T 0 6 = nI (n - 1) := by rw [r0, up2_at, if_pos rfl]
    have t02 : T 0 2 = R 0 2 := by rw [r0, up2_at, if_neg (show ¬ (2 : Nat) = 6 by decide), up2_at, if_neg (show ¬ (2 : Nat) = 0 by decide)]
    have rr : ∀ a, a ≠ 0 → a ≠ 2 → T a = R a := fun a q q2 => (fR a q2).trans ((up2_row q).trans (up2_row q))
    have hrow : ∀ a, a ≠ 30 → up2 (up2 C 30 1 (nI ((x + 13) % 14))) 30 2 (nI (n - 1)) a = C a := fun a q => (up2_row q).trans (up2_row q)
    have hF1 : up2 (up2 C 30 1 (nI ((x + 13) % 14))) 30 2 (nI (n - 1)) 30 1 = nI ((x + 13) % 14) := by rw [up2_at, if_neg (by decide), up2_at, if_pos rfl]
    have hF2 : up2 (up2 C 30 1 (nI ((x + 13) % 14))) 30 2 (nI (n - 1)) 30 2 = nI (n - 1) := by rw [up2_at, if_pos rfl]
    generalize up2 (up2 C 30 1 (nI ((x + 13) % 14))) 30 2 (nI (n - 1)) = F at *
    suffices hS : sS F T from ⟨t00, Or.inl rfl, fun _ => hF2.trans t06.symm, hS⟩
    refine ⟨?_, ?_, ⟨(x + 13) % 14, n - 1, by omega, by omega, hF1, hF2, t06, fun i hi => ?_⟩, ?_, fun i hi => by rw [hrow 24 (by decide), fr 24 (by omega)]; exact a5 i hi⟩
    · refine goodS_fr (M := C) (fun a q1 q2 => hrow a (by omega)) rfl (goodS_ext (fun j hj => ?_) hc)
      rw [cs j, if_pos (by omega), up2_row (show (4 : Nat) ≠ 0 by decide), up2_row (show (4 : Nat) ≠ 0 by decide), Nat.sub_zero]
    · exact txS2_fr ((hrow 1 (by decide)).trans (fr 1 (by omega))) ((hrow 2 (by decide)).trans (fr 2 (by omega))) t02 (rr 1 (by decide) (by decide)) a2
    · have := e4 i (by omega)
      rw [show (x + 14 - n + i) % 14 = ((x + 13) % 14 + 14 - (n - 1) + i) % 14 by omega] at this
      exact goodS_fr (fun a q1 q2 => (hrow a (by omega)).trans (fr a (by omega))) (by rw [rr 4 (by decide) (by decide)]) this
    · exact slS_fr (fun a q1 q2 => (hrow a (by omega)).trans (fr a (by omega))) (rr 5 (by decide) (by decide)) (rr 6 (by decide) (by decide)) a4
