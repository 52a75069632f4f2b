/-! runScript and simulate -/
theorem cmp_z (a b : Int64) : lg_cmp a b = 0 ↔ a = b := by
  have p := cmp_pos a b
  have n := cmp_neg a b
  have e0 : (0 : Int32).toInt = 0 := by decide
  rw [Int32.lt_iff_toInt_lt, e0] at p n
  rw [← Int32.toInt_inj, ← Int64.toInt_inj, e0]
  omega
theorem wl_loop : ∀ (n i : Nat) (x : Int64) (X : Nat), x.toInt = (X : Int) → (lp_X6_withoutLastGroups_5 n i x).toInt = ((X / 10000 ^ n : Nat) : Int) := by
  intro n
  induction n with
  | zero => intro i x X h; rw [u0_lp_X6_withoutLastGroups_5, h, Nat.pow_zero, Nat.div_one]
  | succ n ih =>
    intro i x X h
    rw [u1_lp_X6_withoutLastGroups_5]
    dsimp only
    have e : (x / 10000).toInt = ((X / 10000 : Nat) : Int) := by
      rw [i64_div_toInt (by rw [h]; omega) (by decide), h, show (10000 : Int64).toInt = 10000 by decide]
      omega
    rw [ih (i + 1) _ _ e, Nat.div_div_eq_div_mul, Nat.pow_succ, Nat.mul_comm]
theorem grp_z {x : Int64} {N X : Nat} (hN : N ≤ 4) (h : x.toInt = (X : Int)) : f_X6_withoutLastGroups x (nI N) = 0 ↔ ¬ f_X7_in x 0 (pw N - 1) = 0 := by
  have e0 : (0 : Int64).toInt = 0 := by decide
  have hw := wl_loop N 0 x X h
  have hz : f_X6_withoutLastGroups x (nI N) = 0 ↔ X / 10000 ^ N = 0 := by
    rw [u_f_X6_withoutLastGroups, nI_clamp (by omega)]
    dsimp only
    rw [← Int64.toInt_inj, hw, e0]
    generalize X / 10000 ^ N = Y
    omega
  rw [hz, in_iff, h, e0]
  rcases (by omega : N = 0 ∨ N = 1 ∨ N = 2 ∨ N = 3 ∨ N = 4) with rfl | rfl | rfl | rfl | rfl
  · rw [show (pw 0 - 1).toInt = 0 by decide +kernel, show (10000 : Nat) ^ 0 = 1 by decide]; omega
  · rw [show (pw 1 - 1).toInt = 9999 by decide +kernel, show (10000 : Nat) ^ 1 = 10000 by decide]; omega
  · rw [show (pw 2 - 1).toInt = 99999999 by decide +kernel, show (10000 : Nat) ^ 2 = 100000000 by decide]; omega
  · rw [show (pw 3 - 1).toInt = 999999999999 by decide +kernel, show (10000 : Nat) ^ 3 = 1000000000000 by decide]; omega
  · rw [show (pw 4 - 1).toInt = 9999999999999999 by decide +kernel, show (10000 : Nat) ^ 4 = 10000000000000000 by decide]; omega
theorem trial_0 {M R : bM} (hs : sS M R) : tG True (f_X0_copyFrom M 13 3) (f_X7_copyState (up2 R 0 0 0) 2 404 0 3 404 0) 13 3 ∧ (∀ a, ¬ (13 ≤ a ∧ a < 23) → f_X0_copyFrom M 13 3 a = M a) ∧ (∀ a, a ≠ 3 → f_X7_copyState (up2 R 0 0 0) 2 404 0 3 404 0 a = up2 R 0 0 0 a) ∧ f_X7_copyState (up2 R 0 0 0) 2 404 0 3 404 0 3 0 = R 2 0 := by
  obtain ⟨a1, a2, a3, a4, a5⟩ := sS_ref (v := 0) hs
  have fr := fun k (hk : k < 13 ∨ 13 + 10 ≤ k) => fr_X0_copyFrom M 13 3 k hk
  have hc := goodS_copy (g := 13) (g1 := 3) (by omega) a1
  generalize f_X0_copyFrom M 13 3 = C at *
  have cs := fun j => cs_at (M := up2 R 0 0 0) (k1 := 2) (n1 := 404) (k3 := 3) (n3 := 404) (a := 0) (b := 0) (by decide) (by decide) (by decide) j
  have fR := fun k (hk : k ≠ 3) => fr_X7_copyState (up2 R 0 0 0) 2 404 0 3 404 0 k hk
  rw [show (nI 0 : Int32) = 0 from rfl] at cs
  generalize f_X7_copyState (up2 R 0 0 0) 2 404 0 3 404 0 = T at *
  have hg : goodS C 13 (T 3) := goodS_ext (fun j hj => by rw [cs, if_pos (by omega), Nat.zero_add, Nat.sub_zero]) hc
  exact ⟨⟨hg.1, hg.2.1, hg.2.2, besR_fr (fr 24 (by omega)) a5⟩, fun a q => fr a (by omega), fR, by rw [cs, if_pos (by omega), up2_row (show (2 : Nat) ≠ 0 by decide)]⟩
/-! simulate -/
theorem cAt_all : ∀ a b : Fin 8, f_X6_cellAt (nI a.val) (nI b.val) = nI (a.val + 8 * b.val) := by decide +kernel
theorem sim_turn {M R : bM} {r : Nat} (hr : r < 2 ^ 31) (t : tG True M R 13 3) :
    tG True (f_X6_simulateTurn M (nI r)) (f_X7_turnOf R 3 (nI r - nI r / 8 * 8) (nI r / 8)) 13 3 ∧ (¬ R 3 1 = 1 → f_X7_turnOf R 3 (nI r - nI r / 8 * 8) (nI r / 8) 3 4 = -1) := by
  rw [u_f_X6_simulateTurn, u_f_X7_turnOf]
  dsimp only
  have hov := sG_over (k := 3) t.1
  have huw := uw_iff (R := R) (k := 3)
  have hcf := sG_canFlood (k := 3) t.1 t.2.1
  rw [show (8 : Int32) = nI 8 from rfl, pk_rem hr (by decide) (by decide), pk_div hr (by decide) (by decide)]
  have hq : r / 8 < 2 ^ 31 := by omega
  generalize r / 8 = q at *
  by_cases c1 : R 3 1 = 1
  · rw [if_pos (hov.mpr c1), if_neg (fun z => huw.mp z c1)]
    by_cases c2 : f_X7_canStep R 3 = 0
    · rw [if_neg (hcf.mpr ⟨c1, c2⟩), if_pos c2]
      exact ⟨(tG_flood (by decide) t c1).1, fun z => absurd c1 z⟩
    · rw [if_pos (Classical.byContradiction (fun z => c2 (hcf.mp z).2)), if_neg c2]
      by_cases c3 : nI (r % 8) = 0
      · rw [if_pos c3, if_pos c3]
        have e1 := cAt_all ⟨q % 8, by omega⟩ ⟨q / 8 % 8, by omega⟩
        dsimp only at e1
        rw [pk_rem hq (by decide) (by decide), pk_div hq (by decide) (by decide), pk_rem (by omega) (by decide) (by decide), e1, pk_mul, nI_add]
        exact ⟨tG_tryDam (by decide) (by decide) t c1 (by omega), fun z => absurd c1 z⟩
      · rw [if_neg c3, if_neg c3]
        by_cases c4 : (5 : Int32) ≤ nI (r % 8)
        · have c4' := (nI_leI (a := 5) (by decide) (by omega)).mp c4
          rw [if_pos (show (4 : Int32) < nI (r % 8) from (nI_ltI (a := 4) (by decide) (by omega)).mpr (by omega)), if_pos c4]
          obtain ⟨b1, b2, b3⟩ := tG_best (k := 3) (g := 13) (by decide) (by decide) t
          obtain ⟨j, hj, e⟩ := best_any (by decide) c1 c2
          rw [b1, e]
          exact ⟨tG_try (by decide) b2 (by rw [b3]; exact c1) hj, fun z => absurd c1 z⟩
        · have c4' : ¬ 5 ≤ r % 8 := fun z => c4 ((nI_leI (a := 5) (by decide) (by omega)).mpr z)
          rw [if_neg (show ¬ (4 : Int32) < nI (r % 8) from fun z => by have := (nI_ltI (a := 4) (by decide) (by omega)).mp z; omega), if_neg c4, show (3 : Int32) = nI 3 from rfl, pk_rem hq (by decide) (by decide)]
          exact ⟨tG_try (by decide) t c1 (by omega), fun z => absurd c1 z⟩
  · rw [if_neg (fun z => c1 (hov.mp z)), if_pos (huw.mpr c1)]
    exact ⟨tG_new (by decide) t, fun _ => by rw [on_row.2]; simp [newR]⟩
theorem sim_loop : ∀ (n i : Nat) (x : Int64) (y : Int32) (M R : bM), tG True M R 13 3 →
    (lp_X6_simulate_52 n i x y M).2.1 = (lp_X7_simulate_48 n i y x R).1 ∧ tG True (lp_X6_simulate_52 n i x y M).2.2 (lp_X7_simulate_48 n i y x R).2.2 13 3 ∧
    (∀ a, (a < 13 ∨ 23 ≤ a) → (a < 23 ∨ 30 ≤ a ∨ a = 24) → (lp_X6_simulate_52 n i x y M).2.2 a = M a) ∧ (∀ a, a ≠ 3 → a ≠ 7 → (lp_X7_simulate_48 n i y x R).2.2 a = R a) := by
  intro n
  induction n with
  | zero =>
    intro i x y M R t
    rw [u0_lp_X6_simulate_52, u0_lp_X7_simulate_48]
    exact ⟨rfl, t, fun _ _ _ => rfl, fun _ _ _ => rfl⟩
  | succ n ih =>
    intro i x y M R t
    rw [u1_lp_X6_simulate_52, u1_lp_X7_simulate_48]
    dsimp only
    rw [u_f_X6_nextNumber, u_f_X6_drawnFrom]
    generalize (x * 6364136223846793005 + 1442695040888963407 : Int64) = x'
    obtain ⟨r, hr, e⟩ := drw_nI x'
    unfold drwI at e
    rw [e]
    obtain ⟨t', h4⟩ := sim_turn hr t
    have fA := fun a (q1 : a < 13 ∨ 23 ≤ a) (q2 : a < 23 ∨ 30 ≤ a ∨ a = 24) => fr_X6_simulateTurn M (nI r) a q1 q2
    have fB := fun a (q1 : a ≠ 3) (q2 : a ≠ 7) => fr_X7_turnOf R 3 (nI r - nI r / 8 * 8) (nI r / 8) a q1 q2
    generalize f_X6_simulateTurn M (nI r) = A at *
    generalize f_X7_turnOf R 3 (nI r - nI r / 8 * 8) (nI r / 8) = B at *
    have e8 : A 13 8 = B 3 4 := by rw [← gv_4 A 13]; exact (t'.1.1.1 4 (by decide) (by decide)).symm
    obtain ⟨m, hm, a, b, u, v, ⟨⟨n3, n2, n1, n4⟩, _⟩, _⟩ := id t'.2.1
    have go : ∀ z : Int32, (lp_X6_simulate_52 n (i + 1) x' z A).2.1 = (lp_X7_simulate_48 n (i + 1) z x' B).1 ∧ tG True (lp_X6_simulate_52 n (i + 1) x' z A).2.2 (lp_X7_simulate_48 n (i + 1) z x' B).2.2 13 3 ∧
      (∀ a, (a < 13 ∨ 23 ≤ a) → (a < 23 ∨ 30 ≤ a ∨ a = 24) → (lp_X6_simulate_52 n (i + 1) x' z A).2.2 a = M a) ∧ (∀ a, a ≠ 3 → a ≠ 7 → (lp_X7_simulate_48 n (i + 1) z x' B).2.2 a = R a) := fun z => by
      obtain ⟨i1, i2, i3, i4⟩ := ih (i + 1) x' z A B t'
      exact ⟨i1, i2, fun a q1 q2 => (i3 a q1 q2).trans (fA a q1 q2), fun a q1 q2 => (i4 a q1 q2).trans (fB a q1 q2)⟩
    rw [e8]
    by_cases c1 : R 3 1 = 1
    · rw [if_neg (fun z => uw_iff.mp z c1)]
      by_cases c2 : B 3 4 = -1
      · have h2 : ¬ B 3 1 = 2 := by
          rw [n1]; unfold phI; rw [if_pos c2]; split <;> decide
        rw [if_pos c2, if_neg h2, Int32.add_zero]
        exact go y
      · have h2 : B 3 1 = 2 := by
          rw [n1]; unfold phI; rw [if_neg c2]
        rw [if_neg c2, if_pos h2]
        exact go (y + 1)
    · rw [if_pos (uw_iff.mpr c1), if_pos (h4 c1), Int32.add_zero]
      exact go y
theorem ok_simulate {M R : bM} {x1 : Int64} {x2 : Int32} (hs : sS M R) : okF 1 9 (f_X6_simulate M x1 x2) (f_X7_simulate R x1 x2) := by
  rw [u_f_X6_simulate, u_f_X7_simulate]
  dsimp only
  rw [ref_e, ref_e]
  have i1 := in1_small (x := x2) (n := 200) (hi := 200) (by decide)
  have fail : okF 1 9 (1, 0, M) (0, up2 R 0 0 1) := ⟨ref_00 (R := R), Or.inr (Or.inl rfl), fun q => absurd q (show ¬ (1 : Nat) = 0 by decide), sS_ref hs⟩
  have hlt : x2 < 1 ↔ x2.toInt < 1 := by rw [Int32.lt_iff_toInt_lt, show (1 : Int32).toInt = 1 by decide]
  have hle : x2 ≤ 200 ↔ x2.toInt ≤ 200 := by rw [Int32.le_iff_toInt_le, show (200 : Int32).toInt = 200 by decide]
  by_cases c1 : f_X7_in x2.toInt64 1 200 = 0
  · rw [if_pos c1]
    by_cases d1 : x2 < 1
    · rw [if_pos d1]; exact fail
    · rw [if_neg d1, if_neg (fun d2 => i1.mpr ⟨by have : ¬ x2.toInt < 1 := fun z => d1 (hlt.mpr z); omega, hle.mp d2⟩ c1)]; exact fail
  · rw [if_neg c1]
    obtain ⟨b1, b2⟩ := i1.mp c1
    rw [if_neg (fun z => by have := hlt.mp z; omega), if_pos (hle.mpr b2)]
    obtain ⟨t, f1, f2, f3⟩ := trial_0 hs
    generalize f_X0_copyFrom M 13 3 = C at *
    generalize f_X7_copyState (up2 R 0 0 0) 2 404 0 3 404 0 = T at *
    have e5 : C 13 5 = R 2 0 := by rw [← f3, ← gv_0 C 13]; exact (t.1.1.1 0 (by decide) (by decide)).symm
    have l := sim_loop x2.toNatClampNeg 0 x1 0 C T t
    generalize lp_X6_simulate_52 x2.toNatClampNeg 0 x1 0 C = A at *
    generalize lp_X7_simulate_48 x2.toNatClampNeg 0 0 x1 T = B at *
    obtain ⟨l1, l2, l3, l4⟩ := l
    have hb0 : B.2.2 0 = up2 R 0 0 0 0 := (l4 0 (by decide) (by decide)).trans (f2 0 (by decide))
    have hb2 : B.2.2 2 = R 2 := (l4 2 (by decide) (by decide)).trans ((f2 2 (by decide)).trans (up2_row (by decide)))
    have hS : sS A.2.2 B.2.2 := sS_fr (fun a q1 q2 => (l3 a (by omega) (by omega)).trans (f1 a (by omega))) (fun a q1 q2 q3 q4 => (l4 a q2 q3).trans (f2 a q2)) (by rw [hb0]) (by rw [hb0]) (sS_ref (v := 0) hs)
    have h00 : B.2.2 0 0 = 0 := by rw [hb0]; exact ref_00
    have s0 := (side_fld (k := 3) (g := 13) (p := 0) l2.1 (by decide)).1
    have s1 := (side_fld (k := 3) (g := 13) (p := 1) l2.1 (by decide)).1
    have e6 : A.2.2 13 5 = B.2.2 3 0 := by rw [← gv_0 A.2.2 13]; exact (l2.1.1.1 0 (by decide) (by decide)).symm
    have o0 : f_X7_of B.2.2 3 0 4 = B.2.2 3 (10 + 5 * 0 + 4) := of_at (p := 0) (w := 4) (by decide) (by decide)
    have o1 : f_X7_of B.2.2 3 1 4 = B.2.2 3 (10 + 5 * 1 + 4) := of_at (p := 1) (w := 4) (by decide) (by decide)
    refine ⟨h00, Or.inl rfl, fun _ => ?_, hS⟩
    show (10000 : Int32) * (A.2.2 13 5 - C 13 5) + 100 * A.2.1 + (A.2.2 14 3 + A.2.2 18 3) = (10000 : Int32) * (B.2.2 3 0 - B.2.2 2 0) + 100 * B.1 + f_X7_of B.2.2 3 0 4 + f_X7_of B.2.2 3 1 4
    rw [o0, o1, ← s0, ← s1, e6, e5, hb2, l1]
    exact (Int32.add_assoc _ _ _).symm
