/-! THE STATE: the class's memory M and the reference's R say the same -/
abbrev goodS (M : bM) (g : Nat) (r : Nat → Int32) : Prop := sG True M g r ∧ gR r ∧ gD r
abbrev txS2 (M R : bM) : Prop := chOK M ∧ ∃ z, z ≤ 120 ∧ M 1 1 = nI z ∧ R 0 2 = nI z ∧ ∀ i, i < z → M 2 i = R 1 i ∧ vp_in (R 1 i) 256
abbrev hiS (M R : bM) : Prop := ∃ x n, x < 14 ∧ n ≤ 14 ∧ M 30 1 = nI x ∧ M 30 2 = nI n ∧ R 0 6 = nI n ∧ ∀ i, i < n → goodS M (32 + 10 * ((x + 14 - n + i) % 14)) (fun j => R 4 (404 * i + j))
abbrev slS (M R : bM) : Prop := ∀ s, s < 2 → M (172 + 11 * s) 1 = R 6 s ∧ bt (R 6 s) ∧ (¬ R 6 s = 0 → goodS M (173 + 11 * s) (fun j => R 5 (404 * s + j)))
abbrev sS (M R : bM) : Prop := goodS M 3 (R 2) ∧ txS2 M R ∧ hiS M R ∧ slS M R ∧ besR M
theorem goodS_fr {M N : bM} {g : Nat} {r r' : Nat → Int32} (h : ∀ x, g ≤ x → x < g + 10 → N x = M x) (e : r' = r) (hs : goodS M g r) : goodS N g r' := by
  rw [e]; exact ⟨sG_row h hs.1, hs.2⟩
theorem txS2_fr {M R M' R' : bM} (h1 : M' 1 = M 1) (h2 : M' 2 = M 2) (r0 : R' 0 2 = R 0 2) (r1 : R' 1 = R 1) (h : txS2 M R) : txS2 M' R' := by
  obtain ⟨hc, z, hz, e1, e2, e3⟩ := h
  refine ⟨fun j hj => by rw [h2]; exact hc j hj, z, hz, by rw [h1]; exact e1, by rw [r0]; exact e2, fun i hi => by rw [h2, r1]; exact e3 i hi⟩
theorem hiS_fr {M R M' R' : bM} (h : ∀ a, 30 ≤ a → a < 172 → M' a = M a) (r0 : R' 0 6 = R 0 6) (r4 : R' 4 = R 4) (hs : hiS M R) : hiS M' R' := by
  obtain ⟨x, n, hx, hn, e1, e2, e3, e4⟩ := hs
  refine ⟨x, n, hx, hn, by rw [h 30 (by decide) (by decide)]; exact e1, by rw [h 30 (by decide) (by decide)]; exact e2, by rw [r0]; exact e3, fun i hi => goodS_fr (fun a q1 q2 => h a (by omega) (by omega)) (by rw [r4]) (e4 i hi)⟩
theorem slS_fr {M R M' R' : bM} (h : ∀ a, 172 ≤ a → a < 194 → M' a = M a) (r5 : R' 5 = R 5) (r6 : R' 6 = R 6) (hs : slS M R) : slS M' R' := by
  intro s hs2
  obtain ⟨e1, e2, e3⟩ := hs s hs2
  refine ⟨by rw [h _ (by omega) (by omega), r6]; exact e1, by rw [r6]; exact e2, fun q => ?_⟩
  rw [r6] at q
  exact goodS_fr (fun a q1 q2 => h a (by omega) (by omega)) (by rw [r5]) (e3 q)
/-- a call that only reads -/
theorem sS_fr {M R M' R' : bM} (h : ∀ a, ¬ (13 ≤ a ∧ a < 24) → ¬ (25 ≤ a ∧ a < 30) → M' a = M a) (hr : ∀ a, a ≠ 0 → a ≠ 3 → a ≠ 7 → a ≠ 8 → R' a = R a) (r2 : R' 0 2 = R 0 2) (r6 : R' 0 6 = R 0 6) (hs : sS M R) : sS M' R' := by
  obtain ⟨a1, a2, a3, a4, a5⟩ := hs
  refine ⟨goodS_fr (fun a q1 q2 => h a (by omega) (by omega)) (hr 2 (by decide) (by decide) (by decide) (by decide)) a1, txS2_fr (h 1 (by omega) (by omega)) (h 2 (by omega) (by omega)) r2 (hr 1 (by decide) (by decide) (by decide) (by decide)) a2, hiS_fr (fun a q1 q2 => h a (by omega) (by omega)) r6 (hr 4 (by decide) (by decide) (by decide) (by decide)) a3, slS_fr (fun a q1 q2 => h a (by omega) (by omega)) (hr 5 (by decide) (by decide) (by decide) (by decide)) (hr 6 (by decide) (by decide) (by decide) (by decide)) a4, fun i hi => by rw [h 24 (by omega) (by omega)]; exact a5 i hi⟩
theorem sS_ref {M R : bM} {v : Int32} (hs : sS M R) : sS M (up2 R 0 0 v) :=
  sS_fr (fun _ _ _ => rfl) (fun a q _ _ _ => up2_row q) (by rw [up2_at, if_neg (by decide)]) (by rw [up2_at, if_neg (by decide)]) hs
/-- the place of an exception in a call's list -/
abbrev plc (a b : Nat) (en : Nat) : Int32 := if en = 0 then 0 else if en = a then 1 else if en = b then 2 else 3
abbrev okF (a b : Nat) (f : Nat × Int32 × bM) (h : Int32 × bM) : Prop := h.2 0 0 = plc a b f.1 ∧ (f.1 = 0 ∨ f.1 = a ∨ f.1 = b) ∧ (f.1 = 0 → f.2.1 = h.1) ∧ sS f.2.2 h.2
abbrev okP (f : Int32 × bM) (h : Int32 × bM) : Prop := h.2 0 0 = 0 ∧ f.1 = h.1 ∧ sS f.2 h.2
theorem ref_e {R : bM} {v : Int32} : (f_X7_refused R v).2 = up2 R 0 0 v := by
  rw [u_f_X7_refused]
  dsimp only
  split <;> rfl
theorem ref_at {R : bM} {v : Int32} {a : Nat} (h : a ≠ 0) : up2 R 0 0 v a = R a := up2_row h
theorem ref_00 {R : bM} {v : Int32} : up2 R 0 0 v 0 0 = v := by rw [up2_at, if_pos rfl]
/-- small ranges -/
theorem in_small {x : Int32} {n : Nat} {hi : Int64} (hh : hi.toInt = n) (hn : n < 2 ^ 30) : ¬ f_X7_in x.toInt64 0 hi = 0 ↔ vp_in x (n + 1) := by
  rw [in_iff, Int32.toInt_toInt64, show (0 : Int64).toInt = 0 by decide, hh, vp_in_iff]
  omega
theorem isPl {x : Int32} : f_X6_isPlayer x = 0 ↔ ¬ vp_in x 2 := by
  rw [u_f_X6_isPlayer]
  constructor
  · intro h q
    obtain ⟨i, hi, rfl⟩ := vp_in_of q (by decide)
    rcases (by omega : i = 0 ∨ i = 1) with rfl | rfl
    · exact absurd h (by decide)
    · exact absurd h (by decide)
  · intro h
    by_cases c1 : x = 0
    · exact absurd (by rw [c1]; exact vp_in_nI (n := 0) (by decide) (by decide)) h
    · rw [if_neg c1]
      by_cases c2 : x = 1
      · exact absurd (by rw [c2]; exact vp_in_nI (n := 1) (by decide) (by decide)) h
      · rw [if_neg c2]
/-- leastWished and best -/
theorem ok_least {M R : bM} (hs : sS M R) : okP (f_X6_leastWished M) (f_X7_leastWished R) := by
  obtain ⟨a1, _, _, _, a5⟩ := id hs
  obtain ⟨h1, h2, h3⟩ := sG_dear (by decide) a5 a1.1 a1.2.1
  have h0 := fun (a : Nat) (q : a < 23 ∨ 30 ≤ a ∨ a = 24) => fr_X5_dearestForBoth M 3 a q
  rw [u_f_X6_leastWished]
  generalize f_X5_dearestForBoth M 3 = A at *
  generalize f_X7_leastWished R = B at *
  refine ⟨by rw [h3]; rfl, h1, sS_fr (fun a q1 q2 => h0 a (by omega)) (fun a q1 _ q3 q4 => h2 a q1 q3 q4) (by rw [h3]; rfl) (by rw [h3]; rfl) hs⟩
theorem ok_best {M R : bM} (hs : sS M R) : okP (f_X6_best M) (f_X7_best R) := by
  have hs' := sS_ref (v := 0) hs
  obtain ⟨a1, _, _, _, a5⟩ := id hs'
  obtain ⟨h1, h2, h3⟩ := sG_best (k := 2) (by decide) (by decide) a5 a1.1 a1.2.1
  rw [u_f_X6_best, u_f_X7_best]
  dsimp only
  generalize f_X5_bestStep M 3 = A at *
  generalize f_X7_bestOf (up2 R 0 0 0) 2 = B at *
  refine ⟨by rw [h3 0 (by decide)]; exact ref_00, h1, sS_fr (fun a q1 q2 => h2 a (by omega) (by omega) (by omega)) (fun a q1 _ q3 q4 => h3 a q3) (by rw [h3 0 (by decide)]) (by rw [h3 0 (by decide)]) hs'⟩
/-- cheapest -/
theorem ok_cheapest {M R : bM} {x1 x2 : Int32} (hs : sS M R) : okF 3 1 (f_X6_cheapest M x1 x2) (f_X7_cheapest R x1 x2) := by
  rw [u_f_X6_cheapest, u_f_X7_cheapest]
  dsimp only
  rw [ref_e, ref_e, ref_e]
  have i1 := in_small (x := x1) (n := 1) (hi := 1) (by decide) (by decide)
  have i2 := in_small (x := x2) (n := 1) (hi := 1) (by decide) (by decide)
  by_cases c1 : f_X6_isPlayer x1 = 0
  · rw [if_pos c1, if_pos (Classical.byContradiction (fun q => isPl.mp c1 (i1.mp q)))]
    exact ⟨ref_00 (R := R), Or.inr (Or.inl rfl), fun q => absurd q (show ¬ (3 : Nat) = 0 by decide), sS_ref hs⟩
  · have hp : vp_in x1 2 := Classical.byContradiction (fun q => c1 (isPl.mpr q))
    rw [if_neg c1, if_neg (i1.mpr hp)]
    obtain ⟨p, hp2, rfl⟩ := vp_in_of hp (by decide)
    have hs' := sS_ref (v := 0) hs
    obtain ⟨a1, _, _, _, a5⟩ := id hs'
    have key := sG_cheap (p := p) (by decide) a5 a1.1 a1.2.1 hp2
    dsimp only at key
    rw [side_nI hp2]
    by_cases c2 : x2 = 0
    · rw [if_pos c2, if_neg (i2.mpr (by rw [c2]; exact vp_in_nI (n := 0) (by decide) (by decide))), if_pos c2]
      generalize f_X5_cheapestCellFirst _ _ _ = A at *
      generalize f_X5_cheapestByRounds _ _ _ = B at *
      generalize f_X7_cheapestFrom _ _ _ _ = C at *
      obtain ⟨k1, k2, k3, k4, k5⟩ := key
      have hS : sS A.2 C.2 := sS_fr (fun a q1 q2 => k3 a (by omega) (by omega) (by omega)) (fun a q1 _ q3 q4 => k5 a q3) (by rw [k5 0 (by decide)]) (by rw [k5 0 (by decide)]) hs'
      by_cases c3 : C.1 = 99999
      · rw [if_pos c3] at k1 ⊢
        exact ⟨by rw [k5 0 (by decide)]; exact ref_00, Or.inl rfl, fun _ => k1, hS⟩
      · rw [if_neg c3] at k1 ⊢
        exact ⟨by rw [k5 0 (by decide)]; exact ref_00, Or.inl rfl, fun _ => k1, hS⟩
    · rw [if_neg c2]
      by_cases c4 : x2 = 1
      · rw [if_pos c4, if_neg (i2.mpr (by rw [c4]; exact vp_in_nI (n := 1) (by decide) (by decide))), if_neg c2]
        generalize f_X5_cheapestCellFirst _ _ _ = A at *
        generalize f_X5_cheapestByRounds _ _ _ = B at *
        generalize f_X7_cheapestFrom _ _ _ _ = C at *
        obtain ⟨k1, k2, k3, k4, k5⟩ := key
        have hS : sS B.2 C.2 := sS_fr (fun a q1 q2 => k4 a (by omega) (by omega) (by omega)) (fun a q1 _ q3 q4 => k5 a q3) (by rw [k5 0 (by decide)]) (by rw [k5 0 (by decide)]) hs'
        by_cases c3 : C.1 = 99999
        · rw [if_pos c3] at k2 ⊢
          exact ⟨by rw [k5 0 (by decide)]; exact ref_00, Or.inl rfl, fun _ => k2, hS⟩
        · rw [if_neg c3] at k2 ⊢
          exact ⟨by rw [k5 0 (by decide)]; exact ref_00, Or.inl rfl, fun _ => k2, hS⟩
      · rw [if_neg c4, if_pos (Classical.byContradiction (fun q => by
          obtain ⟨i, hi, e⟩ := vp_in_of (i2.mp q) (by decide)
          rcases (by omega : i = 0 ∨ i = 1) with rfl | rfl
          · exact c2 e
          · exact c4 e))]
        exact ⟨ref_00 (R := R), Or.inr (Or.inr rfl), fun q => absurd q (show ¬ (1 : Nat) = 0 by decide), sS_ref hs⟩
/-! calls that read: setting, why, whyDam, meetsIn, about -/
theorem rd_ok {M R M' : bM} {R' : bM} {v : Int32} (h : ∀ a, ¬ (13 ≤ a ∧ a < 24) → ¬ (25 ≤ a ∧ a < 30) → M' a = M a) (hr : ∀ a, a ≠ 7 → R' a = up2 R 0 0 v a) (hs : sS M R) : sS M' R' ∧ R' 0 0 = v := by
  have e0 := hr 0 (by decide)
  exact ⟨sS_fr h (fun a q1 _ q3 _ => (hr a q3).trans (up2_row q1)) (by rw [e0, up2_at, if_neg (by decide)]) (by rw [e0, up2_at, if_neg (by decide)]) hs, by rw [e0]; exact ref_00⟩
theorem isDir {x : Int32} : f_X6_isDirection x = 0 ↔ ¬ vp_in x 3 := by
  rw [u_f_X6_isDirection]
  by_cases c1 : x < 0
  · rw [if_pos c1]
    refine ⟨fun _ q => ?_, fun _ => rfl⟩
    obtain ⟨i, hi, rfl⟩ := vp_in_of q (by decide)
    exact nI_pos (by omega) c1
  · rw [if_neg c1]
    by_cases c2 : 3 ≤ x
    · rw [if_pos c2]
      refine ⟨fun _ q => ?_, fun _ => rfl⟩
      obtain ⟨i, hi, rfl⟩ := vp_in_of q (by decide)
      exact nI_ge (a := i) (b := 3) hi (by decide) c2
    · rw [if_neg c2]
      refine ⟨fun q => absurd q (by decide), fun q => absurd (vp_in_iff.mpr ?_) q⟩
      have h1 : ¬ x.toInt < 0 := fun z => c1 (Int32.lt_iff_toInt_lt.mpr z)
      have h2 : ¬ (3 : Int32).toInt ≤ x.toInt := fun z => c2 (Int32.le_iff_toInt_le.mpr z)
      rw [show (3 : Int32).toInt = 3 by decide] at h2
      omega
theorem ok_setting {M R : bM} {x1 : Int32} (hs : sS M R) : okF 1 9 (f_X6_setting M x1) (f_X7_setting R x1) := by
  rw [u_f_X6_setting, u_f_X7_setting, u_f_X0_settingOf]
  dsimp only
  rw [ref_e, ref_e]
  have i1 := in_small (x := x1) (n := 1) (hi := 1) (by decide) (by decide)
  obtain ⟨a1, _⟩ := id hs
  by_cases c1 : x1 = 0
  · subst c1
    rw [if_pos rfl, if_neg (i1.mpr (vp_in_nI (n := 0) (by decide) (by decide))), if_pos rfl]
    refine ⟨ref_00 (R := R), Or.inl rfl, fun _ => ?_, sS_ref hs⟩
    show M 3 3 = up2 R 0 0 0 2 8
    rw [up2_row (by decide), ← gv_8 M 3]; exact (a1.1.1.1 8 (by decide) (by decide)).symm
  · rw [if_neg c1]
    by_cases c2 : x1 = 1
    · subst c2
      rw [if_pos rfl, if_neg (i1.mpr (vp_in_nI (n := 1) (by decide) (by decide))), if_neg (by decide)]
      refine ⟨ref_00 (R := R), Or.inl rfl, fun _ => ?_, sS_ref hs⟩
      show M 3 4 = up2 R 0 0 0 2 9
      rw [up2_row (by decide), ← gv_9 M 3]; exact (a1.1.1.1 9 (by decide) (by decide)).symm
    · rw [if_neg c2, if_pos (Classical.byContradiction (fun q => by
        obtain ⟨i, hi, e⟩ := vp_in_of (i1.mp q) (by decide)
        rcases (by omega : i = 0 ∨ i = 1) with rfl | rfl
        · exact c1 e
        · exact c2 e))]
      exact ⟨ref_00 (R := R), Or.inr (Or.inl rfl), fun q => absurd q (show ¬ (1 : Nat) = 0 by decide), sS_ref hs⟩
theorem ok_why {M R : bM} {x1 : Int32} (hs : sS M R) : okF 1 9 (f_X6_why M x1) (f_X7_why R x1) := by
  rw [u_f_X6_why, u_f_X7_why]
  dsimp only
  rw [ref_e, ref_e]
  have i1 := in_small (x := x1) (n := 2) (hi := 2) (by decide) (by decide)
  by_cases c1 : f_X6_isDirection x1 = 0
  · rw [if_pos c1, if_pos (Classical.byContradiction (fun q => isDir.mp c1 (i1.mp q)))]
    exact ⟨ref_00 (R := R), Or.inr (Or.inl rfl), fun q => absurd q (show ¬ (1 : Nat) = 0 by decide), sS_ref hs⟩
  · have hp : vp_in x1 3 := Classical.byContradiction (fun q => c1 (isDir.mpr q))
    have hs' := sS_ref (v := 0) hs
    obtain ⟨a1, _⟩ := id hs'
    obtain ⟨j, hj, rfl⟩ := vp_in_of hp (by decide)
    rw [if_neg c1, if_neg (i1.mpr hp)]
    have e1 := sG_reason (k := 2) a1.1 a1.2.1 hj
    have e2 := sG_over (k := 2) a1.1
    by_cases h1 : up2 R 0 0 0 2 1 = 1
    · rw [if_pos (e2.mpr h1), if_neg (fun q => uw_iff.mp q h1)]
      exact ⟨ref_00 (R := R), Or.inl rfl, fun _ => e1, hs'⟩
    · rw [if_neg (fun q => h1 (e2.mp q)), if_pos (uw_iff.mpr h1)]
      exact ⟨ref_00 (R := R), Or.inl rfl, fun _ => rfl, hs'⟩
theorem cellAt_eq {x y : Int32} : f_X6_cellAt x y = if f_X7_isCell x y = 0 then -1 else (8 : Int32) * y + x := by
  have i1 := in_small (x := x) (n := 7) (hi := 7) (by decide) (by decide)
  have i2 := in_small (x := y) (n := 7) (hi := 7) (by decide) (by decide)
  have h8 : ∀ z : Int32, vp_in z 8 ↔ ¬ z < 0 ∧ ¬ 8 ≤ z := by
    intro z
    rw [vp_in_iff, Int32.lt_iff_toInt_lt, Int32.le_iff_toInt_le, show (8 : Int32).toInt = 8 by decide, show (0 : Int32).toInt = 0 by decide]
    omega
  rw [u_f_X6_cellAt, u_f_X7_isCell]
  dsimp only
  by_cases c1 : vp_in x 8
  · rw [if_neg ((h8 x).mp c1).1, if_neg ((h8 x).mp c1).2, if_neg (i1.mpr c1)]
    by_cases c2 : vp_in y 8
    · have h9 : y < 8 := by
        rw [Int32.lt_iff_toInt_lt, show (8 : Int32).toInt = 8 by decide]
        have := vp_in_iff.mp c2
        omega
      rw [if_neg ((h8 y).mp c2).1, if_pos h9, if_neg (i2.mpr c2), if_neg (by decide)]
    · rw [if_pos (show f_X7_in y.toInt64 0 7 = 0 from Classical.byContradiction (fun q => c2 (i2.mp q))), if_pos rfl]
      by_cases c3 : y < 0
      · rw [if_pos c3]
      · rw [if_neg c3, if_neg (fun q => c2 ((h8 y).mpr ⟨c3, fun z => Int32.lt_irrefl (Int32.lt_of_lt_of_le q z)⟩))]
  · rw [if_pos (show f_X7_in x.toInt64 0 7 = 0 from Classical.byContradiction (fun q => c1 (i1.mp q))), if_pos rfl]
    by_cases c3 : x < 0
    · rw [if_pos c3]
    · rw [if_neg c3, if_pos (Classical.byContradiction (fun z => c1 ((h8 x).mpr ⟨c3, z⟩)))]
theorem cell_nI {x y : Int32} (h : ¬ f_X7_isCell x y = 0) : ∃ c, c < 64 ∧ (8 : Int32) * y + x = nI c := vp_in_of (cell_in h) (by decide)
theorem ok_whyDam {M R : bM} {x1 x2 : Int32} (hs : sS M R) : okF 3 9 (f_X6_whyDam M x1 x2) (f_X7_whyDam R x1 x2) := by
  rw [u_f_X6_whyDam, u_f_X7_whyDam]
  dsimp only
  rw [ref_e, ref_e, cellAt_eq]
  by_cases c1 : f_X7_isCell x1 x2 = 0
  · rw [if_pos c1, if_pos rfl, if_pos c1]
    exact ⟨ref_00 (R := R), Or.inr (Or.inl rfl), fun q => absurd q (show ¬ (3 : Nat) = 0 by decide), sS_ref hs⟩
  · obtain ⟨c, hc, e⟩ := cell_nI c1
    rw [if_neg c1, e, if_neg (nI_ne_m1 (by omega)), if_neg c1]
    have hs' := sS_ref (v := 0) hs
    obtain ⟨a1, _, _, _, a5⟩ := id hs'
    have e2 := sG_over (k := 2) a1.1
    by_cases h1 : up2 R 0 0 0 2 1 = 1
    · rw [if_pos (e2.mpr h1), if_neg (fun q => uw_iff.mp q h1)]
      obtain ⟨k1, k2⟩ := sG_damReason (k := 2) (by decide) (by decide) a5 a1.1 a1.2.1 a1.2.2 h1 hc
      obtain ⟨k3, _⟩ := damReason_row (M := up2 R 0 0 0) (k := 2) (by decide) hc
      have k4 : ∀ a, a ≠ 7 → (f_X7_damReason (up2 R 0 0 0) 2 (nI c)).2 a = up2 R 0 0 0 a := fun a q => by
        by_cases e : a = 2
        · rw [e]; exact k3
        · exact fr_X7_damReason (up2 R 0 0 0) 2 (nI c) a e q
      generalize f_X0_reasonAgainstDam M 3 (nI c) = A at *
      generalize f_X7_damReason (up2 R 0 0 0) 2 (nI c) = B at *
      obtain ⟨g1, g2⟩ := rd_ok (v := 0) (M' := A.2) (R' := B.2) (fun a q1 q2 => k2 a (by omega) (by omega) (by omega) (by omega)) k4 hs
      exact ⟨g2, Or.inl rfl, fun _ => k1, g1⟩
    · rw [if_neg (fun q => h1 (e2.mp q)), if_pos (uw_iff.mpr h1)]
      exact ⟨ref_00 (R := R), Or.inl rfl, fun _ => rfl, hs'⟩
theorem ok_meetsIn {M R : bM} {x1 : Int32} (hs : sS M R) : okF 3 9 (f_X6_meetsIn M x1) (f_X7_meetsIn R x1) := by
  rw [u_f_X6_meetsIn, u_f_X7_meetsIn]
  dsimp only
  rw [ref_e, ref_e]
  have i1 := in_small (x := x1) (n := 1) (hi := 1) (by decide) (by decide)
  by_cases c1 : f_X6_isPlayer x1 = 0
  · rw [if_pos c1, if_pos (Classical.byContradiction (fun q => isPl.mp c1 (i1.mp q)))]
    exact ⟨ref_00 (R := R), Or.inr (Or.inl rfl), fun q => absurd q (show ¬ (3 : Nat) = 0 by decide), sS_ref hs⟩
  · have hp : vp_in x1 2 := Classical.byContradiction (fun q => c1 (isPl.mpr q))
    rw [if_neg c1, if_neg (i1.mpr hp)]
    obtain ⟨p, hp2, rfl⟩ := vp_in_of hp (by decide)
    have hs' := sS_ref (v := 0) hs
    obtain ⟨a1, _, _, _, a5⟩ := id hs'
    have e8 : M 3 8 = up2 R 0 0 0 2 4 := by rw [← gv_4 M 3]; exact (a1.1.1.1 4 (by decide) (by decide)).symm
    obtain ⟨m, hm, a, b, x, y, ⟨⟨n3, n2, n1, n4⟩, _⟩, _⟩ := id a1.2.1
    by_cases h4 : up2 R 0 0 0 2 4 = -1
    · have h2 : ¬ up2 R 0 0 0 2 1 = 2 := by
        rw [n1]; unfold phI; rw [if_pos h4]; split <;> decide
      rw [e8, if_pos h4, if_neg h2]
      have key := sG_meets (p := p) (by decide) a5 a1.1 a1.2.1 hp2 h4
      have h0 := fun (a : Nat) (q : a < 23 ∨ 30 ≤ a ∨ a = 24) => fr_X5_stepsToMeet M 3 (nI p) a q
      generalize f_X5_stepsToMeet M 3 (nI p) = A at *
      generalize lp_X7_meetsIn_76 (nI p) 64 0 (lp_X7_meetsIn_38 (nI p) 64 0 (up2 R 0 0 0)) = B at *
      obtain ⟨k1, k2⟩ := key
      obtain ⟨g1, g2⟩ := rd_ok (v := 0) (M' := A.2) (R' := B.2.2) (fun a q1 q2 => h0 a (by omega)) (fun a q => k2 a q) hs
      by_cases c3 : B.1 = true
      · rw [if_pos c3] at k1 ⊢
        exact ⟨g2, Or.inl rfl, fun _ => k1, g1⟩
      · rw [if_neg c3] at k1 ⊢
        exact ⟨g2, Or.inl rfl, fun _ => k1, g1⟩
    · have h2 : up2 R 0 0 0 2 1 = 2 := by
        rw [n1]; unfold phI; rw [if_neg h4]
      rw [e8, if_neg h4, if_pos h2]
      exact ⟨ref_00 (R := R), Or.inl rfl, fun _ => rfl, hs'⟩
theorem dams_loop {M R : bM} {g : Nat} (h : ∀ c, c < 64 → M (g + 9) c = R 2 (148 + c)) : ∀ (n i : Nat) (x : Int32), i + n = 64 → lp_X0_countDams_4 M g n i x = lp_X7_about_30 R n i x := by
  intro n
  induction n with
  | zero => intro i x hi; rw [u0_lp_X0_countDams_4, u0_lp_X7_about_30]
  | succ n ih =>
    intro i x hi
    have hi64 : i < 64 := by omega
    rw [u1_lp_X0_countDams_4, u1_lp_X7_about_30]
    dsimp only
    by_cases c1 : M (g + 9) i = -1
    · rw [if_pos c1, if_pos ((isDam_iff hi64).mpr (by rw [← h i hi64]; exact c1)), show x + 0 = x from Int32.add_zero x]
      exact ih (i + 1) x (by omega)
    · rw [if_neg c1, if_neg (fun q => c1 (by rw [h i hi64]; exact (isDam_iff hi64).mp q))]
      exact ih (i + 1) (x + 1) (by omega)
theorem ok_about {M R : bM} {x1 : Int32} (hs : sS M R) : okF 1 9 (f_X6_about M x1) (f_X7_about R x1) := by
  rw [u_f_X6_about, u_f_X7_about]
  dsimp only
  rw [ref_e, ref_e]
  have i1 := in_small (x := x1) (n := 8) (hi := 8) (by decide) (by decide)
  by_cases hp : vp_in x1 9
  · rw [if_neg (i1.mpr hp)]
    have hs' := sS_ref (v := 0) hs
    obtain ⟨a1, _, _, _, a5⟩ := id hs'
    have q := fun j hj hn => (a1.1.1.1 j hj hn).symm
    have q6 := (a1.1.1.2.1 trivial).symm
    have hov := sG_over (k := 2) a1.1
    have hph := sG_phase (k := 2) a1.1
    have hdm := dams_loop (M := M) (R := up2 R 0 0 0) (g := 3) (fun c hc => sG_dam (k := 2) a1.1 hc) 64 0 0 rfl
    obtain ⟨i, hi, rfl⟩ := vp_in_of hp (by decide)
    have fin : ∀ a b : Int32, a = b → okF 1 9 (0, a, M) (b, up2 R 0 0 0) := fun a b e => ⟨ref_00 (R := R), Or.inl rfl, fun _ => e, hs'⟩
    rcases (by omega : i = 0 ∨ i = 1 ∨ i = 2 ∨ i = 3 ∨ i = 4 ∨ i = 5 ∨ i = 6 ∨ i = 7 ∨ i = 8) with rfl | rfl | rfl | rfl | rfl | rfl | rfl | rfl | rfl
    · repeat rw [if_pos (show nI 0 = 0 from rfl)]
      repeat rw [if_neg (show ¬ nI 0 = 1 by decide)]
      repeat rw [if_neg (show ¬ nI 0 = 2 by decide)]
      repeat rw [if_neg (show ¬ nI 0 = 3 by decide)]
      repeat rw [if_neg (show ¬ nI 0 = 4 by decide)]
      repeat rw [if_neg (show ¬ nI 0 = 5 by decide)]
      repeat rw [if_neg (show ¬ nI 0 = 6 by decide)]
      repeat rw [if_neg (show ¬ nI 0 = 7 by decide)]
      repeat rw [if_neg (show ¬ nI 0 = 8 by decide)]
      exact fin _ _ ((gv_0 M 3).symm.trans (q 0 (by decide) (by decide)))
    · repeat rw [if_neg (show ¬ nI 1 = 0 by decide)]
      repeat rw [if_pos (show nI 1 = 1 from rfl)]
      repeat rw [if_neg (show ¬ nI 1 = 2 by decide)]
      repeat rw [if_neg (show ¬ nI 1 = 3 by decide)]
      repeat rw [if_neg (show ¬ nI 1 = 4 by decide)]
      repeat rw [if_neg (show ¬ nI 1 = 5 by decide)]
      repeat rw [if_neg (show ¬ nI 1 = 6 by decide)]
      repeat rw [if_neg (show ¬ nI 1 = 7 by decide)]
      repeat rw [if_neg (show ¬ nI 1 = 8 by decide)]
      exact fin _ _ hph
    · repeat rw [if_neg (show ¬ nI 2 = 0 by decide)]
      repeat rw [if_neg (show ¬ nI 2 = 1 by decide)]
      repeat rw [if_pos (show nI 2 = 2 from rfl)]
      repeat rw [if_neg (show ¬ nI 2 = 3 by decide)]
      repeat rw [if_neg (show ¬ nI 2 = 4 by decide)]
      repeat rw [if_neg (show ¬ nI 2 = 5 by decide)]
      repeat rw [if_neg (show ¬ nI 2 = 6 by decide)]
      repeat rw [if_neg (show ¬ nI 2 = 7 by decide)]
      repeat rw [if_neg (show ¬ nI 2 = 8 by decide)]
      by_cases h1 : up2 R 0 0 0 2 1 = 1
      · rw [if_pos (hov.mpr h1), if_neg (fun z => uw_iff.mp z h1)]
        exact fin _ _ ((gv_2 M 3).symm.trans (q 2 (by decide) (by decide)))
      · rw [if_neg (fun z => h1 (hov.mp z)), if_pos (uw_iff.mpr h1)]
        exact fin _ _ rfl
    · repeat rw [if_neg (show ¬ nI 3 = 0 by decide)]
      repeat rw [if_neg (show ¬ nI 3 = 1 by decide)]
      repeat rw [if_neg (show ¬ nI 3 = 2 by decide)]
      repeat rw [if_pos (show nI 3 = 3 from rfl)]
      repeat rw [if_neg (show ¬ nI 3 = 4 by decide)]
      repeat rw [if_neg (show ¬ nI 3 = 5 by decide)]
      repeat rw [if_neg (show ¬ nI 3 = 6 by decide)]
      repeat rw [if_neg (show ¬ nI 3 = 7 by decide)]
      repeat rw [if_neg (show ¬ nI 3 = 8 by decide)]
      exact fin _ _ ((gv_3 M 3).symm.trans (q 3 (by decide) (by decide)))
    · repeat rw [if_neg (show ¬ nI 4 = 0 by decide)]
      repeat rw [if_neg (show ¬ nI 4 = 1 by decide)]
      repeat rw [if_neg (show ¬ nI 4 = 2 by decide)]
      repeat rw [if_neg (show ¬ nI 4 = 3 by decide)]
      repeat rw [if_pos (show nI 4 = 4 from rfl)]
      repeat rw [if_neg (show ¬ nI 4 = 5 by decide)]
      repeat rw [if_neg (show ¬ nI 4 = 6 by decide)]
      repeat rw [if_neg (show ¬ nI 4 = 7 by decide)]
      repeat rw [if_neg (show ¬ nI 4 = 8 by decide)]
      rw [u_f_X0_countDams]
      exact fin _ _ hdm
    · repeat rw [if_neg (show ¬ nI 5 = 0 by decide)]
      repeat rw [if_neg (show ¬ nI 5 = 1 by decide)]
      repeat rw [if_neg (show ¬ nI 5 = 2 by decide)]
      repeat rw [if_neg (show ¬ nI 5 = 3 by decide)]
      repeat rw [if_neg (show ¬ nI 5 = 4 by decide)]
      repeat rw [if_pos (show nI 5 = 5 from rfl)]
      repeat rw [if_neg (show ¬ nI 5 = 6 by decide)]
      repeat rw [if_neg (show ¬ nI 5 = 7 by decide)]
      repeat rw [if_neg (show ¬ nI 5 = 8 by decide)]
      exact fin _ _ ((gv_4 M 3).symm.trans (q 4 (by decide) (by decide)))
    · repeat rw [if_neg (show ¬ nI 6 = 0 by decide)]
      repeat rw [if_neg (show ¬ nI 6 = 1 by decide)]
      repeat rw [if_neg (show ¬ nI 6 = 2 by decide)]
      repeat rw [if_neg (show ¬ nI 6 = 3 by decide)]
      repeat rw [if_neg (show ¬ nI 6 = 4 by decide)]
      repeat rw [if_neg (show ¬ nI 6 = 5 by decide)]
      repeat rw [if_pos (show nI 6 = 6 from rfl)]
      repeat rw [if_neg (show ¬ nI 6 = 7 by decide)]
      repeat rw [if_neg (show ¬ nI 6 = 8 by decide)]
      exact fin _ _ ((gv_5 M 3).symm.trans (q 5 (by decide) (by decide)))
    · repeat rw [if_neg (show ¬ nI 7 = 0 by decide)]
      repeat rw [if_neg (show ¬ nI 7 = 1 by decide)]
      repeat rw [if_neg (show ¬ nI 7 = 2 by decide)]
      repeat rw [if_neg (show ¬ nI 7 = 3 by decide)]
      repeat rw [if_neg (show ¬ nI 7 = 4 by decide)]
      repeat rw [if_neg (show ¬ nI 7 = 5 by decide)]
      repeat rw [if_neg (show ¬ nI 7 = 6 by decide)]
      repeat rw [if_pos (show nI 7 = 7 from rfl)]
      repeat rw [if_neg (show ¬ nI 7 = 8 by decide)]
      exact fin _ _ ((gv_6 M 3).symm.trans q6)
    · repeat rw [if_neg (show ¬ nI 8 = 0 by decide)]
      repeat rw [if_neg (show ¬ nI 8 = 1 by decide)]
      repeat rw [if_neg (show ¬ nI 8 = 2 by decide)]
      repeat rw [if_neg (show ¬ nI 8 = 3 by decide)]
      repeat rw [if_neg (show ¬ nI 8 = 4 by decide)]
      repeat rw [if_neg (show ¬ nI 8 = 5 by decide)]
      repeat rw [if_neg (show ¬ nI 8 = 6 by decide)]
      repeat rw [if_neg (show ¬ nI 8 = 7 by decide)]
      repeat rw [if_pos (show nI 8 = 8 from rfl)]
      exact fin _ _ ((gv_7 M 3).symm.trans (q 7 (by decide) (by decide)))
  · rw [if_pos (show f_X7_in x1.toInt64 0 8 = 0 from Classical.byContradiction (fun z => hp (i1.mp z)))]
    have hn : ∀ i : Nat, i < 9 → ¬ x1 = nI i := fun i hi e => hp (by rw [e]; exact vp_in_nI hi (by decide))
    rw [if_neg (show ¬ x1 = 0 from hn 0 (by decide)), if_neg (show ¬ x1 = 1 from hn 1 (by decide)), if_neg (show ¬ x1 = 2 from hn 2 (by decide)), if_neg (show ¬ x1 = 3 from hn 3 (by decide)), if_neg (show ¬ x1 = 4 from hn 4 (by decide)), if_neg (show ¬ x1 = 5 from hn 5 (by decide)), if_neg (show ¬ x1 = 6 from hn 6 (by decide)), if_neg (show ¬ x1 = 7 from hn 7 (by decide)), if_neg (show ¬ x1 = 8 from hn 8 (by decide))]
    exact ⟨ref_00 (R := R), Or.inr (Or.inl rfl), fun q => absurd q (show ¬ (1 : Nat) = 0 by decide), sS_ref hs⟩
/-! playerOf, course, cellOf -/
theorem g0_fld {M R : bM} {p : Nat} (hs : goodS M 3 (R 2)) (hp : p < 2) : M (4 + 4 * p) 3 = R 2 (10 + 5 * p + 4) ∧ M (4 + 4 * p) 4 = R 2 (10 + 5 * p + 0) ∧ M (4 + 4 * p) 5 = R 2 (10 + 5 * p + 1) ∧ M (4 + 4 * p) 6 = R 2 (10 + 5 * p + 2) ∧ M (4 + 4 * p) 7 = R 2 (10 + 5 * p + 3) := by
  have q := fun j hj hn => (hs.1.1.1 j hj hn).symm
  rcases (by omega : p = 0 ∨ p = 1) with rfl | rfl
  · exact ⟨(gv_14 M 3).symm.trans (q 14 (by decide) (by decide)), (gv_10 M 3).symm.trans (q 10 (by decide) (by decide)), (gv_11 M 3).symm.trans (q 11 (by decide) (by decide)), (gv_12 M 3).symm.trans (q 12 (by decide) (by decide)), (gv_13 M 3).symm.trans (q 13 (by decide) (by decide))⟩
  · exact ⟨(gv_19 M 3).symm.trans (q 19 (by decide) (by decide)), (gv_15 M 3).symm.trans (q 15 (by decide) (by decide)), (gv_16 M 3).symm.trans (q 16 (by decide) (by decide)), (gv_17 M 3).symm.trans (q 17 (by decide) (by decide)), (gv_18 M 3).symm.trans (q 18 (by decide) (by decide))⟩
theorem ok_playerOf {M R : bM} {x1 x2 : Int32} (hs : sS M R) : okF 3 1 (f_X6_playerOf M x1 x2) (f_X7_playerOf R x1 x2) := by
  rw [u_f_X6_playerOf, u_f_X7_playerOf]
  dsimp only
  rw [ref_e, ref_e, ref_e]
  have i1 := in_small (x := x1) (n := 1) (hi := 1) (by decide) (by decide)
  have i2 := in_small (x := x2) (n := 5) (hi := 5) (by decide) (by decide)
  by_cases c1 : f_X6_isPlayer x1 = 0
  · rw [if_pos c1, if_pos (Classical.byContradiction (fun q => isPl.mp c1 (i1.mp q)))]
    exact ⟨ref_00 (R := R), Or.inr (Or.inl rfl), fun q => absurd q (show ¬ (3 : Nat) = 0 by decide), sS_ref hs⟩
  · have hp : vp_in x1 2 := Classical.byContradiction (fun q => c1 (isPl.mpr q))
    rw [if_neg c1, if_neg (i1.mpr hp)]
    obtain ⟨p, hp2, rfl⟩ := vp_in_of hp (by decide)
    have hs' := sS_ref (v := 0) hs
    obtain ⟨a1, _, _, _, a5⟩ := id hs'
    obtain ⟨f4, f0, f1, f2, f3⟩ := g0_fld a1 hp2
    obtain ⟨h0, h1, g0, g1, e0, e1, k0, k1⟩ := heads a1.1 a1.2.1
    have hh : f_X2_head M (4 + 4 * p) = f_X7_head (up2 R 0 0 0) 2 (nI p) := by
      rcases (by omega : p = 0 ∨ p = 1) with rfl | rfl
      · exact e0.trans k0.symm
      · exact e1.trans k1.symm
    have fin : ∀ a b : Int32, a = b → okF 3 1 (0, a, M) (b, up2 R 0 0 0) := fun a b e => ⟨ref_00 (R := R), Or.inl rfl, fun _ => e, hs'⟩
    rw [side_nI hp2, show 3 + 1 + 4 * p = 4 + 4 * p by omega]
    have o4 : f_X7_of (up2 R 0 0 0) 2 (nI p) 4 = up2 R 0 0 0 2 (10 + 5 * p + 4) := of_at (w := 4) hp2 (by decide)
    have o3 : f_X7_of (up2 R 0 0 0) 2 (nI p) 3 = up2 R 0 0 0 2 (10 + 5 * p + 3) := of_at (w := 3) hp2 (by decide)
    by_cases hx : vp_in x2 6
    · rw [if_neg (i2.mpr hx)]
      obtain ⟨i, hi, rfl⟩ := vp_in_of hx (by decide)
      rcases (by omega : i = 0 ∨ i = 1 ∨ i = 2 ∨ i = 3 ∨ i = 4 ∨ i = 5) with rfl | rfl | rfl | rfl | rfl | rfl
      · repeat rw [if_pos (show nI 0 = 0 from rfl)]
        repeat rw [if_neg (show ¬ nI 0 = 1 by decide)]
        repeat rw [if_neg (show ¬ nI 0 = 2 by decide)]
        repeat rw [if_neg (show ¬ nI 0 = 3 by decide)]
        repeat rw [if_neg (show ¬ nI 0 = 4 by decide)]
        repeat rw [if_neg (show ¬ nI 0 = 5 by decide)]
        rw [o4]
        exact fin _ _ f4
      · repeat rw [if_neg (show ¬ nI 1 = 0 by decide)]
        repeat rw [if_pos (show nI 1 = 1 from rfl)]
        repeat rw [if_neg (show ¬ nI 1 = 2 by decide)]
        repeat rw [if_neg (show ¬ nI 1 = 3 by decide)]
        repeat rw [if_neg (show ¬ nI 1 = 4 by decide)]
        repeat rw [if_neg (show ¬ nI 1 = 5 by decide)]
        exact fin _ _ hh
      · repeat rw [if_neg (show ¬ nI 2 = 0 by decide)]
        repeat rw [if_neg (show ¬ nI 2 = 1 by decide)]
        repeat rw [if_pos (show nI 2 = 2 from rfl)]
        repeat rw [if_neg (show ¬ nI 2 = 3 by decide)]
        repeat rw [if_neg (show ¬ nI 2 = 4 by decide)]
        repeat rw [if_neg (show ¬ nI 2 = 5 by decide)]
        rw [show f_X7_of (up2 R 0 0 0) 2 (nI p) (nI 2 - 2) = up2 R 0 0 0 2 (10 + 5 * p + 0) from of_at (w := 0) hp2 (by decide)]
        exact fin _ _ f0
      · repeat rw [if_neg (show ¬ nI 3 = 0 by decide)]
        repeat rw [if_neg (show ¬ nI 3 = 1 by decide)]
        repeat rw [if_neg (show ¬ nI 3 = 2 by decide)]
        repeat rw [if_pos (show nI 3 = 3 from rfl)]
        repeat rw [if_neg (show ¬ nI 3 = 4 by decide)]
        repeat rw [if_neg (show ¬ nI 3 = 5 by decide)]
        rw [show f_X7_of (up2 R 0 0 0) 2 (nI p) (nI 3 - 2) = up2 R 0 0 0 2 (10 + 5 * p + 1) from of_at (w := 1) hp2 (by decide)]
        exact fin _ _ f1
      · repeat rw [if_neg (show ¬ nI 4 = 0 by decide)]
        repeat rw [if_neg (show ¬ nI 4 = 1 by decide)]
        repeat rw [if_neg (show ¬ nI 4 = 2 by decide)]
        repeat rw [if_neg (show ¬ nI 4 = 3 by decide)]
        repeat rw [if_pos (show nI 4 = 4 from rfl)]
        repeat rw [if_neg (show ¬ nI 4 = 5 by decide)]
        rw [show f_X7_of (up2 R 0 0 0) 2 (nI p) (nI 4 - 2) = up2 R 0 0 0 2 (10 + 5 * p + 2) from of_at (w := 2) hp2 (by decide)]
        exact fin _ _ f2
      · repeat rw [if_neg (show ¬ nI 5 = 0 by decide)]
        repeat rw [if_neg (show ¬ nI 5 = 1 by decide)]
        repeat rw [if_neg (show ¬ nI 5 = 2 by decide)]
        repeat rw [if_neg (show ¬ nI 5 = 3 by decide)]
        repeat rw [if_neg (show ¬ nI 5 = 4 by decide)]
        repeat rw [if_pos (show nI 5 = 5 from rfl)]
        rw [o3]
        exact fin _ _ f3
    · rw [if_pos (show f_X7_in x2.toInt64 0 5 = 0 from Classical.byContradiction (fun z => hx (i2.mp z)))]
      have hn : ∀ i : Nat, i < 6 → ¬ x2 = nI i := fun i hi e => hx (by rw [e]; exact vp_in_nI hi (by decide))
      rw [if_neg (show ¬ x2 = 0 from hn 0 (by decide)), if_neg (show ¬ x2 = 1 from hn 1 (by decide)), if_neg (show ¬ x2 = 2 from hn 2 (by decide)), if_neg (show ¬ x2 = 3 from hn 3 (by decide)), if_neg (show ¬ x2 = 4 from hn 4 (by decide)), if_neg (show ¬ x2 = 5 from hn 5 (by decide))]
      exact ⟨ref_00 (R := R), Or.inr (Or.inr rfl), fun q => absurd q (show ¬ (1 : Nat) = 0 by decide), sS_ref hs⟩
theorem ok_course {M R : bM} {x1 x2 : Int32} (hs : sS M R) : okF 3 9 (f_X6_course M x1 x2) (f_X7_course R x1 x2) := by
  rw [u_f_X6_course, u_f_X7_course]
  dsimp only
  rw [ref_e, ref_e]
  have i1 := in_small (x := x1) (n := 1) (hi := 1) (by decide) (by decide)
  by_cases c1 : f_X6_isPlayer x1 = 0
  · rw [if_pos c1, if_pos (Classical.byContradiction (fun q => isPl.mp c1 (i1.mp q)))]
    exact ⟨ref_00 (R := R), Or.inr (Or.inl rfl), fun q => absurd q (show ¬ (3 : Nat) = 0 by decide), sS_ref hs⟩
  · have hp : vp_in x1 2 := Classical.byContradiction (fun q => c1 (isPl.mpr q))
    rw [if_neg c1, if_neg (i1.mpr hp)]
    obtain ⟨p, hp2, rfl⟩ := vp_in_of hp (by decide)
    obtain ⟨a1, _, _, _, a5⟩ := id hs
    obtain ⟨f4, _⟩ := g0_fld a1 hp2
    have hand : nI p &&& 1 = nI p := by rcases (by omega : p = 0 ∨ p = 1) with rfl | rfl <;> decide
    have o4 : f_X7_of R 2 (nI p) 4 = R 2 (10 + 5 * p + 4) := of_at (w := 4) hp2 (by decide)
    obtain ⟨m, hm, a, b, x, y, ⟨_, ⟨n14, n19, na, nb'⟩, _⟩, ⟨cA, cB, _⟩, _⟩ := id a1.2.1
    have hl : ∃ a', a' ≤ 62 ∧ R 2 (10 + 5 * p + 4) = nI (a' + 1) ∧ ∀ i, i ≤ a' → M (4 + 4 * p + 2) i = R 2 (276 + 64 * p + i) ∧ vp_in (R 2 (276 + 64 * p + i)) 64 := by
      rcases (by omega : p = 0 ∨ p = 1) with rfl | rfl
      · refine ⟨a, by omega, n14, fun i hi => ⟨?_, by rw [show 276 + 64 * 0 + i = 276 + i by omega]; exact cA i hi⟩⟩
        have := a1.1.1.2.2.1 a (by omega) n14 i hi
        rw [show 276 + 64 * 0 + i = 276 + i by omega, this, gv_p0 (show i < 64 by omega)]
      · refine ⟨b, by omega, n19, fun i hi => ⟨?_, by rw [show 276 + 64 * 1 + i = 340 + i by omega]; exact cB i hi⟩⟩
        have := a1.1.1.2.2.2 b (by omega) n19 i hi
        rw [show 276 + 64 * 1 + i = 340 + i by omega, this, gv_p1 (show i < 64 by omega)]
    obtain ⟨a', h62, hlen, hc⟩ := hl
    rw [hand, o4, hlen, side_nI hp2, show 3 + 1 + 4 * p = 4 + 4 * p by omega, u_f_X2_placeAt, f4, hlen, show nI (a' + 1) - 1 = nI a' from by rw [show (1 : Int32) = nI 1 from rfl, pk_sub (by omega)]; rfl]
    dsimp only
    have i2 := in_small (x := x2) (n := a') (hi := (nI a').toInt64) (by rw [Int32.toInt_toInt64, nI_toInt (by omega)]) (by omega)
    by_cases hx : vp_in x2 (a' + 1)
    · rw [if_neg (i2.mpr hx)]
      obtain ⟨i, hi, rfl⟩ := vp_in_of hx (by omega)
      rw [if_neg (show ¬ nI (a' + 1) ≤ nI i from nI_ge hi (by omega)), fits_nI (by omega), if_neg (show ¬ (1 : Int32) = 0 by decide), nI_clamp (by omega), idx276 hp2 (by omega)]
      obtain ⟨q1, q2⟩ := hc i (by omega)
      obtain ⟨c, hc64, e⟩ := vp_in_of q2 (by decide)
      rw [q1, e, if_neg (nI_ne_m1 (by omega)), up2_row (show (2 : Nat) ≠ 0 by decide), e]
      exact ⟨ref_00 (R := R), Or.inl rfl, fun _ => rfl, sS_ref hs⟩
    · rw [if_pos (show f_X7_in x2.toInt64 0 (nI a').toInt64 = 0 from Classical.byContradiction (fun z => hx (i2.mp z)))]
      have hm1 : (if nI (a' + 1) ≤ x2 then (-1 : Int32) else if f_X6_fits x2 = 0 then -1 else M (4 + 4 * p + 2) x2.toNatClampNeg) = -1 := by
        by_cases d1 : nI (a' + 1) ≤ x2
        · rw [if_pos d1]
        · rw [if_neg d1]
          by_cases d2 : f_X6_fits x2 = 0
          · rw [if_pos d2]
          · exfalso
            obtain ⟨i, hi, rfl⟩ := vp_in_of (fits_in d2) (by decide)
            apply hx
            refine vp_in_nI ?_ (by omega)
            rcases Nat.lt_or_ge i (a' + 1) with z | z
            · exact z
            · exact absurd (nI_le z (by omega)) d1
      rw [hm1, if_pos rfl]
      exact ⟨ref_00 (R := R), Or.inr (Or.inl rfl), fun q => absurd q (show ¬ (3 : Nat) = 0 by decide), sS_ref hs⟩
