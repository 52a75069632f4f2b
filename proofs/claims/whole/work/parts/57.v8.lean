/-! ROUNDS of the class, and the reference's cheapest -/
theorem cnt_of_none {p : Nat → Bool} {n : Nat} (h : ∀ i, i < n → ¬ p i = true) : cnt p n = 0 := by
  induction n with
  | zero => rfl
  | succ n ih =>
    show cnt p n + (if p n = true then 1 else 0) = 0
    rw [ih (fun i hi => h i (by omega)), if_neg (h n (by omega))]
theorem all_stay {op : Nat → Prop} {w : Nat → Nat} {s : Nat} {D : Nat → Option Nat} {f f' : Nat → Int32} (hD : wayD (edg op) w s D) (hl : lowT f f') (hs : tabI op w s f') (h : ∀ c, c < 64 → D c = toC f c) : ∀ c, c < 64 → D c = toC f' c := by
  intro c hc
  rcases hd : D c with _ | u
  · rcases hz : toC f' c with _ | y
    · rfl
    · obtain ⟨m, hp⟩ := hs.s.2 c y hz
      obtain ⟨u, q1, _⟩ := wayD_le hD m c y hp
      rw [hd] at q1; exact absurd q1 (by simp)
  · exact (right_stays hD hl hs ((h c hc).symm.trans hd) hd).symm
theorem round_loop {op : Nat → Prop} {w : Nat → Nat} {s k : Nat} {O : Nat → Int32} (hk : k < 23) (hw : ∀ c, w c ≤ 9) : ∀ (n i : Nat) (x : Int32) (M : bM), i + n = 64 → besR M → (∀ c, c < 64 → (op c ↔ ¬ M 25 c = 0)) → (∀ c, c < 64 → M k c = nI (w c)) → tabI op w s (M 26) → lowT O (M 26) → (x = 0 → M 26 = O) → (∀ b c u, b < i → toC O b = some u → edg op b c → ∃ v, toC (M 26) c = some v ∧ v ≤ u + w c) →
    (∀ a, a ≠ 26 → (lp_X5_cheapestByRounds_26 k n i x M).2 a = M a) ∧ tabI op w s ((lp_X5_cheapestByRounds_26 k n i x M).2 26) ∧ lowT O ((lp_X5_cheapestByRounds_26 k n i x M).2 26) ∧ ((lp_X5_cheapestByRounds_26 k n i x M).1 = 0 → (lp_X5_cheapestByRounds_26 k n i x M).2 26 = O) ∧
    (∀ b c u, b < 64 → toC O b = some u → edg op b c → ∃ v, toC ((lp_X5_cheapestByRounds_26 k n i x M).2 26) c = some v ∧ v ≤ u + w c) := by
  intro n
  induction n with
  | zero =>
    intro i x M hi _ _ _ h hl hx hd
    rw [u0_lp_X5_cheapestByRounds_26]
    rw [show i = 64 by omega] at hd
    exact ⟨fun _ _ => rfl, h, hl, hx, hd⟩
  | succ n ih =>
    intro i x M hi hbs ho hwk h hl hx hd
    have hi64 : i < 64 := by omega
    rw [u1_lp_X5_cheapestByRounds_26]
    dsimp only
    by_cases c1 : M 26 i = -1
    · rw [if_pos c1]
      refine ih (i + 1) x M (by omega) hbs ho hwk h hl hx (fun b c u hb hu he => ?_)
      by_cases e : b = i
      · rw [e] at hu
        obtain ⟨v, q1, _⟩ := hl i u hu
        rw [(toC_none hi64).mpr c1] at q1; exact absurd q1 (by simp)
      · exact hd b c u (by omega) hu he
    · rw [if_neg c1]
      obtain ⟨u1, hu1, hu9⟩ := tabC_le h.t hi64 c1
      obtain ⟨g1, g2, g3, g4, g5⟩ := cheapen_ok hk hi64 hw hbs ho hwk h (toC_at hi64 (by omega) hu1)
      generalize f_X5_cheapenBeside M k (nI i) = Z at *
      have go : ∀ y : Int32, (y = 0 → Z.2 26 = O) → (∀ a, a ≠ 26 → (lp_X5_cheapestByRounds_26 k n (i + 1) y Z.2).2 a = M a) ∧ tabI op w s ((lp_X5_cheapestByRounds_26 k n (i + 1) y Z.2).2 26) ∧ lowT O ((lp_X5_cheapestByRounds_26 k n (i + 1) y Z.2).2 26) ∧ ((lp_X5_cheapestByRounds_26 k n (i + 1) y Z.2).1 = 0 → (lp_X5_cheapestByRounds_26 k n (i + 1) y Z.2).2 26 = O) ∧
          (∀ b c u, b < 64 → toC O b = some u → edg op b c → ∃ v, toC ((lp_X5_cheapestByRounds_26 k n (i + 1) y Z.2).2 26) c = some v ∧ v ≤ u + w c) := by
        intro y hy
        obtain ⟨f1, f2⟩ := ih (i + 1) y Z.2 (by omega) (fun j hj => by rw [g1 24 (by decide)]; exact hbs j hj) (fun c hc => by rw [g1 25 (by decide)]; exact ho c hc) (fun c hc => by rw [g1 k (by omega)]; exact hwk c hc) g2 (lowT_tr hl g3) hy (fun b c u hb hu he => by
          by_cases e : b = i
          · rw [e] at hu he
            obtain ⟨v, q1, q2⟩ := hl i u hu
            rw [toC_at hi64 (by omega) hu1] at q1
            have := Option.some.inj q1
            obtain ⟨y', q3, q4⟩ := g5 c he
            exact ⟨y', q3, by omega⟩
          · obtain ⟨v, q1, q2⟩ := hd b c u (by omega) hu he
            obtain ⟨y', q3, q4⟩ := g3 c v q1
            exact ⟨y', q3, by omega⟩)
        exact ⟨fun a ha => (f1 a ha).trans (g1 a ha), f2⟩
      by_cases c2 : Z.1 = 0
      · rw [if_pos c2]
        exact go x (fun q => by rw [g4 c2]; exact hx q)
      · rw [if_neg c2]
        exact go 1 (fun q => absurd q (by decide))
theorem rounds_all {op : Nat → Prop} {w : Nat → Nat} {s k : Nat} {D : Nat → Option Nat} (hk : k < 23) (hs : s < 64) (hw : ∀ c, w c ≤ 9) (hD : wayD (edg op) w s D) : ∀ (n i : Nat) (x : Int32) (M : bM), besR M → (∀ c, c < 64 → (op c ↔ ¬ M 25 c = 0)) → (∀ c, c < 64 → M k c = nI (w c)) → tabI op w s (M 26) → (x = 0 → ∀ c, c < 64 → D c = toC (M 26) c) → cnt (neD D (toC (M 26))) 64 ≤ n →
    (∀ a, a ≠ 26 → (lp_X5_cheapestByRounds_10 k n i x M).2 a = M a) ∧ tabI op w s ((lp_X5_cheapestByRounds_10 k n i x M).2 26) ∧ ∀ c, c < 64 → D c = toC ((lp_X5_cheapestByRounds_10 k n i x M).2 26) c := by
  intro n
  induction n with
  | zero =>
    intro i x M _ _ _ h hx hc
    rw [u0_lp_X5_cheapestByRounds_10]
    refine ⟨fun _ _ => rfl, h, fun c hc' => ?_⟩
    have := cnt_zero (p := neD D (toC (M 26))) (n := 64) (by omega) c hc'
    exact Classical.byContradiction (fun z => this (decide_eq_true z))
  | succ n ih =>
    intro i x M hbs ho hwk h hx hc
    rw [u1_lp_X5_cheapestByRounds_10]
    dsimp only
    by_cases c1 : x = 0
    · rw [if_pos c1]
      exact ⟨fun _ _ => rfl, h, hx c1⟩
    · rw [if_neg c1]
      obtain ⟨g1, g2, g3, g4, g5⟩ := round_loop (O := M 26) hk hw 64 0 0 M rfl hbs ho hwk h lowT_rf (fun _ => rfl) (fun b c u hb => absurd hb (Nat.not_lt_zero b))
      generalize lp_X5_cheapestByRounds_26 k 64 0 0 M = Z at *
      have hr : ∀ b c u, toC (M 26) b = some u → edg op b c → ∃ v, toC (Z.2 26) c = some v ∧ v ≤ u + w c := fun b c u q1 q2 => g5 b c u ((toC_some h.t).mp q1).1 q1 q2
      obtain ⟨f1, f2, f3⟩ := ih (i + 1) Z.1 Z.2 (fun j hj => by rw [g1 24 (by decide)]; exact hbs j hj) (fun c hc => by rw [g1 25 (by decide)]; exact ho c hc) (fun c hc => by rw [g1 k (by omega)]; exact hwk c hc) g2 (fun q c _ => (rnd_stop hD h.s (fun c => by rw [g4 q]) hr c).symm) (by
        by_cases hal : ∀ c, c < 64 → D c = toC (M 26) c
        · have hz := all_stay hD g3 g2 hal
          rw [cnt_of_none (fun i hi q => (of_decide_eq_true q : ¬ D i = toC (Z.2 26) i) (hz i hi))]
          exact Nat.zero_le _
        · obtain ⟨c, hc', hne⟩ : ∃ c, c < 64 ∧ ¬ D c = toC (M 26) c := Classical.byContradiction (fun z => hal (fun c hc => Classical.byContradiction (fun y => z ⟨c, hc, y⟩)))
          have := rnd_dec hD h.s g2.s (fun _ _ q => q.1) hs g3 hr hc' hne
          omega)
      exact ⟨fun a ha => (f1 a ha).trans (g1 a ha), f2, f3⟩
theorem last_loop {M : bM} (ht : tabC (M 26)) : ∀ (n i : Nat) (x : Int32), i + n = 64 → 56 ≤ i → ((x = -1 ∧ ∀ c, 56 ≤ c → c < i → M 26 c = -1) ∨ ∃ v c, x = nI v ∧ v ≤ 567 ∧ 56 ≤ c ∧ c < 64 ∧ M 26 c = nI v ∧ ∀ c' v', 56 ≤ c' → c' < i → v' ≤ 567 → M 26 c' = nI v' → v ≤ v') →
    ∃ o, minL (toC (M 26)) o ∧ lp_X5_cheapestByRounds_75 M n i x = ansC o ∧ ∀ v, o = some v → v ≤ 567 := by
  intro n
  induction n with
  | zero =>
    intro i x hi h56 h
    rw [u0_lp_X5_cheapestByRounds_75]
    rw [show i = 64 by omega] at h
    rcases h with ⟨h1, h2⟩ | ⟨v, c, h1, h2, h3, h4, h5, h6⟩
    · exact ⟨none, Or.inl ⟨rfl, fun c q1 q2 => (toC_none q2).mpr (h2 c q1 q2)⟩, h1, fun v q => absurd q (by simp)⟩
    · exact ⟨some v, Or.inr ⟨v, c, rfl, h3, h4, (toC_some ht).mpr ⟨h4, h5, h2⟩, fun c' v' q1 q2 q3 => by obtain ⟨r1, r2, r3⟩ := (toC_some ht).mp q3; exact h6 c' v' q1 q2 r3 r2⟩, h1, fun v' q => by rw [← Option.some.inj q]; exact h2⟩
  | succ n ih =>
    intro i x hi h56 h
    have hi64 : i < 64 := by omega
    rw [u1_lp_X5_cheapestByRounds_75]
    dsimp only
    by_cases c1 : M 26 i = -1
    · rw [if_pos c1]
      refine ih (i + 1) x (by omega) (by omega) ?_
      rcases h with ⟨h1, h2⟩ | ⟨v, c, h1, h2, h3, h4, h5, h6⟩
      · refine Or.inl ⟨h1, fun c q1 q2 => ?_⟩
        by_cases e : c = i
        · rw [e]; exact c1
        · exact h2 c q1 (by omega)
      · refine Or.inr ⟨v, c, h1, h2, h3, h4, h5, fun c' v' q1 q2 q3 q4 => ?_⟩
        by_cases e : c' = i
        · rw [e, c1] at q4; exact absurd q4.symm (nI_ne_m1 (by omega))
        · exact h6 c' v' q1 (by omega) q3 q4
    · rw [if_neg c1]
      obtain ⟨u, hu, hu9⟩ := tabC_le ht hi64 c1
      rw [hu]
      have take : (∀ c' v', 56 ≤ c' → c' < i → v' ≤ 567 → M 26 c' = nI v' → u ≤ v') → ∃ o, minL (toC (M 26)) o ∧ lp_X5_cheapestByRounds_75 M n (i + 1) (nI u) = ansC o ∧ ∀ v, o = some v → v ≤ 567 := by
        intro hm
        refine ih (i + 1) (nI u) (by omega) (by omega) (Or.inr ⟨u, i, rfl, hu9, h56, hi64, hu, fun c' v' q1 q2 q3 q4 => ?_⟩)
        by_cases e : c' = i
        · rw [e, hu] at q4; rw [nI_inj (by omega) (by omega) q4]; exact Nat.le_refl _
        · exact hm c' v' q1 (by omega) q3 q4
      rcases h with ⟨h1, h2⟩ | ⟨v, c, h1, h2, h3, h4, h5, h6⟩
      · rw [if_pos h1]
        exact take (fun c' v' q1 q2 q3 q4 => by rw [h2 c' q1 q2] at q4; exact absurd q4.symm (nI_ne_m1 (by omega)))
      · rw [if_neg (show ¬ x = -1 from by rw [h1]; exact nI_ne_m1 (by omega))]
        by_cases c3 : x ≤ nI u
        · rw [if_pos c3]
          rw [h1] at c3
          have hle := (nI_leI (by omega) (by omega)).mp c3
          refine ih (i + 1) x (by omega) (by omega) (Or.inr ⟨v, c, h1, h2, h3, h4, h5, fun c' v' q1 q2 q3 q4 => ?_⟩)
          by_cases e : c' = i
          · rw [e, hu] at q4; rw [← nI_inj (by omega) (by omega) q4]; exact hle
          · exact h6 c' v' q1 (by omega) q3 q4
        · rw [if_neg c3]
          rw [h1] at c3
          have hlt : u < v := by
            rcases Nat.lt_or_ge u v with z | z
            · exact z
            · exact absurd ((nI_leI (by omega) (by omega)).mpr z) c3
          exact take (fun c' v' q1 q2 q3 q4 => by have := h6 c' v' q1 q2 q3 q4; omega)
theorem rounds_okC {op : Nat → Prop} {w : Nat → Nat} {s k : Nat} {D : Nat → Option Nat} {M : bM} (hk : k < 23) (hs : s < 64) (hw : ∀ c, w c ≤ 9) (hD : wayD (edg op) w s D) (hbs : besR M) (ho : ∀ c, c < 64 → (op c ↔ ¬ M 25 c = 0)) (hwk : ∀ c, c < 64 → M k c = nI (w c)) :
    (∀ a, a ≠ 26 → a ≠ 29 → (f_X5_cheapestByRounds M k (nI s)).2 a = M a) ∧ ∃ o, minL D o ∧ (f_X5_cheapestByRounds M k (nI s)).1 = ansC o ∧ ∀ v, o = some v → v ≤ 567 := by
  obtain ⟨b1, b2⟩ := beginC (M := M) (x := nI s)
  rw [u_f_X5_cheapestByRounds]
  dsimp only
  obtain ⟨g1, g2, g3⟩ := rounds_all hk hs hw hD 64 0 1 (f_X5_beginFrom M (nI s)) (fun j hj => by rw [b1 24 (by decide) (by decide)]; exact hbs j hj) (fun x hx => by rw [b1 25 (by decide) (by decide)]; exact ho x hx) (fun x hx => by rw [b1 k (by omega) (by omega)]; exact hwk x hx) (begin_tab hs) (fun q => absurd q (by decide)) (cnt_le _ _)
  generalize lp_X5_cheapestByRounds_10 k 64 0 1 (f_X5_beginFrom M (nI s)) = Z at *
  obtain ⟨o, q1, q2, q3⟩ := last_loop g2.t 8 56 (-1) rfl (Nat.le_refl _) (Or.inl ⟨rfl, fun c h1 h2 => by omega⟩)
  refine ⟨fun a h1 h2 => (g1 a h1).trans (b1 a h1 h2), o, ?_, q2, q3⟩
  rcases q1 with ⟨r1, r2⟩ | ⟨v, c, r1, r2, r3, r4, r5⟩
  · exact Or.inl ⟨r1, fun c h1 h2 => (g3 c h2).trans (r2 c h1 h2)⟩
  · exact Or.inr ⟨v, c, r1, r2, r3, (g3 c r3).trans r4, fun c' v' h1 h2 h3 => r5 c' v' h1 h2 ((g3 c' h2).symm.trans h3)⟩
/-- 99999 stands for no way -/
abbrev ans9 (o : Option Nat) : Int32 := match o with
  | some v => nI v
  | none => 99999
theorem lastR_loop {M : bM} (hf : farOK (M 7)) : ∀ (n i : Nat) (x : Int32), i + n = 64 → 56 ≤ i → (∃ y, x = nI y ∧ y ≤ 99999 ∧ (∀ c v, 56 ≤ c → c < i → M 7 c = nI v → v ≤ 99999 → y ≤ v) ∧ (y < 99999 → ∃ c, 56 ≤ c ∧ c < 64 ∧ M 7 c = nI y)) →
    ∃ o, minL (toD (M 7)) o ∧ lp_X7_cheapestFrom_15 M n i x = ans9 o := by
  intro n
  induction n with
  | zero =>
    intro i x hi h56 ⟨y, h1, h2, h3, h4⟩
    rw [u0_lp_X7_cheapestFrom_15]
    rw [show i = 64 by omega] at h3
    by_cases e : y < 99999
    · obtain ⟨c, c1, c2, c3⟩ := h4 e
      exact ⟨some y, Or.inr ⟨y, c, rfl, c1, c2, (toD_some hf).mpr ⟨c2, c3, e⟩, fun c' v' q1 q2 q3 => by obtain ⟨_, r2, r3⟩ := (toD_some hf).mp q3; exact h3 c' v' q1 q2 r2 (by omega)⟩, h1⟩
    · refine ⟨none, Or.inl ⟨rfl, fun c q1 q2 => ?_⟩, by rw [h1, show y = 99999 by omega]; rfl⟩
      obtain ⟨v, hv, hv9⟩ := hf c q2
      have := h3 c v q1 q2 hv hv9
      unfold toD
      rw [if_neg (fun z => z.2 (by rw [hv, show v = 99999 by omega]; rfl))]
  | succ n ih =>
    intro i x hi h56 ⟨y, h1, h2, h3, h4⟩
    have hi64 : i < 64 := by omega
    rw [u1_lp_X7_cheapestFrom_15]
    dsimp only
    obtain ⟨u, hu, hu9⟩ := hf i hi64
    rw [hu]
    by_cases c1 : x ≤ nI u
    · rw [if_pos c1]
      rw [h1] at c1
      have hle := (nI_leI (by omega) (by omega)).mp c1
      refine ih (i + 1) x (by omega) (by omega) ⟨y, h1, h2, fun c v q1 q2 q3 q4 => ?_, h4⟩
      by_cases e : c = i
      · rw [e, hu] at q3; rw [← nI_inj (by omega) (by omega) q3]; exact hle
      · exact h3 c v q1 (by omega) q3 q4
    · rw [if_neg c1]
      rw [h1] at c1
      have hlt : u < y := by
        rcases Nat.lt_or_ge u y with z | z
        · exact z
        · exact absurd ((nI_leI (by omega) (by omega)).mpr z) c1
      refine ih (i + 1) (nI u) (by omega) (by omega) ⟨u, rfl, hu9, fun c v q1 q2 q3 q4 => ?_, fun _ => ⟨i, h56, hi64, hu⟩⟩
      by_cases e : c = i
      · rw [e, hu] at q3; rw [nI_inj (by omega) (by omega) q3]; exact Nat.le_refl _
      · have := h3 c v q1 (by omega) q3 q4; omega
theorem cheapFrom_ok {M : bM} {k p s : Nat} (hk : k ≠ 7) (hp : p < 2) (hs : s < 64) (hc : costR (M k)) :
    (∀ a, a ≠ 7 → (f_X7_cheapestFrom M k (nI p) (nI s)).2 a = M a) ∧ ∃ D o, wayD (edg (bareR (M k))) (wtR (M k) p) s D ∧ minL D o ∧ (f_X7_cheapestFrom M k (nI p) (nI s)).1 = ans9 o := by
  obtain ⟨_, m1, m2, m3⟩ := measure_ok hk hp hs hc
  rw [u_f_X7_cheapestFrom]
  dsimp only
  obtain ⟨o, q1, q2⟩ := lastR_loop m2 8 56 99999 rfl (Nat.le_refl _) ⟨99999, rfl, Nat.le_refl _, fun c v h1 h2 => by omega, fun h => by omega⟩
  exact ⟨m1, _, o, m3, q1, q2⟩
