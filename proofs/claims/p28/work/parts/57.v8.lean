/-! ROUNDS of the class, and the reference's cheapest -/
theorem cnt_of_none {p : Nat → Bool} {n : Nat} (h : ∀ i, i < n → ¬ p i = true) : cnt p n = 0 := by
  induction n with
  | zero => rfl
  | succ n ih =>
    show cnt p n + (if p n = true then 1 else 0) = 0
    rw [ih (fun i hi => h i (by omega)), if_neg (h n (by omega))]
theorem all_stay {op : Nat → Prop} {w : Nat → Nat} {s : Nat} {D : Nat → Option Nat} {f f' : Nat → Int32} (hD : wayD (edg op) w s D) (hl : lowT f f') (hs : tabI op w s f') (h : ∀ c, c < 64 → D c = toC f c) : ∀ c, c < 64 → D c = toC f' c := by
  intro c hc
  rcases hd : D c with _ | u
  · rcases hz : toC f' c with _ | y
    · rfl
    · obtain ⟨m, hp⟩ := hs.s.2 c y hz
      obtain ⟨u, q1, _⟩ := wayD_le hD m c y hp
      rw [hd] at q1; exact absurd q1 (by simp)
  · exact (right_stays hD hl hs ((h c hc).symm.trans hd) hd).symm
theorem round_loop {op : Nat → Prop} {w : Nat → Nat} {s k : Nat} {O : Nat → Int32} (hk : k < 23) (hw : ∀ c, w c ≤ 9) : ∀ (n i : Nat) (x : Int32) (M : bM), i + n = 64 → besR M → (∀ c, c < 64 → (op c ↔ ¬ M 25 c = 0)) → (∀ c, c < 64 → M k c = nI (w c)) → tabI op w s (M 26) → lowT O (M 26) → (x = 0 → M 26 = O) → (∀ b c u, b < i → toC O b = some u → edg op b c → ∃ v, toC (M 26) c = some v ∧ v ≤ u + w c) →
    (∀ a, a ≠ 26 → (lp_X5_cheapestByRounds_26 k n i x M).2 a = M a) ∧ tabI op w s ((lp_X5_cheapestByRounds_26 k n i x M).2 26) ∧ lowT O ((lp_X5_cheapestByRounds_26 k n i x M).2 26) ∧ ((lp_X5_cheapestByRounds_26 k n i x M).1 = 0 → (lp_X5_cheapestByRounds_26 k n i x M).2 26 = O) ∧
    (∀ b c u, b < 64 → toC O b = some u → edg op b c → ∃ v, toC ((lp_X5_cheapestByRounds_26 k n i x M).2 26) c = some v ∧ v ≤ u + w c) := by
  intro n
  induction n with
  | zero =>
    intro i x M hi _ _ _ h hl hx hd
    rw [u0_lp_X5_cheapestByRounds_26]
    rw [show i = 64 by omega] at hd
    exact ⟨fun _ _ => rfl, h, hl, hx, hd⟩
  | succ n ih =>
    intro i x M hi hbs ho hwk h hl hx hd
    have hi64 : i < 64 := by omega
    rw [u1_lp_X5_cheapestByRounds_26]
    dsimp only
    by_cases c1 : M 26 i = -1
    · rw [if_pos c1]
      refine ih (i + 1) x M (by omega) hbs ho hwk h hl hx (fun b c u hb hu he => ?_)
      by_cases e : b = i
      · rw [e] at hu
        obtain ⟨v, q1, _⟩ := hl i u hu
        rw [(toC_none hi64).mpr c1] at q1; exact absurd q1 (by simp)
      · exact hd b c u (by omega) hu he
    · rw [if_neg c1]
      obtain ⟨u1, hu1, hu9⟩ := tabC_le h.t hi64 c1
      obtain ⟨g1, g2, g3, g4, g5⟩ := cheapen_ok hk hi64 hw hbs ho hwk h (toC_at hi64 (by omega) hu1)
      generalize f_X5_cheapenBeside M k (nI i) = Z at *
      have go : ∀ y : Int32, (y = 0 → Z.2 26 = O) → (∀ a, a ≠ 26 → (lp_X5_cheapestByRounds_26 k n (i + 1) y Z.2).2 a = M a) ∧ tabI op w s ((lp_X5_cheapestByRounds_26 k n (i + 1) y Z.2).2 26) ∧ lowT O ((lp_X5_cheapestByRounds_26 k n (i + 1) y Z.2).2 26) ∧ ((lp_X5_cheapestByRounds_26 k n (i + 1) y Z.2).1 = 0 → (lp_X5_cheapestByRounds_26 k n (i + 1) y Z.2).2 26 = O) ∧
          (∀ b c u, b < 64 → toC O b = some u → edg op b c → ∃ v, toC ((lp_X5_cheapestByRounds_26 k n (i + 1) y Z.2).2 26) c = some v ∧ v ≤ u + w c) := by
        intro y hy
        obtain ⟨f1, f2⟩ := ih (i + 1) y Z.2 (by omega) (fun j hj => by rw [g1 24 (by decide)]; exact hbs j hj) (fun c hc => by rw [g1 25 (by decide)]; exact ho c hc) (fun c hc => by rw [g1 k (by omega)]; exact hwk c hc) g2 (lowT_tr hl g3) hy (fun b c u hb hu he => by
          by_cases e : b = i
          · rw [e] at hu he
            obtain ⟨v, q1, q2⟩ := hl i u hu
            rw [toC_at hi64 (by omega) hu1] at q1
            have := Option.some.inj q1
            obtain ⟨y', q3, q4⟩ := g5 c he
            exact ⟨y', q3, by omega⟩
          · obtain ⟨v, q1, q2⟩ := hd b c u (by omega) hu he
            obtain ⟨y', q3, q4⟩ := g3 c v q1
            exact ⟨y', q3, by omega⟩)
        exact ⟨fun a ha => (f1 a ha).trans (g1 a ha), f2⟩
      by_cases c2 : Z.1 = 0
      · rw [if_pos c2]
        exact go x (fun q => by rw [g4 c2]; exact hx q)
      · rw [if_neg c2]
        exact go 1 (fun q => absurd q (by decide))
theorem rounds_all {op : Nat → Prop} {w : Nat → Nat} {s k : Nat} {D : Nat → Option Nat} (hk : k < 23) (hs : s < 64) (hw : ∀ c, w c ≤ 9) (hD : wayD (edg op) w s D) : ∀ (n i : Nat) (x : Int32) (M : bM), besR M → (∀ c, c < 64 → (op c ↔ ¬ M 25 c = 0)) → (∀ c, c < 64 → M k c = nI (w c)) → tabI op w s (M 26) → (x = 0 → ∀ c, c < 64 → D c = toC (M 26) c) → cnt (neD D (toC (M 26))) 64 ≤ n →
    (∀ a, a ≠ 26 → (lp_X5_cheapestByRounds_10 k n i x M).2 a = M a) ∧ tabI op w s ((lp_X5_cheapestByRounds_10 k n i x M).2 26) ∧ ∀ c, c < 64 → D c = toC ((lp_X5_cheapestByRounds_10 k n i x M).2 26) c := by
  intro n
  induction n with
  | zero =>
    intro i x M _ _ _ h hx hc
    rw [u0_lp_X5_cheapestByRounds_10]
    refine ⟨fun _ _ => rfl, h, fun c hc' => ?_⟩
    have := cnt_zero (p := neD D (toC (M 26))) (n := 64) (by omega) c hc'
    exact Classical.byContradiction (fun z => this (decide_eq_true z))
  | succ n ih =>
    intro i x M hbs ho hwk h hx hc
    rw [u1_lp_X5_cheapestByRounds_10]
    dsimp only
    by_cases c1 : x = 0
    · rw [if_pos c1]
      exact ⟨fun _ _ => rfl, h, hx c1⟩
    · rw [if_neg c1]
      obtain ⟨g1, g2, g3, g4, g5⟩ := round_loop (O := M 26) hk hw 64 0 0 M rfl hbs ho hwk h lowT_rf (fun _ => rfl) (fun b c u hb => absurd hb (Nat.not_lt_zero b))
      generalize lp_X5_cheapestByRounds_26 k 64 0 0 M = Z at *
      have hr : ∀ b c u, toC (M 26) b = some u → edg op b c → ∃ v, toC (Z.2 26) c = some v ∧ v ≤ u + w c := fun b c u q1 q2 => g5 b c u ((toC_some h.t).mp q1).1 q1 q2
      obtain ⟨f1, f2, f3⟩ := ih (i + 1) Z.1 Z.2 (fun j hj => by rw [g1 24 (by decide)]; exact hbs j hj) (fun c hc => by rw [g1 25 (by decide)]; exact ho c hc) (fun c hc => by rw [g1 k (by omega)]; exact hwk c hc) g2 (fun q c _ => (rnd_stop hD h.s (fun c => by rw [g4 q]) hr c).symm) (by
        by_cases hal : ∀ c, c < 64 → D c = toC (M 26) c
        · have hz := all_stay hD g3 g2 hal
          rw [cnt_of_none (fun i hi q => (of_decide_eq_true q : ¬ D i = toC (Z.2 26) i) (hz i hi))]
          exact Nat.zero_le _
        · obtain ⟨c, hc', hne⟩ : ∃ c, c < 64 ∧ ¬ D c = toC (M 26) c := Classical.byContradiction (fun z => hal (fun c hc => Classical.byContradiction (fun y => z ⟨c, hc, y⟩)))
          have := rnd_dec hD h.s g2.s (fun _ _ q => q.1) hs g3 hr hc' hne
          omega)
      exact ⟨fun a ha => (f1 a ha).trans (g1 a ha), f2, f3⟩
theorem last_loop {M : bM} (ht : tabC (M 26)) : ∀ (n i : Nat) (x : Int32), i + n = 64 → 56 ≤ i → ((x = -1 ∧ ∀ c, 56 ≤ c → c < i → M 26 c = -1) ∨ ∃ v c, x = nI v ∧ v ≤ 567 ∧ 56 ≤ c ∧ c < 64 ∧ M 26 c = nI v ∧ ∀ c' v', 56 ≤ c' → c' < i → v' ≤ 567 → M 26 c' = nI v' → v ≤ v') →
    ∃ o, minL (toC (M 26)) o ∧ lp_X5_cheapestByRounds_75 M n i x = ansC o ∧ ∀ v, o = some v → v ≤ 567 := by
  intro n
  induction n with
  | zero =>
    intro i x hi h56 h
    rw [u0_lp_X5_cheapestByRounds_75]
    rw [show i = 64 by omega] at h
    rcases h with ⟨h1, h2⟩ | ⟨v, c, h1, h2, h3, h4, h5, h6⟩
    · exact ⟨none, Or.inl ⟨rfl, fun c q1 q2 => (toC_none q2).mpr (h2 c q1 q2)⟩, h1, fun v q => absurd q (by simp)⟩
    · exact ⟨some v, Or.inr ⟨v, c, rfl, h3, h4, (toC_some ht).mpr ⟨h4, h5, h2⟩, fun c' v' q1 q2 q3 => by obtain ⟨r1, r2, r3⟩ := (toC_some ht).mp q3; exact h6 c' v' q1 q2 r3 r2⟩, h1, fun v' q => by rw [← Option.some.inj q]; exact h2⟩
  | succ n ih =>
    intro i x hi h56 h
    have hi64 : i < 64 := by omega
    rw [u1_lp_X5_cheapestByRounds_75]
    dsimp only
    by_cases c1 : M 26 i = -1
    · rw [if_pos c1]
      refine ih (i + 1) x (by omega) (by omega) ?_
      rcases h with ⟨h1, h2⟩ | ⟨v, c, h1, h2, h3, h4, h5, h6⟩
      · refine Or.inl ⟨h1, fun c q1 q2 => ?_⟩
        by_cases e : c = i
        · rw [e]; exact c1
        · exact h2 c q1 (by omega)
      · refine Or.inr ⟨v, c, h1, h2, h3, h4, h5, fun c' v' q1 q2 q3 q4 => ?_⟩
        by_cases e : c' = i
        · rw [e, c1] at q4; exact absurd q4.symm (nI_ne_m1 (by omega))
        · exact h6 c' v' q1 (by omega) q3 q4
    · rw [if_neg c1]
      obtain ⟨u, hu, hu9⟩ := tabC_le ht hi64 c1
      rw [hu]
      have take : (∀ c' v', 56 ≤ c' → c' < i → v' ≤ 567 → M 26 c' = nI v' → u ≤ v') → ∃ o, minL (toC (M 26)) o ∧ lp_X5_cheapestByRounds_75 M n (i + 1) (nI u) = ansC o ∧ ∀ v, o = some v → v ≤ 567 := by
        intro hm
        refine ih (i + 1) (nI u) (by omega) (by omega) (Or.inr ⟨u, i, rfl, hu9, h56, hi64, hu, fun c' v' q1 q2 q3 q4 => ?_⟩)
        by_cases e : c' = i
        · rw [e, hu] at q4; rw [nI_inj (by omega) (by omega) q4]; exact Nat.le_refl _
        · exact hm c' v' q1 (by omega) q3 q4
      rcases h with ⟨h1, h2⟩ | ⟨v, c, h1, h2, h3, h4, h5, h6⟩
      · rw [if_pos h1]
        exact take (fun c' v' q1 q2 q3 q4 => by rw [h2 c' q1 q2] at q4; exact absurd q4.symm (nI_ne_m1 (by omega)))
      · rw [if_neg (show ¬ x = -1 from by rw [h1]; exact nI_ne_m1 (by omega))]
        by_cases c3 : x ≤ nI u
        · rw [if_pos c3]
          rw [h1] at c3
          have hle := (nI_leI (by omega) (by omega)).mp c3
          refine ih (i + 1) x (by omega) (by omega) (Or.inr ⟨v, c, h1, h2, h3, h4, h5, fun c' v' q1 q2 q3 q4 => ?_⟩)
          by_cases e : c' = i
          · rw [e, hu] at q4; rw [← nI_inj (by omega) (by omega) q4]; exact hle
          · exact h6 c' v' q1 (by omega) q3 q4
        · rw [if_neg c3]
          rw [h1] at c3
          have hlt : u < v := by
            rcases Nat.lt_or_ge u v with z | z
            · exact z
            · exact absurd ((nI_leI (by omega) (by omega)).mpr z) c3
          exact take (fun c' v' q1 q2 q3 q4 => by have := h6 c' v' q1 q2 q3 q4; omega)
theorem rounds_okC {op : Nat → Prop} {w : Nat → Nat} {s k : Nat} {D : Nat → Option Nat} {M : bM} (hk : k < 23) (hs : s < 64) (hw : ∀ c, w c ≤ 9) (hD : wayD (edg op) w s D) (hbs : besR M) (ho : ∀ c, c < 64 → (op c ↔ ¬ M 25 c = 0)) (hwk : ∀ c, c < 64 → M k c = nI (w c)) :
    (∀ a, a ≠ 26 → a ≠ 29 → (f_X5_cheapestByRounds M k (nI s)).2 a = M a) ∧ ∃ o, minL D o ∧ (f_X5_cheapestByRounds M k (nI s)).1 = ansC o ∧ ∀ v, o = some v → v ≤ 567 := by
  obtain ⟨b1, b2⟩ := beginC (M := M) (x := nI s)
  rw [u_f_X5_cheapestByRounds]
  dsimp only
  obtain ⟨g1, g2, g3⟩ := rounds_all hk hs hw hD 64 0 1 (f_X5_beginFrom M (nI s)) (fun j hj => by rw [b1 24 (by decide) (by decide)]; exact hbs j hj) (fun x hx => by rw [b1 25 (by decide) (by decide)]; exact ho x hx) (fun x hx => by rw [b1 k (by omega) (by omega)]; exact hwk x hx) (begin_tab hs) (fun q => absurd q (by decide)) (cnt_le _ _)
  generalize lp_X5_cheapestByRounds_10 k 64 0 1 (f_X5_beginFrom M (nI s)) = Z at *
  obtain ⟨o, q1, q2, q3⟩ := last_loop g2.t 8 56 (-1) rfl (Nat.le_refl _) (Or.inl ⟨rfl, fun c h1 h2 => by omega⟩)
  refine ⟨fun a h1 h2 => (g1 a h1).trans (b1 a h1 h2), o, ?_, q2, q3⟩
  rcases q1 with ⟨r1, r2⟩ | ⟨v, c, r1, r2, r3, r4, r5⟩
  · exact Or.inl ⟨r1, fun c h1 h2 => (g3 c h2).trans (r2 c h1 h2)⟩
  · exact Or.inr ⟨v, c, r1, r2, r3, (g3 c r3).trans r4, fun c' v' h1 h2 h3 => r5 c' v' h1 h2 ((g3 c' h2).symm.trans h3)⟩
/-- 99999 stands for no way -/
abbrev ans9 (o : Option Nat) : Int32 := match o with
  | some v => nI v
  | none => 99999
theorem lastR_loop {M : bM} (hf : farOK (M 7)) : ∀ (n i : Nat) (x : Int32), i + n = 64 → 56 ≤ i → (∃ y, x = nI y ∧ y ≤ 99999 ∧ (∀ c v, 56 ≤ c → c < i → M 7 c = nI v → v ≤ 99999 → y ≤ v) ∧ (y < 99999 → ∃ c, 56 ≤ c ∧ c < 64 ∧ M 7 c = nI y)) →
    ∃ o, minL (toD (M 7)) o ∧ lp_X7_cheapestFrom_15 M n i x = ans9 o := by
  intro n
  induction n with
  | zero =>
    intro i x hi h56 ⟨y, h1, h2, h3, h4⟩
    rw [u0_lp_X7_cheapestFrom_15]
    rw [show i = 64 by omega] at h3
    by_cases e : y < 99999
    · obtain ⟨c, c1, c2, c3⟩ := h4 e
      exact ⟨some y, Or.inr ⟨y, c, rfl, c1, c2, (toD_some hf).mpr ⟨c2, c3, e⟩, fun c' v' q1 q2 q3 => by obtain ⟨_, r2, r3⟩ := (toD_some hf).mp q3; exact h3 c' v' q1 q2 r2 (by omega)⟩, h1⟩
    · refine ⟨none, Or.inl ⟨rfl, fun c q1 q2 => ?_⟩, by rw [h1, show y = 99999 by omega]; rfl⟩
      obtain ⟨v, hv, hv9⟩ := hf c q2
      have := h3 c v q1 q2 hv hv9
      unfold toD
      rw [if_neg (fun z => z.2 (by rw [hv, show v = 99999 by omega]; rfl))]
  | succ n ih =>
    intro i x hi h56 ⟨y, h1, h2, h3, h4⟩
    have hi64 : i < 64 := by omega
    rw [u1_lp_X7_cheapestFrom_15]
    dsimp only
    obtain ⟨u, hu, hu9⟩ := hf i hi64
    rw [hu]
    by_cases c1 : x ≤ nI u
    · rw [if_pos c1]
      rw [h1] at c1
      have hle := (nI_leI (by omega) (by omega)).mp c1
      refine ih (i + 1) x (by omega) (by omega) ⟨y, h1, h2, fun c v q1 q2 q3 q4 => ?_, h4⟩
      by_cases e : c = i
      · rw [e, hu] at q3; rw [← nI_inj (by omega) (by omega) q3]; exact hle
      · exact h3 c v q1 (by omega) q3 q4
    · rw [if_neg c1]
      rw [h1] at c1
      have hlt : u < y := by
        rcases Nat.lt_or_ge u y with z | z
        · exact z
        · exact absurd ((nI_leI (by omega) (by omega)).mpr z) c1
      refine ih (i + 1) (nI u) (by omega) (by omega) ⟨u, rfl, hu9, fun c v q1 q2 q3 q4 => ?_, fun _ => ⟨i, h56, hi64, hu⟩⟩
      by_cases e : c = i
      · rw [e, hu] at q3; rw [nI_inj (by omega) (by omega) q3]; exact Nat.le_refl _
      · have := h3 c v q1 (by omega) q3 q4; omega
theorem cheapFrom_ok {M : bM} {k p s : Nat} (hk : k ≠ 7) (hp : p < 2) (hs : s < 64) (hc : costR (M k)) :
    (∀ a, a ≠ 7 → (f_X7_cheapestFrom M k (nI p) (nI s)).2 a = M a) ∧ ∃ D o, wayD (edg (bareR (M k))) (wtR (M k) p) s D ∧ minL D o ∧ (f_X7_cheapestFrom M k (nI p) (nI s)).1 = ans9 o := by
  obtain ⟨_, m1, m2, m3⟩ := measure_ok hk hp hs hc
  rw [u_f_X7_cheapestFrom]
  dsimp only
  obtain ⟨o, q1, q2⟩ := lastR_loop m2 8 56 99999 rfl (Nat.le_refl _) ⟨99999, rfl, Nat.le_refl _, fun c v h1 h2 => by omega, fun h => by omega⟩
  exact ⟨m1, _, o, m3, q1, q2⟩
/-! THE BEST STEP and the cheapest way on both sides -/
theorem costs_at {P : Prop} {M R : bM} {g k p c : Nat} (hs : sG P M g (R k)) (hg : gR (R k)) (hp : p < 2) (hc : c < 64) : M (g + 1 + 4 * p + 1) c = nI (wtR (R k) p c) := by
  rw [← wtR_eq (gR_cost hg) hp hc]
  rcases (by omega : p = 0 ∨ p = 1) with rfl | rfl
  · rw [show g + 1 + 4 * 0 + 1 = g + 2 by omega, ← gv_c0 (M := M) (g := g) hc, hs.1.1 (20 + 64 * 0 + c) (by omega) (by omega), show 20 + 64 * 0 + c = 20 + c by omega]
  · rw [show g + 1 + 4 * 1 + 1 = g + 6 by omega, ← gv_c1 (M := M) (g := g) hc, hs.1.1 (20 + 64 * 1 + c) (by omega) (by omega), show 20 + 64 * 1 + c = 84 + c by omega]
/-- what a way costs, for the class and the reference -/
theorem way_both {P : Prop} {M R : bM} {g k p s : Nat} (hk : k ≠ 7) (hg23 : g + 10 ≤ 23) (hb : besR M) (hs : sG P M g (R k)) (hg : gR (R k)) (ho : ∀ c, c < 64 → (bareR (R k) c ↔ ¬ M 25 c = 0)) (hp : p < 2) (hs64 : s < 64) :
    ∃ o, (∀ v, o = some v → v ≤ 567) ∧ ((∀ a, a ≠ 26 → a ≠ 29 → (f_X5_cheapestCellFirst M (g + 1 + 4 * p + 1) (nI s)).2 a = M a) ∧ (f_X5_cheapestCellFirst M (g + 1 + 4 * p + 1) (nI s)).1 = ansC o) ∧
      ((∀ a, a ≠ 26 → a ≠ 29 → (f_X5_cheapestByRounds M (g + 1 + 4 * p + 1) (nI s)).2 a = M a) ∧ (f_X5_cheapestByRounds M (g + 1 + 4 * p + 1) (nI s)).1 = ansC o) ∧
      ((∀ a, a ≠ 7 → (f_X7_cheapestFrom R k (nI p) (nI s)).2 a = R a) ∧ (f_X7_cheapestFrom R k (nI p) (nI s)).1 = ans9 o) := by
  obtain ⟨r1, D, o, hD, r2, r3⟩ := cheapFrom_ok hk hp hs64 (gR_cost hg)
  have hw := wtR_9 (gR_cost hg) hp
  obtain ⟨a1, o1, a2, a3, a4⟩ := first_ok (k := g + 1 + 4 * p + 1) (by omega) hs64 hw hD hb ho (fun c hc => costs_at hs hg hp hc)
  obtain ⟨b1, o2, b2, b3, b4⟩ := rounds_okC (k := g + 1 + 4 * p + 1) (by omega) hs64 hw hD hb ho (fun c hc => costs_at hs hg hp hc)
  have e1 := minL_eq (fun _ _ => rfl) a2 r2
  have e2 := minL_eq (fun _ _ => rfl) b2 r2
  subst e1
  subst e2
  exact ⟨_, b4, ⟨a1, a3⟩, ⟨b1, b3⟩, ⟨r1, r3⟩⟩
abbrev relP (a b : Int32) : Prop := (a = 1000000 ∧ b = 99999) ∨ ∃ v, v ≤ 700 ∧ a = nI v ∧ b = nI v
theorem relP_le {a b a' b' : Int32} (h : relP a b) (h' : relP a' b') : a ≤ a' ↔ b ≤ b' := by
  rcases h with ⟨h1, h2⟩ | ⟨v, hv, h1, h2⟩
  · rcases h' with ⟨g1, g2⟩ | ⟨u, hu, g1, g2⟩
    · rw [h1, h2, g1, g2]; exact ⟨fun _ => by decide, fun _ => by decide⟩
    · rw [h1, h2, g1, g2]
      exact ⟨fun q => absurd q (nI_ge (a := u) (b := 1000000) (by omega) (by decide)), fun q => absurd q (nI_ge (a := u) (b := 99999) (by omega) (by decide))⟩
  · rcases h' with ⟨g1, g2⟩ | ⟨u, hu, g1, g2⟩
    · rw [h1, h2, g1, g2]
      exact ⟨fun _ => nI_le (b := 99999) (by omega) (by decide), fun _ => nI_le (b := 1000000) (by omega) (by decide)⟩
    · rw [h1, h2, g1, g2]
/-- a step's price is its worth -/
theorem price_worth {P : Prop} {M R : bM} {g k j : Nat} (hk : k ≠ 7) (hg23 : g + 10 ≤ 23) (hb : besR M) (hs : sG P M g (R k)) (hg : gR (R k)) (ho : ∀ c, c < 64 → (bareR (R k) c ↔ ¬ M 25 c = 0)) (hj : j < 3) (hr : f_X7_reason R k (nI j) = 0) :
    relP (f_X5_priceOfStep M g (nI j)).1 (f_X7_worth R k (nI j)).1 ∧ (∀ a, a ≠ 26 → a ≠ 29 → (f_X5_priceOfStep M g (nI j)).2 a = M a) ∧ (∀ a, a ≠ 7 → (f_X7_worth R k (nI j)).2 a = R a) := by
  obtain ⟨p, h, hp, hh, e2, eS, eH, eR⟩ := target hs hg
  obtain ⟨c, hc, ec, _, _⟩ := reason_ok (show f_X7_reason R k (nI j) ≤ 0 by rw [hr]; decide)
  have ecn : nbI h j = nI c := by rw [eR, sf_nI hh hj] at ec; exact ec
  have hw := wtR_9 (gR_cost hg) hp c
  obtain ⟨m, hm, a, b, x, y, _, ⟨_, _, _, _, c9⟩, _⟩ := id hg
  obtain ⟨fa, hfa, efa⟩ := vp_in_of c9 (by decide)
  have e4 : M g 4 = nI fa := by rw [← gv_9 M g, ← hs.1.1 9 (by omega) (by omega)]; exact efa
  have hcr : ∀ N : bM, N k = R k → f_X7_cost N k (nI p) (nI c) = nI (wtR (R k) p c) := fun N hN => by
    rw [cost_at hp hc, hN, wtR_eq (gR_cost hg) hp hc]
  have hcc : ∀ N : bM, N (g + 1 + 4 * p + 1) = M (g + 1 + 4 * p + 1) → f_X2_costOf N (g + 1 + 4 * p) (nI c) = nI (wtR (R k) p c) := fun N hN => by
    rw [costOf_nI hc, hN, costs_at hs hg hp hc]
  rw [u_f_X5_priceOfStep, u_f_X7_worth]
  dsimp only
  rw [eS, eH, cb_nI hh hj, ecn, ec, e2, sG_turn hs, e2, sub1 hp, side_nI (p := 1 - p) (by omega), sG_holds hs (by omega) hc, e4, efa, hcc M rfl, hcr R rfl]
  by_cases c1 : f_X7_isRiver R k (nI (1 - p)) (nI c) = 0
  · rw [if_pos c1, if_pos c1]
    obtain ⟨o, o9, ⟨a1, a2⟩, _, ⟨r1, r2⟩⟩ := way_both hk hg23 hb hs hg ho hp hc
    rw [hcc _ (a1 _ (by omega) (by omega)), hcr _ (r1 k hk)]
    generalize f_X5_cheapestCellFirst M (g + 1 + 4 * p + 1) (nI c) = A at *
    generalize f_X7_cheapestFrom R k (nI p) (nI c) = B at *
    rcases o with _ | v
    · rw [if_pos (show A.1 = -1 from a2), if_pos (show B.1 = 99999 from r2)]
      exact ⟨Or.inl ⟨rfl, rfl⟩, a1, r1⟩
    · have hv := o9 v rfl
      have a2' : A.1 = nI v := a2
      have r2' : B.1 = nI v := r2
      rw [if_neg (show ¬ A.1 = -1 from by rw [a2']; exact nI_ne_m1 (by omega)), if_neg (show ¬ B.1 = 99999 from by rw [r2']; intro q; have := nI_inj (a := v) (b := 99999) (by omega) (by decide) q; omega)]
      refine ⟨Or.inr ⟨wtR (R k) p c + v, by omega, ?_, ?_⟩, a1, r1⟩
      · show nI (wtR (R k) p c) + A.1 = _
        rw [a2', nI_add]
      · show nI (wtR (R k) p c) + B.1 = _
        rw [r2', nI_add]
  · rw [if_neg c1, if_neg c1]
    refine ⟨Or.inr ⟨fa * wtR (R k) p c, ?_, ?_, ?_⟩, fun _ _ _ => rfl, fun _ _ => rfl⟩
    · have := Nat.mul_le_mul (show fa ≤ 9 by omega) hw; omega
    · exact pk_mul _ _
    · exact pk_mul _ _
theorem best_loop {P : Prop} {g k : Nat} (hk : k ≠ 7) (hg23 : g + 10 ≤ 23) : ∀ (n i : Nat) (x5 x12 x : Int32) (M R : bM), i + n = 3 → besR M → sG P M g (R k) → gR (R k) → R k 1 = 1 → (∀ c, c < 64 → (bareR (R k) c ↔ ¬ M 25 c = 0)) → (x = -1 ∨ relP x5 x12) →
    (lp_X5_bestStep_22 g n i x5 x M).2.1 = (lp_X7_bestOf_7 k n i x12 x R).2.1 ∧ (∀ a, a ≠ 26 → a ≠ 29 → (lp_X5_bestStep_22 g n i x5 x M).2.2 a = M a) ∧ (∀ a, a ≠ 7 → (lp_X7_bestOf_7 k n i x12 x R).2.2 a = R a) := by
  intro n
  induction n with
  | zero =>
    intro i x5 x12 x M R hi hb hs hg h1 ho hx
    rw [u0_lp_X5_bestStep_22, u0_lp_X7_bestOf_7]
    exact ⟨rfl, fun _ _ _ => rfl, fun _ _ => rfl⟩
  | succ n ih =>
    intro i x5 x12 x M R hi hb hs hg h1 ho hx
    rw [u1_lp_X5_bestStep_22, u1_lp_X7_bestOf_7]
    dsimp only
    rw [if_neg (show ¬ f_X7_isUnderWay R k = 0 from fun q => uw_iff.mp q h1), sG_reason hs hg (by omega)]
    by_cases c1 : f_X7_reason R k (nI i) = 0
    · rw [if_pos c1, if_pos c1]
      obtain ⟨w1, w2, w3⟩ := price_worth hk hg23 hb hs hg ho (by omega) c1
      generalize f_X5_priceOfStep M g (nI i) = A at *
      generalize f_X7_worth R k (nI i) = B at *
      have go : ∀ y5 y12 y, (y = -1 ∨ relP y5 y12) → (lp_X5_bestStep_22 g n (i + 1) y5 y A.2).2.1 = (lp_X7_bestOf_7 k n (i + 1) y12 y B.2).2.1 ∧ (∀ a, a ≠ 26 → a ≠ 29 → (lp_X5_bestStep_22 g n (i + 1) y5 y A.2).2.2 a = M a) ∧ (∀ a, a ≠ 7 → (lp_X7_bestOf_7 k n (i + 1) y12 y B.2).2.2 a = R a) := by
        intro y5 y12 y hy
        have eB : B.2 k = R k := w3 k hk
        obtain ⟨f1, f2, f3⟩ := ih (i + 1) y5 y12 y A.2 B.2 (by omega) (fun q hq => by rw [w2 24 (by decide) (by decide)]; exact hb q hq) (by rw [eB]; exact sG_row (fun q q1 q2 => w2 q (by omega) (by omega)) hs) (by rw [eB]; exact hg) (by rw [eB]; exact h1) (fun c hc => by rw [eB, w2 25 (by decide) (by decide)]; exact ho c hc) hy
        exact ⟨f1, fun a q1 q2 => (f2 a q1 q2).trans (w2 a q1 q2), fun a q => (f3 a q).trans (w3 a q)⟩
      by_cases c2 : x = -1
      · rw [if_pos c2, if_pos c2]; exact go _ _ _ (Or.inr w1)
      · rw [if_neg c2, if_neg c2]
        have hx' := hx.resolve_left c2
        have hle := relP_le hx' w1
        by_cases c3 : x5 ≤ A.1
        · rw [if_pos c3, if_pos (hle.mp c3)]; exact go _ _ _ hx
        · rw [if_neg c3, if_neg (fun q => c3 (hle.mpr q))]; exact go _ _ _ (Or.inr w1)
    · rw [if_neg c1, if_neg c1]
      exact ih (i + 1) x5 x12 x M R (by omega) hb hs hg h1 ho hx
/-- the best step is the same -/
theorem best_0 {k : Nat} {x y : Int32} {R : bM} (h1 : ¬ R k 1 = 1) : lp_X7_bestOf_7 k (2 + 1) 0 x y R = (x, y, R) := by
  rw [u1_lp_X7_bestOf_7 k 2 0 x y R]
  dsimp only
  rw [if_pos (uw_iff.mpr h1)]
theorem sG_best {P : Prop} {M R : bM} {g k : Nat} (hk : k ≠ 7) (hg23 : g + 10 ≤ 23) (hb : besR M) (hs : sG P M g (R k)) (hg : gR (R k)) :
    (f_X5_bestStep M g).1 = (f_X7_bestOf R k).1 ∧ (∀ a, a ≠ 25 → a ≠ 26 → a ≠ 29 → (f_X5_bestStep M g).2 a = M a) ∧ (∀ a, a ≠ 7 → (f_X7_bestOf R k).2 a = R a) := by
  rw [u_f_X5_bestStep, u_f_X7_bestOf]
  by_cases h1 : R k 1 = 1
  · obtain ⟨o1, o2⟩ := openF hg23 hs
    obtain ⟨f1, f2, f3⟩ := best_loop (P := P) hk hg23 3 0 1000000 0 (-1) (f_X5_openFree M g) R rfl (fun q hq => by rw [o1 24 (by decide)]; exact hb q hq) (sG_row (fun q q1 q2 => o1 q (by omega)) hs) hg h1 (fun c hc => (o2 c hc).symm) (Or.inl rfl)
    dsimp only
    rw [if_pos ((sG_over hs).mpr h1)]
    generalize lp_X7_bestOf_7 k 3 0 0 (-1) R = B at *
    generalize lp_X5_bestStep_22 g 3 0 1000000 (-1) (f_X5_openFree M g) = A at *
    dsimp only
    exact ⟨f1, fun a q1 q2 q3 => (f2 a q2 q3).trans (o1 a q1), f3⟩
  · have e := best_0 (k := k) (x := 0) (y := -1) h1
    rw [show 2 + 1 = 3 from rfl] at e
    dsimp only
    rw [if_neg (fun q => h1 ((sG_over hs).mp q)), e]
    exact ⟨rfl, fun _ _ _ _ => rfl, fun _ _ => rfl⟩
/-- the cheapest way from a head, either way of reckoning -/
theorem sG_cheap {P : Prop} {M R : bM} {g p : Nat} (hg23 : g + 10 ≤ 23) (hb : besR M) (hs : sG P M g (R 2)) (hg : gR (R 2)) (hp : p < 2) :
    let A := f_X5_cheapestCellFirst (f_X5_openFree M g) (g + 1 + 4 * p + 1) (f_X2_head (f_X5_openFree M g) (g + 1 + 4 * p))
    let B := f_X5_cheapestByRounds (f_X5_openFree M g) (g + 1 + 4 * p + 1) (f_X2_head (f_X5_openFree M g) (g + 1 + 4 * p))
    let C := f_X7_cheapestFrom R 2 (nI p) (f_X7_head R 2 (nI p))
    (A.1 = if C.1 = 99999 then -1 else C.1) ∧ (B.1 = if C.1 = 99999 then -1 else C.1) ∧ (∀ a, a ≠ 25 → a ≠ 26 → a ≠ 29 → A.2 a = M a) ∧ (∀ a, a ≠ 25 → a ≠ 26 → a ≠ 29 → B.2 a = M a) ∧ (∀ a, a ≠ 7 → C.2 a = R a) := by
  obtain ⟨h0, h1, g0, g1, e0, e1, f0, f1⟩ := heads hs hg
  obtain ⟨o1, o2⟩ := openF hg23 hs
  have hh : ∃ s, s < 64 ∧ f_X2_head M (g + 1 + 4 * p) = nI s ∧ f_X7_head R 2 (nI p) = nI s := by
    rcases (by omega : p = 0 ∨ p = 1) with rfl | rfl
    · exact ⟨h0, g0, e0, f0⟩
    · exact ⟨h1, g1, e1, f1⟩
  obtain ⟨s, hs64, q1, q2⟩ := hh
  intro A B C
  have hA : A = f_X5_cheapestCellFirst (f_X5_openFree M g) (g + 1 + 4 * p + 1) (nI s) := by
    show f_X5_cheapestCellFirst _ _ _ = _
    rw [headX_c (o1 (g + 1 + 4 * p) (by omega)) (o1 (g + 1 + 4 * p + 2) (by omega)), q1]
  have hB : B = f_X5_cheapestByRounds (f_X5_openFree M g) (g + 1 + 4 * p + 1) (nI s) := by
    show f_X5_cheapestByRounds _ _ _ = _
    rw [headX_c (o1 (g + 1 + 4 * p) (by omega)) (o1 (g + 1 + 4 * p + 2) (by omega)), q1]
  have hC : C = f_X7_cheapestFrom R 2 (nI p) (nI s) := by
    show f_X7_cheapestFrom _ _ _ _ = _
    rw [q2]
  obtain ⟨o, o9, ⟨a1, a2⟩, ⟨b1, b2⟩, ⟨r1, r2⟩⟩ := way_both (k := 2) (by decide) hg23 (fun q hq => by rw [o1 24 (by decide)]; exact hb q hq) (sG_row (fun q z1 z2 => o1 q (by omega)) hs) hg (fun c hc => (o2 c hc).symm) hp hs64
  rw [← hA] at a1 a2
  rw [← hB] at b1 b2
  rw [← hC] at r1 r2
  clear_value A B C
  have key : ansC o = if C.1 = 99999 then -1 else C.1 := by
    rw [r2]
    rcases o with _ | v
    · rw [if_pos (show ans9 none = 99999 from rfl)]
    · have hv := o9 v rfl
      rw [if_neg (show ¬ ans9 (some v) = 99999 from fun q => by have := nI_inj (a := v) (b := 99999) (by omega) (by decide) q; omega)]
  exact ⟨a2.trans key, b2.trans key, fun a z1 z2 z3 => (a1 a z2 z3).trans (o1 a z1), fun a z1 z2 z3 => (b1 a z2 z3).trans (o1 a z1), r1⟩
