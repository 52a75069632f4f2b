/-! STEPS TO MEET: layers on one side, the waiting row on the other -/
abbrev minS (D : Nat → Option Nat) (ot : Nat → Prop) (x : Int32) : Prop := (x = -1 ∧ ∀ c v, c < 64 → ot c → ¬ D c = some v) ∨ (∃ v c, x = nI v ∧ v ≤ 64 ∧ c < 64 ∧ ot c ∧ D c = some v ∧ ∀ c' v', c' < 64 → ot c' → D c' = some v' → v ≤ v')
theorem minS_eq {D : Nat → Option Nat} {ot : Nat → Prop} {x y : Int32} (hx : minS D ot x) (hy : minS D ot y) : x = y := by
  rcases hx with ⟨h1, h2⟩ | ⟨v, c, h1, _, h2, h3, h4, h5⟩
  · rcases hy with ⟨g1, g2⟩ | ⟨v', c', g1, _, g2, g3, g4, g5⟩
    · rw [h1, g1]
    · exact absurd g4 (h2 c' v' g2 g3)
  · rcases hy with ⟨g1, g2⟩ | ⟨v', c', g1, _, g2, g3, g4, g5⟩
    · exact absurd h4 (g2 c v h2 h3)
    · have a := h5 c' v' g2 g3 g4
      have b := g5 c v h2 h3 h4
      rw [h1, g1, show v = v' by omega]
abbrev layI (r : Nat → Int32) (p : Nat) (D : Nat → Option Nat) (i t : Nat) (f : Nat → Int32) : Prop := (∀ c, c < 64 → f c = 99999 ∨ ∃ v, v ≤ i + 1 ∧ f c = nI v ∧ D c = some v) ∧ (∀ c v, c < 64 → v ≤ i → D c = some v → f c = nI v) ∧ (∀ c, c < 64 → ¬ f c = 99999 → rvR r (1 - p) c = 0) ∧ (∀ q, q < t → f (q / 3) = nI i → nb (q / 3) (q % 3) < 64 → opR r p (nb (q / 3) (q % 3)) → ¬ f (nb (q / 3) (q % 3)) = 99999)
theorem layI.m {r : Nat → Int32} {p : Nat} {D : Nat → Option Nat} {i t : Nat} {f : Nat → Int32} (h : layI r p D i t f) : ∀ c, c < 64 → f c = 99999 ∨ ∃ v, v ≤ i + 1 ∧ f c = nI v ∧ D c = some v := h.1
theorem layI.a {r : Nat → Int32} {p : Nat} {D : Nat → Option Nat} {i t : Nat} {f : Nat → Int32} (h : layI r p D i t f) : ∀ c v, c < 64 → v ≤ i → D c = some v → f c = nI v := h.2.1
theorem layI.o {r : Nat → Int32} {p : Nat} {D : Nat → Option Nat} {i t : Nat} {f : Nat → Int32} (h : layI r p D i t f) : ∀ c, c < 64 → ¬ f c = 99999 → rvR r (1 - p) c = 0 := h.2.2.1
theorem layI.d {r : Nat → Int32} {p : Nat} {D : Nat → Option Nat} {i t : Nat} {f : Nat → Int32} (h : layI r p D i t f) : ∀ q, q < t → f (q / 3) = nI i → nb (q / 3) (q % 3) < 64 → opR r p (nb (q / 3) (q % 3)) → ¬ f (nb (q / 3) (q % 3)) = 99999 := h.2.2.2
theorem nI_ne9 {v : Nat} (h : v ≤ 65) : ¬ nI v = 99999 := fun q => by have := nI_inj (a := v) (b := 99999) (by omega) (by decide) q; omega
theorem layer_ok {k p s i : Nat} {r : Nat → Int32} {D : Nat → Option Nat} (hk : k ≠ 7) (hk2 : k = 2) (hp : p < 2) (hs : s < 64) (hi64 : i < 64) (hD : wayD (edg (opR r p)) u1w s D) : ∀ (n q : Nat) (M : bM), q + n = 192 → M k = r → layI r p D i q (M 7) →
    (∀ a, a ≠ 7 → (lp_X7_meetsIn_84 (nI p) i n q M).2.2 a = M a) ∧
    ((lp_X7_meetsIn_84 (nI p) i n q M).1 = true → minS D (fun c => ¬ rvR r (1 - p) c = 0) (lp_X7_meetsIn_84 (nI p) i n q M).2.1) ∧
    (¬ (lp_X7_meetsIn_84 (nI p) i n q M).1 = true → layI r p D i 192 ((lp_X7_meetsIn_84 (nI p) i n q M).2.2 7)) := by
  subst hk2
  intro n
  induction n with
  | zero =>
    intro q M hq hr h
    rw [u0_lp_X7_meetsIn_84]
    refine ⟨fun _ _ => rfl, fun z => absurd z (show ¬ (false = true) by decide), fun _ => ?_⟩
    rw [show q = 192 by omega] at h
    exact h
  | succ n ih =>
    intro q M hq hr h
    rw [u1_lp_X7_meetsIn_84, sf_sweep (by omega), div3c (by omega)]
    dsimp only
    have hb : q / 3 < 64 := by omega
    have keep : (M 7 (q / 3) = nI i → nb (q / 3) (q % 3) < 64 → opR r p (nb (q / 3) (q % 3)) → ¬ M 7 (nb (q / 3) (q % 3)) = 99999) →
        (∀ a, a ≠ 7 → (lp_X7_meetsIn_84 (nI p) i n (q + 1) M).2.2 a = M a) ∧
        ((lp_X7_meetsIn_84 (nI p) i n (q + 1) M).1 = true → minS D (fun c => ¬ rvR r (1 - p) c = 0) (lp_X7_meetsIn_84 (nI p) i n (q + 1) M).2.1) ∧
        (¬ (lp_X7_meetsIn_84 (nI p) i n (q + 1) M).1 = true → layI r p D i 192 ((lp_X7_meetsIn_84 (nI p) i n (q + 1) M).2.2 7)) := by
      intro hno
      refine ih (q + 1) M (by omega) hr ⟨h.m, h.a, h.o, fun q' h1 h2 h3 h4 => ?_⟩
      by_cases e : q' = q
      · subst e; exact hno h2 h3 h4
      · exact h.d q' (by omega) h2 h3 h4
    by_cases c1 : M 7 (q / 3) = nI i
    · rw [if_pos c1]
      by_cases c2 : nbI (q / 3) (q % 3) = -1
      · rw [if_pos c2]; exact keep (fun _ z _ => absurd z (nbI_m1.mp c2))
      · rw [if_neg c2]
        obtain ⟨hn, hnI⟩ := nbI_pos c2
        rw [hnI, nI_clamp (by omega)]
        by_cases c3 : M 7 (nb (q / 3) (q % 3)) = 99999
        · rw [if_pos c3]
          by_cases c4 : f_X7_isDam M 2 (nI (nb (q / 3) (q % 3))) = 0
          · rw [if_pos c4, rvR_eq, hr]
            by_cases c5 : rvR r p (nb (q / 3) (q % 3)) = 0
            · rw [if_pos c5, sub1 hp, rvR_eq, hr, nI_1]
              have hop : opR r p (nb (q / 3) (q % 3)) := ⟨by have := (isDam_iff hn).mp c4; rw [hr] at this; exact this, c5⟩
              have hDb : D (q / 3) = some i := by
                rcases h.m _ hb with z | ⟨v, h1, h2, h3⟩
                · rw [c1] at z; exact absurd z (nI_ne9 (by omega))
                · rw [h3, nI_inj (by omega) (by omega) (h2.symm.trans c1)]
              have hDn : D (nb (q / 3) (q % 3)) = some (i + 1) := by
                obtain ⟨v, h1, h2⟩ := hD.2.2 _ _ _ hDb ⟨hn, hop, q % 3, by omega, rfl⟩
                dsimp only [u1w] at h2
                rw [h1]
                by_cases z : v ≤ i
                · have := h.a _ v hn z h1
                  rw [c3] at this
                  exact absurd this.symm (nI_ne9 (by omega))
                · rw [show v = i + 1 by omega]
              by_cases c6 : rvR r (1 - p) (nb (q / 3) (q % 3)) = 0
              · rw [if_pos c6]
                have e7 : ∀ c, up2 M 7 (nb (q / 3) (q % 3)) (nI (i + 1)) 7 c = if c = nb (q / 3) (q % 3) then nI (i + 1) else M 7 c := fun c => up2_at
                obtain ⟨g1, g2, g3⟩ := ih (q + 1) (up2 M 7 (nb (q / 3) (q % 3)) (nI (i + 1))) (by omega) (by rw [up2_row hk]; exact hr) ⟨fun c hc => by
                  rw [e7]
                  by_cases e : c = nb (q / 3) (q % 3)
                  · rw [if_pos e, e]; exact Or.inr ⟨i + 1, Nat.le_refl _, rfl, hDn⟩
                  · rw [if_neg e]; exact h.m c hc, fun c v hc hv hd => by
                  rw [e7]
                  by_cases e : c = nb (q / 3) (q % 3)
                  · rw [e, hDn] at hd
                    have := Option.some.inj hd
                    omega
                  · rw [if_neg e]; exact h.a c v hc hv hd, fun c hc z => by
                  rw [e7] at z
                  by_cases e : c = nb (q / 3) (q % 3)
                  · rw [e]; exact c6
                  · rw [if_neg e] at z; exact h.o c hc z, fun q' h1 h2 h3 h4 => by
                  rw [e7] at h2 ⊢
                  by_cases e : nb (q' / 3) (q' % 3) = nb (q / 3) (q % 3)
                  · rw [if_pos e]; exact nI_ne9 (by omega)
                  · rw [if_neg e]
                    by_cases e2 : q' / 3 = nb (q / 3) (q % 3)
                    · rw [if_pos e2] at h2
                      have := nI_inj (by omega) (by omega) h2
                      omega
                    · rw [if_neg e2] at h2
                      by_cases e3 : q' = q
                      · subst e3; exact absurd rfl e
                      · exact h.d q' (by omega) h2 h3 h4⟩
                exact ⟨fun a ha => (g1 a ha).trans (up2_row ha), g2, g3⟩
              · rw [if_neg c6]
                refine ⟨fun _ _ => rfl, fun _ => Or.inr ⟨i + 1, _, rfl, by omega, hn, c6, hDn, fun c' v' h1 h2 h3 => ?_⟩, fun z => absurd rfl z⟩
                by_cases z : v' ≤ i
                · have hm := h.a c' v' h1 z h3
                  exact absurd (h.o c' h1 (by rw [hm]; exact nI_ne9 (by omega))) h2
                · omega
            · rw [if_neg c5]; exact keep (fun _ _ z => absurd z.2 c5)
          · rw [if_neg c4]; exact keep (fun _ _ z => absurd ((isDam_iff hn).mpr (by rw [hr]; exact z.1)) c4)
        · rw [if_neg c3]; exact keep (fun _ _ _ => c3)
    · rw [if_neg c1]; exact keep (fun z => absurd z c1)
theorem layers_ok {p s : Nat} {r : Nat → Int32} {D : Nat → Option Nat} (hp : p < 2) (hs : s < 64) (hD : wayD (edg (opR r p)) u1w s D) : ∀ (n i : Nat) (M : bM), i + n = 64 → M 2 = r → layI r p D i 0 (M 7) → (∀ c, c < 64 → M 7 c = 99999 ∨ ∃ v, v ≤ i ∧ M 7 c = nI v) →
    (∀ a, a ≠ 7 → (lp_X7_meetsIn_76 (nI p) n i M).2.2 a = M a) ∧
    ((lp_X7_meetsIn_76 (nI p) n i M).1 = true → minS D (fun c => ¬ rvR r (1 - p) c = 0) (lp_X7_meetsIn_76 (nI p) n i M).2.1) ∧
    (¬ (lp_X7_meetsIn_76 (nI p) n i M).1 = true → minS D (fun c => ¬ rvR r (1 - p) c = 0) (-1)) := by
  intro n
  induction n with
  | zero =>
    intro i M hi hr h _
    rw [u0_lp_X7_meetsIn_76]
    refine ⟨fun _ _ => rfl, fun z => absurd z (show ¬ (false = true) by decide), fun _ => Or.inl ⟨rfl, fun c v hc ho hd => ?_⟩⟩
    have hv := (wayD_max hD (W := 1) (N := 64) (fun _ => Nat.le_refl _) hs (fun _ _ q => q.1) hd).2
    have hm := h.a c v hc (by omega) hd
    exact ho (h.o c hc (by rw [hm]; exact nI_ne9 (by omega)))
  | succ n ih =>
    intro i M hi hr h hv
    rw [u1_lp_X7_meetsIn_76]
    dsimp only
    obtain ⟨g1, g2, g3⟩ := layer_ok (k := 2) (i := i) (by decide) rfl hp hs (by omega) hD 192 0 M rfl hr h
    generalize lp_X7_meetsIn_84 (nI p) i 192 0 M = Z at *
    by_cases c1 : Z.1 = true
    · rw [if_pos c1]
      exact ⟨g1, fun _ => g2 c1, fun z => absurd rfl z⟩
    · rw [if_neg c1]
      have h' := g3 c1
      obtain ⟨f1, f2, f3⟩ := ih (i + 1) Z.2.2 (by omega) ((g1 2 (by decide)).trans hr) ⟨fun c hc => by
        rcases h'.m c hc with z | ⟨v, h1, h2, h3⟩
        · exact Or.inl z
        · exact Or.inr ⟨v, by omega, h2, h3⟩, fun c v hc hv' hd => by
        by_cases e : v ≤ i
        · exact h'.a c v hc e hd
        · rw [show v = i + 1 by omega] at hd ⊢
          obtain ⟨m, hm⟩ := hD.2.1 c _ hd
          have hm1 := pth_unit m c _ hm
          rw [← hm1] at hm
          obtain ⟨b, u, h1, h2, ⟨h3, h4, j, hj, h5⟩, h6⟩ := wayD_pred hD hd hm
          dsimp only [u1w] at h6
          have hb64 := pth_lt hs h1
          have hfb := h'.a b i hb64 (Nat.le_refl _) (by rw [h2, show u = i by omega])
          have hq := h'.d (3 * b + j) (by omega)
          rw [show (3 * b + j) / 3 = b by omega, show (3 * b + j) % 3 = j by omega, h5] at hq
          rcases h'.m c hc with z | ⟨v', k1, k2, k3⟩
          · exact absurd z (hq hfb h3 h4)
          · rw [hd] at k3
            rw [k2, ← Option.some.inj k3], h'.o, fun q hq => by omega⟩ (fun c hc => by
        rcases h'.m c hc with z | ⟨v, h1, h2, h3⟩
        · exact Or.inl z
        · exact Or.inr ⟨v, h1, h2⟩)
      exact ⟨fun a ha => (f1 a ha).trans (g1 a ha), f2, f3⟩
theorem lay0 {x : Int32} {s : Nat} : ∀ (n i : Nat) (M : bM), i + n = 64 → f_X7_head M 2 x = nI s → (∀ a, a ≠ 7 → lp_X7_meetsIn_38 x n i M a = M a) ∧ ∀ c, (c < i → lp_X7_meetsIn_38 x n i M 7 c = M 7 c) ∧ (i ≤ c → c < 64 → lp_X7_meetsIn_38 x n i M 7 c = if nI c = nI s then 0 else 99999) := by
  intro n
  induction n with
  | zero => intro i M hi _; rw [u0_lp_X7_meetsIn_38]; exact ⟨fun _ _ => rfl, fun c => ⟨fun _ => rfl, fun h1 h2 => by omega⟩⟩
  | succ n ih =>
    intro i M hi hh
    rw [u1_lp_X7_meetsIn_38]
    dsimp only
    rw [hh]
    have key : ∀ v : Int32, v = (if nI i = nI s then 0 else 99999) → (∀ a, a ≠ 7 → lp_X7_meetsIn_38 x n (i + 1) (up2 M 7 i v) a = M a) ∧ ∀ c, (c < i → lp_X7_meetsIn_38 x n (i + 1) (up2 M 7 i v) 7 c = M 7 c) ∧ (i ≤ c → c < 64 → lp_X7_meetsIn_38 x n (i + 1) (up2 M 7 i v) 7 c = if nI c = nI s then 0 else 99999) := by
      intro v hv
      obtain ⟨h1, h2⟩ := ih (i + 1) (up2 M 7 i v) (by omega) (by rw [head7_c (up2_row (by decide))]; exact hh)
      refine ⟨fun a ha => (h1 a ha).trans (up2_row ha), fun c => ⟨fun hc => ?_, fun hc hc2 => ?_⟩⟩
      · rw [(h2 c).1 (by omega), up2_at, if_neg (by omega)]
      · by_cases e : c = i
        · rw [(h2 c).1 (by omega), up2_at, if_pos e, e]; exact hv
        · exact (h2 c).2 (by omega) hc2
    by_cases c1 : nI i = nI s
    · rw [if_pos c1]; exact key 0 (by rw [if_pos c1])
    · rw [if_neg c1]; exact key 99999 (by rw [if_neg c1])
/-- the class's least of the cells of the other river -/
theorem few_loop {w : Nat} {M : bM} {D : Nat → Option Nat} {ot : Nat → Prop} (hD : D = toC (M 26)) (hot : ∀ c, c < 64 → (ot c ↔ ¬ f_X2_holds M w (nI c) = 0)) (hv : ∀ c, c < 64 → ¬ M 26 c = -1 → ∃ v, v ≤ 64 ∧ M 26 c = nI v) : ∀ (n i : Nat) (x : Int32), i + n = 64 → (x = -1 ∧ (∀ c v, c < i → ot c → ¬ D c = some v) ∨ ∃ v c, x = nI v ∧ v ≤ 64 ∧ c < 64 ∧ ot c ∧ D c = some v ∧ ∀ c' v', c' < i → ot c' → D c' = some v' → v ≤ v') → minS D ot (lp_X5_stepsToMeet_35 w M n i x) := by
  intro n
  induction n with
  | zero =>
    intro i x hi h
    rw [u0_lp_X5_stepsToMeet_35]
    rw [show i = 64 by omega] at h
    exact h
  | succ n ih =>
    intro i x hi h
    rw [u1_lp_X5_stepsToMeet_35]
    dsimp only
    have hi64 : i < 64 := by omega
    have keep : (ot i → ∀ v', D i = some v' → ∃ v c, x = nI v ∧ v ≤ v' ∧ v ≤ 64 ∧ c < 64 ∧ ot c ∧ D c = some v ∧ ∀ c' v', c' < i → ot c' → D c' = some v' → v ≤ v') → minS D ot (lp_X5_stepsToMeet_35 w M n (i + 1) x) := by
      intro hno
      refine ih (i + 1) x (by omega) ?_
      rcases h with ⟨h1, h2⟩ | ⟨v, c, h1, h64, h2, h3, h4, h5⟩
      · refine Or.inl ⟨h1, fun c v hc ho hd => ?_⟩
        by_cases e : c = i
        · rw [e] at ho hd
          obtain ⟨v', _, z, _, z64, _⟩ := hno ho v hd
          rw [h1] at z
          exact nI_ne_m1 (by omega) z.symm
        · exact h2 c v (by omega) ho hd
      · refine Or.inr ⟨v, c, h1, h64, h2, h3, h4, fun c' v' hc ho hd => ?_⟩
        by_cases e : c' = i
        · rw [e] at ho hd
          obtain ⟨v2, _, z, z1, z64, _⟩ := hno ho v' hd
          rw [nI_inj (by omega) (by omega) (h1.symm.trans z)]; exact z1
        · exact h5 c' v' (by omega) ho hd
    by_cases c1 : f_X2_holds M w (nI i) = 0
    · rw [if_pos c1]; exact keep (fun z => absurd c1 ((hot i hi64).mp z))
    · rw [if_neg c1]
      by_cases c2 : M 26 i = -1
      · rw [if_pos c2]
        refine keep (fun _ v' hd => ?_)
        rw [hD, (toC_none hi64).mpr c2] at hd
        exact absurd hd (by simp)
      · rw [if_neg c2]
        obtain ⟨u, hu64, hu⟩ := hv i hi64 c2
        have hDi : D i = some u := by rw [hD]; exact toC_at hi64 (by omega) hu
        have hoi := (hot i hi64).mpr c1
        rw [hu]
        by_cases c3 : x = -1
        · rw [if_pos c3]
          refine ih (i + 1) (nI u) (by omega) (Or.inr ⟨u, i, rfl, hu64, hi64, hoi, hDi, fun c' v' hc ho hd => ?_⟩)
          by_cases e : c' = i
          · rw [e, hDi] at hd; have := Option.some.inj hd; omega
          · rcases h with ⟨h1, h2⟩ | ⟨v, c, h1, h64, _⟩
            · exact absurd hd (h2 c' v' (by omega) ho)
            · rw [c3] at h1; exact absurd h1.symm (nI_ne_m1 (by omega))
        · rw [if_neg c3]
          rcases h with ⟨h1, h2⟩ | ⟨v, c, h1, h64, h2, h3, h4, h5⟩
          · exact absurd h1 c3
          · by_cases c4 : x ≤ nI u
            · rw [if_pos c4]
              rw [h1] at c4
              have hvu := (nI_leI (by omega) (by omega)).mp c4
              refine keep (fun _ v' hd => ?_)
              rw [hDi] at hd
              exact ⟨v, c, h1, by have := Option.some.inj hd; omega, h64, h2, h3, h4, h5⟩
            · rw [if_neg c4]
              rw [h1] at c4
              have hvu : u < v := by
                rcases Nat.lt_or_ge u v with z | z
                · exact z
                · exact absurd ((nI_leI (by omega) (by omega)).mpr z) c4
              refine ih (i + 1) (nI u) (by omega) (Or.inr ⟨u, i, rfl, hu64, hi64, hoi, hDi, fun c' v' hc ho hd => ?_⟩)
              by_cases e : c' = i
              · rw [e, hDi] at hd; have := Option.some.inj hd; omega
              · have := h5 c' v' (by omega) ho hd; omega
theorem hold_rv {P : Prop} {M : bM} {g q c : Nat} {r : Nat → Int32} (hsg : sG P M g r) (hq : q < 2) (hc : c < 64) : M (g + 1 + 4 * q + 3) c = 0 ↔ rvR r q c = 0 := by
  have h2 := sG_holds (R := fun _ => r) (k := 0) hsg hq hc
  rw [rvR, ← h2, holds_nI hc]
  by_cases z : M (g + 1 + 4 * q + 3) c = 0
  · rw [if_pos z]; exact ⟨fun _ => rfl, fun _ => z⟩
  · rw [if_neg z]; exact ⟨fun y => absurd y z, fun y => absurd y (by decide)⟩
/-- the steps to meet are the same -/
theorem sG_meets {P : Prop} {M R : bM} {g p : Nat} (hg23 : g + 10 ≤ 23) (hb : besR M) (hs : sG P M g (R 2)) (hg : gR (R 2)) (hp : p < 2) (h4 : R 2 4 = -1) :
    (f_X5_stepsToMeet M g (nI p)).1 = (if (lp_X7_meetsIn_76 (nI p) 64 0 (lp_X7_meetsIn_38 (nI p) 64 0 R)).1 = true then (lp_X7_meetsIn_76 (nI p) 64 0 (lp_X7_meetsIn_38 (nI p) 64 0 R)).2.1 else -1) ∧ (∀ a, a ≠ 7 → (lp_X7_meetsIn_76 (nI p) 64 0 (lp_X7_meetsIn_38 (nI p) 64 0 R)).2.2 a = R a) := by
  obtain ⟨s, hs64, e0, e1, _, e2⟩ := heads_free (v := 0) (c := 0) hs hg h4 (by decide) p hp
  -- the class
  obtain ⟨o1, o2⟩ := openB (M := M) (w := g + 1 + 4 * p) hg23 (by omega)
  rw [u_f_X5_stepsToMeet]
  dsimp only
  rw [sub1 hp, side_nI hp, side_nI (p := 1 - p) (by omega)]
  generalize f_X5_openBesides M g (g + 1 + 4 * p) = O at *
  rw [headX_c (o1 (g + 1 + 4 * p) (by omega)) (o1 (g + 1 + 4 * p + 2) (by omega)), e0]
  obtain ⟨s1, s2, s3⟩ := spread_all (M := O) hs64 (fun i hi => by rw [o1 24 (by decide)]; exact hb i hi)
  have hop : ∀ c, c < 64 → (¬ O 25 c = 0 ↔ opR (R 2) p c) := by
    intro c hc
    rw [o2 c hc, hold_rv hs hp hc, sG_dam hs hc]
  rw [edg_eq hop] at s1
  generalize f_X5_spreadFrom O (nI s) = F at *
  have hF : ∀ a, a ≠ 25 → a ≠ 26 → a ≠ 28 → a ≠ 29 → F a = M a := fun a h1 h2 h3 h4 => (s2 a h2 h3 h4).trans (o1 a h1)
  have hcl := few_loop (w := g + 1 + 4 * (1 - p)) (M := F) (D := toC (F 26)) (ot := fun c => ¬ rvR (R 2) (1 - p) c = 0) rfl (fun c hc => by
    have h1 : f_X2_holds F (g + 1 + 4 * (1 - p)) (nI c) = 0 ↔ rvR (R 2) (1 - p) c = 0 := by
      rw [← hold_rv hs (by omega) hc, holds_nI hc, hF _ (by omega) (by omega) (by omega) (by omega)]
      by_cases z : M (g + 1 + 4 * (1 - p) + 3) c = 0
      · rw [if_pos z]; exact ⟨fun _ => z, fun _ => rfl⟩
      · rw [if_neg z]; exact ⟨fun y => absurd y (by decide), fun y => absurd y z⟩
    exact ⟨fun z q => z (h1.mp q), fun z q => z (h1.mpr q)⟩) s3 64 0 (-1) rfl (Or.inl ⟨rfl, fun c v h => absurd h (Nat.not_lt_zero c)⟩)
  -- the reference
  obtain ⟨z1, z2⟩ := lay0 (x := nI p) (s := s) 64 0 R rfl e1
  generalize lp_X7_meetsIn_38 (nI p) 64 0 R = L at *
  have hL : ∀ c, c < 64 → (c = s → L 7 c = nI 0) ∧ (c ≠ s → L 7 c = 99999) := by
    intro c hc
    have := (z2 c).2 (Nat.zero_le _) hc
    refine ⟨fun e => ?_, fun e => ?_⟩
    · rw [this, if_pos (by rw [e])]; rfl
    · rw [this, if_neg (fun q => e (nI_inj (by omega) (by omega) q))]
  have hi : layI (R 2) p (toC (F 26)) 0 0 (L 7) := ⟨fun c hc => by
    by_cases e : c = s
    · exact Or.inr ⟨0, by omega, (hL c hc).1 e, by rw [e]; exact s1.1⟩
    · exact Or.inl ((hL c hc).2 e), fun c v hc hv hd => by
    rw [show v = 0 by omega] at hd ⊢
    obtain ⟨n, hn⟩ := s1.2.1 c 0 hd
    have h0 := pth_unit n c 0 hn
    rw [← h0] at hn
    exact (hL c hc).1 hn.1, fun c hc z => by
    by_cases e : c = s
    · rw [e]; exact e2
    · exact absurd ((hL c hc).2 e) z, fun q hq => by omega⟩
  obtain ⟨f1, f2, f3⟩ := layers_ok hp hs64 s1 64 0 L rfl (z1 2 (by decide)) hi (fun c hc => by
    by_cases e : c = s
    · exact Or.inr ⟨0, Nat.le_refl _, (hL c hc).1 e⟩
    · exact Or.inl ((hL c hc).2 e))
  refine ⟨?_, fun a ha => (f1 a ha).trans (z1 a ha)⟩
  by_cases c1 : (lp_X7_meetsIn_76 (nI p) 64 0 L).1 = true
  · rw [if_pos c1]; exact minS_eq hcl (f2 c1)
  · rw [if_neg c1]; exact minS_eq hcl (f3 c1)
/-! THE CELL BOTH LEAST WISH -/
theorem openF_ok {g : Nat} (hg : g + 10 ≤ 23) : ∀ (n i : Nat) (M : bM), i + n = 64 → (∀ a, a ≠ 25 → lp_X5_openFree_2 g n i M a = M a) ∧ ∀ c, (c < i → lp_X5_openFree_2 g n i M 25 c = M 25 c) ∧ (i ≤ c → c < 64 → (¬ lp_X5_openFree_2 g n i M 25 c = 0 ↔ (M (g + 9) c = -1 ∧ M (g + 4) c = 0 ∧ M (g + 8) c = 0))) := by
  intro n
  induction n with
  | zero => intro i M hi; rw [u0_lp_X5_openFree_2]; exact ⟨fun _ _ => rfl, fun c => ⟨fun _ => rfl, fun h1 h2 => by omega⟩⟩
  | succ n ih =>
    intro i M hi
    rw [u1_lp_X5_openFree_2]
    dsimp only
    have key : ∀ v : Int32, (¬ v = 0 ↔ (M (g + 9) i = -1 ∧ M (g + 4) i = 0 ∧ M (g + 8) i = 0)) → (∀ a, a ≠ 25 → lp_X5_openFree_2 g n (i + 1) (up2 M 25 i v) a = M a) ∧ ∀ c, (c < i → lp_X5_openFree_2 g n (i + 1) (up2 M 25 i v) 25 c = M 25 c) ∧ (i ≤ c → c < 64 → (¬ lp_X5_openFree_2 g n (i + 1) (up2 M 25 i v) 25 c = 0 ↔ (M (g + 9) c = -1 ∧ M (g + 4) c = 0 ∧ M (g + 8) c = 0))) := by
      intro v hv2
      obtain ⟨h1, h2⟩ := ih (i + 1) (up2 M 25 i v) (by omega)
      refine ⟨fun a ha => (h1 a ha).trans (up2_row ha), fun c => ⟨fun hc => ?_, fun hc hc2 => ?_⟩⟩
      · rw [(h2 c).1 (by omega), up2_at, if_neg (by omega)]
      · by_cases e : c = i
        · rw [(h2 c).1 (by omega), up2_at, if_pos e, e]; exact hv2
        · have := (h2 c).2 (by omega) hc2
          rw [up2_row (show g + 9 ≠ 25 by omega), up2_row (show g + 4 ≠ 25 by omega), up2_row (show g + 8 ≠ 25 by omega)] at this
          exact this
    by_cases c1 : M (g + 9) i = -1
    · rw [if_pos c1]
      by_cases c2 : M (g + 4) i = 0
      · rw [if_pos c2]
        by_cases c3 : M (g + 8) i = 0
        · rw [if_pos c3]; exact key 1 ⟨fun _ => ⟨c1, c2, c3⟩, fun _ => by decide⟩
        · rw [if_neg c3]; exact key 0 ⟨fun z => absurd rfl z, fun z => absurd z.2.2 c3⟩
      · rw [if_neg c2]; exact key 0 ⟨fun z => absurd rfl z, fun z => absurd z.2.1 c2⟩
    · rw [if_neg c1]; exact key 0 ⟨fun z => absurd rfl z, fun z => absurd z.1 c1⟩
theorem openF {P : Prop} {M R : bM} {g k : Nat} (hg : g + 10 ≤ 23) (hs : sG P M g (R k)) : (∀ a, a ≠ 25 → f_X5_openFree M g a = M a) ∧ ∀ c, c < 64 → (¬ f_X5_openFree M g 25 c = 0 ↔ bareR (R k) c) := by
  rw [u_f_X5_openFree]
  obtain ⟨h1, h2⟩ := openF_ok hg 64 0 M rfl
  refine ⟨h1, fun c hc => ?_⟩
  dsimp only
  rw [(h2 c).2 (Nat.zero_le _) hc, sG_dam hs hc]
  obtain ⟨v, ⟨hv, hv4⟩, b0, b1⟩ := sG_mark hs hc
  have hz : R k (212 + c) = 0 ↔ v = 0 := ⟨fun q => nI_inj (by omega) (by decide) (hv.symm.trans (q.trans (show (0 : Int32) = nI 0 from rfl))), fun q => by rw [hv, q]; rfl⟩
  rw [b0, b1]
  unfold bareR
  rw [hz]
  exact ⟨fun z => ⟨z.1, by omega⟩, fun z => ⟨z.1, by omega, by omega⟩⟩
theorem pth_any {e : Nat → Nat → Prop} {w w' : Nat → Nat} {s : Nat} : ∀ n c v, pth e w s n c v → ∃ v', pth e w' s n c v' := by
  intro n
  induction n with
  | zero => intro c v h; exact ⟨0, h.1, rfl⟩
  | succ n ih => intro c v h; obtain ⟨b, u, h1, h2, h3⟩ := h; obtain ⟨u', h4⟩ := ih b u h1; exact ⟨_, b, u', h4, h2, rfl⟩
theorem rch_D {op : Nat → Prop} {w : Nat → Nat} {s c : Nat} {D : Nat → Option Nat} (h : wayD (edg op) w s D) : rch op s c ↔ ¬ D c = none := by
  constructor
  · rintro ⟨n, v, hp⟩ q
    obtain ⟨v', hp'⟩ := pth_any (w' := w) n c v hp
    obtain ⟨u, h1, _⟩ := wayD_le h n c v' hp'
    rw [q] at h1
    exact absurd h1 (by simp)
  · intro q
    rcases hd : D c with _ | v
    · exact absurd hd q
    · obtain ⟨n, hp⟩ := h.2.1 c v hd
      obtain ⟨v', hp'⟩ := pth_any (w' := u1w) n c v hp
      exact ⟨n, v', hp'⟩
theorem rch_F {op : Nat → Prop} {w : Nat → Nat} {s c : Nat} {f : Nat → Int32} (hf : farOK f) (h : wayD (edg op) w s (toD f)) (hc : c < 64) : rch op s c ↔ ¬ (99999 : Int32) ≤ f c := by
  rw [rch_D h]
  obtain ⟨v, hv, h9⟩ := hf c hc
  rw [hv]
  constructor
  · intro q z
    apply q
    have hz : 99999 ≤ v := by
      rcases Nat.lt_or_ge v 99999 with y | y
      · exact absurd z (nI_ge (a := v) (b := 99999) y (by decide))
      · exact y
    unfold toD
    rw [if_neg]
    intro y
    apply y.2
    rw [hv, show v = 99999 by omega]; rfl
  · intro z q
    have hz : v < 99999 := by
      rcases Nat.lt_or_ge v 99999 with y | y
      · exact y
      · exact absurd (nI_le (a := 99999) (by omega) (by omega)) z
    rw [(toD_some hf).mpr ⟨hc, hv, hz⟩] at q
    exact absurd q (by simp)
theorem copy78 : ∀ (n i : Nat) (M : bM), i + n = 64 → (∀ a, a ≠ 8 → lp_X7_leastWished_24 n i M a = M a) ∧ ∀ c, (c < i → lp_X7_leastWished_24 n i M 8 c = M 8 c) ∧ (i ≤ c → c < 64 → lp_X7_leastWished_24 n i M 8 c = M 7 c) := by
  intro n
  induction n with
  | zero => intro i M hi; rw [u0_lp_X7_leastWished_24]; exact ⟨fun _ _ => rfl, fun c => ⟨fun _ => rfl, fun h1 h2 => by omega⟩⟩
  | succ n ih =>
    intro i M hi
    rw [u1_lp_X7_leastWished_24]
    dsimp only
    obtain ⟨h1, h2⟩ := ih (i + 1) (up2 M 8 i (M 7 i)) (by omega)
    refine ⟨fun a ha => (h1 a ha).trans (up2_row ha), fun c => ⟨fun hc => ?_, fun hc hc2 => ?_⟩⟩
    · rw [(h2 c).1 (by omega), up2_at, if_neg (by omega)]
    · by_cases e : c = i
      · rw [(h2 c).1 (by omega), up2_at, if_pos e, e]
      · rw [(h2 c).2 (by omega) hc2, up2_row (by decide)]
theorem dear_loop {g : Nat} {F L : bM} (hx : ∀ c, c < 64 → f_X2_costOf F (g + 1) (nI c) + f_X2_costOf F (g + 5) (nI c) = f_X7_cost L 2 0 (nI c) + f_X7_cost L 2 1 (nI c))
    (hp : ∀ c, c < 64 → ((¬ F 25 c = 0 ∧ ¬ F 27 c = -1 ∧ ¬ F 26 c = -1) ↔ (¬ f_X7_isBare L 2 (nI c) = 0 ∧ ¬ (99999 : Int32) ≤ L 7 c ∧ ¬ (99999 : Int32) ≤ L 8 c))) : ∀ (n i : Nat) (x y : Int32), i + n = 64 → lp_X5_dearestForBoth_45 g F n i x y = lp_X7_leastWished_71 L n i x y := by
  intro n
  induction n with
  | zero => intro i x y hi; rw [u0_lp_X5_dearestForBoth_45, u0_lp_X7_leastWished_71]
  | succ n ih =>
    intro i x y hi
    have hi64 : i < 64 := by omega
    rw [u1_lp_X5_dearestForBoth_45, u1_lp_X7_leastWished_71]
    dsimp only
    rw [hx i hi64]
    have e1 := ih (i + 1) x y (by omega)
    by_cases c : ¬ F 25 i = 0 ∧ ¬ F 27 i = -1 ∧ ¬ F 26 i = -1
    · obtain ⟨d1, d2, d3⟩ := (hp i hi64).mp c
      rw [if_neg c.1, if_neg c.2.1, if_neg c.2.2, if_neg d1, if_neg d2, if_neg d3, e1, ih _ _ _ (by omega)]
    · have d := fun z => c ((hp i hi64).mpr z)
      have hl : ∀ (t : Int32 × Int32), (if F 25 i = 0 then lp_X5_dearestForBoth_45 g F n (i + 1) x y else if F 27 i = -1 then lp_X5_dearestForBoth_45 g F n (i + 1) x y else if F 26 i = -1 then lp_X5_dearestForBoth_45 g F n (i + 1) x y else t) = lp_X5_dearestForBoth_45 g F n (i + 1) x y := by
        intro t
        split
        · rfl
        · split
          · rfl
          · split
            · rfl
            · exact absurd ⟨‹_›, ‹_›, ‹_›⟩ c
      have hr : ∀ (t : Int32 × Int32), (if f_X7_isBare L 2 (nI i) = 0 then lp_X7_leastWished_71 L n (i + 1) x y else if (99999 : Int32) ≤ L 7 i then lp_X7_leastWished_71 L n (i + 1) x y else if (99999 : Int32) ≤ L 8 i then lp_X7_leastWished_71 L n (i + 1) x y else t) = lp_X7_leastWished_71 L n (i + 1) x y := by
        intro t
        split
        · rfl
        · split
          · rfl
          · split
            · rfl
            · exact absurd ⟨‹_›, ‹_›, ‹_›⟩ d
      rw [hl, hr]; exact e1
/-- the cell that both least wish is the same -/
theorem sG_dear {P : Prop} {M R : bM} {g : Nat} (hg23 : g + 10 ≤ 23) (hb : besR M) (hs : sG P M g (R 2)) (hg : gR (R 2)) : (f_X5_dearestForBoth M g).1 = (f_X7_leastWished R).1 ∧ (∀ a, a ≠ 0 → a ≠ 7 → a ≠ 8 → (f_X7_leastWished R).2 a = R a) ∧ (f_X7_leastWished R).2 0 = upd (R 0) 0 0 := by
  obtain ⟨h0, h1, g0, g1, e0, e1, f0, f1⟩ := heads hs hg
  have hc := gR_cost hg
  -- the class
  obtain ⟨o1, o2⟩ := openF hg23 hs
  rw [u_f_X5_dearestForBoth, u_f_X7_leastWished]
  dsimp only
  generalize f_X5_openFree M g = O at *
  rw [headX_c (o1 (g + 1) (by omega)) (o1 (g + 1 + 2) (by omega)), e0]
  obtain ⟨s1, s2, _⟩ := spread_all (M := O) g0 (fun i hi => by rw [o1 24 (by decide)]; exact hb i hi)
  rw [edg_eq o2] at s1
  generalize f_X5_spreadFrom O (nI h0) = A at *
  have hA : ∀ a, a ≠ 25 → a ≠ 26 → a ≠ 28 → a ≠ 29 → A a = M a := fun a q1 q2 q3 q4 => (s2 a q2 q3 q4).trans (o1 a q1)
  have hC : ∀ x y, f_X6_copyRow A 26 27 x y = if x = 27 ∧ 0 ≤ y ∧ y < 64 then A 26 y else A x y := fun x y => by
    rw [u_f_X6_copyRow]; exact cr_loop (by decide) 64 0 A rfl x y
  generalize f_X6_copyRow A 26 27 = C at *
  have hC' : ∀ x, x ≠ 27 → C x = A x := fun x q => by funext y; rw [hC, if_neg (fun z => q z.1)]
  rw [headX_c ((hC' (g + 5) (by omega)).trans (hA (g + 5) (by omega) (by omega) (by omega) (by omega))) ((hC' (g + 5 + 2) (by omega)).trans (hA (g + 5 + 2) (by omega) (by omega) (by omega) (by omega))), e1]
  obtain ⟨t1, t2, _⟩ := spread_all (M := C) g1 (fun i hi => by rw [hC' 24 (by decide), hA 24 (by decide) (by decide) (by decide) (by decide)]; exact hb i hi)
  have ho2 : ∀ c, c < 64 → (¬ C 25 c = 0 ↔ bareR (R 2) c) := fun c hc' => by
    rw [hC' 25 (by decide), s2 25 (by decide) (by decide) (by decide)]; exact o2 c hc'
  rw [edg_eq ho2] at t1
  generalize f_X5_spreadFrom C (nI h1) = F at *
  -- the reference
  have r2 : up2 R 0 0 0 2 = R 2 := up2_row (by decide)
  rw [head7_c r2, f0]
  obtain ⟨_, m1, m2, m3⟩ := measure_ok (M := up2 R 0 0 0) (k := 2) (p := 0) (by decide) (by decide) g0 (by rw [r2]; exact hc)
  rw [r2] at m3
  rw [show (nI 0 : Int32) = 0 from rfl] at m1 m2 m3
  generalize f_X7_measure (up2 R 0 0 0) 2 0 (nI h0) = A' at *
  obtain ⟨k1, k2⟩ := copy78 64 0 A' rfl
  generalize lp_X7_leastWished_24 64 0 A' = B' at *
  have hB2 : B' 2 = R 2 := (k1 2 (by decide)).trans ((m1 2 (by decide)).trans r2)
  rw [head7_c hB2, f1]
  obtain ⟨_, n1, n2, n3⟩ := measure_ok (M := B') (k := 2) (p := 1) (by decide) (by decide) g1 (by rw [hB2]; exact hc)
  rw [hB2] at n3
  rw [show (nI 1 : Int32) = 1 from rfl] at n1 n2 n3
  generalize f_X7_measure B' 2 1 (nI h1) = L at *
  have hL2 : L 2 = R 2 := (n1 2 (by decide)).trans hB2
  have hFr : ∀ a, a < 23 → F a = M a := fun a q => (t2 a (by omega) (by omega) (by omega)).trans ((hC' a (by omega)).trans (hA a (by omega) (by omega) (by omega) (by omega)))
  have hx : ∀ c, c < 64 → f_X2_costOf F (g + 1) (nI c) + f_X2_costOf F (g + 5) (nI c) = f_X7_cost L 2 0 (nI c) + f_X7_cost L 2 1 (nI c) := by
    intro c hc'
    rw [costOf_nI hc', costOf_nI hc', hFr _ (by omega), hFr _ (by omega), show f_X7_cost L 2 0 (nI c) = L 2 (20 + 64 * 0 + c) from cost_at (p := 0) (by decide) hc', show f_X7_cost L 2 1 (nI c) = L 2 (20 + 64 * 1 + c) from cost_at (p := 1) (by decide) hc', hL2, show g + 1 + 1 = g + 2 by omega, show g + 5 + 1 = g + 6 by omega, ← gv_c0 (M := M) (g := g) hc', ← gv_c1 (M := M) (g := g) hc', hs.1.1 (20 + 64 * 0 + c) (by omega) (by omega), hs.1.1 (20 + 64 * 1 + c) (by omega) (by omega), show 20 + 64 * 0 + c = 20 + c by omega, show 20 + 64 * 1 + c = 84 + c by omega]
  have hpq : ∀ c, c < 64 → ((¬ F 25 c = 0 ∧ ¬ F 27 c = -1 ∧ ¬ F 26 c = -1) ↔ (¬ f_X7_isBare L 2 (nI c) = 0 ∧ ¬ (99999 : Int32) ≤ L 7 c ∧ ¬ (99999 : Int32) ≤ L 8 c)) := by
    intro c hc'
    have q1 : ¬ F 25 c = 0 ↔ ¬ f_X7_isBare L 2 (nI c) = 0 := by
      rw [t2 25 (by decide) (by decide) (by decide), ho2 c hc', isBare_iff hc', hL2]
      exact ⟨fun z q => q z, fun z => Classical.byContradiction z⟩
    have q2 : ¬ F 27 c = -1 ↔ ¬ (99999 : Int32) ≤ L 8 c := by
      rw [t2 27 (by decide) (by decide) (by decide), hC, if_pos ⟨rfl, Nat.zero_le _, hc'⟩, ← rch_tab s1 hc', n1 8 (by decide), (k2 c).2 (Nat.zero_le _) hc', ← rch_F m2 m3 hc']
    have q3 : ¬ F 26 c = -1 ↔ ¬ (99999 : Int32) ≤ L 7 c := by
      rw [← rch_tab t1 hc', ← rch_F n2 n3 hc']
    rw [q1, q2, q3]
    exact ⟨fun z => ⟨z.1, z.2.2, z.2.1⟩, fun z => ⟨z.1, z.2.2, z.2.1⟩⟩
  refine ⟨by rw [dear_loop hx hpq 64 0 (-1) (-1) rfl], fun a q1 q2 q3 => ?_, ?_⟩
  · exact (n1 a q2).trans ((k1 a q3).trans ((m1 a q2).trans (up2_row q1)))
  · exact (n1 0 (by decide)).trans ((k1 0 (by decide)).trans ((m1 0 (by decide)).trans up2_upd))
