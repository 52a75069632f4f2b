/-! THE CHEAPEST WAYS of the class: cells beside become cheaper; rounds -/
abbrev minL (D : Nat → Option Nat) (o : Option Nat) : Prop := (o = none ∧ ∀ c, 56 ≤ c → c < 64 → D c = none) ∨ ∃ v c, o = some v ∧ 56 ≤ c ∧ c < 64 ∧ D c = some v ∧ ∀ c' v', 56 ≤ c' → c' < 64 → D c' = some v' → v ≤ v'
theorem minL_eq {D D' : Nat → Option Nat} {x y : Option Nat} (he : ∀ c, c < 64 → D c = D' c) (hx : minL D x) (hy : minL D' y) : x = y := by
  rcases hx with ⟨h1, h2⟩ | ⟨v, c, h1, h2, h3, h4, h5⟩
  · rcases hy with ⟨g1, g2⟩ | ⟨v', c', g1, g2, g3, g4, g5⟩
    · rw [h1, g1]
    · rw [← he c' g3, h2 c' g2 g3] at g4; exact absurd g4 (by simp)
  · rcases hy with ⟨g1, g2⟩ | ⟨v', c', g1, g2, g3, g4, g5⟩
    · rw [he c h3, g2 c h2 h3] at h4; exact absurd h4 (by simp)
    · have a := h5 c' v' g2 g3 (by rw [he c' g3]; exact g4)
      have b := g5 c v h2 h3 (by rw [← he c h3]; exact h4)
      rw [h1, g1, show v = v' by omega]
abbrev tabC (f : Nat → Int32) : Prop := ∀ c, c < 64 → f c = -1 ∨ ∃ v, f c = nI v ∧ v + 9 ≤ 9 * cnt (seen f) 64
theorem tabC_le {f : Nat → Int32} (h : tabC f) {c : Nat} (hc : c < 64) (hn : ¬ f c = -1) : ∃ v, f c = nI v ∧ v ≤ 567 := by
  rcases h c hc with z | ⟨v, h1, h2⟩
  · exact absurd z hn
  · have := cnt_le (seen f) 64
    exact ⟨v, h1, by omega⟩
theorem toC_some {f : Nat → Int32} (h : tabC f) {c v : Nat} : toC f c = some v ↔ c < 64 ∧ f c = nI v ∧ v ≤ 567 := by
  constructor
  · intro q
    have hc : c < 64 ∧ ¬ f c = -1 := Classical.byContradiction (fun z => by unfold toC at q; rw [if_neg z] at q; exact absurd q (by simp))
    obtain ⟨v', h1, h2⟩ := tabC_le h hc.1 hc.2
    rw [toC_at hc.1 (by omega) h1] at q
    have := Option.some.inj q
    subst this
    exact ⟨hc.1, h1, h2⟩
  · intro ⟨h1, h2, h3⟩
    exact toC_at h1 (by omega) h2
theorem nb_ne {b j : Nat} (hb : b < 64) : nb b j ≠ b := by
  unfold nb
  repeat' split
  all_goals omega
abbrev wC (M : bM) (k : Nat) : Nat → Nat := fun c => if c < 64 then (M k c).toNatClampNeg else 0
abbrev costC (M : bM) (k : Nat) : Prop := ∀ c, c < 64 → vp_in (M k c) 10
theorem wC_at {M : bM} {k c : Nat} (h : costC M k) (hc : c < 64) : M k c = nI (wC M k c) ∧ wC M k c ≤ 9 := by
  obtain ⟨j, hj, e⟩ := vp_in_of (h c hc) (by decide)
  unfold wC
  rw [if_pos hc, e, nI_clamp (by omega)]
  exact ⟨rfl, by omega⟩
/-- tables: sound, small -/
structure tabI (op : Nat → Prop) (w : Nat → Nat) (s : Nat) (f : Nat → Int32) : Prop where
  t : tabC f
  s : sndD (edg op) w s (toC f)
abbrev lowT (f f' : Nat → Int32) : Prop := ∀ c u, toC f c = some u → ∃ v, toC f' c = some v ∧ v ≤ u
theorem lowT_rf {f : Nat → Int32} : lowT f f := fun c u h => ⟨u, h, Nat.le_refl _⟩
theorem lowT_tr {f f' f'' : Nat → Int32} (h : lowT f f') (h' : lowT f' f'') : lowT f f'' := fun c u q => by
  obtain ⟨v, h1, h2⟩ := h c u q
  obtain ⟨v', h3, h4⟩ := h' c v h1
  exact ⟨v', h3, by omega⟩
/-- one cell beside is laid anew -/
theorem tab_set {op : Nat → Prop} {w : Nat → Nat} {s b j u : Nat} {f : Nat → Int32} (h : tabI op w s f) (hw : ∀ c, w c ≤ 9) (hb : b < 64) (hj : j < 3) (hu : f b = nI u) (hu9 : u ≤ 567) (hn : nb b j < 64) (ho : op (nb b j)) (hlt : f (nb b j) = -1 ∨ ∃ v, f (nb b j) = nI v ∧ v ≤ 567 ∧ u + w (nb b j) < v) :
    tabI op w s (upd f (nb b j) (nI (u + w (nb b j)))) ∧ lowT f (upd f (nb b j) (nI (u + w (nb b j)))) := by
  have hwx := hw (nb b j)
  have hbu := (toC_some h.t).mpr ⟨hb, hu, hu9⟩
  obtain ⟨n, hp⟩ := h.s.2 b u hbu
  have hpx : pth (edg op) w s (n + 1) (nb b j) (u + w (nb b j)) := ⟨b, u, hp, ⟨hn, ho, j, hj, rfl⟩, rfl⟩
  generalize hX : nb b j = x at *
  have hv : ∀ c, upd f x (nI (u + w x)) c = if c = x then nI (u + w x) else f c := fun c => rfl
  have hbx : b ≠ x := fun e => nb_ne hb (hX.trans e.symm)
  have hu2 : u + 9 ≤ 9 * cnt (seen f) 64 := by
    rcases h.t b hb with z | ⟨v, h1, h2⟩
    · rw [hu] at z; exact absurd z (nI_ne_m1 (by omega))
    · rw [nI_inj (by omega) (by have := cnt_le (seen f) 64; omega) (hu.symm.trans h1)]; exact h2
  have hT : tabC (upd f x (nI (u + w x))) := by
    have hcn : cnt (seen f) 64 ≤ cnt (seen (upd f x (nI (u + w x)))) 64 := cnt_mono (fun i hi q => by
      refine decide_eq_true ?_
      rw [hv]
      by_cases e : i = x
      · rw [if_pos e]; exact nI_ne_m1 (by omega)
      · rw [if_neg e]; exact of_decide_eq_true q)
    intro c hc
    rw [hv]
    by_cases e : c = x
    · rw [if_pos e]
      refine Or.inr ⟨_, rfl, ?_⟩
      rcases hlt with z | ⟨v, h1, h2, h3⟩
      · have := cnt_plus (p := seen f) (q := seen (upd f x (nI (u + w x)))) hn (fun q => (of_decide_eq_true q : ¬ f x = -1) z) (decide_eq_true (by rw [hv, if_pos rfl]; exact nI_ne_m1 (by omega))) (fun i hi he => by
          show decide _ = decide _
          rw [hv, if_neg he])
        omega
      · rcases h.t x hn with z | ⟨v', g1, g2⟩
        · rw [h1] at z; exact absurd z (nI_ne_m1 (by omega))
        · have := nI_inj (by omega) (by have := cnt_le (seen f) 64; omega) (h1.symm.trans g1)
          omega
    · rw [if_neg e]
      rcases h.t c hc with z | ⟨v, h1, h2⟩
      · exact Or.inl z
      · exact Or.inr ⟨v, h1, by omega⟩
  have hsm : u + w x ≤ 567 := by
    rcases hT x hn with z | ⟨v, g1, g2⟩
    · rw [hv, if_pos rfl] at z; exact absurd z (nI_ne_m1 (by omega))
    · rw [hv, if_pos rfl] at g1
      have h9 := cnt_le (seen (upd f x (nI (u + w x)))) 64
      have := nI_inj (by omega) (by omega) g1
      omega
  refine ⟨⟨hT, ⟨?_, fun c v hc => ?_⟩⟩, fun c v hc => ?_⟩
  · obtain ⟨g1, g2, g3⟩ := (toC_some h.t).mp h.s.1
    refine (toC_some hT).mpr ⟨g1, ?_, g3⟩
    rw [hv]
    by_cases e : s = x
    · exfalso
      rw [e] at g2
      rcases hlt with z | ⟨v, h1, h2, h3⟩
      · rw [g2] at z; exact absurd z (nI_ne_m1 (by omega))
      · have := nI_inj (by omega) (by omega) (h1.symm.trans g2); omega
    · rw [if_neg e]; exact g2
  · obtain ⟨g1, g2, g3⟩ := (toC_some hT).mp hc
    rw [hv] at g2
    by_cases e : c = x
    · rw [if_pos e] at g2
      have := nI_inj (by omega) (by omega) g2
      rw [e, ← this]; exact ⟨n + 1, hpx⟩
    · rw [if_neg e] at g2
      exact h.s.2 c v ((toC_some h.t).mpr ⟨g1, g2, g3⟩)
  · obtain ⟨g1, g2, g3⟩ := (toC_some h.t).mp hc
    by_cases e : c = x
    · refine ⟨u + w x, (toC_some hT).mpr ⟨g1, by rw [hv, if_pos e], hsm⟩, ?_⟩
      rw [e] at g2
      rcases hlt with z | ⟨v', h1, h2, h3⟩
      · rw [g2] at z; exact absurd z (nI_ne_m1 (by omega))
      · have := nI_inj (by omega) (by omega) (h1.symm.trans g2); omega
    · exact ⟨v, (toC_some hT).mpr ⟨g1, by rw [hv, if_neg e]; exact g2, g3⟩, Nat.le_refl _⟩
theorem cheapen_loop {op : Nat → Prop} {w : Nat → Nat} {s b k : Nat} (hk : k < 23) (hb : b < 64) (hw : ∀ c, w c ≤ 9) : ∀ (n j : Nat) (x : Int32) (M : bM) (u : Nat), j + n = 3 → (x = 0 ∨ x = 1) → besR M → (∀ c, c < 64 → (op c ↔ ¬ M 25 c = 0)) → (∀ c, c < 64 → M k c = nI (w c)) → tabI op w s (M 26) → M 26 b = nI u → u ≤ 567 →
    (∀ a, a ≠ 26 → (lp_X5_cheapenBeside_17 k (nI b) n j x M).2 a = M a) ∧ tabI op w s ((lp_X5_cheapenBeside_17 k (nI b) n j x M).2 26) ∧ lowT (M 26) ((lp_X5_cheapenBeside_17 k (nI b) n j x M).2 26) ∧
    ((lp_X5_cheapenBeside_17 k (nI b) n j x M).1 = 0 ∨ (lp_X5_cheapenBeside_17 k (nI b) n j x M).1 = 1) ∧ ((lp_X5_cheapenBeside_17 k (nI b) n j x M).1 = 0 → x = 0 ∧ (lp_X5_cheapenBeside_17 k (nI b) n j x M).2 = M) ∧
    (∀ j', j ≤ j' → j' < 3 → nb b j' < 64 → op (nb b j') → ∃ v, toC ((lp_X5_cheapenBeside_17 k (nI b) n j x M).2 26) (nb b j') = some v ∧ v ≤ u + w (nb b j')) := by
  intro n
  induction n with
  | zero =>
    intro j x M u hj hx hbs ho hwk h hu hu9
    rw [u0_lp_X5_cheapenBeside_17]
    exact ⟨fun _ _ => rfl, h, lowT_rf, hx, fun z => ⟨z, rfl⟩, fun j' h1 h2 => by omega⟩
  | succ n ih =>
    intro j x M u hj hx hbs ho hwk h hu hu9
    rw [u1_lp_X5_cheapenBeside_17, idx3 hb (by omega), bes_at hbs hb (by omega)]
    dsimp only
    have keep : (nb b j < 64 → op (nb b j) → ∃ v, toC (M 26) (nb b j) = some v ∧ v ≤ u + w (nb b j)) →
        (∀ a, a ≠ 26 → (lp_X5_cheapenBeside_17 k (nI b) n (j + 1) x M).2 a = M a) ∧ tabI op w s ((lp_X5_cheapenBeside_17 k (nI b) n (j + 1) x M).2 26) ∧ lowT (M 26) ((lp_X5_cheapenBeside_17 k (nI b) n (j + 1) x M).2 26) ∧
        ((lp_X5_cheapenBeside_17 k (nI b) n (j + 1) x M).1 = 0 ∨ (lp_X5_cheapenBeside_17 k (nI b) n (j + 1) x M).1 = 1) ∧ ((lp_X5_cheapenBeside_17 k (nI b) n (j + 1) x M).1 = 0 → x = 0 ∧ (lp_X5_cheapenBeside_17 k (nI b) n (j + 1) x M).2 = M) ∧
        (∀ j', j ≤ j' → j' < 3 → nb b j' < 64 → op (nb b j') → ∃ v, toC ((lp_X5_cheapenBeside_17 k (nI b) n (j + 1) x M).2 26) (nb b j') = some v ∧ v ≤ u + w (nb b j')) := by
      intro hno
      obtain ⟨g1, g2, g3, g4, g5, g6⟩ := ih (j + 1) x M u (by omega) hx hbs ho hwk h hu hu9
      refine ⟨g1, g2, g3, g4, g5, fun j' h1 h2 h3 h4 => ?_⟩
      by_cases e : j' = j
      · subst e
        obtain ⟨v, q1, q2⟩ := hno h3 h4
        obtain ⟨v', q3, q4⟩ := g3 _ _ q1
        exact ⟨v', q3, by omega⟩
      · exact g6 j' (by omega) h2 h3 h4
    by_cases c1 : nb b j < 64
    · rw [show nbI b j = nI (nb b j) from by unfold nbI; rw [if_pos c1], if_neg (show ¬ nI (nb b j) < 0 from nI_pos (by omega)), if_neg (show ¬ (64 : Int32) ≤ nI (nb b j) from nI_ge (a := nb b j) (b := 64) c1 (by decide)), nI_clamp (by omega), if_neg (show ¬ (64 : Int32) ≤ nI (nb b j) from nI_ge (a := nb b j) (b := 64) c1 (by decide))]
      by_cases c2 : M 25 (nb b j) = 0
      · rw [if_pos c2]; exact keep (fun _ z => absurd c2 ((ho _ c1).mp z))
      · rw [if_neg c2, nI_clamp (by omega), hu, hwk _ c1, nI_add]
        have hop := (ho _ c1).mpr c2
        have hwx := hw (nb b j)
        have step : (M 26 (nb b j) = -1 ∨ ∃ v, M 26 (nb b j) = nI v ∧ v ≤ 567 ∧ u + w (nb b j) < v) →
            (∀ a, a ≠ 26 → (lp_X5_cheapenBeside_17 k (nI b) n (j + 1) 1 (up2 M 26 (nb b j) (nI (u + w (nb b j))))).2 a = M a) ∧ tabI op w s ((lp_X5_cheapenBeside_17 k (nI b) n (j + 1) 1 (up2 M 26 (nb b j) (nI (u + w (nb b j))))).2 26) ∧ lowT (M 26) ((lp_X5_cheapenBeside_17 k (nI b) n (j + 1) 1 (up2 M 26 (nb b j) (nI (u + w (nb b j))))).2 26) ∧
            ((lp_X5_cheapenBeside_17 k (nI b) n (j + 1) 1 (up2 M 26 (nb b j) (nI (u + w (nb b j))))).1 = 0 ∨ (lp_X5_cheapenBeside_17 k (nI b) n (j + 1) 1 (up2 M 26 (nb b j) (nI (u + w (nb b j))))).1 = 1) ∧ ((lp_X5_cheapenBeside_17 k (nI b) n (j + 1) 1 (up2 M 26 (nb b j) (nI (u + w (nb b j))))).1 = 0 → x = 0 ∧ (lp_X5_cheapenBeside_17 k (nI b) n (j + 1) 1 (up2 M 26 (nb b j) (nI (u + w (nb b j))))).2 = M) ∧
            (∀ j', j ≤ j' → j' < 3 → nb b j' < 64 → op (nb b j') → ∃ v, toC ((lp_X5_cheapenBeside_17 k (nI b) n (j + 1) 1 (up2 M 26 (nb b j) (nI (u + w (nb b j))))).2 26) (nb b j') = some v ∧ v ≤ u + w (nb b j')) := by
          intro hlt
          obtain ⟨t1, t2⟩ := tab_set h hw hb (by omega) hu hu9 c1 hop hlt
          obtain ⟨g1, g2, g3, g4, g5, g6⟩ := ih (j + 1) 1 (up2 M 26 (nb b j) (nI (u + w (nb b j)))) u (by omega) (Or.inr rfl) (fun i hi => by rw [up2_row (by decide)]; exact hbs i hi) (fun c hc => by rw [up2_row (by decide)]; exact ho c hc) (fun c hc => by rw [up2_row (by omega)]; exact hwk c hc) (by rw [up2_upd]; exact t1) (by rw [up2_at, if_neg (fun e => nb_ne hb e.symm)]; exact hu) hu9
          rw [up2_upd] at g3
          refine ⟨fun a ha => (g1 a ha).trans (up2_row ha), g2, lowT_tr t2 g3, g4, fun z => absurd (g5 z).1 (by decide), fun j' h1 h2 h3 h4 => ?_⟩
          by_cases e : j' = j
          · subst e
            have hs567 : toC (upd (M 26) (nb b j') (nI (u + w (nb b j')))) (nb b j') = some (u + w (nb b j')) := toC_at c1 (by omega) (by unfold upd; rw [if_pos rfl])
            exact g3 _ _ hs567
          · exact g6 j' (by omega) h2 h3 h4
        by_cases c3 : M 26 (nb b j) = -1
        · rw [if_pos c3]; exact step (Or.inl c3)
        · rw [if_neg c3]
          obtain ⟨v, hv, hv9⟩ := tabC_le h.t c1 c3
          by_cases c4 : M 26 (nb b j) ≤ nI (u + w (nb b j))
          · rw [if_pos c4]
            rw [hv] at c4
            exact keep (fun _ _ => ⟨v, toC_at c1 (by omega) hv, (nI_leI (by omega) (by omega)).mp c4⟩)
          · rw [if_neg c4]
            rw [hv] at c4
            refine step (Or.inr ⟨v, hv, hv9, ?_⟩)
            rcases Nat.lt_or_ge (u + w (nb b j)) v with z | z
            · exact z
            · exact absurd ((nI_leI (by omega) (by omega)).mpr z) c4
    · have hneg : nbI b j < 0 := by unfold nbI; rw [if_neg c1]; decide
      rw [if_pos hneg]; exact keep (fun z => absurd z c1)
theorem cheapen_ok {op : Nat → Prop} {w : Nat → Nat} {s b k u : Nat} {M : bM} (hk : k < 23) (hb : b < 64) (hw : ∀ c, w c ≤ 9) (hbs : besR M) (ho : ∀ c, c < 64 → (op c ↔ ¬ M 25 c = 0)) (hwk : ∀ c, c < 64 → M k c = nI (w c)) (h : tabI op w s (M 26)) (hu : toC (M 26) b = some u) :
    (∀ a, a ≠ 26 → (f_X5_cheapenBeside M k (nI b)).2 a = M a) ∧ tabI op w s ((f_X5_cheapenBeside M k (nI b)).2 26) ∧ lowT (M 26) ((f_X5_cheapenBeside M k (nI b)).2 26) ∧
    ((f_X5_cheapenBeside M k (nI b)).1 = 0 → (f_X5_cheapenBeside M k (nI b)).2 = M) ∧ (∀ c, edg op b c → ∃ v, toC ((f_X5_cheapenBeside M k (nI b)).2 26) c = some v ∧ v ≤ u + w c) := by
  obtain ⟨_, h2, h3⟩ := (toC_some h.t).mp hu
  rw [u_f_X5_cheapenBeside, if_neg (nI_pos (by omega)), if_pos (show nI b < 64 from (nI_ltI (a := b) (b := 64) (by omega) (by decide)).mpr hb)]
  dsimp only
  obtain ⟨g1, g2, g3, g4, g5, g6⟩ := cheapen_loop hk hb hw 3 0 0 M u rfl (Or.inl rfl) hbs ho hwk h h2 h3
  exact ⟨g1, g2, g3, fun z => (g5 z).2, fun c ⟨e1, e2, j, hj, e3⟩ => by rw [← e3] at e1 e2 ⊢; exact g6 j (Nat.zero_le _) hj e1 e2⟩
