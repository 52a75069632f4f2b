/-! THE CHEAPEST WAYS of the class: cells beside become cheaper; rounds -/
abbrev minL (D : Nat → Option Nat) (o : Option Nat) : Prop := (o = none ∧ ∀ c, 56 ≤ c → c < 64 → D c = none) ∨ ∃ v c, o = some v ∧ 56 ≤ c ∧ c < 64 ∧ D c = some v ∧ ∀ c' v', 56 ≤ c' → c' < 64 → D c' = some v' → v ≤ v'
theorem minL_eq {D D' : Nat → Option Nat} {x y : Option Nat} (he : ∀ c, c < 64 → D c = D' c) (hx : minL D x) (hy : minL D' y) : x = y := by
  rcases hx with ⟨h1, h2⟩ | ⟨v, c, h1, h2, h3, h4, h5⟩
  · rcases hy with ⟨g1, g2⟩ | ⟨v', c', g1, g2, g3, g4, g5⟩
    · rw [h1, g1]
    · rw [← he c' g3, h2 c' g2 g3] at g4; exact absurd g4 (by simp)
  · rcases hy with ⟨g1, g2⟩ | ⟨v', c', g1, g2, g3, g4, g5⟩
    · rw [he c h3, g2 c h2 h3] at h4; exact absurd h4 (by simp)
    · have a := h5 c' v' g2 g3 (by rw [he c' g3]; exact g4)
      have b := g5 c v h2 h3 (by rw [← he c h3]; exact h4)
      rw [h1, g1, show v = v' by omega]
abbrev tabC (f : Nat → Int32) : Prop := ∀ c, c < 64 → f c = -1 ∨ ∃ v, f c = nI v ∧ v + 9 ≤ 9 * cnt (seen f) 64
theorem tabC_le {f : Nat → Int32} (h : tabC f) {c : Nat} (hc : c < 64) (hn : ¬ f c = -1) : ∃ v, f c = nI v ∧ v ≤ 567 := by
  rcases h c hc with z | ⟨v, h1, h2⟩
  · exact absurd z hn
  · have := cnt_le (seen f) 64
    exact ⟨v, h1, by omega⟩
theorem toC_some {f : Nat → Int32} (h : tabC f) {c v : Nat} : toC f c = some v ↔ c < 64 ∧ f c = nI v ∧ v ≤ 567 := by
  constructor
  · intro q
    have hc : c < 64 ∧ ¬ f c = -1 := Classical.byContradiction (fun z => by unfold toC at q; rw [if_neg z] at q; exact absurd q (by simp))
    obtain ⟨v', h1, h2⟩ := tabC_le h hc.1 hc.2
    rw [toC_at hc.1 (by omega) h1] at q
    have := Option.some.inj q
    subst this
    exact ⟨hc.1, h1, h2⟩
  · intro ⟨h1, h2, h3⟩
    exact toC_at h1 (by omega) h2
theorem nb_ne {b j : Nat} (hb : b < 64) : nb b j ≠ b := by
  unfold nb
  repeat' split
  all_goals omega
abbrev wC (M : bM) (k : Nat) : Nat → Nat := fun c => if c < 64 then (M k c).toNatClampNeg else 0
abbrev costC (M : bM) (k : Nat) : Prop := ∀ c, c < 64 → vp_in (M k c) 10
theorem wC_at {M : bM} {k c : Nat} (h : costC M k) (hc : c < 64) : M k c = nI (wC M k c) ∧ wC M k c ≤ 9 := by
  obtain ⟨j, hj, e⟩ := vp_in_of (h c hc) (by decide)
  unfold wC
  rw [if_pos hc, e, nI_clamp (by omega)]
  exact ⟨rfl, by omega⟩
/-- tables: sound, small -/
abbrev tabI (op : Nat → Prop) (w : Nat → Nat) (s : Nat) (f : Nat → Int32) : Prop := (tabC f) ∧ (sndD (edg op) w s (toC f))
theorem tabI.t {op : Nat → Prop} {w : Nat → Nat} {s : Nat} {f : Nat → Int32} (h : tabI op w s f) : tabC f := h.1
theorem tabI.s {op : Nat → Prop} {w : Nat → Nat} {s : Nat} {f : Nat → Int32} (h : tabI op w s f) : sndD (edg op) w s (toC f) := h.2
abbrev lowT (f f' : Nat → Int32) : Prop := ∀ c u, toC f c = some u → ∃ v, toC f' c = some v ∧ v ≤ u
theorem lowT_rf {f : Nat → Int32} : lowT f f := fun c u h => ⟨u, h, Nat.le_refl _⟩
theorem lowT_tr {f f' f'' : Nat → Int32} (h : lowT f f') (h' : lowT f' f'') : lowT f f'' := fun c u q => by
  obtain ⟨v, h1, h2⟩ := h c u q
  obtain ⟨v', h3, h4⟩ := h' c v h1
  exact ⟨v', h3, by omega⟩
/-- one cell beside is laid anew -/
theorem tab_set {op : Nat → Prop} {w : Nat → Nat} {s b j u : Nat} {f : Nat → Int32} (h : tabI op w s f) (hw : ∀ c, w c ≤ 9) (hb : b < 64) (hj : j < 3) (hu : f b = nI u) (hu9 : u ≤ 567) (hn : nb b j < 64) (ho : op (nb b j)) (hlt : f (nb b j) = -1 ∨ ∃ v, f (nb b j) = nI v ∧ v ≤ 567 ∧ u + w (nb b j) < v) :
    tabI op w s (upd f (nb b j) (nI (u + w (nb b j)))) ∧ lowT f (upd f (nb b j) (nI (u + w (nb b j)))) := by
  have hwx := hw (nb b j)
  have hbu := (toC_some h.t).mpr ⟨hb, hu, hu9⟩
  obtain ⟨n, hp⟩ := h.s.2 b u hbu
  have hpx : pth (edg op) w s (n + 1) (nb b j) (u + w (nb b j)) := ⟨b, u, hp, ⟨hn, ho, j, hj, rfl⟩, rfl⟩
  generalize hX : nb b j = x at *
  have hv : ∀ c, upd f x (nI (u + w x)) c = if c = x then nI (u + w x) else f c := fun c => rfl
  have hbx : b ≠ x := fun e => nb_ne hb (hX.trans e.symm)
  have hu2 : u + 9 ≤ 9 * cnt (seen f) 64 := by
    rcases h.t b hb with z | ⟨v, h1, h2⟩
    · rw [hu] at z; exact absurd z (nI_ne_m1 (by omega))
    · rw [nI_inj (by omega) (by have := cnt_le (seen f) 64; omega) (hu.symm.trans h1)]; exact h2
  have hT : tabC (upd f x (nI (u + w x))) := by
    have hcn : cnt (seen f) 64 ≤ cnt (seen (upd f x (nI (u + w x)))) 64 := cnt_mono (fun i hi q => by
      refine decide_eq_true ?_
      rw [hv]
      by_cases e : i = x
      · rw [if_pos e]; exact nI_ne_m1 (by omega)
      · rw [if_neg e]; exact of_decide_eq_true q)
    intro c hc
    rw [hv]
    by_cases e : c = x
    · rw [if_pos e]
      refine Or.inr ⟨_, rfl, ?_⟩
      rcases hlt with z | ⟨v, h1, h2, h3⟩
      · have := cnt_plus (p := seen f) (q := seen (upd f x (nI (u + w x)))) hn (fun q => (of_decide_eq_true q : ¬ f x = -1) z) (decide_eq_true (by rw [hv, if_pos rfl]; exact nI_ne_m1 (by omega))) (fun i hi he => by
          show decide _ = decide _
          rw [hv, if_neg he])
        omega
      · rcases h.t x hn with z | ⟨v', g1, g2⟩
        · rw [h1] at z; exact absurd z (nI_ne_m1 (by omega))
        · have := nI_inj (by omega) (by have := cnt_le (seen f) 64; omega) (h1.symm.trans g1)
          omega
    · rw [if_neg e]
      rcases h.t c hc with z | ⟨v, h1, h2⟩
      · exact Or.inl z
      · exact Or.inr ⟨v, h1, by omega⟩
  have hsm : u + w x ≤ 567 := by
    rcases hT x hn with z | ⟨v, g1, g2⟩
    · rw [hv, if_pos rfl] at z; exact absurd z (nI_ne_m1 (by omega))
    · rw [hv, if_pos rfl] at g1
      have h9 := cnt_le (seen (upd f x (nI (u + w x)))) 64
      have := nI_inj (by omega) (by omega) g1
      omega
  refine ⟨⟨hT, ⟨?_, fun c v hc => ?_⟩⟩, fun c v hc => ?_⟩
  · obtain ⟨g1, g2, g3⟩ := (toC_some h.t).mp h.s.1
    refine (toC_some hT).mpr ⟨g1, ?_, g3⟩
    rw [hv]
    by_cases e : s = x
    · exfalso
      rw [e] at g2
      rcases hlt with z | ⟨v, h1, h2, h3⟩
      · rw [g2] at z; exact absurd z (nI_ne_m1 (by omega))
      · have := nI_inj (by omega) (by omega) (h1.symm.trans g2); omega
    · rw [if_neg e]; exact g2
  · obtain ⟨g1, g2, g3⟩ := (toC_some hT).mp hc
    rw [hv] at g2
    by_cases e : c = x
    · rw [if_pos e] at g2
      have := nI_inj (by omega) (by omega) g2
      rw [e, ← this]; exact ⟨n + 1, hpx⟩
    · rw [if_neg e] at g2
      exact h.s.2 c v ((toC_some h.t).mpr ⟨g1, g2, g3⟩)
  · obtain ⟨g1, g2, g3⟩ := (toC_some h.t).mp hc
    by_cases e : c = x
    · refine ⟨u + w x, (toC_some hT).mpr ⟨g1, by rw [hv, if_pos e], hsm⟩, ?_⟩
      rw [e] at g2
      rcases hlt with z | ⟨v', h1, h2, h3⟩
      · rw [g2] at z; exact absurd z (nI_ne_m1 (by omega))
      · have := nI_inj (by omega) (by omega) (h1.symm.trans g2); omega
    · exact ⟨v, (toC_some hT).mpr ⟨g1, by rw [hv, if_neg e]; exact g2, g3⟩, Nat.le_refl _⟩
theorem cheapen_loop {op : Nat → Prop} {w : Nat → Nat} {s b k : Nat} (hk : k < 23) (hb : b < 64) (hw : ∀ c, w c ≤ 9) : ∀ (n j : Nat) (x : Int32) (M : bM) (u : Nat), j + n = 3 → (x = 0 ∨ x = 1) → besR M → (∀ c, c < 64 → (op c ↔ ¬ M 25 c = 0)) → (∀ c, c < 64 → M k c = nI (w c)) → tabI op w s (M 26) → M 26 b = nI u → u ≤ 567 →
    (∀ a, a ≠ 26 → (lp_X5_cheapenBeside_17 k (nI b) n j x M).2 a = M a) ∧ tabI op w s ((lp_X5_cheapenBeside_17 k (nI b) n j x M).2 26) ∧ lowT (M 26) ((lp_X5_cheapenBeside_17 k (nI b) n j x M).2 26) ∧
    ((lp_X5_cheapenBeside_17 k (nI b) n j x M).1 = 0 ∨ (lp_X5_cheapenBeside_17 k (nI b) n j x M).1 = 1) ∧ ((lp_X5_cheapenBeside_17 k (nI b) n j x M).1 = 0 → x = 0 ∧ (lp_X5_cheapenBeside_17 k (nI b) n j x M).2 = M) ∧
    (∀ j', j ≤ j' → j' < 3 → nb b j' < 64 → op (nb b j') → ∃ v, toC ((lp_X5_cheapenBeside_17 k (nI b) n j x M).2 26) (nb b j') = some v ∧ v ≤ u + w (nb b j')) := by
  intro n
  induction n with
  | zero =>
    intro j x M u hj hx hbs ho hwk h hu hu9
    rw [u0_lp_X5_cheapenBeside_17]
    exact ⟨fun _ _ => rfl, h, lowT_rf, hx, fun z => ⟨z, rfl⟩, fun j' h1 h2 => by omega⟩
  | succ n ih =>
    intro j x M u hj hx hbs ho hwk h hu hu9
    rw [u1_lp_X5_cheapenBeside_17, idx3 hb (by omega), bes_at hbs hb (by omega)]
    dsimp only
    have keep : (nb b j < 64 → op (nb b j) → ∃ v, toC (M 26) (nb b j) = some v ∧ v ≤ u + w (nb b j)) →
        (∀ a, a ≠ 26 → (lp_X5_cheapenBeside_17 k (nI b) n (j + 1) x M).2 a = M a) ∧ tabI op w s ((lp_X5_cheapenBeside_17 k (nI b) n (j + 1) x M).2 26) ∧ lowT (M 26) ((lp_X5_cheapenBeside_17 k (nI b) n (j + 1) x M).2 26) ∧
        ((lp_X5_cheapenBeside_17 k (nI b) n (j + 1) x M).1 = 0 ∨ (lp_X5_cheapenBeside_17 k (nI b) n (j + 1) x M).1 = 1) ∧ ((lp_X5_cheapenBeside_17 k (nI b) n (j + 1) x M).1 = 0 → x = 0 ∧ (lp_X5_cheapenBeside_17 k (nI b) n (j + 1) x M).2 = M) ∧
        (∀ j', j ≤ j' → j' < 3 → nb b j' < 64 → op (nb b j') → ∃ v, toC ((lp_X5_cheapenBeside_17 k (nI b) n (j + 1) x M).2 26) (nb b j') = some v ∧ v ≤ u + w (nb b j')) := by
      intro hno
      obtain ⟨g1, g2, g3, g4, g5, g6⟩ := ih (j + 1) x M u (by omega) hx hbs ho hwk h hu hu9
      refine ⟨g1, g2, g3, g4, g5, fun j' h1 h2 h3 h4 => ?_⟩
      by_cases e : j' = j
      · subst e
        obtain ⟨v, q1, q2⟩ := hno h3 h4
        obtain ⟨v', q3, q4⟩ := g3 _ _ q1
        exact ⟨v', q3, by omega⟩
      · exact g6 j' (by omega) h2 h3 h4
    by_cases c1 : nb b j < 64
    · rw [show nbI b j = nI (nb b j) from by unfold nbI; rw [if_pos c1], if_neg (show ¬ nI (nb b j) < 0 from nI_pos (by omega)), if_neg (show ¬ (64 : Int32) ≤ nI (nb b j) from nI_ge (a := nb b j) (b := 64) c1 (by decide)), nI_clamp (by omega), if_neg (show ¬ (64 : Int32) ≤ nI (nb b j) from nI_ge (a := nb b j) (b := 64) c1 (by decide))]
      by_cases c2 : M 25 (nb b j) = 0
      · rw [if_pos c2]; exact keep (fun _ z => absurd c2 ((ho _ c1).mp z))
      · rw [if_neg c2, nI_clamp (by omega), hu, hwk _ c1, nI_add]
        have hop := (ho _ c1).mpr c2
        have hwx := hw (nb b j)
        have step : (M 26 (nb b j) = -1 ∨ ∃ v, M 26 (nb b j) = nI v ∧ v ≤ 567 ∧ u + w (nb b j) < v) →
            (∀ a, a ≠ 26 → (lp_X5_cheapenBeside_17 k (nI b) n (j + 1) 1 (up2 M 26 (nb b j) (nI (u + w (nb b j))))).2 a = M a) ∧ tabI op w s ((lp_X5_cheapenBeside_17 k (nI b) n (j + 1) 1 (up2 M 26 (nb b j) (nI (u + w (nb b j))))).2 26) ∧ lowT (M 26) ((lp_X5_cheapenBeside_17 k (nI b) n (j + 1) 1 (up2 M 26 (nb b j) (nI (u + w (nb b j))))).2 26) ∧
            ((lp_X5_cheapenBeside_17 k (nI b) n (j + 1) 1 (up2 M 26 (nb b j) (nI (u + w (nb b j))))).1 = 0 ∨ (lp_X5_cheapenBeside_17 k (nI b) n (j + 1) 1 (up2 M 26 (nb b j) (nI (u + w (nb b j))))).1 = 1) ∧ ((lp_X5_cheapenBeside_17 k (nI b) n (j + 1) 1 (up2 M 26 (nb b j) (nI (u + w (nb b j))))).1 = 0 → x = 0 ∧ (lp_X5_cheapenBeside_17 k (nI b) n (j + 1) 1 (up2 M 26 (nb b j) (nI (u + w (nb b j))))).2 = M) ∧
            (∀ j', j ≤ j' → j' < 3 → nb b j' < 64 → op (nb b j') → ∃ v, toC ((lp_X5_cheapenBeside_17 k (nI b) n (j + 1) 1 (up2 M 26 (nb b j) (nI (u + w (nb b j))))).2 26) (nb b j') = some v ∧ v ≤ u + w (nb b j')) := by
          intro hlt
          obtain ⟨t1, t2⟩ := tab_set h hw hb (by omega) hu hu9 c1 hop hlt
          obtain ⟨g1, g2, g3, g4, g5, g6⟩ := ih (j + 1) 1 (up2 M 26 (nb b j) (nI (u + w (nb b j)))) u (by omega) (Or.inr rfl) (fun i hi => by rw [up2_row (by decide)]; exact hbs i hi) (fun c hc => by rw [up2_row (by decide)]; exact ho c hc) (fun c hc => by rw [up2_row (by omega)]; exact hwk c hc) (by rw [up2_upd]; exact t1) (by rw [up2_at, if_neg (fun e => nb_ne hb e.symm)]; exact hu) hu9
          rw [up2_upd] at g3
          refine ⟨fun a ha => (g1 a ha).trans (up2_row ha), g2, lowT_tr t2 g3, g4, fun z => absurd (g5 z).1 (by decide), fun j' h1 h2 h3 h4 => ?_⟩
          by_cases e : j' = j
          · subst e
            have hs567 : toC (upd (M 26) (nb b j') (nI (u + w (nb b j')))) (nb b j') = some (u + w (nb b j')) := toC_at c1 (by omega) (by unfold upd; rw [if_pos rfl])
            exact g3 _ _ hs567
          · exact g6 j' (by omega) h2 h3 h4
        by_cases c3 : M 26 (nb b j) = -1
        · rw [if_pos c3]; exact step (Or.inl c3)
        · rw [if_neg c3]
          obtain ⟨v, hv, hv9⟩ := tabC_le h.t c1 c3
          by_cases c4 : M 26 (nb b j) ≤ nI (u + w (nb b j))
          · rw [if_pos c4]
            rw [hv] at c4
            exact keep (fun _ _ => ⟨v, toC_at c1 (by omega) hv, (nI_leI (by omega) (by omega)).mp c4⟩)
          · rw [if_neg c4]
            rw [hv] at c4
            refine step (Or.inr ⟨v, hv, hv9, ?_⟩)
            rcases Nat.lt_or_ge (u + w (nb b j)) v with z | z
            · exact z
            · exact absurd ((nI_leI (by omega) (by omega)).mpr z) c4
    · have hneg : nbI b j < 0 := by unfold nbI; rw [if_neg c1]; decide
      rw [if_pos hneg]; exact keep (fun z => absurd z c1)
theorem cheapen_ok {op : Nat → Prop} {w : Nat → Nat} {s b k u : Nat} {M : bM} (hk : k < 23) (hb : b < 64) (hw : ∀ c, w c ≤ 9) (hbs : besR M) (ho : ∀ c, c < 64 → (op c ↔ ¬ M 25 c = 0)) (hwk : ∀ c, c < 64 → M k c = nI (w c)) (h : tabI op w s (M 26)) (hu : toC (M 26) b = some u) :
    (∀ a, a ≠ 26 → (f_X5_cheapenBeside M k (nI b)).2 a = M a) ∧ tabI op w s ((f_X5_cheapenBeside M k (nI b)).2 26) ∧ lowT (M 26) ((f_X5_cheapenBeside M k (nI b)).2 26) ∧
    ((f_X5_cheapenBeside M k (nI b)).1 = 0 → (f_X5_cheapenBeside M k (nI b)).2 = M) ∧ (∀ c, edg op b c → ∃ v, toC ((f_X5_cheapenBeside M k (nI b)).2 26) c = some v ∧ v ≤ u + w c) := by
  obtain ⟨_, h2, h3⟩ := (toC_some h.t).mp hu
  rw [u_f_X5_cheapenBeside, if_neg (nI_pos (by omega)), if_pos (show nI b < 64 from (nI_ltI (a := b) (b := 64) (by omega) (by decide)).mpr hb)]
  dsimp only
  obtain ⟨g1, g2, g3, g4, g5, g6⟩ := cheapen_loop hk hb hw 3 0 0 M u rfl (Or.inl rfl) hbs ho hwk h h2 h3
  exact ⟨g1, g2, g3, fun z => (g5 z).2, fun c ⟨e1, e2, j, hj, e3⟩ => by rw [← e3] at e1 e2 ⊢; exact g6 j (Nat.zero_le _) hj e1 e2⟩
/-! THE CHEAPEST CELL FIRST, ROUNDS, and the reference's least -/
theorem right_stays {op : Nat → Prop} {w : Nat → Nat} {s c v : Nat} {D : Nat → Option Nat} {f f' : Nat → Int32} (hD : wayD (edg op) w s D) (hl : lowT f f') (hs : tabI op w s f') (h : toC f c = some v) (hc : D c = some v) : toC f' c = some v := by
  obtain ⟨v', h1, h2⟩ := hl c v h
  obtain ⟨n, hp⟩ := hs.s.2 c v' h1
  obtain ⟨u, h3, h4⟩ := wayD_le hD n c v' hp
  rw [hc] at h3
  have := Option.some.inj h3
  rw [h1, show v' = v by omega]
theorem begin_tab {op : Nat → Prop} {w : Nat → Nat} {M : bM} {s : Nat} (hs : s < 64) : tabI op w s (f_X5_beginFrom M (nI s) 26) := by
  obtain ⟨b1, b2⟩ := beginC (M := M) (x := nI s)
  have e26 : ∀ c, c < 64 → f_X5_beginFrom M (nI s) 26 c = if c = s then 0 else -1 := by
    intro c hc
    rw [(b2 c hc).1]
    by_cases e : c = s
    · rw [if_pos e, if_pos (by rw [e])]
    · rw [if_neg e, if_neg (fun z => e (nI_inj (by omega) (by omega) z))]
  have hcn : cnt (seen (f_X5_beginFrom M (nI s) 26)) 64 = 1 := cnt_one hs (decide_eq_true (by rw [e26 s hs, if_pos rfl]; decide)) (fun i hi he z => by
    have := of_decide_eq_true z
    rw [e26 i hi, if_neg he] at this
    exact this rfl)
  have ht : tabC (f_X5_beginFrom M (nI s) 26) := by
    intro c hc
    rw [e26 c hc, hcn]
    by_cases e : c = s
    · rw [if_pos e]; exact Or.inr ⟨0, rfl, by decide⟩
    · rw [if_neg e]; exact Or.inl rfl
  refine ⟨ht, toC_at hs (v := 0) (by decide) (by rw [e26 s hs, if_pos rfl]; rfl), fun c v hv => ?_⟩
  obtain ⟨h1, h2, h3⟩ := (toC_some ht).mp hv
  rw [e26 c h1] at h2
  by_cases e : c = s
  · rw [if_pos e] at h2
    have := nI_inj (a := 0) (b := v) (by decide) (by omega) h2
    exact ⟨0, e, this.symm⟩
  · rw [if_neg e] at h2; exact absurd h2.symm (nI_ne_m1 (by omega))
/-- what has not been settled, and costs least -/
theorem unset_loop {M : bM} (ht : tabC (M 26)) : ∀ (n i : Nat) (x y : Int32), i + n = 64 →
    ((x = 1000000 ∧ y = -1 ∧ (∀ c, c < i → M 29 c = 0 → M 26 c = -1)) ∨ ∃ v c, x = nI v ∧ v ≤ 567 ∧ y = nI c ∧ c < 64 ∧ M 26 c = nI v ∧ M 29 c = 0 ∧ ∀ c' v', c' < i → M 29 c' = 0 → M 26 c' = nI v' → v' ≤ 567 → v ≤ v') →
    (((lp_X5_cheapestUnsettled_7 M n i x y).2 = -1 ∧ (∀ c, c < 64 → M 29 c = 0 → M 26 c = -1)) ∨ ∃ v c, (lp_X5_cheapestUnsettled_7 M n i x y).2 = nI c ∧ v ≤ 567 ∧ c < 64 ∧ M 26 c = nI v ∧ M 29 c = 0 ∧ ∀ c' v', c' < 64 → M 29 c' = 0 → M 26 c' = nI v' → v' ≤ 567 → v ≤ v') := by
  intro n
  induction n with
  | zero =>
    intro i x y hi h
    rw [u0_lp_X5_cheapestUnsettled_7]
    rw [show i = 64 by omega] at h
    rcases h with ⟨_, h2, h3⟩ | ⟨v, c, _, h2, h3, h4, h5, h6, h7⟩
    · exact Or.inl ⟨h2, h3⟩
    · exact Or.inr ⟨v, c, h3, h2, h4, h5, h6, h7⟩
  | succ n ih =>
    intro i x y hi h
    have hi64 : i < 64 := by omega
    rw [u1_lp_X5_cheapestUnsettled_7]
    dsimp only
    have keep : (M 29 i = 0 → M 26 i = -1 ∨ ∃ v v', x = nI v ∧ v ≤ 567 ∧ M 26 i = nI v' ∧ v' ≤ 567 ∧ v ≤ v') → (((lp_X5_cheapestUnsettled_7 M n (i + 1) x y).2 = -1 ∧ (∀ c, c < 64 → M 29 c = 0 → M 26 c = -1)) ∨ ∃ v c, (lp_X5_cheapestUnsettled_7 M n (i + 1) x y).2 = nI c ∧ v ≤ 567 ∧ c < 64 ∧ M 26 c = nI v ∧ M 29 c = 0 ∧ ∀ c' v', c' < 64 → M 29 c' = 0 → M 26 c' = nI v' → v' ≤ 567 → v ≤ v') := by
      intro hno
      refine ih (i + 1) x y (by omega) ?_
      rcases h with ⟨h1, h2, h3⟩ | ⟨v, c, h1, h2, h3, h4, h5, h6, h7⟩
      · refine Or.inl ⟨h1, h2, fun c hc h29 => ?_⟩
        by_cases e : c = i
        · rw [e] at h29 ⊢
          rcases hno h29 with z | ⟨v, v', z1, z2, _⟩
          · exact z
          · rw [h1] at z1
            have := nI_inj (a := 1000000) (b := v) (by decide) (by omega) z1
            omega
        · exact h3 c (by omega) h29
      · refine Or.inr ⟨v, c, h1, h2, h3, h4, h5, h6, fun c' v' hc h29 h26 hv' => ?_⟩
        by_cases e : c' = i
        · rw [e] at h29 h26
          rcases hno h29 with z | ⟨v1, v2, z1, z2, z3, z4, z5⟩
          · rw [h26] at z; exact absurd z (nI_ne_m1 (by omega))
          · have a1 := nI_inj (by omega) (by omega) (h1.symm.trans z1)
            have a2 := nI_inj (by omega) (by omega) (h26.symm.trans z3)
            omega
        · exact h7 c' v' (by omega) h29 h26 hv'
    by_cases c1 : M 26 i = -1
    · rw [if_pos c1]; exact keep (fun _ => Or.inl c1)
    · rw [if_neg c1]
      obtain ⟨u, hu, hu9⟩ := tabC_le ht hi64 c1
      by_cases c2 : M 29 i = 0
      · rw [if_pos c2, hu]
        have take : (∀ c' v', c' < i → M 29 c' = 0 → M 26 c' = nI v' → v' ≤ 567 → u ≤ v') → (((lp_X5_cheapestUnsettled_7 M n (i + 1) (nI u) (nI i)).2 = -1 ∧ (∀ c, c < 64 → M 29 c = 0 → M 26 c = -1)) ∨ ∃ v c, (lp_X5_cheapestUnsettled_7 M n (i + 1) (nI u) (nI i)).2 = nI c ∧ v ≤ 567 ∧ c < 64 ∧ M 26 c = nI v ∧ M 29 c = 0 ∧ ∀ c' v', c' < 64 → M 29 c' = 0 → M 26 c' = nI v' → v' ≤ 567 → v ≤ v') := by
          intro hm
          refine ih (i + 1) _ _ (by omega) (Or.inr ⟨u, i, rfl, hu9, rfl, hi64, hu, c2, fun c' v' hc h29 h26 hv' => ?_⟩)
          by_cases e : c' = i
          · rw [e, hu] at h26; rw [nI_inj (by omega) (by omega) h26]; exact Nat.le_refl _
          · exact hm c' v' (by omega) h29 h26 hv'
        rcases h with ⟨h1, h2, h3⟩ | ⟨v, c, h1, h2, h3, h4, h5, h6, h7⟩
        · rw [if_neg (show ¬ x ≤ nI u from by rw [h1]; exact nI_ge (a := u) (b := 1000000) (by omega) (by decide))]
          exact take (fun c' v' hc h29 h26 hv' => by rw [h3 c' hc h29] at h26; exact absurd h26.symm (nI_ne_m1 (by omega)))
        · by_cases c3 : x ≤ nI u
          · rw [if_pos c3]
            have c3' := c3
            rw [h1] at c3'
            exact keep (fun _ => Or.inr ⟨v, u, h1, h2, hu, hu9, (nI_leI (by omega) (by omega)).mp c3'⟩)
          · rw [if_neg c3]
            rw [h1] at c3
            have hlt : u < v := by
              rcases Nat.lt_or_ge u v with z | z
              · exact z
              · exact absurd ((nI_leI (by omega) (by omega)).mpr z) c3
            exact take (fun c' v' hc h29 h26 hv' => by have := h7 c' v' hc h29 h26 hv'; omega)
      · rw [if_neg c2]; exact keep (fun z => absurd z c2)
theorem unset_ok {M : bM} (ht : tabC (M 26)) : (f_X5_cheapestUnsettled M = -1 ∧ (∀ c, c < 64 → M 29 c = 0 → M 26 c = -1)) ∨ ∃ v c, f_X5_cheapestUnsettled M = nI c ∧ v ≤ 567 ∧ c < 64 ∧ M 26 c = nI v ∧ M 29 c = 0 ∧ ∀ c' v', c' < 64 → M 29 c' = 0 → M 26 c' = nI v' → v' ≤ 567 → v ≤ v' := by
  rw [u_f_X5_cheapestUnsettled]
  exact unset_loop ht 64 0 1000000 (-1) rfl (Or.inl ⟨rfl, rfl, fun c h => absurd h (Nat.not_lt_zero c)⟩)
/-- -1 stands for no way -/
abbrev ansC (o : Option Nat) : Int32 := match o with
  | some v => nI v
  | none => -1
abbrev stl (M : bM) (c : Nat) : Prop := c < 64 ∧ ¬ M 29 c = 0
abbrev dijI (op : Nat → Prop) (w : Nat → Nat) (s : Nat) (D : Nat → Option Nat) (M : bM) (i : Nat) : Prop := (tabI op w s (M 26)) ∧ (∀ c, stl M c → toC (M 26) c = D c) ∧ (∀ b c u, stl M b → toC (M 26) b = some u → edg op b c → ∃ v, toC (M 26) c = some v ∧ v ≤ u + w c) ∧ (∀ c, stl M c → c < 56) ∧ (cnt (fun c => decide (¬ M 29 c = 0)) 64 = i)
theorem dijI.t {op : Nat → Prop} {w : Nat → Nat} {s : Nat} {D : Nat → Option Nat} {M : bM} {i : Nat} (h : dijI op w s D M i) : tabI op w s (M 26) := h.1
theorem dijI.d {op : Nat → Prop} {w : Nat → Nat} {s : Nat} {D : Nat → Option Nat} {M : bM} {i : Nat} (h : dijI op w s D M i) : ∀ c, stl M c → toC (M 26) c = D c := h.2.1
theorem dijI.r {op : Nat → Prop} {w : Nat → Nat} {s : Nat} {D : Nat → Option Nat} {M : bM} {i : Nat} (h : dijI op w s D M i) : ∀ b c u, stl M b → toC (M 26) b = some u → edg op b c → ∃ v, toC (M 26) c = some v ∧ v ≤ u + w c := h.2.2.1
theorem dijI.l {op : Nat → Prop} {w : Nat → Nat} {s : Nat} {D : Nat → Option Nat} {M : bM} {i : Nat} (h : dijI op w s D M i) : ∀ c, stl M c → c < 56 := h.2.2.2.1
theorem dijI.n {op : Nat → Prop} {w : Nat → Nat} {s : Nat} {D : Nat → Option Nat} {M : bM} {i : Nat} (h : dijI op w s D M i) : cnt (fun c => decide (¬ M 29 c = 0)) 64 = i := h.2.2.2.2
def outD (t : Bool × Int32 × bM) : Int32 := if t.1 = true then t.2.1 else -1
theorem dij_loop {op : Nat → Prop} {w : Nat → Nat} {s k : Nat} {D : Nat → Option Nat} (hk : k < 23) (hs : s < 64) (hw : ∀ c, w c ≤ 9) (hD : wayD (edg op) w s D) : ∀ (n i : Nat) (M : bM), i + n = 64 → besR M → (∀ c, c < 64 → (op c ↔ ¬ M 25 c = 0)) → (∀ c, c < 64 → M k c = nI (w c)) → dijI op w s D M i →
    (∀ a, a ≠ 26 → a ≠ 29 → (lp_X5_cheapestCellFirst_7 k n i M).2.2 a = M a) ∧ ∃ o, minL D o ∧ outD (lp_X5_cheapestCellFirst_7 k n i M) = ansC o ∧ ∀ v, o = some v → v ≤ 567 := by
  intro n
  induction n with
  | zero =>
    intro i M hi hbs ho hwk h
    exfalso
    have h1 := cnt_all (p := fun c => decide (¬ M 29 c = 0)) (n := 64) (by rw [h.n]; omega) 60 (by decide)
    have := h.l 60 ⟨by decide, of_decide_eq_true h1⟩
    omega
  | succ n ih =>
    intro i M hi hbs ho hwk h
    rw [u1_lp_X5_cheapestCellFirst_7]
    dsimp only
    rcases unset_ok h.t.t with ⟨h1, h2⟩ | ⟨v, c, h1, hv9, hc, h26, h29, hmin⟩
    · rw [h1, if_pos (show f_X6_fits (-1) = 0 by decide)]
      refine ⟨fun _ _ _ => rfl, none, Or.inl ⟨rfl, fun c q1 q2 => ?_⟩, rfl, fun v q => absurd q (by simp)⟩
      refine dij_none hD h.t.s h.d h.r (fun x hx => ?_) c (fun z => by have := h.l c z; omega)
      by_cases hx64 : x < 64
      · exact (toC_none hx64).mpr (h2 x hx64 (Classical.byContradiction (fun z => hx ⟨hx64, z⟩)))
      · unfold toC; rw [if_neg (fun z => hx64 z.1)]
    · have hO : toC (M 26) c = some v := toC_at hc (by omega) h26
      have hnS : ¬ stl M c := fun z => z.2 h29
      obtain ⟨hr1, hr2⟩ := dij_right hD h.t.s h.d h.r hnS hO (fun x u hx hu => by
        obtain ⟨q1, q2, q3⟩ := (toC_some h.t.t).mp hu
        exact hmin x u q1 (Classical.byContradiction (fun z => hx ⟨q1, z⟩)) q2 q3)
      rw [h1, fits_nI hc, if_neg (by decide), nI_clamp (by omega)]
      by_cases c2 : nI c / 8 = 7
      · rw [if_pos c2]
        refine ⟨fun _ _ _ => rfl, some v, Or.inr ⟨v, c, rfl, (div8 hc).mp c2, hc, hr1, fun c' v' q1 q2 q3 => hr2 c' v' (fun z => by have := h.l c' z; omega) q3⟩, (show M 26 c = nI v from h26), fun v' q => by rw [← Option.some.inj q]; exact hv9⟩
      · rw [if_neg c2]
        have c56 : c < 56 := by
          rcases Nat.lt_or_ge c 56 with z | z
          · exact z
          · exact absurd ((div8 hc).mpr z) c2
        have e26 : up2 M 29 c 1 26 = M 26 := up2_row (by decide)
        obtain ⟨g1, g2, g3, _, g5⟩ := cheapen_ok (op := op) (w := w) (s := s) (b := c) (k := k) (u := v) (M := up2 M 29 c 1) hk hc hw (fun j hj => by rw [up2_row (by decide)]; exact hbs j hj) (fun x hx => by rw [up2_row (by decide)]; exact ho x hx) (fun x hx => by rw [up2_row (by omega)]; exact hwk x hx) (by rw [e26]; exact h.t) (by rw [e26]; exact hO)
        rw [e26] at g3
        generalize f_X5_cheapenBeside (up2 M 29 c 1) k (nI c) = Z at *
        have e29 : ∀ x, Z.2 29 x = if x = c then 1 else M 29 x := fun x => by rw [g1 29 (by decide), up2_at]
        have hst : ∀ x, stl Z.2 x → x = c ∨ stl M x := by
          intro x hx
          have := hx.2
          rw [e29] at this
          by_cases e : x = c
          · exact Or.inl e
          · rw [if_neg e] at this; exact Or.inr ⟨hx.1, this⟩
        have hdd : ∀ x, stl Z.2 x → ∃ u, toC (M 26) x = some u ∧ D x = some u ∨ (toC (Z.2 26) x = none ∧ D x = none) := by
          intro x hx
          rcases hst x hx with e | e
          · rw [e]; exact ⟨v, Or.inl ⟨hO, hr1⟩⟩
          · have q := h.d x e
            rcases hd : D x with _ | u
            · refine ⟨0, Or.inr ⟨?_, rfl⟩⟩
              rcases hz : toC (Z.2 26) x with _ | y
              · rfl
              · obtain ⟨m, hp⟩ := g2.s.2 x y hz
                obtain ⟨u, q1, _⟩ := wayD_le hD m x y hp
                rw [hd] at q1; exact absurd q1 (by simp)
            · exact ⟨u, Or.inl ⟨q.trans hd, rfl⟩⟩
        obtain ⟨f1, f2⟩ := ih (i + 1) Z.2 (by omega) (fun j hj => by rw [g1 24 (by decide), up2_row (by decide)]; exact hbs j hj) (fun x hx => by rw [g1 25 (by decide), up2_row (by decide)]; exact ho x hx) (fun x hx => by rw [g1 k (by omega), up2_row (by omega)]; exact hwk x hx) ⟨g2, fun x hx => by
            obtain ⟨u, q⟩ := hdd x hx
            rcases q with ⟨q1, q2⟩ | ⟨q1, q2⟩
            · rw [right_stays hD g3 g2 q1 q2, q2]
            · rw [q1, q2], fun b x u hb hu he => by
            rcases hst b hb with e | e
            · rw [e] at hu he
              rw [right_stays hD g3 g2 hO hr1] at hu
              have := Option.some.inj hu
              rw [← this]
              exact g5 x he
            · obtain ⟨u', q⟩ := hdd b hb
              rcases q with ⟨q1, q2⟩ | ⟨q1, q2⟩
              · rw [right_stays hD g3 g2 q1 q2] at hu
                have := Option.some.inj hu
                obtain ⟨y, y1, y2⟩ := h.r b x u' e q1 he
                obtain ⟨y', y3, y4⟩ := g3 x y y1
                exact ⟨y', y3, by omega⟩
              · rw [q1] at hu; exact absurd hu (by simp), fun x hx => by
            rcases hst x hx with e | e
            · omega
            · exact h.l x e, by
            rw [← h.n]
            refine cnt_plus (k := c) hc (fun q => (of_decide_eq_true q : ¬ M 29 c = 0) h29) (decide_eq_true (by rw [e29, if_pos rfl]; decide)) (fun j hj he => ?_)
            show decide _ = decide _
            rw [e29, if_neg he]⟩
        exact ⟨fun a q1 q2 => (f1 a q1 q2).trans ((g1 a q1).trans (up2_row q2)), f2⟩
/-- the least cost of a way to the last row, cheapest cell first -/
theorem first_ok {op : Nat → Prop} {w : Nat → Nat} {s k : Nat} {D : Nat → Option Nat} {M : bM} (hk : k < 23) (hs : s < 64) (hw : ∀ c, w c ≤ 9) (hD : wayD (edg op) w s D) (hbs : besR M) (ho : ∀ c, c < 64 → (op c ↔ ¬ M 25 c = 0)) (hwk : ∀ c, c < 64 → M k c = nI (w c)) :
    (∀ a, a ≠ 26 → a ≠ 29 → (f_X5_cheapestCellFirst M k (nI s)).2 a = M a) ∧ ∃ o, minL D o ∧ (f_X5_cheapestCellFirst M k (nI s)).1 = ansC o ∧ ∀ v, o = some v → v ≤ 567 := by
  obtain ⟨b1, b2⟩ := beginC (M := M) (x := nI s)
  have ht := begin_tab (op := op) (w := w) (M := M) hs
  rw [u_f_X5_cheapestCellFirst]
  dsimp only
  have hnS : ∀ c, ¬ stl (f_X5_beginFrom M (nI s)) c := fun c z => z.2 (b2 c z.1).2
  obtain ⟨g1, o, g2, g3, g4⟩ := dij_loop hk hs hw hD 64 0 (f_X5_beginFrom M (nI s)) rfl (fun j hj => by rw [b1 24 (by decide) (by decide)]; exact hbs j hj) (fun x hx => by rw [b1 25 (by decide) (by decide)]; exact ho x hx) (fun x hx => by rw [b1 k (by omega) (by omega)]; exact hwk x hx) ⟨ht, fun c z => absurd z (hnS c), fun b c u z => absurd z (hnS b), fun c z => absurd z (hnS c), by
    have : ∀ m, m ≤ 64 → cnt (fun c => decide (¬ f_X5_beginFrom M (nI s) 29 c = 0)) m = 0 := by
      intro m
      induction m with
      | zero => intro _; rfl
      | succ m ihm =>
        intro hm
        show cnt _ m + (if decide (¬ f_X5_beginFrom M (nI s) 29 m = 0) = true then 1 else 0) = 0
        rw [ihm (by omega), if_neg (fun q => (of_decide_eq_true q) (b2 m (by omega)).2)]
    exact this 64 (Nat.le_refl _)⟩
  generalize lp_X5_cheapestCellFirst_7 k 64 0 (f_X5_beginFrom M (nI s)) = Z at *
  by_cases c1 : Z.1 = true
  · unfold outD at g3
    rw [if_pos c1] at g3 ⊢
    exact ⟨fun a q1 q2 => (g1 a q1 q2).trans (b1 a q1 q2), o, g2, g3, g4⟩
  · unfold outD at g3
    rw [if_neg c1] at g3 ⊢
    exact ⟨fun a q1 q2 => (g1 a q1 q2).trans (b1 a q1 q2), o, g2, g3, g4⟩
