/-! THE RELATION: copies of games; the class's and the reference's first game -/
theorem cr_loop {k1 k2 : Nat} (hk : k1 ≠ k2) : ∀ (n i : Nat) (M : bM), i + n = 64 → ∀ x y, lp_X6_copyRow_2 k1 k2 n i M x y = if x = k2 ∧ i ≤ y ∧ y < 64 then M k1 y else M x y := by
  intro n
  induction n with
  | zero => intro i M hi x y; rw [u0_lp_X6_copyRow_2, if_neg (show ¬ (x = k2 ∧ i ≤ y ∧ y < 64) by omega)]
  | succ n ih =>
    intro i M hi x y
    rw [u1_lp_X6_copyRow_2]
    try dsimp only
    rw [ih (i + 1) _ (by omega)]
    by_cases e : x = k2 ∧ y = i
    · rw [if_neg (show ¬ (x = k2 ∧ i + 1 ≤ y ∧ y < 64) by omega), u2, if_pos e, if_pos (show x = k2 ∧ i ≤ y ∧ y < 64 by omega), e.2]
    · by_cases h : x = k2 ∧ i ≤ y ∧ y < 64
      · rw [if_pos h, if_pos (show x = k2 ∧ i + 1 ≤ y ∧ y < 64 by omega), u2, if_neg (by omega)]
      · rw [if_neg h, if_neg (show ¬ (x = k2 ∧ i + 1 ≤ y ∧ y < 64) by omega), u2, if_neg e]
theorem cb_loop {w w1 : Nat} (hw : w + 3 ≠ w1 + 3) : ∀ (n i : Nat) (M : bM), i + n = 64 → ∀ x y, lp_X2_copyFrom_24 w w1 n i M x y = if x = w + 3 ∧ i ≤ y ∧ y < 64 then vp_nar .boolean (M (w1 + 3) y) else M x y := by
  intro n
  induction n with
  | zero => intro i M hi x y; rw [u0_lp_X2_copyFrom_24, if_neg (show ¬ (x = w + 3 ∧ i ≤ y ∧ y < 64) by omega)]
  | succ n ih =>
    intro i M hi x y
    rw [u1_lp_X2_copyFrom_24]
    try dsimp only
    rw [ih (i + 1) _ (by omega)]
    by_cases e : x = w + 3 ∧ y = i
    · rw [if_neg (show ¬ (x = w + 3 ∧ i + 1 ≤ y ∧ y < 64) by omega), u2, if_pos e, if_pos (show x = w + 3 ∧ i ≤ y ∧ y < 64 by omega), e.2]
    · by_cases h : x = w + 3 ∧ i ≤ y ∧ y < 64
      · rw [if_pos h, if_pos (show x = w + 3 ∧ i + 1 ≤ y ∧ y < 64 by omega), u2, if_neg (by omega)]
      · rw [if_neg h, if_neg (show ¬ (x = w + 3 ∧ i + 1 ≤ y ∧ y < 64) by omega), u2, if_neg e]
theorem c2_at {M : bM} {w w1 : Nat} (hw : w + 4 ≤ w1 ∨ w1 + 4 ≤ w) (x y : Nat) : f_X2_copyFrom M w w1 x y = if x = w ∧ 3 ≤ y ∧ y ≤ 7 then M w1 y else if x = w + 3 ∧ y < 64 then vp_nar .boolean (M (w1 + 3) y) else if x = w + 2 ∧ y < 64 then M (w1 + 2) y else if x = w + 1 ∧ y < 64 then M (w1 + 1) y else M x y := by
  rw [u_f_X2_copyFrom]
  dsimp only
  rw [u_f_X6_copyRow, u_f_X6_copyRow]
  dsimp only
  have h1 := cr_loop (k1 := w1 + 1) (k2 := w + 1) (by omega) 64 0 M rfl
  generalize lp_X6_copyRow_2 (w1 + 1) (w + 1) 64 0 M = A at *
  have h2 := cr_loop (k1 := w1 + 2) (k2 := w + 2) (by omega) 64 0 A rfl
  generalize lp_X6_copyRow_2 (w1 + 2) (w + 2) 64 0 A = B at *
  have h3 := cb_loop (w := w) (w1 := w1) (by omega) 64 0 B rfl
  generalize lp_X2_copyFrom_24 w w1 64 0 B = C at *
  have hC : ∀ a b, (a ≠ w + 3 ∨ 64 ≤ b) → (a ≠ w + 2 ∨ 64 ≤ b) → (a ≠ w + 1 ∨ 64 ≤ b) → C a b = M a b := fun a b q1 q2 q3 => by
    rw [h3, if_neg (by omega), h2, if_neg (by omega), h1, if_neg (by omega)]
  have c3 : ∀ j, C w1 j = M w1 j := fun j => hC _ _ (by omega) (by omega) (by omega)
  have e4 : up2 C w 3 (C w1 3) w1 4 = M w1 4 := by rw [u2, if_neg (by omega), c3]
  rw [c3, show up2 C w 3 (M w1 3) w1 4 = M w1 4 by rw [u2, if_neg (by omega), c3]]
  rw [show up2 (up2 C w 3 (M w1 3)) w 4 (M w1 4) w1 5 = M w1 5 by rw [u2, if_neg (by omega), u2, if_neg (by omega), c3]]
  rw [show up2 (up2 (up2 C w 3 (M w1 3)) w 4 (M w1 4)) w 5 (M w1 5) w1 6 = M w1 6 by rw [u2, if_neg (by omega), u2, if_neg (by omega), u2, if_neg (by omega), c3]]
  rw [show up2 (up2 (up2 (up2 C w 3 (M w1 3)) w 4 (M w1 4)) w 5 (M w1 5)) w 6 (M w1 6) w1 7 = M w1 7 by rw [u2, if_neg (by omega), u2, if_neg (by omega), u2, if_neg (by omega), u2, if_neg (by omega), c3]]
  rw [u2, u2, u2, u2, u2]
  by_cases k7 : x = w ∧ y = 7
  · rw [if_pos k7, if_pos (show x = w ∧ 3 ≤ y ∧ y ≤ 7 by omega), k7.2]
  rw [if_neg k7]
  by_cases k6 : x = w ∧ y = 6
  · rw [if_pos k6, if_pos (show x = w ∧ 3 ≤ y ∧ y ≤ 7 by omega), k6.2]
  rw [if_neg k6]
  by_cases k5 : x = w ∧ y = 5
  · rw [if_pos k5, if_pos (show x = w ∧ 3 ≤ y ∧ y ≤ 7 by omega), k5.2]
  rw [if_neg k5]
  by_cases k4 : x = w ∧ y = 4
  · rw [if_pos k4, if_pos (show x = w ∧ 3 ≤ y ∧ y ≤ 7 by omega), k4.2]
  rw [if_neg k4]
  by_cases k3 : x = w ∧ y = 3
  · rw [if_pos k3, if_pos (show x = w ∧ 3 ≤ y ∧ y ≤ 7 by omega), k3.2]
  rw [if_neg k3, if_neg (show ¬ (x = w ∧ 3 ≤ y ∧ y ≤ 7) by omega)]
  by_cases r3 : x = w + 3 ∧ y < 64
  · rw [if_pos r3, h3, if_pos (show x = w + 3 ∧ 0 ≤ y ∧ y < 64 by omega), h2, if_neg (by omega), h1, if_neg (by omega)]
  rw [if_neg r3]
  by_cases r2 : x = w + 2 ∧ y < 64
  · rw [if_pos r2, h3, if_neg (by omega), h2, if_pos (show x = w + 2 ∧ 0 ≤ y ∧ y < 64 by omega), h1, if_neg (by omega)]
  rw [if_neg r2]
  by_cases r1 : x = w + 1 ∧ y < 64
  · rw [if_pos r1, h3, if_neg (by omega), h2, if_neg (by omega), h1, if_pos (show x = w + 1 ∧ 0 ≤ y ∧ y < 64 by omega)]
  · rw [if_neg r1]; exact hC x y (by omega) (by omega) (by omega)
theorem nar_bt {x : Int32} (h : bt x) : vp_nar .boolean x = x := by
  rcases h with rfl | rfl <;> rfl
/-- a copy of a game is that game -/
theorem gv_copy {M : bM} {g g1 : Nat} (hg : g + 10 ≤ g1 ∨ g1 + 10 ≤ g) (hB : isB M g1) : gv (f_X0_copyFrom M g g1) g = gv M g1 ∧ isB (f_X0_copyFrom M g g1) g := by
  have fr1 : ∀ x, x < g + 1 ∨ g + 1 + 4 ≤ x → f_X2_copyFrom M (g + 1) (g1 + 1) x = M x := fun x hx => fr_X2_copyFrom M (g + 1) (g1 + 1) x hx
  have h1 := c2_at (M := M) (w := g + 1) (w1 := g1 + 1) (by omega)
  rw [u_f_X0_copyFrom]
  dsimp only
  generalize f_X2_copyFrom M (g + 1) (g1 + 1) = A at *
  have h2 := c2_at (M := A) (w := g + 5) (w1 := g1 + 5) (by omega)
  generalize f_X2_copyFrom A (g + 5) (g1 + 5) = B at *
  rw [u_f_X6_copyRow]
  dsimp only
  have h3 := cr_loop (k1 := g1 + 9) (k2 := g + 9) (by omega) 64 0 B rfl
  generalize lp_X6_copyRow_2 (g1 + 9) (g + 9) 64 0 B = C at *
  -- the source stays as it is
  have src : ∀ x y, g1 ≤ x → x < g1 + 10 → C x y = M x y := fun x y q1 q2 => by
    rw [h3, if_neg (by omega), h2, if_neg (by omega), if_neg (by omega), if_neg (by omega), if_neg (by omega), h1, if_neg (by omega), if_neg (by omega), if_neg (by omega), if_neg (by omega)]
  have hk : ∀ (N : bM), (∀ x y, g1 ≤ x → x < g1 + 10 → N x y = M x y) → ∀ j v x y, g1 ≤ x → x < g1 + 10 → up2 N g j v x y = M x y := fun N hN j v x y q1 q2 => by
    rw [u2, if_neg (by omega)]; exact hN x y q1 q2
  have s0 := src
  have s3 := hk _ s0 3 (M g1 3)
  have s4 := hk _ s3 4 (M g1 4)
  have s5 := hk _ s4 5 (M g1 5)
  have s6 := hk _ s5 6 (M g1 6)
  have s7 := hk _ s6 7 (M g1 7)
  have s8 := hk _ s7 8 (M g1 8)
  have s9 := hk _ s8 9 (M g1 9)
  have s10 := hk _ s9 10 (M g1 10)
  have l1 : g1 ≤ g1 := Nat.le_refl _
  have l2 : g1 < g1 + 10 := by omega
  rw [s0 g1 3 l1 l2, s3 g1 4 l1 l2, s4 g1 5 l1 l2, s5 g1 6 l1 l2, s6 g1 7 l1 l2, s7 g1 8 l1 l2, s8 g1 9 l1 l2, s9 g1 10 l1 l2, s10 g1 11 l1 l2]
  have hF : ∀ x y, up2 (up2 (up2 (up2 (up2 (up2 (up2 (up2 (up2 C g 3 (M g1 3)) g 4 (M g1 4)) g 5 (M g1 5)) g 6 (M g1 6)) g 7 (M g1 7)) g 8 (M g1 8)) g 9 (M g1 9)) g 10 (M g1 10)) g 11 (M g1 11) x y = if x = g ∧ 3 ≤ y ∧ y ≤ 11 then M g1 y else C x y := fun x y => by
    simp only [u2]
    by_cases hx : x = g
    · by_cases e11 : y = 11
      · subst e11; rw [if_pos ⟨hx, rfl⟩, if_pos (by omega)]
      by_cases e10 : y = 10
      · subst e10; rw [if_neg (by omega), if_pos ⟨hx, rfl⟩, if_pos (by omega)]
      by_cases e9 : y = 9
      · subst e9; rw [if_neg (by omega), if_neg (by omega), if_pos ⟨hx, rfl⟩, if_pos (by omega)]
      by_cases e8 : y = 8
      · subst e8; rw [if_neg (by omega), if_neg (by omega), if_neg (by omega), if_pos ⟨hx, rfl⟩, if_pos (by omega)]
      by_cases e7 : y = 7
      · subst e7; rw [if_neg (by omega), if_neg (by omega), if_neg (by omega), if_neg (by omega), if_pos ⟨hx, rfl⟩, if_pos (by omega)]
      by_cases e6 : y = 6
      · subst e6; rw [if_neg (by omega), if_neg (by omega), if_neg (by omega), if_neg (by omega), if_neg (by omega), if_pos ⟨hx, rfl⟩, if_pos (by omega)]
      by_cases e5 : y = 5
      · subst e5; rw [if_neg (by omega), if_neg (by omega), if_neg (by omega), if_neg (by omega), if_neg (by omega), if_neg (by omega), if_pos ⟨hx, rfl⟩, if_pos (by omega)]
      by_cases e4 : y = 4
      · subst e4; rw [if_neg (by omega), if_neg (by omega), if_neg (by omega), if_neg (by omega), if_neg (by omega), if_neg (by omega), if_neg (by omega), if_pos ⟨hx, rfl⟩, if_pos (by omega)]
      by_cases e3 : y = 3
      · subst e3; rw [if_neg (by omega), if_neg (by omega), if_neg (by omega), if_neg (by omega), if_neg (by omega), if_neg (by omega), if_neg (by omega), if_neg (by omega), if_pos ⟨hx, rfl⟩, if_pos (by omega)]
      rw [if_neg (by omega), if_neg (by omega), if_neg (by omega), if_neg (by omega), if_neg (by omega), if_neg (by omega), if_neg (by omega), if_neg (by omega), if_neg (by omega), if_neg (by omega)]
    · rw [if_neg (by omega), if_neg (by omega), if_neg (by omega), if_neg (by omega), if_neg (by omega), if_neg (by omega), if_neg (by omega), if_neg (by omega), if_neg (by omega), if_neg (by omega)]
  generalize up2 (up2 (up2 (up2 (up2 (up2 (up2 (up2 (up2 C g 3 (M g1 3)) g 4 (M g1 4)) g 5 (M g1 5)) g 6 (M g1 6)) g 7 (M g1 7)) g 8 (M g1 8)) g 9 (M g1 9)) g 10 (M g1 10)) g 11 (M g1 11) = F at *
  have f0 : ∀ y, 3 ≤ y → y ≤ 11 → F g y = M g1 y := fun y q1 q2 => by rw [hF, if_pos ⟨rfl, q1, q2⟩]
  have fC : ∀ x y, x ≠ g → F x y = C x y := fun x y q => by rw [hF, if_neg (by omega)]
  have f1 : ∀ y, 3 ≤ y → y ≤ 7 → F (g + 1) y = M (g1 + 1) y := fun y q1 q2 => by
    rw [fC _ _ (by omega), h3, if_neg (by omega), h2, if_neg (by omega), if_neg (by omega), if_neg (by omega), if_neg (by omega), h1, if_pos ⟨rfl, q1, q2⟩]
  have f5 : ∀ y, 3 ≤ y → y ≤ 7 → F (g + 5) y = M (g1 + 5) y := fun y q1 q2 => by
    rw [fC _ _ (by omega), h3, if_neg (by omega), h2, if_pos ⟨rfl, q1, q2⟩, h1, if_neg (by omega), if_neg (by omega), if_neg (by omega), if_neg (by omega)]
  have a1 : ∀ (d : Nat), d = 1 ∨ d = 2 → ∀ y, y < 64 → F (g + 1 + d) y = M (g1 + 1 + d) y := fun d hd y q => by
    rw [fC _ _ (by omega), h3, if_neg (by omega), h2, if_neg (by omega), if_neg (by omega), if_neg (by omega), if_neg (by omega), h1, if_neg (by omega), if_neg (by omega)]
    rcases hd with rfl | rfl
    · rw [if_neg (by omega), if_pos ⟨rfl, q⟩]
    · rw [if_pos ⟨rfl, q⟩]
  have a5 : ∀ (d : Nat), d = 1 ∨ d = 2 → ∀ y, y < 64 → F (g + 5 + d) y = M (g1 + 5 + d) y := fun d hd y q => by
    have hA : ∀ y, A (g1 + 5 + d) y = M (g1 + 5 + d) y := fun y => by rw [h1, if_neg (by omega), if_neg (by omega), if_neg (by omega), if_neg (by omega)]
    rw [fC _ _ (by omega), h3, if_neg (by omega), h2, if_neg (by omega), if_neg (by omega)]
    rcases hd with rfl | rfl
    · rw [if_neg (by omega), if_pos ⟨rfl, q⟩, hA]
    · rw [if_pos ⟨rfl, q⟩, hA]
  have b1 : ∀ y, y < 64 → F (g + 4) y = M (g1 + 4) y := fun y q => by
    rw [fC _ _ (by omega), h3, if_neg (by omega), h2, if_neg (by omega), if_neg (by omega), if_neg (by omega), if_neg (by omega), h1, if_neg (by omega), if_pos (show g + 4 = g + 1 + 3 ∧ y < 64 by omega), show g1 + 1 + 3 = g1 + 4 by omega]
    exact nar_bt (hB y q).1
  have b5 : ∀ y, y < 64 → F (g + 8) y = M (g1 + 8) y := fun y q => by
    rw [fC _ _ (by omega), h3, if_neg (by omega), h2, if_neg (by omega), if_pos (show g + 8 = g + 5 + 3 ∧ y < 64 by omega), h1, if_neg (by omega), if_neg (by omega), if_neg (by omega), if_neg (by omega), show g1 + 5 + 3 = g1 + 8 by omega]
    exact nar_bt (hB y q).2
  have st : ∀ y, y < 64 → F (g + 9) y = M (g1 + 9) y := fun y q => by
    rw [fC _ _ (by omega), h3, if_pos (show g + 9 = g + 9 ∧ 0 ≤ y ∧ y < 64 by omega), h2, if_neg (by omega), if_neg (by omega), if_neg (by omega), if_neg (by omega), h1, if_neg (by omega), if_neg (by omega), if_neg (by omega), if_neg (by omega)]
  refine ⟨row_ext (gv20 ⟨f0 5 (by decide) (by decide), f0 8 (by decide) (by decide), f0 6 (by decide) (by decide), f0 7 (by decide) (by decide), f0 9 (by decide) (by decide), f0 10 (by decide) (by decide), f0 11 (by decide) (by decide), f0 3 (by decide) (by decide), f0 4 (by decide) (by decide)⟩ (fun y q1 q2 => f1 y q1 (by omega)) (fun y q1 q2 => f5 y q1 (by omega))) (fun d hd => ?_) (fun d hd => ?_) (fun d hd => ?_) (fun d hd => ?_) (fun d hd => ?_) (fun d hd => ?_) (fun q hq => ?_), fun d hd => ?_⟩
  · rw [gv_c0 hd, gv_c0 hd]; exact a1 1 (Or.inl rfl) d hd
  · rw [gv_c1 hd, gv_c1 hd]; exact a5 1 (Or.inl rfl) d hd
  · rw [gv_dm hd, gv_dm hd]; exact st d hd
  · rw [gv_mk hd, gv_mk hd, b1 d hd, b5 d hd]
  · rw [gv_p0 hd, gv_p0 hd]; exact a1 2 (Or.inr rfl) d hd
  · rw [gv_p1 hd, gv_p1 hd]; exact a5 2 (Or.inr rfl) d hd
  · rw [gv_big hq, gv_big hq]
  · rw [b1 d hd, b5 d hd]; exact hB d hd
theorem sG_copy {P : Prop} {M : bM} {g g1 : Nat} {r : Nat → Int32} (hg : g + 10 ≤ g1 ∨ g1 + 10 ≤ g) (hs : sG P M g1 r) : sG P (f_X0_copyFrom M g g1) g r := by
  obtain ⟨h1, h2⟩ := gv_copy hg hs.2.1
  exact ⟨by rw [h1]; exact hs.1, h2, hs.2.2⟩
theorem sG_row {P : Prop} {M N : bM} {g : Nat} {r : Nat → Int32} (h : ∀ x, g ≤ x → x < g + 10 → N x = M x) (hs : sG P M g r) : sG P N g r := by
  have e : ∀ x y, g ≤ x → x < g + 10 → N x y = M x y := fun x y q1 q2 => by rw [h x q1 q2]
  have ev : gv N g = gv M g := row_ext (gv20 ⟨e _ _ (by omega) (by omega), e _ _ (by omega) (by omega), e _ _ (by omega) (by omega), e _ _ (by omega) (by omega), e _ _ (by omega) (by omega), e _ _ (by omega) (by omega), e _ _ (by omega) (by omega), e _ _ (by omega) (by omega), e _ _ (by omega) (by omega)⟩ (fun y _ _ => e _ _ (by omega) (by omega)) (fun y _ _ => e _ _ (by omega) (by omega)))
    (fun d hd => by rw [gv_c0 hd, gv_c0 hd, e _ _ (by omega) (by omega)]) (fun d hd => by rw [gv_c1 hd, gv_c1 hd, e _ _ (by omega) (by omega)]) (fun d hd => by rw [gv_dm hd, gv_dm hd, e _ _ (by omega) (by omega)]) (fun d hd => by rw [gv_mk hd, gv_mk hd, e _ _ (by omega) (by omega), e _ _ (by omega) (by omega)]) (fun d hd => by rw [gv_p0 hd, gv_p0 hd, e _ _ (by omega) (by omega)]) (fun d hd => by rw [gv_p1 hd, gv_p1 hd, e _ _ (by omega) (by omega)]) (fun q hq => by rw [gv_big hq, gv_big hq])
  refine ⟨by rw [ev]; exact hs.1, fun d hd => ?_, hs.2.2⟩
  rw [e _ _ (by omega) (by omega), e _ _ (by omega) (by omega)]
  exact hs.2.1 d hd
theorem sG_ext {P : Prop} {M : bM} {g : Nat} {r r' : Nat → Int32} (h : ∀ j, j < 404 → r' j = r j) (hs : sG P M g r) : sG P M g r' := by
  obtain ⟨⟨h1, h6, ha, hb⟩, hB, hw⟩ := hs
  refine ⟨⟨fun j hj hn => by rw [h j (by omega)]; exact h1 j hj hn, fun p => by rw [h 6 (by omega)]; exact h6 p, fun a h64 e i hi => ?_, fun b h64 e i hi => ?_⟩, hB, fun e => ?_⟩
  · rw [h _ (by omega)]; rw [h _ (by omega)] at e; exact ha a h64 e i hi
  · rw [h _ (by omega)]; rw [h _ (by omega)] at e; exact hb b h64 e i hi
  · rw [h _ (by omega)]; rw [h _ (by omega)] at e; exact hw e
/-- the reference's copies -/
theorem csA_loop {k1 k3 a b : Nat} (h : k1 ≠ k3) : ∀ (n i : Nat) (M : bM), i + n = 404 → a + 404 < 2 ^ 31 → b + 404 < 2 ^ 31 → (∀ j, lp_X7_copyState_3 k1 (nI a) k3 (nI b) n i M k3 j = if b + i ≤ j ∧ j < b + 404 then M k1 (a + (j - b)) else M k3 j) := by
  intro n
  induction n with
  | zero =>
    intro i M hi _ _ j
    rw [u0_lp_X7_copyState_3, if_neg (show ¬ (b + i ≤ j ∧ j < b + 404) by omega)]
  | succ n ih =>
    intro i M hi ha hb j
    rw [u1_lp_X7_copyState_3]
    dsimp only
    rw [nI_add, nI_add, nI_clamp (by omega), nI_clamp (by omega), ih (i + 1) _ (by omega) ha hb j, up2_row h, up2_at]
    by_cases e : j = b + i
    · rw [if_neg (show ¬ (b + (i + 1) ≤ j ∧ j < b + 404) by omega), if_pos e, if_pos (show b + i ≤ j ∧ j < b + 404 by omega), show j - b = i by omega]
    · rw [if_neg e]
      by_cases q : b + i ≤ j ∧ j < b + 404
      · rw [if_pos q, if_pos (show b + (i + 1) ≤ j ∧ j < b + 404 by omega)]
      · rw [if_neg q, if_neg (show ¬ (b + (i + 1) ≤ j ∧ j < b + 404) by omega)]
theorem cs_at {M : bM} {k1 n1 k3 n3 a b : Nat} (h : k1 ≠ k3) (ha : a + 404 < 2 ^ 31) (hb : b + 404 < 2 ^ 31) (j : Nat) : f_X7_copyState M k1 n1 (nI a) k3 n3 (nI b) k3 j = if b ≤ j ∧ j < b + 404 then M k1 (a + (j - b)) else M k3 j := by
  rw [u_f_X7_copyState]
  dsimp only
  rw [csA_loop h 404 0 M rfl ha hb j, Nat.add_zero]
/-- the first game -/
theorem sG_start {M R : bM} {g k : Nat} : sG True (f_X0_startAnew M g) g (f_X7_clear R k k) := by
  rw [u_f_X0_startAnew, u_f_X7_clear]
  dsimp only
  have hz : ∀ j, (up2 (up2 (lp_X7_clear_2 k 404 0 R) k 8 20) k 9 3) k j = if j = 9 then 3 else if j = 8 then 20 else if j < 404 then 0 else R k j := by
    intro j
    rw [up2_at, up2_at, clear_loop 404 0 R rfl j]
    by_cases e : j < 404
    · rw [if_pos e, if_pos (show 0 ≤ j ∧ j < 404 by omega)]
    · rw [if_neg e, if_neg (show ¬ (0 ≤ j ∧ j < 404) by omega)]
  generalize up2 (up2 (lp_X7_clear_2 k 404 0 R) k 8 20) k 9 3 = S at *
  have hA : ∀ x y, up2 (up2 (up2 (up2 (up2 (up2 (up2 (up2 (up2 M g 3 20) g 4 3) g 5 0) g 10 0) g 11 0) (g + 1) 6 0) (g + 1) 7 0) (g + 5) 6 0) (g + 5) 7 0 x y = if x = g + 5 ∧ y = 7 then 0 else if x = g + 5 ∧ y = 6 then 0 else if x = g + 1 ∧ y = 7 then 0 else if x = g + 1 ∧ y = 6 then 0 else if x = g ∧ y = 11 then 0 else if x = g ∧ y = 10 then 0 else if x = g ∧ y = 5 then 0 else if x = g ∧ y = 4 then 3 else if x = g ∧ y = 3 then 20 else M x y := fun x y => by simp only [u2]
  generalize up2 (up2 (up2 (up2 (up2 (up2 (up2 (up2 (up2 M g 3 20) g 4 3) g 5 0) g 10 0) g 11 0) (g + 1) 6 0) (g + 1) 7 0) (g + 5) 6 0) (g + 5) 7 0 = A at *
  obtain ⟨b1, b2, b3, b4⟩ := bG (M := A) (g := g) (s := 0)
  rw [on_row.2]
  -- where a new game keeps what was, both have the same
  have hn : ∀ j, (j = 6 ∨ j = 7 ∨ j = 8 ∨ j = 9 ∨ j = 12 ∨ j = 13 ∨ j = 17 ∨ j = 18) → ∀ r : Nat → Int32, newR r 0 j = r j := fun j hj r => by
    rcases hj with rfl | rfl | rfl | rfl | rfl | rfl | rfl | rfl <;> simp [newR]
  have hkeep : ∀ j, (j = 6 ∨ j = 7 ∨ j = 8 ∨ j = 9 ∨ j = 12 ∨ j = 13 ∨ j = 17 ∨ j = 18) → gv A g j = S k j := by
    intro j hj
    rcases hj with rfl | rfl | rfl | rfl | rfl | rfl | rfl | rfl
    · rw [gv_6, hA, hz]; simp
    · rw [gv_7, hA, hz]; simp
    · rw [gv_8, hA, hz]; simp
    · rw [gv_9, hA, hz]; simp
    · rw [gv_12, hA, hz]; simp
    · rw [gv_13, hA, hz]; simp
    · rw [gv_17, hA, hz]; simp
    · rw [gv_18, hA, hz]; simp
  have e0 : gv A g 0 = S k 0 := by rw [gv_0, hA, hz]; simp
  have hall : ∀ j, j < 276 → newR (S k) 0 j = newR (gv A g) 0 j := by
    intro j hj
    by_cases q : j = 6 ∨ j = 7 ∨ j = 8 ∨ j = 9 ∨ j = 12 ∨ j = 13 ∨ j = 17 ∨ j = 18
    · rw [hn j q, hn j q]; exact (hkeep j q).symm
    · unfold newR
      rw [e0]
      by_cases j0 : j = 0
      · rw [if_pos j0, if_pos j0]
      rw [if_neg j0, if_neg j0]
      by_cases j20 : j < 20
      · rcases (by omega : j = 1 ∨ j = 2 ∨ j = 3 ∨ j = 4 ∨ j = 5 ∨ j = 10 ∨ j = 11 ∨ j = 14 ∨ j = 15 ∨ j = 16 ∨ j = 19) with rfl | rfl | rfl | rfl | rfl | rfl | rfl | rfl | rfl | rfl | rfl <;> simp
      · simp only [show ¬ j = 1 by omega, show ¬ j = 2 by omega, show ¬ j = 3 by omega, show ¬ j = 4 by omega, show ¬ j = 5 by omega, show ¬ j = 10 by omega, show ¬ j = 11 by omega, show ¬ j = 14 by omega, show ¬ j = 15 by omega, show ¬ j = 16 by omega, show ¬ j = 19 by omega, if_false]
        by_cases a1 : 20 ≤ j ∧ j < 84
        · rw [if_pos a1, if_pos a1]
        rw [if_neg a1, if_neg a1]
        by_cases a2 : 84 ≤ j ∧ j < 148
        · rw [if_pos a2, if_pos a2]
        rw [if_neg a2, if_neg a2]
        by_cases a3 : 148 ≤ j ∧ j < 212
        · rw [if_pos a3, if_pos a3]
        rw [if_neg a3, if_neg a3, if_pos (show 212 ≤ j ∧ j < 276 by omega), if_pos (show 212 ≤ j ∧ j < 276 by omega)]
  refine ⟨⟨fun j hj hn' => ?_, fun _ => ?_, fun a h64 e i hi => ?_, fun b h64 e i hi => ?_⟩, b4, fun _ => ?_⟩
  · rw [b1 j hj]; exact hall j hj
  · rw [b1 6 (by omega)]; exact hall 6 (by omega)
  · have e1 : newR (S k) 0 14 = nI (0 + 1) := by simp [newR]; rfl
    have := nI_inj (by omega) (by omega) (e.symm.trans e1)
    have hi0 : i = 0 := by omega
    rw [hi0, gv_p0 (by omega), b2]; simp [newR]
  · have e1 : newR (S k) 0 19 = nI (0 + 1) := by simp [newR]; rfl
    have := nI_inj (by omega) (by omega) (e.symm.trans e1)
    have hi0 : i = 0 := by omega
    rw [hi0, gv_p1 (by omega), b3]; simp [newR]
  · simp [newR]
