/-! THE ROWS: what the law asks of each, kept by every act -/
abbrev pmR (r : Nat → Int32) (c : Nat) : Nat := popC (r (212 + c))
abbrev wnR (r : Nat → Int32) : Int32 := if r 10 < r 15 then 0 else if r 15 < r 10 then 1 else -1
abbrev nbR (r : Nat → Int32) (p k : Nat) : Prop := ∃ c j, c < 64 ∧ j < 3 ∧ nb c j < 64 ∧ r (276 + 64 * p + k) = nI c ∧ r (276 + 64 * p + (k + 1)) = nI (nb c j)
abbrev gp1 (r : Nat → Int32) : Prop := ∃ l, 1 ≤ l ∧ l ≤ 40 ∧ r 8 = nI l
abbrev gp2 (r : Nat → Int32) : Prop := ∀ c, c < 64 → r (148 + c) = -1 ∨ ∃ v, v ≤ 39 ∧ r (148 + c) = nI v ∧ r (212 + c) = 0
abbrev gp3 (r : Nat → Int32) : Prop := ¬ r 4 = -1 → ∃ c0, c0 < 64 ∧ r 4 = nI c0 ∧ r (212 + c0) = 3 ∧ ∀ c, c < 64 → c ≠ c0 → ¬ r (212 + c) = 3
abbrev gp4 (r : Nat → Int32) : Prop := ∀ a b, a ≤ 62 → b ≤ 62 → r 14 = nI (a + 1) → r 19 = nI (b + 1) → sumN (pmR r) 64 = (a + 1) + (b + 1)
abbrev gp5 (r : Nat → Int32) : Prop := ∀ p a, p < 2 → a ≤ 62 → r (14 + 5 * p) = nI (a + 1) → r (276 + 64 * p) = nI (1 + 5 * p) ∧ ∀ k, k < a → nbR r p k
abbrev gp6 (V : Nat) (r : Nat → Int32) : Prop := ∀ p, p < 2 → ∃ x X, r (10 + 5 * p) = nI x ∧ r (13 + 5 * p) = nI X ∧ x ≤ X ∧ X ≤ V
abbrev gp7 (r : Nat → Int32) : Prop := ¬ r 4 = -1 → r 5 = wnR r
def gP (V : Nat) (r : Nat → Int32) : Prop := gp1 r ∧ gp2 r ∧ gp3 r ∧ gp4 r ∧ gp5 r ∧ gp6 V r ∧ gp7 r
theorem sumN_cong {f g : Nat → Nat} : ∀ {n : Nat}, (∀ i, i < n → f i = g i) → sumN f n = sumN g n
  | 0, _ => rfl
  | n + 1, h => by
    show sumN f n + f n = sumN g n + g n
    rw [sumN_cong (fun i hi => h i (by omega)), h n (by omega)]
theorem sumN_one {f g : Nat → Nat} {k : Nat} : ∀ {n : Nat}, k < n → (∀ i, i < n → i ≠ k → f i = g i) → f k = g k + 1 → sumN f n = sumN g n + 1
  | 0, h, _, _ => absurd h (Nat.not_lt_zero k)
  | n + 1, h, h1, h2 => by
    show sumN f n + f n = sumN g n + g n + 1
    by_cases e : k = n
    · subst e
      rw [sumN_cong (g := g) (fun i hi => h1 i (by omega) (by omega)), h2]
      omega
    · rw [sumN_one (k := k) (g := g) (by omega) (fun i hi q => h1 i (by omega) q) h2, h1 n (by omega) (fun q => e q.symm)]
      omega
abbrev impJ (j : Nat) : Prop := j = 4 ∨ j = 5 ∨ j = 8 ∨ j = 10 ∨ j = 13 ∨ j = 14 ∨ j = 15 ∨ j = 18 ∨ j = 19 ∨ 148 ≤ j
theorem gP_ext2 {V W : Nat} {r r' : Nat → Int32} (hV : V ≤ W) (h0 : ∀ j, j < 404 → impJ j → ¬ (148 ≤ j ∧ j < 212) → r' j = r j) (h2 : gp2 r') (g : gP V r) : gP W r' := by
  obtain ⟨g1, g2, g3, g4, g5, g6, g7⟩ := g
  have e4 := h0 4 (by decide) (by unfold impJ; omega) (by omega)
  have e5 := h0 5 (by decide) (by unfold impJ; omega) (by omega)
  have e10 := h0 10 (by decide) (by unfold impJ; omega) (by omega)
  have e15 := h0 15 (by decide) (by unfold impJ; omega) (by omega)
  refine ⟨?_, ?_, ?_, ?_, ?_, ?_, ?_⟩
  · show ∃ l, 1 ≤ l ∧ l ≤ 40 ∧ r' 8 = nI l
    rw [h0 8 (by decide) (by unfold impJ; omega) (by omega)]; exact g1
  · exact h2
  · intro q
    rw [e4] at q ⊢
    obtain ⟨c0, k1, k2, k3, k4⟩ := g3 q
    exact ⟨c0, k1, k2, by rw [h0 (212 + c0) (by omega) (by unfold impJ; omega) (by omega)]; exact k3, fun c hc hne => by rw [h0 (212 + c) (by omega) (by unfold impJ; omega) (by omega)]; exact k4 c hc hne⟩
  · intro a b ha hb q1 q2
    rw [h0 14 (by decide) (by unfold impJ; omega) (by omega)] at q1
    rw [h0 19 (by decide) (by unfold impJ; omega) (by omega)] at q2
    rw [← g4 a b ha hb q1 q2]
    exact sumN_cong (fun i hi => by show popC _ = popC _; rw [h0 (212 + i) (by omega) (by unfold impJ; omega) (by omega)])
  · intro p a hp ha q
    rw [h0 (14 + 5 * p) (by omega) (by unfold impJ; omega) (by omega)] at q
    obtain ⟨k1, k2⟩ := g5 p a hp ha q
    refine ⟨by rw [h0 (276 + 64 * p) (by omega) (by unfold impJ; omega) (by omega)]; exact k1, fun k hk => ?_⟩
    obtain ⟨c, j, b1, b2, b3, b4, b5⟩ := k2 k hk
    exact ⟨c, j, b1, b2, b3, by rw [h0 _ (by omega) (by unfold impJ; omega) (by omega)]; exact b4, by rw [h0 _ (by omega) (by unfold impJ; omega) (by omega)]; exact b5⟩
  · intro p hp
    obtain ⟨x, X, k1, k2, k3, k4⟩ := g6 p hp
    exact ⟨x, X, by rw [h0 (10 + 5 * p) (by omega) (by unfold impJ; omega) (by omega)]; exact k1, by rw [h0 (13 + 5 * p) (by omega) (by unfold impJ; omega) (by omega)]; exact k2, k3, by omega⟩
  · intro q
    rw [e4] at q
    show r' 5 = if r' 10 < r' 15 then 0 else if r' 15 < r' 10 then 1 else -1
    rw [e5, e10, e15]
    exact g7 q
theorem gP_ext {V W : Nat} {r r' : Nat → Int32} (hV : V ≤ W) (h : ∀ j, j < 404 → impJ j → r' j = r j) (g : gP V r) : gP W r' := by
  refine gP_ext2 hV (fun j a b _ => h j a b) (fun c hc => ?_) g
  rw [h (148 + c) (by omega) (by unfold impJ; omega), h (212 + c) (by omega) (by unfold impJ; omega)]
  exact g.2.1 c hc
theorem gP_le {V W : Nat} {r : Nat → Int32} (hV : V ≤ W) (g : gP V r) : gP W r := gP_ext hV (fun _ _ _ => rfl) g
/-- a turn ends -/
theorem gP_te {V : Nat} {r : Nat → Int32} (g : gP V r) : gP V (teR r) := by
  obtain ⟨g1, g2, g3, g4, g5, g6, g7⟩ := g
  obtain ⟨l, l1, l2, l3⟩ := g1
  have ne : ∀ j, 3 < j → ¬ (148 ≤ j ∧ j < 212) → teR r j = r j := fun j a b => teR_ne a b
  refine ⟨⟨l, l1, l2, by rw [ne 8 (by omega) (by omega)]; exact l3⟩, ?_, ?_, ?_, ?_, ?_, ?_⟩
  · intro c hc
    rw [ne (212 + c) (by omega) (by omega)]
    have e : teR r (148 + c) = ageI (r (148 + c)) (r 8) := by
      unfold teR
      rw [if_neg (by omega), if_neg (by omega), if_neg (by omega), if_pos (by omega)]
    rw [e, l3]
    unfold ageI
    rcases g2 c hc with q | ⟨v, v1, v2, v3⟩
    · rw [q, if_pos rfl]; exact Or.inl rfl
    · rw [v2, if_neg (nI_ne_m1 (by omega)), nI_1]
      by_cases q : nI (v + 1) < nI l
      · rw [if_pos q]
        have := (nI_ltI (by omega) (by omega)).mp q
        exact Or.inr ⟨v + 1, by omega, rfl, v3⟩
      · rw [if_neg q]; exact Or.inl rfl
  · intro q
    rw [ne 4 (by omega) (by omega)] at q ⊢
    obtain ⟨c0, k1, k2, k3, k4⟩ := g3 q
    exact ⟨c0, k1, k2, by rw [ne _ (by omega) (by omega)]; exact k3, fun c hc hne => by rw [ne _ (by omega) (by omega)]; exact k4 c hc hne⟩
  · intro a b ha hb q1 q2
    rw [ne 14 (by omega) (by omega)] at q1
    rw [ne 19 (by omega) (by omega)] at q2
    rw [← g4 a b ha hb q1 q2]
    exact sumN_cong (fun i hi => by show popC _ = popC _; rw [ne (212 + i) (by omega) (by omega)])
  · intro p a hp ha q
    rw [ne (14 + 5 * p) (by omega) (by omega)] at q
    obtain ⟨k1, k2⟩ := g5 p a hp ha q
    refine ⟨by rw [ne _ (by omega) (by omega)]; exact k1, fun k hk => ?_⟩
    obtain ⟨c, j, b1, b2, b3, b4, b5⟩ := k2 k hk
    exact ⟨c, j, b1, b2, b3, by rw [ne _ (by omega) (by omega)]; exact b4, by rw [ne _ (by omega) (by omega)]; exact b5⟩
  · intro p hp
    obtain ⟨x, X, k1, k2, k3, k4⟩ := g6 p hp
    exact ⟨x, X, by rw [ne _ (by omega) (by omega)]; exact k1, by rw [ne _ (by omega) (by omega)]; exact k2, k3, k4⟩
  · intro q
    rw [ne 4 (by omega) (by omega)] at q
    show teR r 5 = if teR r 10 < teR r 15 then 0 else if teR r 15 < teR r 10 then 1 else -1
    rw [ne 5 (by omega) (by omega), ne 10 (by omega) (by omega), ne 15 (by omega) (by omega)]
    exact g7 q
/-- somebody pays -/
theorem gP_pays {V p w : Nat} {r : Nat → Int32} (hp : p < 2) (hw : w ≤ 81) (h4 : r 4 = -1) (g : gP V r) : gP (V + 81) (paysR r p (nI w)) := by
  have ne : ∀ j, j ≠ 13 + 5 * p → j ≠ 10 + 5 * p → paysR r p (nI w) j = r j := fun j a b => paysR_ne a b
  obtain ⟨g1, g2, g3, g4, g5, g6, g7⟩ := g
  have e4 : paysR r p (nI w) 4 = -1 := (ne 4 (by omega) (by omega)).trans h4
  refine ⟨?_, ?_, fun q => absurd e4 q, ?_, ?_, ?_, fun q => absurd e4 q⟩
  · obtain ⟨l, l1, l2, l3⟩ := g1
    exact ⟨l, l1, l2, by rw [ne 8 (by omega) (by omega)]; exact l3⟩
  · intro c hc
    rw [ne (148 + c) (by omega) (by omega), ne (212 + c) (by omega) (by omega)]
    exact g2 c hc
  · intro a b ha hb q1 q2
    rw [ne 14 (by omega) (by omega)] at q1
    rw [ne 19 (by omega) (by omega)] at q2
    rw [← g4 a b ha hb q1 q2]
    exact sumN_cong (fun i hi => by show popC _ = popC _; rw [ne (212 + i) (by omega) (by omega)])
  · intro p' a hp' ha q
    rw [ne (14 + 5 * p') (by omega) (by omega)] at q
    obtain ⟨k1, k2⟩ := g5 p' a hp' ha q
    refine ⟨by rw [ne _ (by omega) (by omega)]; exact k1, fun k hk => ?_⟩
    obtain ⟨c, j, b1, b2, b3, b4, b5⟩ := k2 k hk
    exact ⟨c, j, b1, b2, b3, by rw [ne _ (by omega) (by omega)]; exact b4, by rw [ne _ (by omega) (by omega)]; exact b5⟩
  · intro p' hp'
    obtain ⟨x, X, k1, k2, k3, k4⟩ := g6 p' hp'
    by_cases e : p' = p
    · subst e
      refine ⟨x + w, X + w, ?_, ?_, by omega, by omega⟩
      · unfold paysR
        rw [if_neg (by omega), if_pos rfl, k1, nI_add]
      · unfold paysR
        rw [if_pos rfl, k2, nI_add]
    · exact ⟨x, X, by rw [ne _ (by omega) (by omega)]; exact k1, by rw [ne _ (by omega) (by omega)]; exact k2, k3, by omega⟩
/-- a river flows on -/
theorem pop_bit : ∀ p : Fin 2, popC (0 ||| bitI p.val) = 1 ∧ popC (bitI (1 - p.val) ||| bitI p.val) = 2 ∧ popC (bitI (1 - p.val)) = 1 ∧ popC 0 = 0 := by decide +kernel
theorem gP_flows {V p c a b j hh : Nat} {r : Nat → Int32} (hp : p < 2) (hc : c < 64) (ha : a ≤ 61) (hb : b ≤ 62) (hla : r (14 + 5 * p) = nI (a + 1)) (hlb : r (14 + 5 * (1 - p)) = nI (b + 1)) (h4 : r 4 = -1) (hd : r (148 + c) = -1) (hm : r (212 + c) = 0 ∨ r (212 + c) = bitI (1 - p)) (hhd : r (276 + 64 * p + a) = nI hh) (hh64 : hh < 64) (hj : j < 3) (hn : nb hh j = c) (g : gP V r) : gP V (flowsR r p c (a + 1)) := by
  have ne : ∀ j, j ≠ 212 + c → j ≠ 14 + 5 * p → j ≠ 276 + 64 * p + (a + 1) → flowsR r p c (a + 1) j = r j := fun j a b c => flowsR_ne a b c
  have em : flowsR r p c (a + 1) (212 + c) = r (212 + c) ||| bitI p := by unfold flowsR; rw [if_pos rfl]
  have el : flowsR r p c (a + 1) (14 + 5 * p) = nI (a + 1 + 1) := by unfold flowsR; rw [if_neg (by omega), if_pos rfl]
  have ec : flowsR r p c (a + 1) (276 + 64 * p + (a + 1)) = nI c := by unfold flowsR; rw [if_neg (by omega), if_neg (by omega), if_pos rfl]
  generalize flowsR r p c (a + 1) = r1 at *
  obtain ⟨g1, g2, g3, g4, g5, g6, g7⟩ := g
  have e4 : r1 4 = -1 := (ne 4 (by omega) (by omega) (by omega)).trans h4
  refine ⟨?_, ?_, fun q => absurd e4 q, ?_, ?_, ?_, fun q => absurd e4 q⟩
  · obtain ⟨l, l1, l2, l3⟩ := g1
    exact ⟨l, l1, l2, by rw [ne 8 (by omega) (by omega) (by omega)]; exact l3⟩
  · intro c' hc'
    rw [ne (148 + c') (by omega) (by omega) (by omega)]
    by_cases e : c' = c
    · rw [e]; exact Or.inl hd
    · rw [ne (212 + c') (by omega) (by omega) (by omega)]
      exact g2 c' hc'
  · have hs : sumN (pmR r1) 64 = sumN (pmR r) 64 + 1 := by
      refine sumN_one (k := c) hc (fun i hi q => ?_) ?_
      · show popC _ = popC _
        rw [ne (212 + i) (by omega) (by omega) (by omega)]
      · show popC (r1 (212 + c)) = popC (r (212 + c)) + 1
        have pb := pop_bit ⟨p, hp⟩
        dsimp only at pb
        obtain ⟨b1, b2, b3, b4⟩ := pb
        rw [em]
        rcases hm with q | q
        · rw [q, b1, b4]
        · rw [q, b2, b3]
    intro a' b' ha' hb' q1 q2
    rw [hs]
    rcases (by omega : p = 0 ∨ p = 1) with e | e
    · subst e
      have q1 : r1 (14 + 5 * 0) = nI (a' + 1) := q1
      rw [el] at q1
      have h1 := nI_inj (a := a + 1 + 1) (b := a' + 1) (by omega) (by omega) q1
      rw [ne 19 (by omega) (by omega) (by omega)] at q2
      have h2 := nI_inj (a := b + 1) (b := b' + 1) (by omega) (by omega) (hlb.symm.trans q2)
      rw [g4 a b (by omega) hb hla hlb]
      omega
    · subst e
      have q2 : r1 (14 + 5 * 1) = nI (b' + 1) := q2
      rw [el] at q2
      have h1 := nI_inj (a := a + 1 + 1) (b := b' + 1) (by omega) (by omega) q2
      rw [ne 14 (by omega) (by omega) (by omega)] at q1
      have h2 := nI_inj (a := b + 1) (b := a' + 1) (by omega) (by omega) (hlb.symm.trans q1)
      rw [g4 b a hb (by omega) hlb hla]
      omega
  · intro p' a' hp' ha' q
    by_cases e : p' = p
    · subst e
      rw [el] at q
      have h1 := nI_inj (a := a + 1 + 1) (b := a' + 1) (by omega) (by omega) q
      obtain ⟨k1, k2⟩ := g5 p' a hp' (by omega) hla
      refine ⟨by rw [ne _ (by omega) (by omega) (by omega)]; exact k1, fun k hk => ?_⟩
      by_cases e2 : k = a
      · subst e2
        exact ⟨hh, j, hh64, hj, by omega, by rw [ne _ (by omega) (by omega) (by omega)]; exact hhd, by rw [ec, hn]⟩
      · obtain ⟨c', j', b1, b2, b3, b4, b5⟩ := k2 k (by omega)
        exact ⟨c', j', b1, b2, b3, by rw [ne _ (by omega) (by omega) (by omega)]; exact b4, by rw [ne _ (by omega) (by omega) (by omega)]; exact b5⟩
    · rw [ne (14 + 5 * p') (by omega) (by omega) (by omega)] at q
      obtain ⟨k1, k2⟩ := g5 p' a' hp' ha' q
      refine ⟨by rw [ne _ (by omega) (by omega) (by omega)]; exact k1, fun k hk => ?_⟩
      obtain ⟨c', j', b1, b2, b3, b4, b5⟩ := k2 k hk
      exact ⟨c', j', b1, b2, b3, by rw [ne _ (by omega) (by omega) (by omega)]; exact b4, by rw [ne _ (by omega) (by omega) (by omega)]; exact b5⟩
  · intro p' hp'
    obtain ⟨x, X, k1, k2, k3, k4⟩ := g6 p' hp'
    exact ⟨x, X, by rw [ne _ (by omega) (by omega) (by omega)]; exact k1, by rw [ne _ (by omega) (by omega) (by omega)]; exact k2, k3, k4⟩
/-- the rivers meet -/
theorem gP_meet {V c : Nat} {r : Nat → Int32} (hc : c < 64) (h3 : r (212 + c) = 3) (ho : ∀ c', c' < 64 → c' ≠ c → ¬ r (212 + c') = 3) (hco : costR r) (h9 : vp_in (r 9) 10) (hV : V + 81 < 2 ^ 30) (g : gP V r) : gP (V + 81) (meetR r c) := by
  have ne : ∀ j, j ≠ 1 → j ≠ 4 → j ≠ 5 → j ≠ 12 → j ≠ 17 → j ≠ 10 → j ≠ 13 → j ≠ 15 → j ≠ 18 → meetR r c j = r j := fun j a b c d e f g h i => meetR_ne a b c d e f g h i
  obtain ⟨w0, z0, z01⟩ := sm81 h9 (cost_p hco (p := 0) (by decide) hc)
  obtain ⟨w1, z1, z11⟩ := sm81 h9 (cost_p hco (p := 1) (by decide) hc)
  have z0 : r 9 * r (20 + c) = nI w0 := z0
  have z1 : r 9 * r (84 + c) = nI w1 := z1
  obtain ⟨g1, g2, g3, g4, g5, g6, g7⟩ := g
  obtain ⟨x, X, x1, x2, x3, x4⟩ := g6 0 (by decide)
  obtain ⟨y, Y, y1, y2, y3, y4⟩ := g6 1 (by decide)
  have x1 : r 10 = nI x := x1
  have x2 : r 13 = nI X := x2
  have y1 : r 15 = nI y := y1
  have y2 : r 18 = nI Y := y2
  have e4 : meetR r c 4 = nI c := by simp [meetR]
  have e10 : meetR r c 10 = r 10 + r 9 * r (20 + c) := by simp [meetR]
  have e13 : meetR r c 13 = r 13 + r 9 * r (20 + c) := by simp [meetR]
  have e15 : meetR r c 15 = r 15 + r 9 * r (84 + c) := by simp [meetR]
  have e18 : meetR r c 18 = r 18 + r 9 * r (84 + c) := by simp [meetR]
  have e5 : meetR r c 5 = if (r 10 + r 9 * r (20 + c)) - (r 15 + r 9 * r (84 + c)) < 0 then 0 else if 0 < (r 10 + r 9 * r (20 + c)) - (r 15 + r 9 * r (84 + c)) then 1 else -1 := by simp [meetR]
  generalize meetR r c = r1 at *
  refine ⟨?_, ?_, ?_, ?_, ?_, ?_, ?_⟩
  · obtain ⟨l, l1, l2, l3⟩ := g1
    exact ⟨l, l1, l2, by rw [ne 8 (by omega) (by omega) (by omega) (by omega) (by omega) (by omega) (by omega) (by omega) (by omega)]; exact l3⟩
  · intro c' hc'
    rw [ne (148 + c') (by omega) (by omega) (by omega) (by omega) (by omega) (by omega) (by omega) (by omega) (by omega), ne (212 + c') (by omega) (by omega) (by omega) (by omega) (by omega) (by omega) (by omega) (by omega) (by omega)]
    exact g2 c' hc'
  · intro _
    exact ⟨c, hc, e4, by rw [ne _ (by omega) (by omega) (by omega) (by omega) (by omega) (by omega) (by omega) (by omega) (by omega)]; exact h3, fun c' hc' hne => by rw [ne _ (by omega) (by omega) (by omega) (by omega) (by omega) (by omega) (by omega) (by omega) (by omega)]; exact ho c' hc' hne⟩
  · intro a b ha hb q1 q2
    rw [ne 14 (by omega) (by omega) (by omega) (by omega) (by omega) (by omega) (by omega) (by omega) (by omega)] at q1
    rw [ne 19 (by omega) (by omega) (by omega) (by omega) (by omega) (by omega) (by omega) (by omega) (by omega)] at q2
    rw [← g4 a b ha hb q1 q2]
    exact sumN_cong (fun i hi => by show popC _ = popC _; rw [ne (212 + i) (by omega) (by omega) (by omega) (by omega) (by omega) (by omega) (by omega) (by omega) (by omega)])
  · intro p a hp ha q
    rw [ne (14 + 5 * p) (by omega) (by omega) (by omega) (by omega) (by omega) (by omega) (by omega) (by omega) (by omega)] at q
    obtain ⟨k1, k2⟩ := g5 p a hp ha q
    refine ⟨by rw [ne _ (by omega) (by omega) (by omega) (by omega) (by omega) (by omega) (by omega) (by omega) (by omega)]; exact k1, fun k hk => ?_⟩
    obtain ⟨c', j', b1, b2, b3, b4, b5⟩ := k2 k hk
    exact ⟨c', j', b1, b2, b3, by rw [ne _ (by omega) (by omega) (by omega) (by omega) (by omega) (by omega) (by omega) (by omega) (by omega)]; exact b4, by rw [ne _ (by omega) (by omega) (by omega) (by omega) (by omega) (by omega) (by omega) (by omega) (by omega)]; exact b5⟩
  · intro p hp
    rcases (by omega : p = 0 ∨ p = 1) with e | e
    · subst e
      exact ⟨x + w0, X + w0, by show r1 10 = _; rw [e10, x1, z0, nI_add], by show r1 13 = _; rw [e13, x2, z0, nI_add], by omega, by omega⟩
    · subst e
      exact ⟨y + w1, Y + w1, by show r1 15 = _; rw [e15, y1, z1, nI_add], by show r1 18 = _; rw [e18, y2, z1, nI_add], by omega, by omega⟩
  · intro _
    show r1 5 = if r1 10 < r1 15 then 0 else if r1 15 < r1 10 then 1 else -1
    obtain ⟨p1, p2⟩ := paid_cmp x1 y1 z0 z1 (by omega) (by omega)
    rw [e5, e10, e15]
    by_cases q : r 10 + r 9 * r (20 + c) < r 15 + r 9 * r (84 + c)
    · rw [if_pos q, if_pos (p1.mpr q)]
    · rw [if_neg q, if_neg (fun z => q (p1.mp z))]
      by_cases q2 : r 15 + r 9 * r (84 + c) < r 10 + r 9 * r (20 + c)
      · rw [if_pos q2, if_pos (p2.mpr q2)]
      · rw [if_neg q2, if_neg (fun z => q2 (p2.mp z))]
/-- another game -/
theorem gP_new {V : Nat} {r : Nat → Int32} {x : Int64} (g : gP V r) : gP V (newR r x) := by
  obtain ⟨g1, g2, g3, g4, g5, g6, g7⟩ := g
  have e4 : newR r x 4 = -1 := by simp [newR]
  have em : ∀ c, c < 64 → newR r x (212 + c) = if c = 1 then 1 else if c = 6 then 2 else 0 := by
    intro c hc
    unfold newR
    rw [if_neg (by omega), if_neg (by omega), if_neg (by omega), if_neg (by omega), if_neg (by omega), if_neg (by omega), if_neg (by omega), if_neg (by omega), if_neg (by omega), if_neg (by omega), if_neg (by omega), if_neg (by omega), if_neg (by omega), if_neg (by omega), if_neg (by omega), if_pos (by omega)]
    by_cases h1 : c = 1
    · rw [if_pos (by omega), if_pos h1]
    · rw [if_neg (by omega), if_neg h1]
      by_cases h6 : c = 6
      · rw [if_pos (by omega), if_pos h6]
      · rw [if_neg (by omega), if_neg h6]
  refine ⟨?_, ?_, fun q => absurd e4 q, ?_, ?_, ?_, fun q => absurd e4 q⟩
  · obtain ⟨l, l1, l2, l3⟩ := g1
    exact ⟨l, l1, l2, by rw [show newR r x 8 = r 8 by simp [newR]]; exact l3⟩
  · intro c hc
    refine Or.inl ?_
    unfold newR
    rw [if_neg (by omega), if_neg (by omega), if_neg (by omega), if_neg (by omega), if_neg (by omega), if_neg (by omega), if_neg (by omega), if_neg (by omega), if_neg (by omega), if_neg (by omega), if_neg (by omega), if_neg (by omega), if_neg (by omega), if_neg (by omega), if_pos (by omega)]
  · intro a b ha hb q1 q2
    rw [show newR r x 14 = nI (0 + 1) by simp [newR]; rfl] at q1
    rw [show newR r x 19 = nI (0 + 1) by simp [newR]; rfl] at q2
    have h1 := nI_inj (a := 0 + 1) (b := a + 1) (by omega) (by omega) q1
    have h2 := nI_inj (a := 0 + 1) (b := b + 1) (by omega) (by omega) q2
    rw [sumN_cong (g := fun c => if c = 1 then 1 else if c = 6 then 1 else 0) (fun i hi => by
      show popC _ = _
      rw [em i hi]
      by_cases h1 : i = 1
      · rw [if_pos h1, if_pos h1]; rfl
      · rw [if_neg h1, if_neg h1]
        by_cases h6 : i = 6
        · rw [if_pos h6, if_pos h6]; rfl
        · rw [if_neg h6, if_neg h6]; rfl)]
    rw [show sumN (fun c => if c = 1 then 1 else if c = 6 then 1 else 0) 64 = 2 by decide +kernel]
    omega
  · intro p a hp ha q
    rcases (by omega : p = 0 ∨ p = 1) with e | e
    · subst e
      rw [show newR r x (14 + 5 * 0) = nI (0 + 1) by simp [newR]; rfl] at q
      have h1 := nI_inj (a := 0 + 1) (b := a + 1) (by omega) (by omega) q
      exact ⟨by simp [newR]; rfl, fun k hk => absurd hk (by omega)⟩
    · subst e
      rw [show newR r x (14 + 5 * 1) = nI (0 + 1) by simp [newR]; rfl] at q
      have h1 := nI_inj (a := 0 + 1) (b := a + 1) (by omega) (by omega) q
      exact ⟨by simp [newR]; rfl, fun k hk => absurd hk (by omega)⟩
  · intro p hp
    obtain ⟨y, Y, k1, k2, k3, k4⟩ := g6 p hp
    rcases (by omega : p = 0 ∨ p = 1) with e | e
    · subst e
      exact ⟨0, Y, by simp [newR]; rfl, by rw [show newR r x (13 + 5 * 0) = r (13 + 5 * 0) by simp [newR]]; exact k2, by omega, k4⟩
    · subst e
      exact ⟨0, Y, by simp [newR]; rfl, by rw [show newR r x (13 + 5 * 1) = r (13 + 5 * 1) by simp [newR]]; exact k2, by omega, k4⟩
