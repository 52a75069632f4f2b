/-! THE RELATION: a game of the class and a row of the reference say the same -/
/-- rows alike: all but the count of refusals (that too under P), and courses beyond their lengths -/
abbrev eqR (P : Prop) (r r' : Nat → Int32) : Prop := (∀ j, j < 276 → j ≠ 6 → r j = r' j) ∧ (P → r 6 = r' 6) ∧ (∀ a, a ≤ 62 → r 14 = nI (a + 1) → ∀ i, i ≤ a → r (276 + i) = r' (276 + i)) ∧ (∀ b, b ≤ 62 → r 19 = nI (b + 1) → ∀ i, i ≤ b → r (340 + i) = r' (340 + i))
abbrev sG (P : Prop) (M : bM) (g : Nat) (r : Nat → Int32) : Prop := eqR P r (gv M g) ∧ isB M g ∧ (r 4 = -1 → r 5 = -1)
theorem eqR_rf {P : Prop} {r : Nat → Int32} : eqR P r r := ⟨fun _ _ _ => rfl, fun _ => rfl, fun _ _ _ _ _ => rfl, fun _ _ _ _ _ => rfl⟩
theorem eqR_te {P : Prop} {r r' : Nat → Int32} (h : eqR P r r') : eqR P (teR r) (teR r') := by
  obtain ⟨h1, h6, ha, hb⟩ := h
  have hi : ∀ (s : Nat → Int32) j, 3 < j → ¬ (148 ≤ j ∧ j < 212) → teR s j = s j := fun s j q1 q2 => by
    unfold teR
    rw [if_neg (show ¬ j = 1 by omega), if_neg (show ¬ j = 2 by omega), if_neg (show ¬ j = 3 by omega), if_neg q2]
  refine ⟨fun j hj hn => ?_, fun p => ?_, fun a h64 e i hi' => ?_, fun b h64 e i hi' => ?_⟩
  · unfold teR
    rw [h1 1 (by omega) (by omega), h1 2 (by omega) (by omega), h1 3 (by omega) (by omega), h1 8 (by omega) (by omega), h1 j hj hn]
  · rw [hi r 6 (by omega) (by omega), hi r' 6 (by omega) (by omega)]; exact h6 p
  · rw [hi r 14 (by omega) (by omega)] at e
    rw [hi r _ (by omega) (by omega), hi r' _ (by omega) (by omega)]; exact ha a h64 e i hi'
  · rw [hi r 19 (by omega) (by omega)] at e
    rw [hi r _ (by omega) (by omega), hi r' _ (by omega) (by omega)]; exact hb b h64 e i hi'
theorem eqR_pays {P : Prop} {r r' : Nat → Int32} {p : Nat} {v : Int32} (hp : p < 2) (h : eqR P r r') : eqR P (paysR r p v) (paysR r' p v) := by
  obtain ⟨h1, h6, ha, hb⟩ := h
  refine ⟨fun j hj hn => ?_, fun q => ?_, fun a h64 e i hi' => ?_, fun b h64 e i hi' => ?_⟩
  · unfold paysR
    rw [h1 (13 + 5 * p) (by omega) (by omega), h1 (10 + 5 * p) (by omega) (by omega), h1 j hj hn]
  · rw [paysR_ne (by omega) (by omega), paysR_ne (by omega) (by omega)]; exact h6 q
  · rw [paysR_ne (by omega) (by omega)] at e
    rw [paysR_ne (by omega) (by omega), paysR_ne (by omega) (by omega)]; exact ha a h64 e i hi'
  · rw [paysR_ne (by omega) (by omega)] at e
    rw [paysR_ne (by omega) (by omega), paysR_ne (by omega) (by omega)]; exact hb b h64 e i hi'
theorem meetR_ne {r : Nat → Int32} {c j : Nat} (a1 : j ≠ 1) (a2 : j ≠ 4) (a3 : j ≠ 5) (a4 : j ≠ 12) (a5 : j ≠ 17) (a6 : j ≠ 10) (a7 : j ≠ 13) (a8 : j ≠ 15) (a9 : j ≠ 18) : meetR r c j = r j := by
  unfold meetR
  rw [if_neg a1, if_neg a2, if_neg a3, if_neg a4, if_neg a5, if_neg a6, if_neg a7, if_neg a8, if_neg a9]
theorem eqR_meet {P : Prop} {r r' : Nat → Int32} {c : Nat} (hc : c < 64) (h : eqR P r r') : eqR P (meetR r c) (meetR r' c) := by
  obtain ⟨h1, h6, ha, hb⟩ := h
  have g : ∀ (s : Nat → Int32) j, j ≠ 1 → j ≠ 4 → j ≠ 5 → j ≠ 12 → j ≠ 17 → j ≠ 10 → j ≠ 13 → j ≠ 15 → j ≠ 18 → meetR s c j = s j := fun s j a1 a2 a3 a4 a5 a6 a7 a8 a9 => meetR_ne a1 a2 a3 a4 a5 a6 a7 a8 a9
  refine ⟨fun j hj hn => ?_, fun q => ?_, fun a h64 e i hi' => ?_, fun b h64 e i hi' => ?_⟩
  · unfold meetR
    rw [h1 10 (by omega) (by omega), h1 9 (by omega) (by omega), h1 (20 + c) (by omega) (by omega), h1 15 (by omega) (by omega), h1 (84 + c) (by omega) (by omega), h1 12 (by omega) (by omega), h1 17 (by omega) (by omega), h1 13 (by omega) (by omega), h1 18 (by omega) (by omega), h1 j hj hn]
  · rw [g r 6 (by omega) (by omega) (by omega) (by omega) (by omega) (by omega) (by omega) (by omega) (by omega), g r' 6 (by omega) (by omega) (by omega) (by omega) (by omega) (by omega) (by omega) (by omega) (by omega)]; exact h6 q
  · rw [g r 14 (by omega) (by omega) (by omega) (by omega) (by omega) (by omega) (by omega) (by omega) (by omega)] at e
    rw [g r _ (by omega) (by omega) (by omega) (by omega) (by omega) (by omega) (by omega) (by omega) (by omega), g r' _ (by omega) (by omega) (by omega) (by omega) (by omega) (by omega) (by omega) (by omega) (by omega)]; exact ha a h64 e i hi'
  · rw [g r 19 (by omega) (by omega) (by omega) (by omega) (by omega) (by omega) (by omega) (by omega) (by omega)] at e
    rw [g r _ (by omega) (by omega) (by omega) (by omega) (by omega) (by omega) (by omega) (by omega) (by omega), g r' _ (by omega) (by omega) (by omega) (by omega) (by omega) (by omega) (by omega) (by omega) (by omega)]; exact hb b h64 e i hi'
theorem eqR_flows {P : Prop} {r r' : Nat → Int32} {p c a : Nat} (hp : p < 2) (hc : c < 64) (ha1 : r (14 + 5 * p) = nI (a + 1)) (ha62 : a ≤ 61) (h : eqR P r r') : eqR P (flowsR r p c (a + 1)) (flowsR r' p c (a + 1)) := by
  obtain ⟨h1, h6, ha, hb⟩ := h
  have g : ∀ (s : Nat → Int32) j, j ≠ 212 + c → j ≠ 14 + 5 * p → j ≠ 276 + 64 * p + (a + 1) → flowsR s p c (a + 1) j = s j := fun s j q1 q2 q3 => by
    unfold flowsR
    rw [if_neg q1, if_neg q2, if_neg q3]
  refine ⟨fun j hj hn => ?_, fun q => ?_, fun x h64 e i hi' => ?_, fun x h64 e i hi' => ?_⟩
  · unfold flowsR
    rw [h1 (212 + c) (by omega) (by omega), h1 j hj hn]
  · rw [g r 6 (by omega) (by omega) (by omega), g r' 6 (by omega) (by omega) (by omega)]; exact h6 q
  · rcases (by omega : p = 0 ∨ p = 1) with rfl | rfl
    · have e1 : flowsR r 0 c (a + 1) 14 = nI (a + 1 + 1) := by unfold flowsR; rw [if_neg (by omega), if_pos (by omega)]
      have hx := nI_inj (by omega) (by omega) (e1.symm.trans e)
      by_cases q : i = a + 1
      · unfold flowsR
        rw [if_neg (show ¬ 276 + i = 212 + c by omega), if_neg (show ¬ 276 + i = 14 + 5 * 0 by omega), if_pos (show 276 + i = 276 + 64 * 0 + (a + 1) by omega), if_neg (show ¬ 276 + i = 212 + c by omega), if_neg (show ¬ 276 + i = 14 + 5 * 0 by omega), if_pos (show 276 + i = 276 + 64 * 0 + (a + 1) by omega)]
      · rw [g r _ (by omega) (by omega) (by omega), g r' _ (by omega) (by omega) (by omega)]
        exact ha a (by omega) ha1 i (by omega)
    · rw [g r 14 (by omega) (by omega) (by omega)] at e
      by_cases q : i ≤ x ∧ 276 + i = 276 + 64 * 1 + (a + 1)
      · exact absurd q.2 (by omega)
      · rw [g r _ (by omega) (by omega) (by omega), g r' _ (by omega) (by omega) (by omega)]
        exact ha x h64 e i hi'
  · rcases (by omega : p = 0 ∨ p = 1) with rfl | rfl
    · rw [g r 19 (by omega) (by omega) (by omega)] at e
      rw [g r _ (by omega) (by omega) (by omega), g r' _ (by omega) (by omega) (by omega)]
      exact hb x h64 e i hi'
    · have e1 : flowsR r 1 c (a + 1) 19 = nI (a + 1 + 1) := by unfold flowsR; rw [if_neg (by omega), if_pos (by omega)]
      have hx := nI_inj (by omega) (by omega) (e1.symm.trans e)
      by_cases q : i = a + 1
      · unfold flowsR
        rw [if_neg (show ¬ 340 + i = 212 + c by omega), if_neg (show ¬ 340 + i = 14 + 5 * 1 by omega), if_pos (show 340 + i = 276 + 64 * 1 + (a + 1) by omega), if_neg (show ¬ 340 + i = 212 + c by omega), if_neg (show ¬ 340 + i = 14 + 5 * 1 by omega), if_pos (show 340 + i = 276 + 64 * 1 + (a + 1) by omega)]
      · rw [g r _ (by omega) (by omega) (by omega), g r' _ (by omega) (by omega) (by omega)]
        exact hb a (by omega) ha1 i (by omega)
/-- the numbers of a good row -/
theorem gR_nums {r : Nat → Int32} (h : gR r) : ∃ m a b h0 h1 : Nat, m ≤ 80 ∧ r 3 = nI m ∧ r 2 = nI (m % 2) ∧ r 1 = phI r m ∧ r 14 = nI (a + 1) ∧ r 19 = nI (b + 1) ∧ a ≤ (m + 1) / 2 ∧ b ≤ m / 2 ∧ h0 < 64 ∧ h1 < 64 ∧ r (276 + a) = nI h0 ∧ r (340 + b) = nI h1 := by
  obtain ⟨m, hm, a, b, x, y, ⟨⟨n3, n2, n1, n4⟩, ⟨n14, n19, na, nb'⟩, _⟩, ⟨c1, c2, _⟩, _⟩ := h
  obtain ⟨h0, g0, e0⟩ := vp_in_of (c1 a (Nat.le_refl _)) (by decide)
  obtain ⟨h1, g1, e1⟩ := vp_in_of (c2 b (Nat.le_refl _)) (by decide)
  exact ⟨m, a, b, h0, h1, hm, n3, n2, n1, n14, n19, na, nb', g0, g1, e0, e1⟩
/-- both heads, and the class's side of the player -/
theorem head_X2 {M : bM} {w a h : Nat} (ha : M w 3 = nI (a + 1)) (ha62 : a ≤ 62) (hh : M (w + 2) a = nI h) : f_X2_head M w = nI h := by
  rw [u_f_X2_head, ha, if_neg (show ¬ nI (a + 1) ≤ 0 from nI_ge (a := 0) (b := a + 1) (by omega) (by omega)), if_neg (fun q => by
    have := (nI_ltI (a := 64) (by decide) (by omega)).mp q; omega), show (1 : Int32) = nI 1 from rfl, pk_sub (by omega), nI_clamp (by omega)]
  exact hh
theorem heads {P : Prop} {M R : bM} {g k : Nat} (hs : sG P M g (R k)) (hg : gR (R k)) : ∃ h0 h1 : Nat, h0 < 64 ∧ h1 < 64 ∧ f_X2_head M (g + 1) = nI h0 ∧ f_X2_head M (g + 5) = nI h1 ∧ f_X7_head R k 0 = nI h0 ∧ f_X7_head R k 1 = nI h1 := by
  obtain ⟨m, a, b, h0, h1, hm, n3, n2, n1, n14, n19, na, nb', g0, g1, e0, e1⟩ := gR_nums hg
  obtain ⟨⟨q1, _, qa, qb⟩, _, _⟩ := hs
  have a14 : M (g + 1) 3 = nI (a + 1) := by rw [← gv_14 M g, ← q1 14 (by omega) (by omega)]; exact n14
  have b19 : M (g + 5) 3 = nI (b + 1) := by rw [← gv_19 M g, ← q1 19 (by omega) (by omega)]; exact n19
  have c0 : M (g + 3) a = nI h0 := by rw [← gv_p0 (M := M) (g := g) (show a < 64 by omega), ← qa a (by omega) n14 a (Nat.le_refl _)]; exact e0
  have c1 : M (g + 7) b = nI h1 := by rw [← gv_p1 (M := M) (g := g) (show b < 64 by omega), ← qb b (by omega) n19 b (Nat.le_refl _)]; exact e1
  refine ⟨h0, h1, g0, g1, head_X2 a14 (by omega) c0, head_X2 b19 (by omega) c1, ?_, ?_⟩
  · exact (head_at (M := R) (k := k) (p := 0) (a := a) (by decide) n14 (by omega)).trans e0
  · exact (head_at (M := R) (k := k) (p := 1) (a := b) (by decide) n19 (by omega)).trans e1
theorem sG_turn {P : Prop} {M R : bM} {g k : Nat} (hs : sG P M g (R k)) : M g 7 = R k 2 := by rw [← gv_2 M g]; exact (hs.1.1 2 (by omega) (by omega)).symm
theorem sG_phase {P : Prop} {M R : bM} {g k : Nat} (hs : sG P M g (R k)) : f_X0_phase M g = R k 1 := by rw [← gv_1 M g]; exact (hs.1.1 1 (by omega) (by omega)).symm
theorem sG_over {P : Prop} {M R : bM} {g k : Nat} (hs : sG P M g (R k)) : f_X0_isOver M g = 0 ↔ R k 1 = 1 := by
  rw [u_f_X0_isOver, sG_phase hs]
  dsimp only
  by_cases h : R k 1 = 1
  · rw [if_pos h]; exact ⟨fun _ => h, fun _ => rfl⟩
  · rw [if_neg h]; exact ⟨fun q => absurd q (by decide), fun q => absurd q h⟩
theorem uw_iff {R : bM} {k : Nat} : f_X7_isUnderWay R k = 0 ↔ ¬ R k 1 = 1 := by
  rw [u_f_X7_isUnderWay]
  by_cases h : R k 1 = 1
  · rw [if_pos h]; exact ⟨fun q => absurd q (by decide), fun q => absurd h q⟩
  · rw [if_neg h]; exact ⟨fun _ => h, fun _ => rfl⟩
theorem sG_dam {P : Prop} {M R : bM} {g k c : Nat} (hs : sG P M g (R k)) (hc : c < 64) : M (g + 9) c = R k (148 + c) := by rw [← gv_dm (M := M) (g := g) hc]; exact (hs.1.1 (148 + c) (by omega) (by omega)).symm
theorem sG_hasDam {P : Prop} {M R : bM} {g k c : Nat} (hs : sG P M g (R k)) (hc : c < 64) : f_X0_hasDam M g (nI c) = f_X7_isDam R k (nI c) := by
  rw [hasDam_nI hc, u_f_X7_isDam, idxK 148 (by omega), sG_dam hs hc]
theorem sG_mark {P : Prop} {M R : bM} {g k c : Nat} (hs : sG P M g (R k)) (hc : c < 64) : ∃ v, mkIs (R k) c v ∧ (M (g + 4) c = 0 ↔ v % 2 = 0) ∧ (M (g + 8) c = 0 ↔ v / 2 % 2 = 0) := by
  obtain ⟨v, e, h4, b0, b1⟩ := mk_v (hs.2.1 c hc).1 (hs.2.1 c hc).2
  refine ⟨v, ⟨?_, h4⟩, b0, b1⟩
  rw [hs.1.1 (212 + c) (by omega) (by omega), gv_mk hc]; exact e
theorem sG_holds {P : Prop} {M R : bM} {g k c p : Nat} (hs : sG P M g (R k)) (hp : p < 2) (hc : c < 64) : f_X2_holds M (g + 1 + 4 * p) (nI c) = f_X7_isRiver R k (nI p) (nI c) := by
  obtain ⟨v, hv, b0, b1⟩ := sG_mark hs hc
  have hr := river_iff (M := R) (k := k) hp hc hv
  have h01 := river_01 (M := R) (k := k) (p := nI p) (c := nI c)
  have hb : f_X2_holds M (g + 1 + 4 * p) (nI c) = 0 ↔ v / 2 ^ p % 2 = 0 := by
    rw [holds_nI hc]
    rcases (by omega : p = 0 ∨ p = 1) with rfl | rfl
    · rw [show g + 1 + 4 * 0 + 3 = g + 4 by omega, show v / 2 ^ 0 = v by omega]
      by_cases q : M (g + 4) c = 0
      · rw [if_pos q]; exact ⟨fun _ => b0.mp q, fun _ => rfl⟩
      · rw [if_neg q]; exact ⟨fun z => absurd z (by decide), fun z => absurd (b0.mpr z) q⟩
    · rw [show g + 1 + 4 * 1 + 3 = g + 8 by omega, show v / 2 ^ 1 = v / 2 by omega]
      by_cases q : M (g + 8) c = 0
      · rw [if_pos q]; exact ⟨fun _ => b1.mp q, fun _ => rfl⟩
      · rw [if_neg q]; exact ⟨fun z => absurd z (by decide), fun z => absurd (b1.mpr z) q⟩
  have h01' : f_X2_holds M (g + 1 + 4 * p) (nI c) = 0 ∨ f_X2_holds M (g + 1 + 4 * p) (nI c) = 1 := by
    rw [holds_nI hc]; split
    · exact Or.inl rfl
    · exact Or.inr rfl
  rcases h01 with h | h
  · rw [h]; exact hb.mpr (hr.mp h)
  · rcases h01' with h' | h'
    · have := hr.mpr (hb.mp h'); rw [h] at this; exact absurd this (by decide)
    · rw [h, h']
theorem side_nI {M : bM} {g p : Nat} (hp : p < 2) : f_X0_sideOf M g (nI p) = g + 1 + 4 * p := by
  rw [u_f_X0_sideOf]
  rcases (by omega : p = 0 ∨ p = 1) with rfl | rfl
  · rw [if_pos (show nI 0 = 0 from rfl)]
  · rw [if_neg (by decide)]
/-- the mover's side and his step's target, on both sides -/
theorem target {P : Prop} {M R : bM} {g k : Nat} (hs : sG P M g (R k)) (hg : gR (R k)) : ∃ p h : Nat, p < 2 ∧ h < 64 ∧ R k 2 = nI p ∧ f_X0_sideOf M g (M g 7) = g + 1 + 4 * p ∧ f_X2_head M (g + 1 + 4 * p) = nI h ∧ f_X7_head R k (R k 2) = nI h := by
  obtain ⟨h0, h1, g0, g1, e0, e1, f0, f1⟩ := heads hs hg
  rw [sG_turn hs]
  rcases (gR_wf hg).1 with e | e
  · exact ⟨0, h0, by decide, g0, e, by rw [e]; exact side_nI (p := 0) (by decide), e0, by rw [e]; exact f0⟩
  · exact ⟨1, h1, by decide, g1, e, by rw [e]; exact side_nI (p := 1) (by decide), e1, by rw [e]; exact f1⟩
theorem sG_reason {P : Prop} {M R : bM} {g k j : Nat} (hs : sG P M g (R k)) (hg : gR (R k)) (hj : j < 3) : f_X0_reasonAgainstStep M g (nI j) = f_X7_reason R k (nI j) := by
  obtain ⟨p, h, hp, hh, e2, eS, eH, eR⟩ := target hs hg
  rw [u_f_X0_reasonAgainstStep, u_f_X7_reason]
  dsimp only
  rw [eS, eH, eR, e2, cb_nI hh hj, sf_nI hh hj]
  by_cases c1 : nbI h j = -1
  · rw [if_pos c1, if_pos c1]
  · rw [if_neg c1, if_neg c1]
    obtain ⟨hn, hnI⟩ := nbI_pos c1
    rw [hnI, sG_hasDam hs hn, sG_holds hs hp hn]
/-! THE RELATION: a step -/
def stepR (r : Nat → Int32) (p c a : Nat) (meets : Bool) : Nat → Int32 := if meets = true then teR (meetR (flowsR r p c (a + 1)) c) else teR (paysR (flowsR r p c (a + 1)) p (r (20 + 64 * p + c)))
theorem flowsR_ne {r : Nat → Int32} {p c a j : Nat} (q1 : j ≠ 212 + c) (q2 : j ≠ 14 + 5 * p) (q3 : j ≠ 276 + 64 * p + a) : flowsR r p c a j = r j := by
  unfold flowsR
  rw [if_neg q1, if_neg q2, if_neg q3]
theorem step_ref {R : bM} {k p c a : Nat} {d : Int32} (hp : p < 2) (hc : c < 64) (e2 : R k 2 = nI p) (ha : R k (14 + 5 * p) = nI (a + 1)) (ha62 : a ≤ 61) (hr : f_X7_reason R k d ≤ 0) (ht : f_X7_stepFrom (f_X7_head R k (R k 2)) d = nI c) :
    (f_X7_stepOn R k d).1 = 0 ∧ (f_X7_stepOn R k d).2 k = stepR (R k) p c a (decide (¬ f_X7_isRiver R k (nI (1 - p)) (nI c) = 0)) := by
  have e1 : (1 : Int32) - nI p = nI (1 - p) := by rw [show (1 : Int32) = nI 1 from rfl, pk_sub (by omega)]
  have hF := flows_row (M := R) (k := k) (p := p) (c := c) (a := a + 1) hp hc ha (by omega)
  rw [u_f_X7_stepOn]
  dsimp only
  rw [if_pos hr, ht, e2, e1]
  generalize f_X7_flows R k (nI p) (nI c) = F at *
  have h20 : F k (20 + 64 * p + c) = R k (20 + 64 * p + c) := by rw [hF, flowsR_ne (by omega) (by omega) (by omega)]
  by_cases h : f_X7_isRiver R k (nI (1 - p)) (nI c) = 0
  · rw [if_pos h]
    refine ⟨rfl, ?_⟩
    dsimp only
    rw [te_row, pays_row hp, cost_at hp hc, h20, hF]
    unfold stepR
    rw [if_neg (by simp [h])]
  · rw [if_neg h]
    refine ⟨rfl, ?_⟩
    dsimp only
    rw [te_row, meet_row hc, hF]
    unfold stepR
    rw [if_pos (by simp [h])]
theorem eqR_step {P : Prop} {r r' : Nat → Int32} {p c a : Nat} {b : Bool} (hp : p < 2) (hc : c < 64) (ha1 : r (14 + 5 * p) = nI (a + 1)) (ha62 : a ≤ 61) (h : eqR P r r') : eqR P (stepR r p c a b) (stepR r' p c a b) := by
  unfold stepR
  cases b with
  | true => rw [if_pos rfl, if_pos rfl]; exact eqR_te (eqR_meet hc (eqR_flows hp hc ha1 ha62 h))
  | false =>
    rw [if_neg (by decide), if_neg (by decide), h.1 (20 + 64 * p + c) (by omega) (by omega)]
    exact eqR_te (eqR_pays hp (eqR_flows hp hc ha1 ha62 h))
theorem paid_cmp {x y v w : Int32} {a b c d : Nat} (hx : x = nI a) (hy : y = nI b) (hv : v = nI c) (hw : w = nI d) (ha : a + c < 2 ^ 30) (hb : b + d < 2 ^ 30) : (((x + v) - (y + w) < 0) ↔ (x + v) < (y + w)) ∧ ((0 < (x + v) - (y + w)) ↔ (y + w) < (x + v)) := by
  rw [hx, hy, hv, hw, nI_add, nI_add]
  have h := pk_sub_toInt (a := a + c) (b := b + d) ha hb
  have e0 : (0 : Int32).toInt = 0 := by decide
  rw [Int32.lt_iff_toInt_lt, Int32.lt_iff_toInt_lt, Int32.lt_iff_toInt_lt, Int32.lt_iff_toInt_lt, h, e0, nI_toInt (by omega), nI_toInt (by omega)]
  omega
theorem sG_step {P : Prop} {M R : bM} {g k j : Nat} (hs : sG P M g (R k)) (hg : gR (R k)) (h1 : R k 1 = 1) (hj : j < 3) (hr : f_X7_reason R k (nI j) = 0) : (f_X7_stepOn R k (nI j)).1 = 0 ∧ sG P (f_X0_makeStep M g (nI j)) g ((f_X7_stepOn R k (nI j)).2 k) := by
  obtain ⟨p, h, hp, hh, e2, eS, eH, eR⟩ := target hs hg
  have hB := hs.2.1
  obtain ⟨c, hc, ec, _, _⟩ := reason_ok (M := R) (k := k) (d := nI j) (by rw [hr]; decide)
  have en : nbI h j = nI c := by rw [eR, sf_nI hh hj] at ec; exact ec
  obtain ⟨m, hm, hX⟩ := hg
  have hX' := hX
  obtain ⟨a, b, x, y, ⟨⟨n3, n2, n1, n4⟩, ⟨n14, n19, na, nb'⟩, ⟨n10, n15, nx, ny⟩⟩, ⟨c1, c2, c3, c8, c9⟩, ⟨m1, m2, m3⟩, l⟩ := hX'
  obtain ⟨e4, hm8⟩ := phI_1 n1 h1
  -- the mover's length
  obtain ⟨q, hq62, hq⟩ : ∃ q, q ≤ 61 ∧ R k (14 + 5 * p) = nI (q + 1) := by
    rcases (by omega : p = 0 ∨ p = 1) with rfl | rfl
    · exact ⟨a, by omega, n14⟩
    · exact ⟨b, by omega, n19⟩
  obtain ⟨r1, r2⟩ := step_ref (R := R) (k := k) (d := nI j) hp hc e2 hq hq62 (by rw [hr]; decide) ec
  refine ⟨r1, ?_⟩
  rw [r2]
  have hq' : gv M g (14 + 5 * p) = nI (q + 1) := by rw [← hs.1.1 (14 + 5 * p) (by omega) (by omega)]; exact hq
  have hG := gv_flow (M := M) (g := g) (p := p) (c := c) (a := q + 1) hp hc hq' (by omega) hB
  have hw3 : M (g + 1 + 4 * p) 3 = nI (q + 1) := by
    rcases (by omega : p = 0 ∨ p = 1) with rfl | rfl
    · rw [← gv_14 M g] ; exact hq'
    · rw [show g + 1 + 4 * 1 = g + 5 by omega, ← gv_19 M g]; exact hq'
  have hfa := flow_at (M := M) (w := g + 1 + 4 * p) hc hw3 (by omega)
  have et : f_X0_sideOf M g (M g 7) = g + 1 + 4 * p := eS
  -- other's bed
  have hoth : f_X2_holds M (g + 1 + 4 * (1 - p)) (nI c) = f_X7_isRiver R k (nI (1 - p)) (nI c) := sG_holds hs (by omega) hc
  rw [u_f_X0_makeStep]
  dsimp only
  rw [et, eH, cb_nI hh hj, en]
  generalize hF : f_X2_flowTo M (g + 1 + 4 * p) (nI c) = F at *
  have hk : ∀ x y, (x ≠ g + 1 + 4 * p ∨ y ≠ 3) → (x ≠ g + 4 + 4 * p ∨ y ≠ c) → (x ≠ g + 3 + 4 * p ∨ y ≠ q + 1) → F x y = M x y := fun x y z1 z2 z3 => by
    rw [hfa, if_neg (by omega), if_neg (by omega), if_neg (by omega)]
  have f7 : F g 7 = nI p := by rw [hk _ _ (by omega) (by omega) (by omega), sG_turn hs]; exact e2
  have f6 : F g 6 = nI m := by rw [hk _ _ (by omega) (by omega) (by omega), ← gv_3 M g, ← hs.1.1 3 (by omega) (by omega)]; exact n3
  have f9 : F g 9 = -1 := by rw [hk _ _ (by omega) (by omega) (by omega), ← gv_5 M g, ← hs.1.1 5 (by omega) (by omega)]; exact hs.2.2 e4
  have eo : f_X0_sideOf F g (1 - F g 7) = g + 1 + 4 * (1 - p) := by
    rw [f7, show (1 : Int32) - nI p = nI (1 - p) by rw [show (1 : Int32) = nI 1 from rfl, pk_sub (by omega)]]
    exact side_nI (by omega)
  have ho : f_X2_holds F (g + 1 + 4 * (1 - p)) (nI c) = f_X7_isRiver R k (nI (1 - p)) (nI c) := by
    rw [← hoth, holds_nI hc, holds_nI hc, hk _ _ (by omega) (by omega) (by omega)]
  rw [eo, ho]
  have hBF : isB F g := by
    intro d hd
    constructor
    · by_cases z : g + 4 = g + 1 + 4 * p + 3 ∧ d = c
      · rw [hfa, if_neg (by omega), if_pos z]; exact Or.inr rfl
      · rw [hk _ _ (by omega) (by omega) (by omega)]; exact (hB d hd).1
    · by_cases z : g + 8 = g + 1 + 4 * p + 3 ∧ d = c
      · rw [hfa, if_neg (by omega), if_pos z]; exact Or.inr rfl
      · rw [hk _ _ (by omega) (by omega) (by omega)]; exact (hB d hd).2
  have hcost : ∀ (s : Nat → Int32), s = R k → eqR P (stepR (R k) p c q false) (stepR (gv M g) p c q false) := fun _ _ => eqR_step hp hc hq (by omega) hs.1
  by_cases hmt : f_X7_isRiver R k (nI (1 - p)) (nI c) = 0
  · rw [if_pos hmt, show decide (¬ f_X7_isRiver R k (nI (1 - p)) (nI c) = 0) = false by simp [hmt]]
    have ecost : f_X2_costOf F (g + 1 + 4 * p) (nI c) = gv M g (20 + 64 * p + c) := by
      rw [costOf_nI hc, hk _ _ (by omega) (by omega) (by omega)]
      rcases (by omega : p = 0 ∨ p = 1) with rfl | rfl
      · rw [show 20 + 64 * 0 + c = 20 + c by omega, gv_c0 hc, show g + 1 + 4 * 0 + 1 = g + 2 by omega]
      · rw [show 20 + 64 * 1 + c = 84 + c by omega, gv_c1 hc, show g + 1 + 4 * 1 + 1 = g + 6 by omega]
    rw [ecost]
    have hP := gv_pay (M := F) (g := g) (p := p) (v := gv M g (20 + 64 * p + c)) hp
    have hpa := fun x y => pay_at (M := F) (w := g + 1 + 4 * p) (v := gv M g (20 + 64 * p + c)) (a := x) (b := y)
    generalize f_X2_pay F (g + 1 + 4 * p) (gv M g (20 + 64 * p + c)) = A at *
    have a6 : A g 6 = nI m := by rw [hpa, if_neg (by omega), if_neg (by omega)]; exact f6
    have hE := gv_et (M := A) (g := g) a6 hm
    have hea := fun x y => et_at (M := A) (g := g) x y
    have final : gv (f_X0_endTurn A g) g = stepR (gv M g) p c q false := by
      rw [hE, hP, hG]; unfold stepR; rw [if_neg (by decide)]
    refine ⟨?_, fun d hd => ?_, ?_⟩
    · rw [final]; exact hcost _ rfl
    · rw [hea, if_neg (by omega), if_neg (by omega), if_neg (by omega), hea, if_neg (by omega), if_neg (by omega), if_neg (by omega), hpa, if_neg (by omega), if_neg (by omega), hpa, if_neg (by omega), if_neg (by omega)]
      exact hBF d hd
    · intro _
      unfold stepR
      rw [if_neg (by decide)]
      unfold teR
      rw [if_neg (by decide), if_neg (by decide), if_neg (by decide), if_neg (by omega), paysR_ne (by omega) (by omega), flowsR_ne (by omega) (by omega) (by omega)]
      exact hs.2.2 e4
  · rw [if_neg hmt, show decide (¬ f_X7_isRiver R k (nI (1 - p)) (nI c) = 0) = true by simp [hmt]]
    have g10 : M (g + 1) 4 = nI x := by rw [← gv_10 M g, ← hs.1.1 10 (by omega) (by omega)]; exact n10
    have g15 : M (g + 5) 4 = nI y := by rw [← gv_15 M g, ← hs.1.1 15 (by omega) (by omega)]; exact n15
    have g4 : M g 4 = R k 9 := by rw [← gv_9 M g]; exact (hs.1.1 9 (by omega) (by omega)).symm
    have gc0 : M (g + 2) c = R k (20 + c) := by rw [← gv_c0 (M := M) (g := g) hc]; exact (hs.1.1 (20 + c) (by omega) (by omega)).symm
    have gc1 : M (g + 6) c = R k (84 + c) := by rw [← gv_c1 (M := M) (g := g) hc]; exact (hs.1.1 (84 + c) (by omega) (by omega)).symm
    obtain ⟨w0, ew0, hw0⟩ := sm81 c9 (c3 c (by omega))
    obtain ⟨w1, ew1, hw1⟩ := sm81 c9 (c3 (64 + c) (by omega))
    rw [show 20 + (64 + c) = 84 + c by omega] at ew1
    have hcmp := paid_cmp (x := M (g + 1) 4) (y := M (g + 5) 4) (v := M g 4 * M (g + 2) c) (w := M g 4 * M (g + 6) c) g10 g15 (by rw [g4, gc0]; exact ew0) (by rw [g4, gc1]; exact ew1) (by omega) (by omega)
    have F14 : F (g + 1) 4 = M (g + 1) 4 := hk _ _ (by omega) (by omega) (by omega)
    have F54 : F (g + 5) 4 = M (g + 5) 4 := hk _ _ (by omega) (by omega) (by omega)
    have Fg4 : F g 4 = M g 4 := hk _ _ (by omega) (by omega) (by omega)
    have Fc0 : F (g + 2) c = M (g + 2) c := hk _ _ (by omega) (by omega) (by omega)
    have Fc1 : F (g + 6) c = M (g + 6) c := hk _ _ (by omega) (by omega) (by omega)
    obtain ⟨hMt, hMr, hM6⟩ := gv_meet (M := F) (g := g) (c := c) hc f9 (by rw [F14, F54, Fg4, Fc0, Fc1]; exact hcmp.1) (by rw [F14, F54, Fg4, Fc0, Fc1]; exact hcmp.2)
    generalize f_X0_meetAt F g (nI c) = A at *
    have hE := gv_et (M := A) (g := g) (hM6.trans f6) hm
    have hea := fun x y => et_at (M := A) (g := g) x y
    have final : gv (f_X0_endTurn A g) g = stepR (gv M g) p c q true := by
      rw [hE, hMt, hG]; unfold stepR; rw [if_pos rfl]
    refine ⟨?_, fun d hd => ?_, ?_⟩
    · rw [final]; exact eqR_step hp hc hq (by omega) hs.1
    · rw [hea, if_neg (by omega), if_neg (by omega), if_neg (by omega), hea, if_neg (by omega), if_neg (by omega), if_neg (by omega), hMr _ _ (by omega) (by omega) (by omega), hMr _ _ (by omega) (by omega) (by omega)]
      exact hBF d hd
    · intro e
      exfalso
      unfold stepR at e
      rw [if_pos rfl] at e
      unfold teR at e
      rw [if_neg (by decide), if_neg (by decide), if_neg (by decide), if_neg (by omega)] at e
      unfold meetR at e
      rw [if_neg (by decide), if_pos rfl] at e
      exact nI_ne_m1 (by omega) e
/-! THE RELATION: single fields, refused steps, changes -/
theorem gw_ref {M : bM} {g : Nat} {v : Int32} : gv (up2 M (g) 10 v) g = upd (gv M g) 6 v := by
  have hu : ∀ q, q ≠ 6 → upd (gv M g) 6 v q = gv M g q := fun q hq => if_neg hq
  refine row_ext (j20 ⟨?_, ?_, ?_, ?_, ?_, ?_, ?_, ?_, ?_, ?_, ?_, ?_, ?_, ?_, ?_, ?_, ?_, ?_, ?_, ?_⟩) (fun d hd => ?_) (fun d hd => ?_) (fun d hd => ?_) (fun d hd => ?_) (fun d hd => ?_) (fun d hd => ?_) (fun q hq => ?_)
  · rw [hu 0 (by decide), gv_0, gv_0, u2, if_neg (by omega)]
  · have e8 : up2 M (g) 10 v g 8 = M g 8 := by rw [u2, if_neg (by omega)]
    have e6 : up2 M (g) 10 v g 6 = M g 6 := by rw [u2, if_neg (by omega)]
    rw [hu 1 (by decide), gv_1, gv_1, u_f_X0_phase, u_f_X0_phase, e8, e6]
  · rw [hu 2 (by decide), gv_2, gv_2, u2, if_neg (by omega)]
  · rw [hu 3 (by decide), gv_3, gv_3, u2, if_neg (by omega)]
  · rw [hu 4 (by decide), gv_4, gv_4, u2, if_neg (by omega)]
  · rw [hu 5 (by decide), gv_5, gv_5, u2, if_neg (by omega)]
  · rw [gv_6, u2, if_pos ⟨rfl, rfl⟩]; exact (if_pos rfl).symm
  · rw [hu 7 (by decide), gv_7, gv_7, u2, if_neg (by omega)]
  · rw [hu 8 (by decide), gv_8, gv_8, u2, if_neg (by omega)]
  · rw [hu 9 (by decide), gv_9, gv_9, u2, if_neg (by omega)]
  · rw [hu 10 (by decide), gv_10, gv_10, u2, if_neg (by omega)]
  · rw [hu 11 (by decide), gv_11, gv_11, u2, if_neg (by omega)]
  · rw [hu 12 (by decide), gv_12, gv_12, u2, if_neg (by omega)]
  · rw [hu 13 (by decide), gv_13, gv_13, u2, if_neg (by omega)]
  · rw [hu 14 (by decide), gv_14, gv_14, u2, if_neg (by omega)]
  · rw [hu 15 (by decide), gv_15, gv_15, u2, if_neg (by omega)]
  · rw [hu 16 (by decide), gv_16, gv_16, u2, if_neg (by omega)]
  · rw [hu 17 (by decide), gv_17, gv_17, u2, if_neg (by omega)]
  · rw [hu 18 (by decide), gv_18, gv_18, u2, if_neg (by omega)]
  · rw [hu 19 (by decide), gv_19, gv_19, u2, if_neg (by omega)]
  · rw [hu _ (by omega), gv_c0 hd, gv_c0 hd, u2, if_neg (by omega)]
  · rw [hu _ (by omega), gv_c1 hd, gv_c1 hd, u2, if_neg (by omega)]
  · rw [hu _ (by omega), gv_dm hd, gv_dm hd, u2, if_neg (by omega)]
  · rw [hu _ (by omega), gv_mk hd, gv_mk hd, u2, if_neg (by omega), u2, if_neg (by omega)]
  · rw [hu _ (by omega), gv_p0 hd, gv_p0 hd, u2, if_neg (by omega)]
  · rw [hu _ (by omega), gv_p1 hd, gv_p1 hd, u2, if_neg (by omega)]
  · rw [hu _ (by omega), gv_big hq, gv_big hq]
theorem gw_fl {M : bM} {g : Nat} {v : Int32} : gv (up2 M (g) 11 v) g = upd (gv M g) 7 v := by
  have hu : ∀ q, q ≠ 7 → upd (gv M g) 7 v q = gv M g q := fun q hq => if_neg hq
  refine row_ext (j20 ⟨?_, ?_, ?_, ?_, ?_, ?_, ?_, ?_, ?_, ?_, ?_, ?_, ?_, ?_, ?_, ?_, ?_, ?_, ?_, ?_⟩) (fun d hd => ?_) (fun d hd => ?_) (fun d hd => ?_) (fun d hd => ?_) (fun d hd => ?_) (fun d hd => ?_) (fun q hq => ?_)
  · rw [hu 0 (by decide), gv_0, gv_0, u2, if_neg (by omega)]
  · have e8 : up2 M (g) 11 v g 8 = M g 8 := by rw [u2, if_neg (by omega)]
    have e6 : up2 M (g) 11 v g 6 = M g 6 := by rw [u2, if_neg (by omega)]
    rw [hu 1 (by decide), gv_1, gv_1, u_f_X0_phase, u_f_X0_phase, e8, e6]
  · rw [hu 2 (by decide), gv_2, gv_2, u2, if_neg (by omega)]
  · rw [hu 3 (by decide), gv_3, gv_3, u2, if_neg (by omega)]
  · rw [hu 4 (by decide), gv_4, gv_4, u2, if_neg (by omega)]
  · rw [hu 5 (by decide), gv_5, gv_5, u2, if_neg (by omega)]
  · rw [hu 6 (by decide), gv_6, gv_6, u2, if_neg (by omega)]
  · rw [gv_7, u2, if_pos ⟨rfl, rfl⟩]; exact (if_pos rfl).symm
  · rw [hu 8 (by decide), gv_8, gv_8, u2, if_neg (by omega)]
  · rw [hu 9 (by decide), gv_9, gv_9, u2, if_neg (by omega)]
  · rw [hu 10 (by decide), gv_10, gv_10, u2, if_neg (by omega)]
  · rw [hu 11 (by decide), gv_11, gv_11, u2, if_neg (by omega)]
  · rw [hu 12 (by decide), gv_12, gv_12, u2, if_neg (by omega)]
  · rw [hu 13 (by decide), gv_13, gv_13, u2, if_neg (by omega)]
  · rw [hu 14 (by decide), gv_14, gv_14, u2, if_neg (by omega)]
  · rw [hu 15 (by decide), gv_15, gv_15, u2, if_neg (by omega)]
  · rw [hu 16 (by decide), gv_16, gv_16, u2, if_neg (by omega)]
  · rw [hu 17 (by decide), gv_17, gv_17, u2, if_neg (by omega)]
  · rw [hu 18 (by decide), gv_18, gv_18, u2, if_neg (by omega)]
  · rw [hu 19 (by decide), gv_19, gv_19, u2, if_neg (by omega)]
  · rw [hu _ (by omega), gv_c0 hd, gv_c0 hd, u2, if_neg (by omega)]
  · rw [hu _ (by omega), gv_c1 hd, gv_c1 hd, u2, if_neg (by omega)]
  · rw [hu _ (by omega), gv_dm hd, gv_dm hd, u2, if_neg (by omega)]
  · rw [hu _ (by omega), gv_mk hd, gv_mk hd, u2, if_neg (by omega), u2, if_neg (by omega)]
  · rw [hu _ (by omega), gv_p0 hd, gv_p0 hd, u2, if_neg (by omega)]
  · rw [hu _ (by omega), gv_p1 hd, gv_p1 hd, u2, if_neg (by omega)]
  · rw [hu _ (by omega), gv_big hq, gv_big hq]
theorem gw_las {M : bM} {g : Nat} {v : Int32} : gv (up2 M (g) 3 v) g = upd (gv M g) 8 v := by
  have hu : ∀ q, q ≠ 8 → upd (gv M g) 8 v q = gv M g q := fun q hq => if_neg hq
  refine row_ext (j20 ⟨?_, ?_, ?_, ?_, ?_, ?_, ?_, ?_, ?_, ?_, ?_, ?_, ?_, ?_, ?_, ?_, ?_, ?_, ?_, ?_⟩) (fun d hd => ?_) (fun d hd => ?_) (fun d hd => ?_) (fun d hd => ?_) (fun d hd => ?_) (fun d hd => ?_) (fun q hq => ?_)
  · rw [hu 0 (by decide), gv_0, gv_0, u2, if_neg (by omega)]
  · have e8 : up2 M (g) 3 v g 8 = M g 8 := by rw [u2, if_neg (by omega)]
    have e6 : up2 M (g) 3 v g 6 = M g 6 := by rw [u2, if_neg (by omega)]
    rw [hu 1 (by decide), gv_1, gv_1, u_f_X0_phase, u_f_X0_phase, e8, e6]
  · rw [hu 2 (by decide), gv_2, gv_2, u2, if_neg (by omega)]
  · rw [hu 3 (by decide), gv_3, gv_3, u2, if_neg (by omega)]
  · rw [hu 4 (by decide), gv_4, gv_4, u2, if_neg (by omega)]
  · rw [hu 5 (by decide), gv_5, gv_5, u2, if_neg (by omega)]
  · rw [hu 6 (by decide), gv_6, gv_6, u2, if_neg (by omega)]
  · rw [hu 7 (by decide), gv_7, gv_7, u2, if_neg (by omega)]
  · rw [gv_8, u2, if_pos ⟨rfl, rfl⟩]; exact (if_pos rfl).symm
  · rw [hu 9 (by decide), gv_9, gv_9, u2, if_neg (by omega)]
  · rw [hu 10 (by decide), gv_10, gv_10, u2, if_neg (by omega)]
  · rw [hu 11 (by decide), gv_11, gv_11, u2, if_neg (by omega)]
  · rw [hu 12 (by decide), gv_12, gv_12, u2, if_neg (by omega)]
  · rw [hu 13 (by decide), gv_13, gv_13, u2, if_neg (by omega)]
  · rw [hu 14 (by decide), gv_14, gv_14, u2, if_neg (by omega)]
  · rw [hu 15 (by decide), gv_15, gv_15, u2, if_neg (by omega)]
  · rw [hu 16 (by decide), gv_16, gv_16, u2, if_neg (by omega)]
  · rw [hu 17 (by decide), gv_17, gv_17, u2, if_neg (by omega)]
  · rw [hu 18 (by decide), gv_18, gv_18, u2, if_neg (by omega)]
  · rw [hu 19 (by decide), gv_19, gv_19, u2, if_neg (by omega)]
  · rw [hu _ (by omega), gv_c0 hd, gv_c0 hd, u2, if_neg (by omega)]
  · rw [hu _ (by omega), gv_c1 hd, gv_c1 hd, u2, if_neg (by omega)]
  · rw [hu _ (by omega), gv_dm hd, gv_dm hd, u2, if_neg (by omega)]
  · rw [hu _ (by omega), gv_mk hd, gv_mk hd, u2, if_neg (by omega), u2, if_neg (by omega)]
  · rw [hu _ (by omega), gv_p0 hd, gv_p0 hd, u2, if_neg (by omega)]
  · rw [hu _ (by omega), gv_p1 hd, gv_p1 hd, u2, if_neg (by omega)]
  · rw [hu _ (by omega), gv_big hq, gv_big hq]
theorem gw_fac {M : bM} {g : Nat} {v : Int32} : gv (up2 M (g) 4 v) g = upd (gv M g) 9 v := by
  have hu : ∀ q, q ≠ 9 → upd (gv M g) 9 v q = gv M g q := fun q hq => if_neg hq
  refine row_ext (j20 ⟨?_, ?_, ?_, ?_, ?_, ?_, ?_, ?_, ?_, ?_, ?_, ?_, ?_, ?_, ?_, ?_, ?_, ?_, ?_, ?_⟩) (fun d hd => ?_) (fun d hd => ?_) (fun d hd => ?_) (fun d hd => ?_) (fun d hd => ?_) (fun d hd => ?_) (fun q hq => ?_)
  · rw [hu 0 (by decide), gv_0, gv_0, u2, if_neg (by omega)]
  · have e8 : up2 M (g) 4 v g 8 = M g 8 := by rw [u2, if_neg (by omega)]
    have e6 : up2 M (g) 4 v g 6 = M g 6 := by rw [u2, if_neg (by omega)]
    rw [hu 1 (by decide), gv_1, gv_1, u_f_X0_phase, u_f_X0_phase, e8, e6]
  · rw [hu 2 (by decide), gv_2, gv_2, u2, if_neg (by omega)]
  · rw [hu 3 (by decide), gv_3, gv_3, u2, if_neg (by omega)]
  · rw [hu 4 (by decide), gv_4, gv_4, u2, if_neg (by omega)]
  · rw [hu 5 (by decide), gv_5, gv_5, u2, if_neg (by omega)]
  · rw [hu 6 (by decide), gv_6, gv_6, u2, if_neg (by omega)]
  · rw [hu 7 (by decide), gv_7, gv_7, u2, if_neg (by omega)]
  · rw [hu 8 (by decide), gv_8, gv_8, u2, if_neg (by omega)]
  · rw [gv_9, u2, if_pos ⟨rfl, rfl⟩]; exact (if_pos rfl).symm
  · rw [hu 10 (by decide), gv_10, gv_10, u2, if_neg (by omega)]
  · rw [hu 11 (by decide), gv_11, gv_11, u2, if_neg (by omega)]
  · rw [hu 12 (by decide), gv_12, gv_12, u2, if_neg (by omega)]
  · rw [hu 13 (by decide), gv_13, gv_13, u2, if_neg (by omega)]
  · rw [hu 14 (by decide), gv_14, gv_14, u2, if_neg (by omega)]
  · rw [hu 15 (by decide), gv_15, gv_15, u2, if_neg (by omega)]
  · rw [hu 16 (by decide), gv_16, gv_16, u2, if_neg (by omega)]
  · rw [hu 17 (by decide), gv_17, gv_17, u2, if_neg (by omega)]
  · rw [hu 18 (by decide), gv_18, gv_18, u2, if_neg (by omega)]
  · rw [hu 19 (by decide), gv_19, gv_19, u2, if_neg (by omega)]
  · rw [hu _ (by omega), gv_c0 hd, gv_c0 hd, u2, if_neg (by omega)]
  · rw [hu _ (by omega), gv_c1 hd, gv_c1 hd, u2, if_neg (by omega)]
  · rw [hu _ (by omega), gv_dm hd, gv_dm hd, u2, if_neg (by omega)]
  · rw [hu _ (by omega), gv_mk hd, gv_mk hd, u2, if_neg (by omega), u2, if_neg (by omega)]
  · rw [hu _ (by omega), gv_p0 hd, gv_p0 hd, u2, if_neg (by omega)]
  · rw [hu _ (by omega), gv_p1 hd, gv_p1 hd, u2, if_neg (by omega)]
  · rw [hu _ (by omega), gv_big hq, gv_big hq]
theorem gw_b0 {M : bM} {g : Nat} {v : Int32} : gv (up2 M (g + 1) 5 v) g = upd (gv M g) 11 v := by
  have hu : ∀ q, q ≠ 11 → upd (gv M g) 11 v q = gv M g q := fun q hq => if_neg hq
  refine row_ext (j20 ⟨?_, ?_, ?_, ?_, ?_, ?_, ?_, ?_, ?_, ?_, ?_, ?_, ?_, ?_, ?_, ?_, ?_, ?_, ?_, ?_⟩) (fun d hd => ?_) (fun d hd => ?_) (fun d hd => ?_) (fun d hd => ?_) (fun d hd => ?_) (fun d hd => ?_) (fun q hq => ?_)
  · rw [hu 0 (by decide), gv_0, gv_0, u2, if_neg (by omega)]
  · have e8 : up2 M (g + 1) 5 v g 8 = M g 8 := by rw [u2, if_neg (by omega)]
    have e6 : up2 M (g + 1) 5 v g 6 = M g 6 := by rw [u2, if_neg (by omega)]
    rw [hu 1 (by decide), gv_1, gv_1, u_f_X0_phase, u_f_X0_phase, e8, e6]
  · rw [hu 2 (by decide), gv_2, gv_2, u2, if_neg (by omega)]
  · rw [hu 3 (by decide), gv_3, gv_3, u2, if_neg (by omega)]
  · rw [hu 4 (by decide), gv_4, gv_4, u2, if_neg (by omega)]
  · rw [hu 5 (by decide), gv_5, gv_5, u2, if_neg (by omega)]
  · rw [hu 6 (by decide), gv_6, gv_6, u2, if_neg (by omega)]
  · rw [hu 7 (by decide), gv_7, gv_7, u2, if_neg (by omega)]
  · rw [hu 8 (by decide), gv_8, gv_8, u2, if_neg (by omega)]
  · rw [hu 9 (by decide), gv_9, gv_9, u2, if_neg (by omega)]
  · rw [hu 10 (by decide), gv_10, gv_10, u2, if_neg (by omega)]
  · rw [gv_11, u2, if_pos ⟨rfl, rfl⟩]; exact (if_pos rfl).symm
  · rw [hu 12 (by decide), gv_12, gv_12, u2, if_neg (by omega)]
  · rw [hu 13 (by decide), gv_13, gv_13, u2, if_neg (by omega)]
  · rw [hu 14 (by decide), gv_14, gv_14, u2, if_neg (by omega)]
  · rw [hu 15 (by decide), gv_15, gv_15, u2, if_neg (by omega)]
  · rw [hu 16 (by decide), gv_16, gv_16, u2, if_neg (by omega)]
  · rw [hu 17 (by decide), gv_17, gv_17, u2, if_neg (by omega)]
  · rw [hu 18 (by decide), gv_18, gv_18, u2, if_neg (by omega)]
  · rw [hu 19 (by decide), gv_19, gv_19, u2, if_neg (by omega)]
  · rw [hu _ (by omega), gv_c0 hd, gv_c0 hd, u2, if_neg (by omega)]
  · rw [hu _ (by omega), gv_c1 hd, gv_c1 hd, u2, if_neg (by omega)]
  · rw [hu _ (by omega), gv_dm hd, gv_dm hd, u2, if_neg (by omega)]
  · rw [hu _ (by omega), gv_mk hd, gv_mk hd, u2, if_neg (by omega), u2, if_neg (by omega)]
  · rw [hu _ (by omega), gv_p0 hd, gv_p0 hd, u2, if_neg (by omega)]
  · rw [hu _ (by omega), gv_p1 hd, gv_p1 hd, u2, if_neg (by omega)]
  · rw [hu _ (by omega), gv_big hq, gv_big hq]
theorem gw_b1 {M : bM} {g : Nat} {v : Int32} : gv (up2 M (g + 5) 5 v) g = upd (gv M g) 16 v := by
  have hu : ∀ q, q ≠ 16 → upd (gv M g) 16 v q = gv M g q := fun q hq => if_neg hq
  refine row_ext (j20 ⟨?_, ?_, ?_, ?_, ?_, ?_, ?_, ?_, ?_, ?_, ?_, ?_, ?_, ?_, ?_, ?_, ?_, ?_, ?_, ?_⟩) (fun d hd => ?_) (fun d hd => ?_) (fun d hd => ?_) (fun d hd => ?_) (fun d hd => ?_) (fun d hd => ?_) (fun q hq => ?_)
  · rw [hu 0 (by decide), gv_0, gv_0, u2, if_neg (by omega)]
  · have e8 : up2 M (g + 5) 5 v g 8 = M g 8 := by rw [u2, if_neg (by omega)]
    have e6 : up2 M (g + 5) 5 v g 6 = M g 6 := by rw [u2, if_neg (by omega)]
    rw [hu 1 (by decide), gv_1, gv_1, u_f_X0_phase, u_f_X0_phase, e8, e6]
  · rw [hu 2 (by decide), gv_2, gv_2, u2, if_neg (by omega)]
  · rw [hu 3 (by decide), gv_3, gv_3, u2, if_neg (by omega)]
  · rw [hu 4 (by decide), gv_4, gv_4, u2, if_neg (by omega)]
  · rw [hu 5 (by decide), gv_5, gv_5, u2, if_neg (by omega)]
  · rw [hu 6 (by decide), gv_6, gv_6, u2, if_neg (by omega)]
  · rw [hu 7 (by decide), gv_7, gv_7, u2, if_neg (by omega)]
  · rw [hu 8 (by decide), gv_8, gv_8, u2, if_neg (by omega)]
  · rw [hu 9 (by decide), gv_9, gv_9, u2, if_neg (by omega)]
  · rw [hu 10 (by decide), gv_10, gv_10, u2, if_neg (by omega)]
  · rw [hu 11 (by decide), gv_11, gv_11, u2, if_neg (by omega)]
  · rw [hu 12 (by decide), gv_12, gv_12, u2, if_neg (by omega)]
  · rw [hu 13 (by decide), gv_13, gv_13, u2, if_neg (by omega)]
  · rw [hu 14 (by decide), gv_14, gv_14, u2, if_neg (by omega)]
  · rw [hu 15 (by decide), gv_15, gv_15, u2, if_neg (by omega)]
  · rw [gv_16, u2, if_pos ⟨rfl, rfl⟩]; exact (if_pos rfl).symm
  · rw [hu 17 (by decide), gv_17, gv_17, u2, if_neg (by omega)]
  · rw [hu 18 (by decide), gv_18, gv_18, u2, if_neg (by omega)]
  · rw [hu 19 (by decide), gv_19, gv_19, u2, if_neg (by omega)]
  · rw [hu _ (by omega), gv_c0 hd, gv_c0 hd, u2, if_neg (by omega)]
  · rw [hu _ (by omega), gv_c1 hd, gv_c1 hd, u2, if_neg (by omega)]
  · rw [hu _ (by omega), gv_dm hd, gv_dm hd, u2, if_neg (by omega)]
  · rw [hu _ (by omega), gv_mk hd, gv_mk hd, u2, if_neg (by omega), u2, if_neg (by omega)]
  · rw [hu _ (by omega), gv_p0 hd, gv_p0 hd, u2, if_neg (by omega)]
  · rw [hu _ (by omega), gv_p1 hd, gv_p1 hd, u2, if_neg (by omega)]
  · rw [hu _ (by omega), gv_big hq, gv_big hq]
theorem gw_gm {M : bM} {g : Nat} {v : Int32} : gv (up2 M (g) 5 v) g = upd (gv M g) 0 v := by
  have hu : ∀ q, q ≠ 0 → upd (gv M g) 0 v q = gv M g q := fun q hq => if_neg hq
  refine row_ext (j20 ⟨?_, ?_, ?_, ?_, ?_, ?_, ?_, ?_, ?_, ?_, ?_, ?_, ?_, ?_, ?_, ?_, ?_, ?_, ?_, ?_⟩) (fun d hd => ?_) (fun d hd => ?_) (fun d hd => ?_) (fun d hd => ?_) (fun d hd => ?_) (fun d hd => ?_) (fun q hq => ?_)
  · rw [gv_0, u2, if_pos ⟨rfl, rfl⟩]; exact (if_pos rfl).symm
  · have e8 : up2 M (g) 5 v g 8 = M g 8 := by rw [u2, if_neg (by omega)]
    have e6 : up2 M (g) 5 v g 6 = M g 6 := by rw [u2, if_neg (by omega)]
    rw [hu 1 (by decide), gv_1, gv_1, u_f_X0_phase, u_f_X0_phase, e8, e6]
  · rw [hu 2 (by decide), gv_2, gv_2, u2, if_neg (by omega)]
  · rw [hu 3 (by decide), gv_3, gv_3, u2, if_neg (by omega)]
  · rw [hu 4 (by decide), gv_4, gv_4, u2, if_neg (by omega)]
  · rw [hu 5 (by decide), gv_5, gv_5, u2, if_neg (by omega)]
  · rw [hu 6 (by decide), gv_6, gv_6, u2, if_neg (by omega)]
  · rw [hu 7 (by decide), gv_7, gv_7, u2, if_neg (by omega)]
  · rw [hu 8 (by decide), gv_8, gv_8, u2, if_neg (by omega)]
  · rw [hu 9 (by decide), gv_9, gv_9, u2, if_neg (by omega)]
  · rw [hu 10 (by decide), gv_10, gv_10, u2, if_neg (by omega)]
  · rw [hu 11 (by decide), gv_11, gv_11, u2, if_neg (by omega)]
  · rw [hu 12 (by decide), gv_12, gv_12, u2, if_neg (by omega)]
  · rw [hu 13 (by decide), gv_13, gv_13, u2, if_neg (by omega)]
  · rw [hu 14 (by decide), gv_14, gv_14, u2, if_neg (by omega)]
  · rw [hu 15 (by decide), gv_15, gv_15, u2, if_neg (by omega)]
  · rw [hu 16 (by decide), gv_16, gv_16, u2, if_neg (by omega)]
  · rw [hu 17 (by decide), gv_17, gv_17, u2, if_neg (by omega)]
  · rw [hu 18 (by decide), gv_18, gv_18, u2, if_neg (by omega)]
  · rw [hu 19 (by decide), gv_19, gv_19, u2, if_neg (by omega)]
  · rw [hu _ (by omega), gv_c0 hd, gv_c0 hd, u2, if_neg (by omega)]
  · rw [hu _ (by omega), gv_c1 hd, gv_c1 hd, u2, if_neg (by omega)]
  · rw [hu _ (by omega), gv_dm hd, gv_dm hd, u2, if_neg (by omega)]
  · rw [hu _ (by omega), gv_mk hd, gv_mk hd, u2, if_neg (by omega), u2, if_neg (by omega)]
  · rw [hu _ (by omega), gv_p0 hd, gv_p0 hd, u2, if_neg (by omega)]
  · rw [hu _ (by omega), gv_p1 hd, gv_p1 hd, u2, if_neg (by omega)]
  · rw [hu _ (by omega), gv_big hq, gv_big hq]
theorem gw_dam {M : bM} {g c : Nat} {v : Int32} (hc : c < 64) : gv (up2 M (g + 9) c v) g = upd (gv M g) (148 + c) v := by
  have hu : ∀ q, q ≠ 148 + c → upd (gv M g) (148 + c) v q = gv M g q := fun q hq => if_neg hq
  refine row_ext (fun j hj => ?_) (fun d hd => ?_) (fun d hd => ?_) (fun d hd => ?_) (fun d hd => ?_) (fun d hd => ?_) (fun d hd => ?_) (fun q hq => ?_)
  · rw [hu j (by omega)]
    exact gv20 ⟨by rw [u2, if_neg (by omega)], by rw [u2, if_neg (by omega)], by rw [u2, if_neg (by omega)], by rw [u2, if_neg (by omega)], by rw [u2, if_neg (by omega)], by rw [u2, if_neg (by omega)], by rw [u2, if_neg (by omega)], by rw [u2, if_neg (by omega)], by rw [u2, if_neg (by omega)]⟩ (fun q _ _ => by rw [u2, if_neg (by omega)]) (fun q _ _ => by rw [u2, if_neg (by omega)]) j hj
  · rw [hu _ (by omega), gv_c0 hd, gv_c0 hd, u2, if_neg (by omega)]
  · rw [hu _ (by omega), gv_c1 hd, gv_c1 hd, u2, if_neg (by omega)]
  · rw [gv_dm hd, u2]
    by_cases e : d = c
    · rw [if_pos ⟨rfl, e⟩, e]; exact (if_pos rfl).symm
    · rw [if_neg (by omega), hu _ (by omega), gv_dm hd]
  · rw [hu _ (by omega), gv_mk hd, gv_mk hd, u2, if_neg (by omega), u2, if_neg (by omega)]
  · rw [hu _ (by omega), gv_p0 hd, gv_p0 hd, u2, if_neg (by omega)]
  · rw [hu _ (by omega), gv_p1 hd, gv_p1 hd, u2, if_neg (by omega)]
  · rw [hu _ (by omega), gv_big hq, gv_big hq]
theorem eqR_upd {P : Prop} {r r' : Nat → Int32} {j : Nat} {v : Int32} (h14 : j ≠ 14) (h19 : j ≠ 19) (hj : j < 276) (h : eqR P r r') : eqR P (upd r j v) (upd r' j v) := by
  obtain ⟨h1, h6, ha, hb⟩ := h
  refine ⟨fun q hq hn => ?_, fun p => ?_, fun a h64 e i hi' => ?_, fun b h64 e i hi' => ?_⟩
  · unfold upd; rw [h1 q hq hn]
  · unfold upd; rw [h6 p]
  · have e' : r 14 = nI (a + 1) := by rw [← e]; exact (if_neg (by omega)).symm
    show (if 276 + i = j then v else r (276 + i)) = (if 276 + i = j then v else r' (276 + i))
    rw [if_neg (by omega), if_neg (by omega)]; exact ha a h64 e' i hi'
  · have e' : r 19 = nI (b + 1) := by rw [← e]; exact (if_neg (by omega)).symm
    show (if 340 + i = j then v else r (340 + i)) = (if 340 + i = j then v else r' (340 + i))
    rw [if_neg (by omega), if_neg (by omega)]; exact hb b h64 e' i hi'
/-- a field is written on both sides -/
theorem sG_w {P : Prop} {M : bM} {g x y j : Nat} {v : Int32} {r : Nat → Int32} (hs : sG P M g r) (hw : gv (up2 M x y v) g = upd (gv M g) j v) (hj : j < 276) (h14 : j ≠ 14) (h19 : j ≠ 19) (h4 : j ≠ 4) (h5 : j ≠ 5) (hx1 : x ≠ g + 4) (hx2 : x ≠ g + 8) : sG P (up2 M x y v) g (upd r j v) := by
  refine ⟨?_, fun d hd => ?_, fun e => ?_⟩
  · rw [hw]; exact eqR_upd h14 h19 hj hs.1
  · rw [u2, if_neg (by omega), u2, if_neg (by omega)]; exact hs.2.1 d hd
  · have e' : r 4 = -1 := by rw [← e]; exact (if_neg (fun q => h4 q.symm)).symm
    show (if 5 = j then v else r 5) = -1
    rw [if_neg (fun q => h5 q.symm)]; exact hs.2.2 e'
theorem up2_upd {M : bM} {k j : Nat} {v : Int32} : up2 M k j v k = upd (M k) j v := up2_same M k j v
theorem sG_refuse {P : Prop} {M : bM} {g : Nat} {r : Nat → Int32} (p : P) (hs : sG P M g r) : sG P (up2 M g 10 (M g 10 + 1)) g (upd r 6 (r 6 + 1)) := by
  have e : M g 10 = r 6 := by rw [← gv_6 M g]; exact (hs.1.2.1 p).symm
  rw [e]
  exact sG_w hs gw_ref (by decide) (by decide) (by decide) (by decide) (by decide) (by omega) (by omega)
/-- refusals are left out -/
theorem sG_r6 {M : bM} {g : Nat} {r : Nat → Int32} {v : Int32} (hs : sG False M g r) : sG False M g (upd r 6 v) := by
  obtain ⟨⟨h1, h6, ha, hb⟩, hB, hw⟩ := hs
  have hu : ∀ q, q ≠ 6 → upd r 6 v q = r q := fun q hq => if_neg hq
  refine ⟨⟨fun q hq hn => by rw [hu q hn]; exact h1 q hq hn, fun p => p.elim, fun a h64 e i hi' => ?_, fun b h64 e i hi' => ?_⟩, hB, fun e => ?_⟩
  · rw [hu 14 (by decide)] at e; rw [hu _ (by omega)]; exact ha a h64 e i hi'
  · rw [hu 19 (by decide)] at e; rw [hu _ (by omega)]; exact hb b h64 e i hi'
  · rw [hu 4 (by decide)] at e; rw [hu 5 (by decide)]; exact hw e
theorem sG_weak {P : Prop} {M : bM} {g : Nat} {r : Nat → Int32} (hs : sG P M g r) : sG False M g r := ⟨⟨hs.1.1, fun p => p.elim, hs.1.2.2⟩, hs.2⟩
/-- a step that is tried -/
theorem sG_try {P : Prop} {M R : bM} {g k j : Nat} (p : P) (hs : sG P M g (R k)) (hg : gR (R k)) (h1 : R k 1 = 1) (hj : j < 3) : (f_X0_tryStep M g (nI j)).1 = (f_X7_stepOn R k (nI j)).1 ∧ sG P (f_X0_tryStep M g (nI j)).2 g ((f_X7_stepOn R k (nI j)).2 k) := by
  have hr := sG_reason hs hg hj
  rw [u_f_X0_tryStep]
  dsimp only
  rw [hr]
  by_cases c : f_X7_reason R k (nI j) = 0
  · rw [if_pos c]
    obtain ⟨a1, a2⟩ := sG_step hs hg h1 hj c
    dsimp only
    exact ⟨c.trans a1.symm, a2⟩
  · rw [if_neg c]
    have hle : ¬ f_X7_reason R k (nI j) ≤ 0 := by
      intro q
      obtain ⟨x, hx, ec, hd, hv⟩ := reason_ok q
      apply c
      rw [u_f_X7_reason]
      dsimp only
      rw [ec, if_neg (nI_ne_m1 (by omega)), if_pos ((isDam_iff hx).mpr hd), if_pos hv]
    have e : f_X7_stepOn R k (nI j) = (f_X7_reason R k (nI j), up2 R k 6 (R k 6 + 1)) := by
      rw [u_f_X7_stepOn]; dsimp only; rw [if_neg hle]
    rw [e]
    refine ⟨rfl, ?_⟩
    dsimp only
    rw [up2_upd]
    exact sG_refuse p hs
/-- a step that is done if it can be -/
theorem sG_ifp {P : Prop} {M R : bM} {g k j : Nat} (hs : sG P M g (R k)) (hg : gR (R k)) (hj : j < 3) :
    (R k 1 = 1 ∧ f_X7_reason R k (nI j) = 0 → (f_X0_stepIfPossible M g (nI j)).1 = 1 ∧ (f_X7_stepOn R k (nI j)).1 = 0 ∧ sG P (f_X0_stepIfPossible M g (nI j)).2 g ((f_X7_stepOn R k (nI j)).2 k)) ∧
    (¬ (R k 1 = 1 ∧ f_X7_reason R k (nI j) = 0) → f_X0_stepIfPossible M g (nI j) = (0, M)) := by
  have hr := sG_reason hs hg hj
  have ho := sG_over hs
  constructor
  · intro ⟨h1, c⟩
    obtain ⟨a1, a2⟩ := sG_step hs hg h1 hj c
    rw [u_f_X0_stepIfPossible]
    dsimp only
    rw [if_pos (ho.mpr h1), hr, if_pos c]
    dsimp only
    exact ⟨rfl, a1, a2⟩
  · intro hn
    rw [u_f_X0_stepIfPossible]
    dsimp only
    by_cases h1 : R k 1 = 1
    · rw [if_pos (ho.mpr h1), hr, if_neg (fun q => hn ⟨h1, q⟩)]
    · rw [if_neg (fun q => h1 (ho.mp q))]
/-- a turn's end -/
theorem sG_te {P : Prop} {M R : bM} {g k m : Nat} (hs : sG P M g (R k)) (h3 : R k 3 = nI m) (hm : m ≤ 80) : sG P (f_X0_endTurn M g) g (f_X7_turnEnds R k k) := by
  have m6 : M g 6 = nI m := by rw [← gv_3 M g, ← hs.1.1 3 (by omega) (by omega)]; exact h3
  rw [te_row]
  refine ⟨by rw [gv_et m6 hm]; exact eqR_te hs.1, fun d hd => ?_, fun e => ?_⟩
  · rw [et_at, if_neg (by omega), if_neg (by omega), if_neg (by omega), et_at, if_neg (by omega), if_neg (by omega), if_neg (by omega)]; exact hs.2.1 d hd
  · unfold teR at e ⊢
    rw [if_neg (by decide), if_neg (by decide), if_neg (by decide), if_neg (by omega)] at e ⊢
    exact hs.2.2 e
theorem sG_pay {P : Prop} {M R : bM} {g k p : Nat} {v : Int32} (hp : p < 2) (hs : sG P M g (R k)) : sG P (f_X2_pay M (g + 1 + 4 * p) v) g (f_X7_pays R k (nI p) v k) := by
  rw [pays_row hp]
  refine ⟨by rw [gv_pay hp]; exact eqR_pays hp hs.1, fun d hd => ?_, fun e => ?_⟩
  · rw [pay_at, if_neg (by omega), if_neg (by omega), pay_at, if_neg (by omega), if_neg (by omega)]; exact hs.2.1 d hd
  · rw [paysR_ne (by omega) (by omega)] at e
    rw [paysR_ne (by omega) (by omega)]; exact hs.2.2 e
/-- a setting is changed -/
theorem sG_change {P : Prop} {M R : bM} {g k w : Nat} {v : Int32} (hw : w < 2) (hs : sG P M g (R k)) : (f_X0_changeSetting M g (nI w) v).1 = (f_X7_change R k (nI w) v).1 ∧ sG P (f_X0_changeSetting M g (nI w) v).2 g ((f_X7_change R k (nI w) v).2 k) := by
  obtain ⟨c1, c2⟩ := change_row (M := R) (k := k) (w := w) (v := v) hw
  rw [c1, c2, up2_upd, u_f_X0_changeSetting, u_f_X0_settingOf]
  dsimp only
  rcases (by omega : w = 0 ∨ w = 1) with rfl | rfl
  · rw [if_pos (show nI 0 = 0 from rfl), if_pos (show nI 0 = 0 from rfl)]
    exact ⟨by rw [← gv_8 M g]; exact (hs.1.1 8 (by omega) (by omega)).symm, sG_w hs gw_las (by decide) (by decide) (by decide) (by decide) (by decide) (by omega) (by omega)⟩
  · rw [if_neg (show ¬ nI 1 = 0 by decide), if_neg (show ¬ nI 1 = 0 by decide)]
    exact ⟨by rw [← gv_9 M g]; exact (hs.1.1 9 (by omega) (by omega)).symm, sG_w hs gw_fac (by decide) (by decide) (by decide) (by decide) (by decide) (by omega) (by omega)⟩
/-- no step can be made, on both sides -/
theorem sG_canFlood {P : Prop} {M R : bM} {g k : Nat} (hs : sG P M g (R k)) (hg : gR (R k)) : ¬ f_X0_canFlood M g = 0 ↔ (R k 1 = 1 ∧ f_X7_canStep R k = 0) := by
  have r0 := sG_reason hs hg (j := 0) (by decide)
  have r1 := sG_reason hs hg (j := 1) (by decide)
  have r2 := sG_reason hs hg (j := 2) (by decide)
  rw [show nI 0 = 0 from rfl] at r0
  rw [show nI 1 = 1 from rfl] at r1
  rw [show nI 2 = 2 from rfl] at r2
  have ho := sG_over hs
  rw [u_f_X0_canFlood, u_f_X7_canStep]
  dsimp only
  rw [r0, r1, r2]
  by_cases h1 : R k 1 = 1
  · rw [if_pos (ho.mpr h1)]
    by_cases c0 : f_X7_reason R k 0 = 0
    · rw [if_pos c0, if_pos c0]; exact ⟨fun q => absurd rfl q, fun q => absurd q.2 (by decide)⟩
    rw [if_neg c0, if_neg c0]
    by_cases c1 : f_X7_reason R k 1 = 0
    · rw [if_pos c1, if_pos c1]; exact ⟨fun q => absurd rfl q, fun q => absurd q.2 (by decide)⟩
    rw [if_neg c1, if_neg c1]
    by_cases c2 : f_X7_reason R k 2 = 0
    · rw [if_pos c2, if_pos c2]; exact ⟨fun q => absurd rfl q, fun q => absurd q.2 (by decide)⟩
    · rw [if_neg c2, if_neg c2]; exact ⟨fun _ => ⟨h1, rfl⟩, fun _ => by decide⟩
  · rw [if_neg (fun q => h1 (ho.mp q))]; exact ⟨fun q => absurd rfl q, fun q => absurd q.1 h1⟩
theorem gR_dam {R : bM} {k c : Nat} {v : Int32} (hc : c < 64) (h : gR (R k)) : gR (up2 R k (148 + c) v k) := by
  obtain ⟨m, hm, hX⟩ := h
  obtain ⟨x, y, n10, n15, nx, ny⟩ := gR_paid (r' := R k) (by omega) hX
  obtain ⟨s8, s9⟩ := gX_set hX
  have hj : ∀ j, j ≠ 148 + c → up2 R k (148 + c) v k j = R k j := fun j q => by rw [up2_at, if_neg q]
  exact ⟨m, hm, gX_core (Nat.le_refl _) hX (fun j q => hj j (by omega)) (by rw [hj 8 (by omega)]; exact s8) (by rw [hj 9 (by omega)]; exact s9) ⟨x, by rw [hj 10 (by omega)]; exact n10, nx⟩ ⟨y, by rw [hj 15 (by omega)]; exact n15, ny⟩⟩
theorem flood_both {P : Prop} {g k p : Nat} : ∀ (n i : Nat) (x : Int32) (M R : bM), i + n = 3 → p < 2 → R k 2 = nI p → sG P M g (R k) → gR (R k) → (lp_X0_washAway_13 g (g + 1 + 4 * p) n i x M).1 = (lp_X7_floodOn_4 k n i x R).1 ∧ sG P (lp_X0_washAway_13 g (g + 1 + 4 * p) n i x M).2 g ((lp_X7_floodOn_4 k n i x R).2 k) := by
  intro n
  induction n with
  | zero => intro i x M R hi hp e2 hs hg; rw [u0_lp_X0_washAway_13, u0_lp_X7_floodOn_4]; exact ⟨rfl, hs⟩
  | succ n ih =>
    intro i x M R hi hp e2 hs hg
    obtain ⟨p', h, hp', hh, e2', eS, eH, eR⟩ := target hs hg
    have epp : p' = p := nI_inj (by omega) (by omega) (e2'.symm.trans e2)
    subst epp
    rw [u1_lp_X0_washAway_13, u1_lp_X7_floodOn_4]
    dsimp only
    rw [eH, eR, cb_nI hh (by omega), sf_nI hh (by omega)]
    by_cases c1 : nbI h i = -1
    · rw [if_pos c1, c1, if_pos (show f_X6_fits (-1) = 0 by decide)]
      exact ih (i + 1) x M R (by omega) hp e2 hs hg
    · rw [if_neg c1]
      obtain ⟨hn, hnI⟩ := nbI_pos c1
      rw [hnI, fits_nI hn, if_neg (show ¬ (1 : Int32) = 0 by decide), nI_clamp (by omega)]
      by_cases c2 : M (g + 9) (nb h i) = -1
      · rw [if_pos c2, if_pos ((isDam_iff hn).mpr (by rw [← sG_dam hs hn]; exact c2))]
        exact ih (i + 1) x M R (by omega) hp e2 hs hg
      · rw [if_neg c2, if_neg (fun q => c2 (by rw [sG_dam hs hn]; exact (isDam_iff hn).mp q)), idxK 148 (by omega)]
        refine ih (i + 1) (x + 1) _ _ (by omega) hp (by rw [up2_at, if_neg (by omega)]; exact e2) ?_ (gR_dam hn hg)
        rw [up2_upd]
        exact sG_w hs (gw_dam hn) (by omega) (by omega) (by omega) (by omega) (by omega) (by omega) (by omega)
theorem flood_3 {k : Nat} (R : bM) : (lp_X7_floodOn_4 k 3 0 0 R).1 ≥ 0 := by
  have h : ∀ (n i : Nat) (x : Nat) (R : bM), x + n ≤ 3 → ∃ y : Nat, (lp_X7_floodOn_4 k n i (nI x) R).1 = nI y ∧ y ≤ 3 := by
    intro n
    induction n with
    | zero => intro i x R hx; rw [u0_lp_X7_floodOn_4]; exact ⟨x, rfl, by omega⟩
    | succ n ih =>
      intro i x R hx
      rw [u1_lp_X7_floodOn_4]
      dsimp only
      split
      · exact ih _ _ _ (by omega)
      · split
        · exact ih _ _ _ (by omega)
        · rw [show nI x + 1 = nI (x + 1) from nI_add x 1]
          exact ih _ _ _ (by omega)
  obtain ⟨y, e, hy⟩ := h 3 0 0 R (by omega)
  rw [show (0 : Int32) = nI 0 from rfl] at *
  rw [e]
  exact nI_le (a := 0) (by omega) (by omega)
theorem sG_flood {P : Prop} {M R : bM} {g k : Nat} (hs : sG P M g (R k)) (hg : gR (R k)) (h1 : R k 1 = 1) : (f_X0_washAway M g).1 = (f_X7_floodOn R k).1 ∧ sG P (f_X0_washAway M g).2 g ((f_X7_floodOn R k).2 k) ∧ ¬ (f_X7_floodOn R k).1 < 0 := by
  obtain ⟨p, h, hp, hh, e2, eS, eH, eR⟩ := target hs hg
  have h3 := flood_3 (k := k) R
  have hL := flood_loop (k := k) 3 0 0 R
  obtain ⟨b1, b2⟩ := flood_both (P := P) (g := g) (k := k) (p := p) 3 0 0 M R rfl hp e2 hs hg
  obtain ⟨m, a, b, h0', h1', hm, n3, _⟩ := gR_nums hg
  rw [u_f_X0_washAway, u_f_X7_floodOn]
  dsimp only
  rw [eS]
  generalize lp_X0_washAway_13 g (g + 1 + 4 * p) 3 0 0 M = A at *
  generalize lp_X7_floodOn_4 k 3 0 0 R = Z at *
  refine ⟨b1, ?_, i32_nlt.mpr h3⟩
  rw [hL 2 (by omega), e2]
  have s1 := sG_pay (v := 5) hp b2
  have row := pays_row (M := Z.2) (k := k) (p := p) (v := 5) hp
  generalize f_X2_pay A.2 (g + 1 + 4 * p) 5 = A1 at *
  generalize f_X7_pays Z.2 k (nI p) 5 = Z1 at *
  have e7 : A1 g 11 = Z1 k 7 := by rw [← gv_7 A1 g]; exact (s1.1.1 7 (by omega) (by omega)).symm
  have s2 : sG P (up2 A1 g 11 (A1 g 11 + 1)) g (up2 Z1 k 7 (Z1 k 7 + 1) k) := by
    rw [e7, up2_upd]
    exact sG_w s1 gw_fl (by decide) (by decide) (by decide) (by decide) (by decide) (by omega) (by omega)
  refine sG_te (m := m) s2 ?_ hm
  rw [up2_at, if_neg (by decide), row, paysR_ne (by omega) (by omega), hL 3 (by omega)]
  exact n3
/-! THE RELATION: a new game, copies -/
theorem lf_loop {g : Nat} : ∀ (n i : Nat) (s : Int64) (M : bM), i + n = 64 → ∀ x y, (lp_X0_layField_5 g n i s M).2 x y = if x = g + 2 ∧ i ≤ y ∧ y < 64 then drwI (lcgN s (y - i + 1)) - drwI (lcgN s (y - i + 1)) / 10 * 10 else if x = g + 6 ∧ i ≤ y ∧ y < 64 then drwI (lcgN s (y - i + 1)) / 10 - drwI (lcgN s (y - i + 1)) / 10 / 10 * 10 else M x y := by
  intro n
  induction n with
  | zero => intro i s M hi x y; rw [u0_lp_X0_layField_5, if_neg (show ¬ (x = g + 2 ∧ i ≤ y ∧ y < 64) by omega), if_neg (show ¬ (x = g + 6 ∧ i ≤ y ∧ y < 64) by omega)]
  | succ n ih =>
    intro i s M hi x y
    rw [u1_lp_X0_layField_5]
    dsimp only
    have en : f_X6_nextNumber s = lcgI s := rfl
    have ed : ∀ z, f_X6_drawnFrom z = drwI z := fun _ => rfl
    rw [en, ed, ih (i + 1) _ _ (by omega) x y]
    simp only [lcgN_in, u2]
    by_cases e1 : x = g + 2 ∧ y = i
    · obtain ⟨rfl, rfl⟩ := e1
      rw [if_neg (show ¬ (g + 2 = g + 2 ∧ y + 1 ≤ y ∧ y < 64) by omega), if_neg (show ¬ (g + 2 = g + 6 ∧ y + 1 ≤ y ∧ y < 64) by omega), if_neg (show ¬ (g + 2 = g + 6 ∧ y = y) by omega), if_pos ⟨rfl, rfl⟩, if_pos (show g + 2 = g + 2 ∧ y ≤ y ∧ y < 64 by omega), show y - y + 1 = 1 by omega, lcgN_1]
    by_cases e2 : x = g + 6 ∧ y = i
    · obtain ⟨rfl, rfl⟩ := e2
      rw [if_neg (show ¬ (g + 6 = g + 2 ∧ y + 1 ≤ y ∧ y < 64) by omega), if_neg (show ¬ (g + 6 = g + 6 ∧ y + 1 ≤ y ∧ y < 64) by omega), if_pos (show g + 6 = g + 6 ∧ y = y by omega), if_neg (show ¬ (g + 6 = g + 2 ∧ y ≤ y ∧ y < 64) by omega), if_pos (show g + 6 = g + 6 ∧ y ≤ y ∧ y < 64 by omega), show y - y + 1 = 1 by omega, lcgN_1]
    by_cases h1 : x = g + 2 ∧ i ≤ y ∧ y < 64
    · rw [if_pos (show x = g + 2 ∧ i + 1 ≤ y ∧ y < 64 by omega), if_pos h1, show y - (i + 1) + 1 + 1 = y - i + 1 by omega]
    rw [if_neg (show ¬ (x = g + 2 ∧ i + 1 ≤ y ∧ y < 64) by omega), if_neg h1]
    by_cases h2 : x = g + 6 ∧ i ≤ y ∧ y < 64
    · rw [if_pos (show x = g + 6 ∧ i + 1 ≤ y ∧ y < 64 by omega), if_pos h2, show y - (i + 1) + 1 + 1 = y - i + 1 by omega]
    rw [if_neg (show ¬ (x = g + 6 ∧ i + 1 ≤ y ∧ y < 64) by omega), if_neg h2, if_neg e2, if_neg e1]
theorem fill_loop {k : Nat} {v : Int32} : ∀ (n i : Nat) (M : bM), i + n = 64 → ∀ x y, lp_J7_fill_53178_5 k v n i M x y = if x = k ∧ i ≤ y ∧ y < 64 then v else M x y := by
  intro n
  induction n with
  | zero => intro i M hi x y; rw [u0_lp_J7_fill_53178_5, if_neg (show ¬ (x = k ∧ i ≤ y ∧ y < 64) by omega)]
  | succ n ih =>
    intro i M hi x y
    rw [u1_lp_J7_fill_53178_5]
    dsimp only
    rw [ih (i + 1) _ (by omega), u2]
    by_cases e : x = k ∧ y = i
    · rw [if_neg (show ¬ (x = k ∧ i + 1 ≤ y ∧ y < 64) by omega), if_pos e, if_pos (show x = k ∧ i ≤ y ∧ y < 64 by omega)]
    · rw [if_neg e]
      by_cases h : x = k ∧ i ≤ y ∧ y < 64
      · rw [if_pos h, if_pos (show x = k ∧ i + 1 ≤ y ∧ y < 64 by omega)]
      · rw [if_neg h, if_neg (show ¬ (x = k ∧ i + 1 ≤ y ∧ y < 64) by omega)]
theorem bed_loop {w : Nat} : ∀ (n i : Nat) (M : bM), i + n = 64 → ∀ x y, lp_X2_beginAt_2 w n i M x y = if x = w + 3 ∧ i ≤ y ∧ y < 64 then 0 else M x y := by
  intro n
  induction n with
  | zero => intro i M hi x y; rw [u0_lp_X2_beginAt_2, if_neg (show ¬ (x = w + 3 ∧ i ≤ y ∧ y < 64) by omega)]
  | succ n ih =>
    intro i M hi x y
    rw [u1_lp_X2_beginAt_2]
    dsimp only
    rw [ih (i + 1) _ (by omega), u2]
    by_cases e : x = w + 3 ∧ y = i
    · rw [if_neg (show ¬ (x = w + 3 ∧ i + 1 ≤ y ∧ y < 64) by omega), if_pos e, if_pos (show x = w + 3 ∧ i ≤ y ∧ y < 64 by omega)]
    · rw [if_neg e]
      by_cases h : x = w + 3 ∧ i ≤ y ∧ y < 64
      · rw [if_pos h, if_pos (show x = w + 3 ∧ i + 1 ≤ y ∧ y < 64 by omega)]
      · rw [if_neg h, if_neg (show ¬ (x = w + 3 ∧ i + 1 ≤ y ∧ y < 64) by omega)]
theorem bA_at {M : bM} {w c : Nat} (hc : c < 64) (x y : Nat) : f_X2_beginAt M w (nI c) x y = if x = w ∧ y = 3 then 1 else if x = w + 3 ∧ y = c then 1 else if x = w + 2 ∧ y = 0 then nI c else if x = w ∧ (y = 4 ∨ y = 5) then 0 else if x = w + 3 ∧ y < 64 then 0 else M x y := by
  rw [u_f_X2_beginAt]
  dsimp only
  have hb := bed_loop (w := w) 64 0 M rfl
  generalize lp_X2_beginAt_2 w 64 0 M = Z at *
  have ha : up2 (up2 (up2 Z w 3 0) w 4 0) w 5 0 w 3 = nI 0 := by rw [u2, if_neg (by omega), u2, if_neg (by omega), u2, if_pos ⟨rfl, rfl⟩]; rfl
  rw [flow_at hc ha (by decide) x y, u2, u2, u2, hb]
  by_cases h1 : x = w ∧ y = 3
  · rw [if_pos h1, if_pos h1]; rfl
  simp only [h1, if_false]
  by_cases h2 : x = w + 3 ∧ y = c
  · rw [if_pos h2, if_pos h2]
  rw [if_neg h2, if_neg h2]
  by_cases h3 : x = w + 2 ∧ y = 0
  · rw [if_pos h3, if_pos h3]
  rw [if_neg h3, if_neg h3]
  by_cases h4 : x = w ∧ y = 5
  · rw [if_pos h4, if_pos (show x = w ∧ (y = 4 ∨ y = 5) by omega)]
  rw [if_neg h4]
  by_cases h5 : x = w ∧ y = 4
  · rw [if_pos h5, if_pos (show x = w ∧ (y = 4 ∨ y = 5) by omega)]
  rw [if_neg h5, if_neg (show ¬ (x = w ∧ (y = 4 ∨ y = 5)) by omega)]
  by_cases h6 : x = w + 3 ∧ y < 64
  · rw [if_pos h6, if_pos (show x = w + 3 ∧ 0 ≤ y ∧ y < 64 by omega)]
  · rw [if_neg h6, if_neg (show ¬ (x = w + 3 ∧ 0 ≤ y ∧ y < 64) by omega)]
/-- the cells of a game that has begun -/
theorem bG {M : bM} {g : Nat} {s : Int64} : (∀ j, j < 276 → gv (f_X0_beginGame M g s) g j = newR (gv M g) s j) ∧ f_X0_beginGame M g s (g + 3) 0 = 1 ∧ f_X0_beginGame M g s (g + 7) 0 = 6 ∧ isB (f_X0_beginGame M g s) g := by
  have hl := lf_loop (g := g) 64 0 s M rfl
  rw [u_f_X0_beginGame]
  dsimp only
  rw [u_f_X0_layField]
  dsimp only
  rw [u_f_J7_fill_53178]
  dsimp only
  generalize (lp_X0_layField_5 g 64 0 s M).2 = A at *
  have hf := fill_loop (k := g + 9) (v := -1) 64 0 A rfl
  generalize lp_J7_fill_53178_5 (g + 9) (-1) 64 0 A = B at *
  have hc1 := bA_at (M := B) (w := g + 1) (c := 1) (by decide)
  rw [show nI 1 = 1 from rfl] at hc1
  generalize f_X2_beginAt B (g + 1) 1 = C at *
  have hd1 := bA_at (M := C) (w := g + 5) (c := 6) (by decide)
  rw [show nI 6 = 6 from rfl] at hd1
  generalize f_X2_beginAt C (g + 5) 6 = D at *
  -- what nobody wrote
  have h0 : ∀ x y, x ≠ g + 9 → x ≠ g + 2 → x ≠ g + 6 → B x y = M x y := fun x y q1 q2 q3 => by
    rw [hf, if_neg (by omega), hl, if_neg (by omega), if_neg (by omega)]
  have hg0 : ∀ y, D g y = M g y := fun y => by
    rw [hd1, if_neg (by omega), if_neg (by omega), if_neg (by omega), if_neg (by omega), if_neg (by omega), hc1, if_neg (by omega), if_neg (by omega), if_neg (by omega), if_neg (by omega), if_neg (by omega), h0 _ _ (by omega) (by omega) (by omega)]
  rw [hg0]
  have hD : ∀ x y, up2 (up2 (up2 (up2 (up2 D g 5 (M g 5 + 1)) g 6 0) g 7 0) g 8 (-1)) g 9 (-1) x y = if x = g ∧ y = 9 then -1 else if x = g ∧ y = 8 then -1 else if x = g ∧ y = 7 then 0 else if x = g ∧ y = 6 then 0 else if x = g ∧ y = 5 then M g 5 + 1 else D x y := fun x y => by rw [u2, u2, u2, u2, u2]
  generalize up2 (up2 (up2 (up2 (up2 D g 5 (M g 5 + 1)) g 6 0) g 7 0) g 8 (-1)) g 9 (-1) = F at *
  have hF : ∀ x y, x ≠ g → F x y = D x y := fun x y q => by
    rw [hD, if_neg (by omega), if_neg (by omega), if_neg (by omega), if_neg (by omega), if_neg (by omega)]
  have hFg : ∀ y, y ≠ 9 → y ≠ 8 → y ≠ 7 → y ≠ 6 → y ≠ 5 → F g y = M g y := fun y q1 q2 q3 q4 q5 => by
    rw [hD, if_neg (by omega), if_neg (by omega), if_neg (by omega), if_neg (by omega), if_neg (by omega), hg0]
  have f8 : F g 8 = -1 := by rw [hD, if_neg (by omega), if_pos ⟨rfl, rfl⟩]
  have f6 : F g 6 = 0 := by rw [hD, if_neg (by omega), if_neg (by omega), if_neg (by omega), if_pos ⟨rfl, rfl⟩]
  have d1 : ∀ y, F (g + 1) y = if y = 3 then 1 else if y = 4 ∨ y = 5 then 0 else M (g + 1) y := fun y => by
    rw [hF _ _ (by omega), hd1, if_neg (by omega), if_neg (by omega), if_neg (by omega), if_neg (by omega), if_neg (by omega), hc1]
    by_cases a3 : y = 3
    · rw [if_pos ⟨rfl, a3⟩, if_pos a3]
    rw [if_neg (by omega), if_neg (by omega), if_neg (by omega), if_neg a3]
    by_cases a4 : y = 4 ∨ y = 5
    · rw [if_pos ⟨rfl, a4⟩, if_pos a4]
    rw [if_neg (by omega), if_neg (by omega), if_neg a4, h0 _ _ (by omega) (by omega) (by omega)]
  have d5 : ∀ y, F (g + 5) y = if y = 3 then 1 else if y = 4 ∨ y = 5 then 0 else M (g + 5) y := fun y => by
    rw [hF _ _ (by omega), hd1]
    by_cases a3 : y = 3
    · rw [if_pos ⟨rfl, a3⟩, if_pos a3]
    rw [if_neg (by omega), if_neg (by omega), if_neg (by omega), if_neg a3]
    by_cases a4 : y = 4 ∨ y = 5
    · rw [if_pos ⟨rfl, a4⟩, if_pos a4]
    rw [if_neg (by omega), if_neg (by omega), if_neg a4, hc1, if_neg (by omega), if_neg (by omega), if_neg (by omega), if_neg (by omega), if_neg (by omega), h0 _ _ (by omega) (by omega) (by omega)]
  have dB : ∀ x y, (x = g + 2 ∨ x = g + 6 ∨ x = g + 9) → F x y = B x y := fun x y q => by
    rw [hF _ _ (by omega), hd1, if_neg (by omega), if_neg (by omega), if_neg (by omega), if_neg (by omega), if_neg (by omega), hc1, if_neg (by omega), if_neg (by omega), if_neg (by omega), if_neg (by omega), if_neg (by omega)]
  have b4 : ∀ c, c < 64 → F (g + 4) c = if c = 1 then 1 else 0 := fun c hc => by
    rw [hF _ _ (by omega), hd1, if_neg (by omega), if_neg (by omega), if_neg (by omega), if_neg (by omega), if_neg (by omega), hc1, if_neg (by omega)]
    by_cases a1 : c = 1
    · rw [if_pos (show g + 4 = g + 1 + 3 ∧ c = 1 by omega), if_pos a1]
    · rw [if_neg (by omega), if_neg (by omega), if_neg (by omega), if_pos (show g + 4 = g + 1 + 3 ∧ c < 64 by omega), if_neg a1]
  have b8 : ∀ c, c < 64 → F (g + 8) c = if c = 6 then 1 else 0 := fun c hc => by
    rw [hF _ _ (by omega), hd1, if_neg (by omega)]
    by_cases a1 : c = 6
    · rw [if_pos (show g + 8 = g + 5 + 3 ∧ c = 6 by omega), if_pos a1]
    · rw [if_neg (by omega), if_neg (by omega), if_neg (by omega), if_pos (show g + 8 = g + 5 + 3 ∧ c < 64 by omega), if_neg a1]
  refine ⟨?_, ?_, ?_, ?_⟩
  · have hn : ∀ j, (j = 6 ∨ j = 7 ∨ j = 8 ∨ j = 9 ∨ j = 12 ∨ j = 13 ∨ j = 17 ∨ j = 18) → newR (gv M g) s j = gv M g j := fun j hj => by
      rcases hj with rfl | rfl | rfl | rfl | rfl | rfl | rfl | rfl <;> simp [newR]
    intro j hj
    by_cases j20' : j < 20
    · revert j
      intro j _ hj
      refine j20 (P := fun j => gv F g j = newR (gv M g) s j) ⟨?_, ?_, ?_, ?_, ?_, ?_, ?_, ?_, ?_, ?_, ?_, ?_, ?_, ?_, ?_, ?_, ?_, ?_, ?_, ?_⟩ j hj
      · rw [gv_0, hD, if_neg (by omega), if_neg (by omega), if_neg (by omega), if_neg (by omega), if_pos ⟨rfl, rfl⟩]; unfold newR; rw [if_pos rfl, gv_0]
      · rw [gv_1, u_f_X0_phase, f8, f6, if_pos rfl, if_pos (by decide)]; simp [newR]
      · rw [gv_2, hD, if_neg (by omega), if_neg (by omega), if_pos ⟨rfl, rfl⟩]; simp [newR]
      · rw [gv_3, f6]; simp [newR]
      · rw [gv_4, f8]; simp [newR]
      · rw [gv_5, hD, if_pos ⟨rfl, rfl⟩]; simp [newR]
      · rw [hn 6 (by omega), gv_6, gv_6, hFg _ (by decide) (by decide) (by decide) (by decide) (by decide)]
      · rw [hn 7 (by omega), gv_7, gv_7, hFg _ (by decide) (by decide) (by decide) (by decide) (by decide)]
      · rw [hn 8 (by omega), gv_8, gv_8, hFg _ (by decide) (by decide) (by decide) (by decide) (by decide)]
      · rw [hn 9 (by omega), gv_9, gv_9, hFg _ (by decide) (by decide) (by decide) (by decide) (by decide)]
      · rw [gv_10, d1]; simp [newR]
      · rw [gv_11, d1]; simp [newR]
      · rw [hn 12 (by omega), gv_12, gv_12, d1]; simp
      · rw [hn 13 (by omega), gv_13, gv_13, d1]; simp
      · rw [gv_14, d1]; simp [newR]
      · rw [gv_15, d5]; simp [newR]
      · rw [gv_16, d5]; simp [newR]
      · rw [hn 17 (by omega), gv_17, gv_17, d5]; simp
      · rw [hn 18 (by omega), gv_18, gv_18, d5]; simp
      · rw [gv_19, d5]; simp [newR]
    have hk : newR (gv M g) s j = if 20 ≤ j ∧ j < 84 then (drwI (lcgN s (j - 20 + 1)) - drwI (lcgN s (j - 20 + 1)) / 10 * 10) else if 84 ≤ j ∧ j < 148 then (drwI (lcgN s (j - 84 + 1)) / 10 - drwI (lcgN s (j - 84 + 1)) / 10 / 10 * 10) else if 148 ≤ j ∧ j < 212 then -1 else if 212 ≤ j ∧ j < 276 then (if j = 213 then 1 else if j = 218 then 2 else 0) else if 276 ≤ j ∧ j < 404 then (if j = 276 then 1 else if j = 340 then 6 else 0) else gv M g j := by
      unfold newR
      rw [if_neg (by omega), if_neg (by omega), if_neg (by omega), if_neg (by omega), if_neg (by omega), if_neg (by omega), if_neg (by omega), if_neg (by omega), if_neg (by omega), if_neg (by omega), if_neg (by omega), if_neg (by omega)]
    rw [hk]
    by_cases a1 : 20 ≤ j ∧ j < 84
    · obtain ⟨c, rfl⟩ : ∃ c, j = 20 + c := ⟨j - 20, by omega⟩
      rw [if_pos a1, gv_c0 (by omega), dB _ _ (by omega), hf, if_neg (by omega), hl, if_pos (show g + 2 = g + 2 ∧ 0 ≤ c ∧ c < 64 by omega), show 20 + c - 20 = c by omega, Nat.sub_zero]
    rw [if_neg a1]
    by_cases a2 : 84 ≤ j ∧ j < 148
    · obtain ⟨c, rfl⟩ : ∃ c, j = 84 + c := ⟨j - 84, by omega⟩
      rw [if_pos a2, gv_c1 (by omega), dB _ _ (by omega), hf, if_neg (by omega), hl, if_neg (by omega), if_pos (show g + 6 = g + 6 ∧ 0 ≤ c ∧ c < 64 by omega), show 84 + c - 84 = c by omega, Nat.sub_zero]
    rw [if_neg a2]
    by_cases a3 : 148 ≤ j ∧ j < 212
    · obtain ⟨c, rfl⟩ : ∃ c, j = 148 + c := ⟨j - 148, by omega⟩
      rw [if_pos a3, gv_dm (by omega), dB _ _ (by omega), hf, if_pos (show g + 9 = g + 9 ∧ 0 ≤ c ∧ c < 64 by omega)]
    rw [if_neg a3, if_pos (show 212 ≤ j ∧ j < 276 by omega)]
    obtain ⟨c, rfl⟩ : ∃ c, j = 212 + c := ⟨j - 212, by omega⟩
    rw [gv_mk (by omega), b4 c (by omega), b8 c (by omega)]
    by_cases a4 : c = 1
    · subst a4; decide
    by_cases a5 : c = 6
    · subst a5; decide
    rw [if_neg a4, if_neg a5, if_neg (show ¬ 212 + c = 213 by omega), if_neg (show ¬ 212 + c = 218 by omega)]
    decide
  · rw [hF _ _ (by omega), hd1, if_neg (by omega), if_neg (by omega), if_neg (by omega), if_neg (by omega), if_neg (by omega), hc1, if_neg (by omega), if_neg (by omega), if_pos (show g + 3 = g + 1 + 2 ∧ 0 = 0 by omega)]
  · rw [hF _ _ (by omega), hd1, if_neg (by omega), if_neg (by omega), if_pos (show g + 7 = g + 5 + 2 ∧ 0 = 0 by omega)]
  · intro c hc
    rw [b4 c hc, b8 c hc]
    constructor
    · split
      · exact Or.inr rfl
      · exact Or.inl rfl
    · split
      · exact Or.inr rfl
      · exact Or.inl rfl
theorem new_cong {r r' : Nat → Int32} {s : Int64} (h : ∀ j, j < 276 → j ≠ 6 → r j = r' j) : ∀ j, j < 276 → j ≠ 6 → newR r s j = newR r' s j := by
  intro j hj hn
  unfold newR
  rw [h 0 (by omega) (by omega), h j hj hn]
theorem sG_new {P : Prop} {M R : bM} {g k : Nat} {s : Int64} (hs : sG P M g (R k)) : (f_X7_gameOn R k s).1 = R k 0 + 1 ∧ f_X0_beginGame M g s g 5 = R k 0 + 1 ∧ sG P (f_X0_beginGame M g s) g ((f_X7_gameOn R k s).2 k) := by
  obtain ⟨b1, b2, b3, b4⟩ := bG (M := M) (g := g) (s := s)
  rw [on_row.2]
  have e0 : gv M g 0 = R k 0 := (hs.1.1 0 (by omega) (by omega)).symm
  refine ⟨by rw [on_row.1], ?_, ⟨fun j hj hn => ?_, fun p => ?_, fun a h64 e i hi => ?_, fun b h64 e i hi => ?_⟩, b4, fun _ => ?_⟩
  · rw [← gv_0 (f_X0_beginGame M g s) g, b1 0 (by omega), ← e0]; unfold newR; rw [if_pos rfl]
  · rw [b1 j hj]; exact new_cong hs.1.1 j hj hn
  · rw [b1 6 (by omega), show newR (R k) s 6 = R k 6 by simp [newR], show newR (gv M g) s 6 = gv M g 6 by simp [newR]]
    exact hs.1.2.1 p
  · have e1 : newR (R k) s 14 = nI (0 + 1) := by simp [newR]; rfl
    have := nI_inj (by omega) (by omega) (e.symm.trans e1)
    have hi0 : i = 0 := by omega
    rw [hi0, gv_p0 (by omega), b2]; simp [newR]
  · have e1 : newR (R k) s 19 = nI (0 + 1) := by simp [newR]; rfl
    have := nI_inj (by omega) (by omega) (e.symm.trans e1)
    have hi0 : i = 0 := by omega
    rw [hi0, gv_p1 (by omega), b3]; simp [newR]
  · simp [newR]
