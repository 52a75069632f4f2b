/-! WHAT EACH ACT MAKES OF A ROW -/
theorem upd_ne {r : Nat → Int32} {j x : Nat} {v : Int32} (h : x ≠ j) : upd r j v x = r x := if_neg h
theorem upd_eq {r : Nat → Int32} {j : Nat} {v : Int32} : upd r j v j = v := if_pos rfl
theorem gP_upd {V : Nat} {r : Nat → Int32} {j : Nat} {v : Int32} (hj : ¬ impJ j) (g : gP V r) : gP V (upd r j v) := gP_ext (Nat.le_refl V) (fun x _ hx => upd_ne (fun e => hj (e ▸ hx))) g
theorem head_row {R : bM} {k p a : Nat} (hp : p < 2) (ha : R k (14 + 5 * p) = nI (a + 1)) (ha64 : a < 64) : f_X7_head R k (nI p) = R k (276 + 64 * p + a) := head_at hp ha ha64
theorem bit_3 : ∀ p : Fin 2, bitI (1 - p.val) ||| bitI p.val = 3 ∧ bitI (1 - p.val) = nI (2 - p.val) ∧ ¬ bitI (1 - p.val) = 0 := by decide +kernel
theorem step_geo {R : bM} {k j : Nat} (hg : gR (R k)) (h1 : R k 1 = 1) (hj : j < 3) (hr : f_X7_reason R k (nI j) = 0) : ∃ p c q b hh, p < 2 ∧ c < 64 ∧ q ≤ 61 ∧ b ≤ 62 ∧ R k 2 = nI p ∧ R k (14 + 5 * p) = nI (q + 1) ∧ R k (14 + 5 * (1 - p)) = nI (b + 1) ∧ hh < 64 ∧ R k (276 + 64 * p + q) = nI hh ∧ nb hh j = c ∧ R k (148 + c) = -1 ∧ R k 4 = -1 ∧ (R k (212 + c) = 0 ∨ R k (212 + c) = bitI (1 - p)) ∧ (f_X7_isRiver R k (nI (1 - p)) (nI c) = 0 ↔ R k (212 + c) = 0) ∧ (f_X7_stepOn R k (nI j)).1 = 0 ∧ (f_X7_stepOn R k (nI j)).2 k = stepR (R k) p c q (decide (¬ f_X7_isRiver R k (nI (1 - p)) (nI c) = 0)) := by
  obtain ⟨c, hc, ec, hd, hv⟩ := reason_ok (M := R) (k := k) (d := nI j) (by rw [hr]; decide)
  obtain ⟨m, a, b, h0, h1', hm, n3, n2, n1, n14, n19, ha, hb, hh0, hh1, e0, e1⟩ := gR_nums hg
  obtain ⟨e4, hm8⟩ := phI_1 n1 h1
  obtain ⟨_, _, _, _, _, _, _, _, ⟨m1, _⟩, l⟩ := hg
  obtain ⟨v, hv1⟩ := m1 c hc
  have hl := l e4 c v hc hv1
  obtain ⟨p, q, b', hh, hp, hq, hb', e2, nq, nb1, hh64, ehh⟩ : ∃ p q b' hh, p < 2 ∧ q ≤ 61 ∧ b' ≤ 62 ∧ R k 2 = nI p ∧ R k (14 + 5 * p) = nI (q + 1) ∧ R k (14 + 5 * (1 - p)) = nI (b' + 1) ∧ hh < 64 ∧ R k (276 + 64 * p + q) = nI hh := by
    rcases Nat.mod_two_eq_zero_or_one m with e | e
    · exact ⟨0, a, b, h0, by decide, by omega, by omega, by rw [n2, e], n14, n19, hh0, e0⟩
    · exact ⟨1, b, a, h1', by decide, by omega, by omega, by rw [n2, e], n19, n14, hh1, e1⟩
  obtain ⟨r1, r2⟩ := step_ref (R := R) (k := k) (d := nI j) hp hc e2 nq hq (by rw [hr]; decide) ec
  have hn : nb hh j = c := by
    rw [e2, head_row hp nq (by omega), ehh, sf_nI hh64 hj] at ec
    have h2 : ¬ nbI hh j = -1 := fun z => nI_ne_m1 (a := c) (by omega) (ec.symm.trans z)
    obtain ⟨h3, h4⟩ := nbI_pos h2
    exact nI_inj (by omega) (by omega) (h4.symm.trans ec)
  rw [e2] at hv
  have q1 := (river_iff hp hc hv1).mp hv
  have q2 := river_iff (p := 1 - p) (by omega) hc hv1
  refine ⟨p, c, q, b', hh, hp, hc, hq, hb', e2, nq, nb1, hh64, ehh, hn, hd, e4, ?_, ?_, r1, r2⟩
  · rw [hv1.1]
    rcases (by omega : p = 0 ∨ p = 1) with e | e
    · subst e
      rcases (by omega : v = 0 ∨ v = 2) with e | e
      · exact Or.inl (by rw [e]; rfl)
      · exact Or.inr (by rw [e]; decide)
    · subst e
      rcases (by omega : v = 0 ∨ v = 1) with e | e
      · exact Or.inl (by rw [e]; rfl)
      · exact Or.inr (by rw [e]; decide)
  · rw [q2, hv1.1]
    have hz : nI v = 0 ↔ v = 0 := ⟨fun z => nI_inj (b := 0) (by omega) (by decide) z, fun z => by rw [z]; rfl⟩
    rw [hz]
    rcases (by omega : p = 0 ∨ p = 1) with e | e
    · subst e; omega
    · subst e; omega
theorem gP_stepOn {V : Nat} {R : bM} {k j : Nat} (hV : V + 81 < 2 ^ 30) (hg : gR (R k)) (h1 : R k 1 = 1) (hj : j < 3) (hr : f_X7_reason R k (nI j) = 0) (g : gP V (R k)) : gP (V + 81) ((f_X7_stepOn R k (nI j)).2 k) := by
  obtain ⟨p, c, q, b, hh, hp, hc, hq, hb, e2, nq, nb1, hh64, ehh, hn, hd, e4, hmk, hri, s1, s2⟩ := step_geo hg h1 hj hr
  have hco := gR_cost hg
  obtain ⟨_, _, _, _, _, _, _, ⟨_, _, _, _, c9⟩, ⟨m1, _⟩, l⟩ := hg
  have gf := gP_flows hp hc hq hb nq nb1 e4 hd hmk ehh hh64 hj hn g
  have ne : ∀ i, i ≠ 212 + c → i ≠ 14 + 5 * p → i ≠ 276 + 64 * p + (q + 1) → flowsR (R k) p c (q + 1) i = R k i := fun i x y z => flowsR_ne x y z
  have em : flowsR (R k) p c (q + 1) (212 + c) = R k (212 + c) ||| bitI p := by unfold flowsR; rw [if_pos rfl]
  rw [s2]
  unfold stepR
  by_cases hm : f_X7_isRiver R k (nI (1 - p)) (nI c) = 0
  · rw [if_neg (by simp [hm])]
    obtain ⟨w, w9, ew⟩ := vp_in_of (cost_p hco hp hc) (by decide)
    rw [ew]
    exact gP_te (gP_pays hp (by omega) ((ne 4 (by omega) (by omega) (by omega)).trans e4) gf)
  · rw [if_pos (by simp [hm])]
    refine gP_te (gP_meet hc ?_ (fun c' hc' hne => ?_) (fun i hi => ?_) ?_ hV gf)
    · rw [em]
      rcases hmk with z | z
      · exact absurd (hri.mpr z) hm
      · rw [z]; exact (bit_3 ⟨p, hp⟩).1
    · rw [ne _ (by omega) (by omega) (by omega)]
      obtain ⟨v, hv⟩ := m1 c' hc'
      have := l e4 c' v hc' hv
      rw [hv.1]
      intro z
      have := nI_inj (a := v) (b := 3) (by omega) (by decide) z
      omega
    · rw [ne _ (by omega) (by omega) (by omega)]; exact hco i hi
    · rw [ne _ (by omega) (by omega) (by omega)]; exact c9
theorem stepOn_no {R : bM} {k : Nat} {d : Int32} (hr : ¬ f_X7_reason R k d = 0) : f_X7_stepOn R k d = (f_X7_reason R k d, up2 R k 6 (R k 6 + 1)) := by
  rw [u_f_X7_stepOn]
  dsimp only
  rw [if_neg (fun z => hr (reason_le.mp z))]
/-- a dam -/
abbrev dmR (r : Nat → Int32) (p c : Nat) : Nat → Int32 := teR (upd (upd r (148 + c) 0) (10 + 5 * p + 1) (r (10 + 5 * p + 1) + 1))
theorem damOn_row {R : bM} {k c p : Nat} (hk : k ≠ 7) (hc : c < 64) (hp : p < 2) (e2 : R k 2 = nI p) : (f_X7_damOn R k (nI c)).1 = (f_X7_damReason R k (nI c)).1 ∧ (f_X7_damOn R k (nI c)).2 k = if (f_X7_damReason R k (nI c)).1 = 0 then dmR (R k) p c else upd (R k) 6 (R k 6 + 1) := by
  obtain ⟨hrow, _⟩ := damReason_row (M := R) hk hc
  have hle := damReason_le (R := R) (k := k) (x := nI c)
  rw [u_f_X7_damOn]
  dsimp only
  generalize f_X7_damReason R k (nI c) = Z at *
  by_cases c1 : Z.1 = 0
  · rw [if_pos (hle.mpr c1), if_pos c1]
    dsimp only
    rw [idxK 148 (by omega), te_row, dam_row hp hrow e2]
    exact ⟨c1.symm, rfl⟩
  · rw [if_neg (fun z => c1 (hle.mp z)), if_neg c1]
    dsimp only
    rw [up2_upd, hrow]
    exact ⟨rfl, rfl⟩
theorem gP_dmR {V p c : Nat} {r : Nat → Int32} (hp : p < 2) (hc : c < 64) (hm : r (212 + c) = 0) (g : gP V r) : gP V (dmR r p c) := by
  refine gP_te (gP_upd (by unfold impJ; omega) (gP_ext2 (Nat.le_refl V) (fun j _ _ q => upd_ne (by omega)) (fun c' hc' => ?_) g))
  rw [upd_ne (x := 212 + c') (by omega)]
  by_cases e : c' = c
  · subst e
    rw [upd_eq]; exact Or.inr ⟨0, by decide, rfl, hm⟩
  · rw [upd_ne (by omega)]; exact g.2.1 c' hc'
theorem gP_damOn {V : Nat} {R : bM} {k c p : Nat} (hk : k ≠ 7) (hc : c < 64) (hp : p < 2) (e2 : R k 2 = nI p) (g : gP V (R k)) : gP V ((f_X7_damOn R k (nI c)).2 k) := by
  rw [(damOn_row hk hc hp e2).2]
  by_cases c1 : (f_X7_damReason R k (nI c)).1 = 0
  · rw [if_pos c1]; exact gP_dmR hp hc ((damReason_row hk hc).2 (by rw [c1]; decide)).2 g
  · rw [if_neg c1]; exact gP_upd (by unfold impJ; omega) g
/-- the flood -/
theorem flood_dams {k : Nat} : ∀ (n i : Nat) (x : Int32) (M : bM) (j : Nat), (lp_X7_floodOn_4 k n i x M).2 k j = M k j ∨ (lp_X7_floodOn_4 k n i x M).2 k j = -1 ∧ 148 ≤ j ∧ j < 212 := by
  intro n
  induction n with
  | zero => intro i x M j; rw [u0_lp_X7_floodOn_4]; exact Or.inl rfl
  | succ n ih =>
    intro i x M j
    rw [u1_lp_X7_floodOn_4]
    dsimp only
    by_cases c1 : f_X7_stepFrom (f_X7_head M k (M k 2)) (nI i) = -1
    · rw [if_pos c1]; exact ih _ _ _ j
    rw [if_neg c1]
    obtain ⟨c, hc, e⟩ := vp_in_of (stepFrom_in c1) (by decide)
    rw [e]
    by_cases c2 : f_X7_isDam M k (nI c) = 0
    · rw [if_pos c2]; exact ih _ _ _ j
    rw [if_neg c2, idxK 148 (by omega)]
    rcases ih (i + 1) (x + 1) (up2 M k (148 + c) (-1)) j with h | h
    · rw [h, up2_at]
      by_cases q : j = 148 + c
      · rw [if_pos q]; exact Or.inr ⟨rfl, by omega, by omega⟩
      · rw [if_neg q]; exact Or.inl rfl
    · exact Or.inr h
theorem gP_floodOn {V : Nat} {R : bM} {k : Nat} (hg : gR (R k)) (h1 : R k 1 = 1) (g : gP V (R k)) : gP (V + 81) ((f_X7_floodOn R k).2 k) := by
  have hL := flood_dams (k := k) 3 0 0 R
  rw [u_f_X7_floodOn]
  dsimp only
  generalize lp_X7_floodOn_4 k 3 0 0 R = Z at *
  have hz : ∀ j, ¬ (148 ≤ j ∧ j < 212) → Z.2 k j = R k j := fun j hj => (hL j).elim id (fun q => absurd q.2 hj)
  obtain ⟨m, a, b, h0, h1', hm, n3, n2, n1, _⟩ := gR_nums hg
  obtain ⟨e4, hm8⟩ := phI_1 n1 h1
  have gz : gP V (Z.2 k) := gP_ext2 (Nat.le_refl V) (fun j _ _ q => hz j q) (fun c hc => by
    rw [hz (212 + c) (by omega)]
    rcases hL (148 + c) with q | q
    · rw [q]; exact g.2.1 c hc
    · exact Or.inl q.1) g
  rw [te_row, up2_upd, hz 2 (by omega), n2, pays_row (Nat.mod_lt m (by decide))]
  exact gP_te (gP_upd (by unfold impJ; omega) (gP_pays (w := 5) (Nat.mod_lt m (by decide)) (by decide) ((hz 4 (by omega)).trans e4) gz))
/-- a setting -/
theorem gP_set {V w v : Nat} {r : Nat → Int32} (hw : w < 2) (h : w = 0 → 1 ≤ v ∧ v ≤ 40) (g : gP V r) : gP V (upd r (8 + w) (nI v)) := by
  rcases (by omega : w = 0 ∨ w = 1) with e | e
  · subst e
    obtain ⟨g1, g2, g3, g4, g5, g6, g7⟩ := g
    have ne : ∀ j, j ≠ 8 → upd r (8 + 0) (nI v) j = r j := fun j q => upd_ne q
    refine ⟨⟨v, (h rfl).1, (h rfl).2, upd_eq⟩, ?_, ?_, ?_, ?_, ?_, ?_⟩
    · intro c hc
      rw [ne (148 + c) (by omega), ne (212 + c) (by omega)]
      exact g2 c hc
    · intro q
      rw [ne 4 (by omega)] at q ⊢
      obtain ⟨c0, k1, k2, k3, k4⟩ := g3 q
      exact ⟨c0, k1, k2, by rw [ne _ (by omega)]; exact k3, fun c hc hne => by rw [ne _ (by omega)]; exact k4 c hc hne⟩
    · intro a b ha hb q1 q2
      rw [ne 14 (by omega)] at q1
      rw [ne 19 (by omega)] at q2
      rw [← g4 a b ha hb q1 q2]
      exact sumN_cong (fun i hi => by show popC _ = popC _; rw [ne (212 + i) (by omega)])
    · intro p a hp ha q
      rw [ne (14 + 5 * p) (by omega)] at q
      obtain ⟨k1, k2⟩ := g5 p a hp ha q
      refine ⟨by rw [ne _ (by omega)]; exact k1, fun k hk => ?_⟩
      obtain ⟨c', j', b1, b2, b3, b4, b5⟩ := k2 k hk
      exact ⟨c', j', b1, b2, b3, by rw [ne _ (by omega)]; exact b4, by rw [ne _ (by omega)]; exact b5⟩
    · intro p hp
      obtain ⟨x, X, k1, k2, k3, k4⟩ := g6 p hp
      exact ⟨x, X, by rw [ne _ (by omega)]; exact k1, by rw [ne _ (by omega)]; exact k2, k3, k4⟩
    · intro q
      rw [ne 4 (by omega)] at q
      show upd r (8 + 0) (nI v) 5 = if upd r (8 + 0) (nI v) 10 < upd r (8 + 0) (nI v) 15 then 0 else if upd r (8 + 0) (nI v) 15 < upd r (8 + 0) (nI v) 10 then 1 else -1
      rw [ne 5 (by omega), ne 10 (by omega), ne 15 (by omega)]
      exact g7 q
  · subst e
    exact gP_upd (by unfold impJ; omega) g
