/-! WHAT THE INVARIANT GIVES -/
theorem gI_pr2 {V : Nat} {v : Int32} {T : aT} (h : gI V T) : gI V (v, T).2 := h
theorem gI_sw {V X : Nat} {S : aT} (hV : V + 81 < 2 ^ 30) (g : gI V S) : gI (V + 81) (swR S X).2 := by
  have le : V ≤ V + 81 := Nat.le_add_right V 81
  unfold swR
  by_cases c1 : X % 16 < 3
  · rw [if_pos c1]; refine gI_pr2 ?_; exact gI_le le (gI_8 g)
  rw [if_neg c1]
  by_cases c2 : X % 16 = 3
  · rw [if_pos c2]; refine gI_pr2 ?_; exact gI_9 g
  rw [if_neg c2]
  by_cases c3 : X % 16 = 4
  · rw [if_pos c3]
    by_cases d : X / 16 % 2 = 0
    · rw [if_pos d]; refine gI_pr2 ?_; exact gI_le le (gI_10 g)
    · rw [if_neg d]; refine gI_pr2 ?_; exact gI_le le (gI_10 g)
  rw [if_neg c3]
  by_cases c4 : X % 16 = 5
  · rw [if_pos c4]; refine gI_pr2 ?_; exact gI_le le (gI_11 g)
  rw [if_neg c4]
  by_cases c5 : X % 16 = 6
  · rw [if_pos c5]
    by_cases d : X / 16 % 2 = 0
    · rw [if_pos d]; refine gI_pr2 ?_; exact gI_le le (gI_16 g)
    · rw [if_neg d]; refine gI_pr2 ?_; exact gI_le le (gI_17 g)
  rw [if_neg c5]
  by_cases c6 : X % 16 < 11
  · rw [if_pos c6]; refine gI_pr2 ?_; exact gI_7 hV g
  rw [if_neg c6]
  by_cases c7 : aB S = -1
  · rw [if_pos c7]; refine gI_pr2 ?_; exact gI_9 g
  · rw [if_neg c7]; refine gI_pr2 ?_; exact gI_7 hV g
theorem gI_act {V X : Nat} {S : aT} (hV : V + 81 < 2 ^ 30) (g : gI V S) : gI (V + 81) (actR S X).2 := by
  have le : V ≤ V + 81 := Nat.le_add_right V 81
  unfold actR
  by_cases c1 : X % 128 = 127
  · rw [if_pos c1]; refine gI_pr2 ?_; exact gI_le le (gI_g g)
  rw [if_neg c1]
  by_cases c2 : S.1 1 = 1
  · rw [if_pos c2]; exact gI_sw hV g
  rw [if_neg c2]
  by_cases c3 : X % 3 = 0
  · rw [if_pos c3]; exact gI_sw hV g
  · rw [if_neg c3]; refine gI_pr2 ?_; exact gI_le le (gI_g g)
theorem aB_e {S : aT} : aB S = (f_X7_bestOf (up2 (mkR S) 0 0 0) 2).1 := by
  unfold aB
  rw [u_f_X7_best]
theorem rsn_c {S : aT} {d : Int32} {v : Int32} : f_X7_reason (up2 (mkR S) 0 0 v) 2 d = f_X7_reason (mkR S) 2 d := reason_c (up2_row (by decide))
theorem aB_over {S : aT} (h : ¬ S.1 1 = 1) : aB S = -1 := by
  rw [aB_e, u_f_X7_bestOf]
  have e : lp_X7_bestOf_7 2 3 0 0 (-1) (up2 (mkR S) 0 0 0) = (0, -1, up2 (mkR S) 0 0 0) := best_0 (k := 2) (R := up2 (mkR S) 0 0 0) (by rw [m2]; exact h)
  rw [e]
theorem aB_at {S : aT} (h : ¬ aB S = -1) : S.1 1 = 1 ∧ ∃ j, j < 3 ∧ aB S = nI j ∧ rsn S j = 0 := by
  refine ⟨Classical.byContradiction (fun q => h (aB_over q)), ?_⟩
  rcases best_ok (R := up2 (mkR S) 0 0 0) (k := 2) (by decide) with q | ⟨j, hj, e, r⟩
  · exact absurd (aB_e.trans q) h
  · exact ⟨j, hj, aB_e.trans e, rsn_c.symm.trans r⟩
theorem can_of {M : bM} {k j : Nat} (hj : j < 3) (h : f_X7_reason M k (nI j) = 0) : ¬ f_X7_canStep M k = 0 := by
  rw [u_f_X7_canStep]
  dsimp only
  by_cases c0 : f_X7_reason M k 0 = 0
  · rw [if_pos c0]; decide
  rw [if_neg c0]
  by_cases c1 : f_X7_reason M k 1 = 0
  · rw [if_pos c1]; decide
  rw [if_neg c1]
  rcases (by omega : j = 0 ∨ j = 1 ∨ j = 2) with e | e | e
  · subst e; exact absurd h c0
  · subst e; exact absurd h c1
  · subst e
    rw [if_pos (show f_X7_reason M k 2 = 0 from h)]; decide
theorem hB1_of {S : aT} (hb : ¬ aB S = -1) : ¬ f_X7_canStep (mkR S) 2 = 0 := by
  obtain ⟨_, j, hj, _, r⟩ := aB_at hb
  exact can_of hj r
theorem best_why {S : aT} (hb : ¬ aB S = -1) : aF 12 S (aB S) 0 0 = 0 := by
  obtain ⟨h1, j, hj, e, r⟩ := aB_at hb
  rw [e, a_why hj, if_pos h1]
  exact r
/-- of the whole row -/
theorem hoA_of {V : Nat} {S : aT} (g : gI V S) (h5 : S.1 4 = -1 → S.1 5 = -1) : hoA S := by
  obtain ⟨m, a, b, _, _, hm, n3, n2, n1, _⟩ := gR_nums g.2.1.1
  obtain ⟨l, l1, l2, l8⟩ := g.2.1.2.2.1
  have e1 : S.1 1 = 1 ∧ S.1 4 = -1 ∧ m < 80 ∨ S.1 1 = 3 ∧ S.1 4 = -1 ∧ m = 80 ∨ S.1 1 = 2 ∧ ¬ S.1 4 = -1 := by
    rw [n1]
    unfold phI
    by_cases q : S.1 4 = -1
    · rw [if_pos q]
      by_cases z : 80 ≤ m
      · rw [if_pos z]; exact Or.inr (Or.inl ⟨rfl, q, by omega⟩)
      · rw [if_neg z]; exact Or.inl ⟨rfl, q, by omega⟩
    · rw [if_neg q]; exact Or.inr (Or.inr ⟨rfl, q⟩)
  refine ⟨?_, ?_, ?_, ?_, ?_, ?_, ?_, ?_⟩
  · rcases e1 with ⟨q, _⟩ | ⟨q, _⟩ | ⟨q, _⟩ <;> (rw [q]; decide)
  · rcases e1 with ⟨q, _⟩ | ⟨q, _⟩ | ⟨q, _⟩ <;> (rw [q]; decide)
  · rcases e1 with ⟨q, z, _⟩ | ⟨q, z, _⟩ | ⟨q, z⟩
    · rw [q]; exact ⟨fun x => absurd x (by decide), fun x => absurd z x⟩
    · rw [q]; exact ⟨fun x => absurd x (by decide), fun x => absurd z x⟩
    · rw [q]; exact ⟨fun _ => z, fun _ => rfl⟩
  · intro q
    rcases e1 with ⟨_, z, _⟩ | ⟨_, z, _⟩ | ⟨z, _⟩
    · exact h5 z
    · exact h5 z
    · exact absurd z q
  · rw [n2]; exact nI_ne_m1 (by omega)
  · rw [n3]
    intro q
    have := (nI_ltI (a := 80) (b := m) (by decide) (by omega)).mp q
    omega
  · intro q
    rcases e1 with ⟨z, _⟩ | ⟨_, _, z⟩ | ⟨z, _⟩
    · exact absurd (z.symm.trans q) (by decide)
    · rw [n3, z]; rfl
    · exact absurd (z.symm.trans q) (by decide)
  · rw [l8]
    intro q
    have := (nI_leI (a := l) (b := 0) (by omega) (by decide)).mp q
    omega
/-- of a cell -/
theorem hoB_of {V i : Nat} {S : aT} (g : gI V S) (hi : i < 64) : hoB S i := by
  have gR0 := g.2.1.1
  obtain ⟨g1, g2, g3, g4, g5, g6, g7⟩ := g.2.1.2.2
  obtain ⟨_, _, _, _, _, _, _, _, ⟨m1, _⟩, l⟩ := gR0
  obtain ⟨v, hv, hv4⟩ := m1 i hi
  have hct : ctR S.1 i = 4 ∧ (¬ S.1 (148 + i) = -1) ∧ S.1 (212 + i) = 0 ∨ ctR S.1 i = nI v ∧ S.1 (148 + i) = -1 := by
    unfold ctR
    by_cases q : S.1 (148 + i) = -1
    · rw [if_pos q]; exact Or.inr ⟨hv, q⟩
    · rw [if_neg q]
      rcases g2 i hi with z | ⟨_, _, _, z⟩
      · exact absurd z q
      · exact Or.inl ⟨rfl, q, z⟩
  refine ⟨?_, ?_, ?_, ?_, ?_, ?_⟩
  · rcases hct with ⟨q, _⟩ | ⟨q, _⟩
    · rw [q]; decide
    · rw [q]
      intro z
      have := (nI_ltI (a := v) (b := 0) (by omega) (by decide)).mp z
      omega
  · rcases hct with ⟨q, _⟩ | ⟨q, _⟩
    · rw [q]; decide
    · rw [q]
      intro z
      have := (nI_leI (a := 5) (b := v) (by decide) (by omega)).mp z
      omega
  · rcases hct with ⟨q, z, _⟩ | ⟨q, z⟩
    · exact ⟨fun _ => z, fun _ => q⟩
    · refine ⟨fun x => ?_, fun x => absurd z x⟩
      have := nI_inj (a := v) (b := 4) (by omega) (by decide) (q.symm.trans x)
      omega
  · rcases g2 i hi with z | ⟨w, w1, w2, _⟩
    · rw [z]; decide
    · rw [w2]
      intro z
      have := (nI_ltI (a := 39) (b := w) (by decide) (by omega)).mp z
      omega
  · by_cases q4 : S.1 4 = -1
    · rw [q4]
      refine ⟨fun x => ?_, fun x => absurd x (nI_ne_m1 (by omega))⟩
      rcases hct with ⟨q, _⟩ | ⟨q, _⟩
      · exact absurd (q.symm.trans x) (by decide)
      · have := nI_inj (a := v) (b := 3) (by omega) (by decide) (q.symm.trans x)
        have := l q4 i v hi ⟨hv, hv4⟩
        omega
    · obtain ⟨c0, k1, k2, k3, k4⟩ := g3 q4
      rw [k2]
      constructor
      · intro x
        by_cases e : i = c0
        · rw [e]
        · refine absurd ?_ (k4 i hi e)
          rcases hct with ⟨q, _⟩ | ⟨q, _⟩
          · exact absurd (q.symm.trans x) (by decide)
          · rw [hv]; exact q.symm.trans x
      · intro x
        have e := nI_inj (a := i) (b := c0) (by omega) (by omega) x
        subst e
        rcases hct with ⟨_, _, z⟩ | ⟨q, _⟩
        · exact absurd (z.symm.trans k3) (by decide)
        · rw [q, ← hv]; exact k3
  · intro h1 hc
    rw [a_wd (by omega) (by omega), if_pos h1, show 8 * (i / 8) + i % 8 = i by omega]
    have hi0 := isBare_iff (M := up2 (mkR S) 0 0 0) (k := 2) hi
    show (f_X7_damReason (up2 (mkR S) 0 0 0) 2 (nI i)).1 = 1
    rw [u_f_X7_damReason]
    dsimp only
    rw [if_pos (hi0.mpr (fun q => hc ?_))]
    rw [m2] at q
    unfold ctR
    rw [if_pos q.1]
    exact q.2
