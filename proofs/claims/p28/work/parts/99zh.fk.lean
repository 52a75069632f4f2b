/-! fkF: every step, as steps asks -/
theorem best_min {V j : Nat} {S : aT} (g : gI V S) (h1 : S.1 1 = 1) (hj : j < 3) (hr : rsn S j = 0) : ∃ b, b < 3 ∧ aB S = nI b ∧ rsn S b = 0 ∧ (f_X7_worth (mkR S) 2 (nI b)).1 ≤ (f_X7_worth (mkR S) 2 (nI j)).1 ∧ ((f_X7_worth (mkR S) 2 (nI j)).1 = (f_X7_worth (mkR S) 2 (nI b)).1 → b ≤ j) := by
  have hco := gR_cost g.2.1.1
  have u2 : up2 (mkR S) 0 0 0 2 = mkR S 2 := up2_row (by decide)
  have hz : ∀ d, f_X7_reason (up2 (mkR S) 0 0 0) 2 d = f_X7_reason (mkR S) 2 d := fun d => reason_c u2
  have hW : ∀ (N : bM) i, N 2 = up2 (mkR S) 0 0 0 2 → i < 3 → f_X7_reason (up2 (mkR S) 0 0 0) 2 (nI i) = 0 → (f_X7_worth N 2 (nI i)).1 = (f_X7_worth (mkR S) 2 (nI i)).1 := by
    intro N i hN hi hri
    rw [hz] at hri
    obtain ⟨p, c, q, _, hh, hp, hc, hq, _, e2', nq, _, hh64, ehh, hn, _⟩ := step_geo (R := mkR S) (k := 2) g.2.1.1 h1 hi hri
    exact worth_row (M := mkR S) (N := N) (k := 2) (by decide) (hN.trans u2) hco hp e2' nq (by omega) ehh hh64 hi hn hc
  have hB := best_first (Z := up2 (mkR S) 0 0 0) (k := 2) (W := fun i => (f_X7_worth (mkR S) 2 (nI i)).1) (by decide) (by rw [u2]; exact h1) hW 3 0 0 (-1) (up2 (mkR S) 0 0 0) rfl rfl (Or.inl ⟨rfl, fun i hi => absurd hi (by omega)⟩)
  have ea : aB S = (lp_X7_bestOf_7 2 3 0 0 (-1) (up2 (mkR S) 0 0 0)).2.1 := by
    rw [aB_e, u_f_X7_bestOf]
    all_goals rfl
  generalize lp_X7_bestOf_7 2 3 0 0 (-1) (up2 (mkR S) 0 0 0) = Z at *
  rcases hB with ⟨_, no⟩ | ⟨b, hb, ey, _, rb, hm⟩
  · exact absurd ((hz _).trans hr) (no j hj)
  · obtain ⟨m1, m2'⟩ := hm j hj ((hz _).trans hr)
    exact ⟨b, hb, ea.trans ey, (hz _).symm.trans rb, m1, m2'⟩
theorem fkF_of {V P h n j : Nat} {S : aT} (g : gI V S) (h1 : S.1 1 = 1) (hP : P < 2) (e2 : S.1 2 = nI P) (hh : h < 64) (eh : aF 3 S (nI P) 1 0 = nI h) (hj : j < 3) : fkF S P h n j := by
  have g' : gI V (cuS S n) := gI_cu g
  unfold fkF
  by_cases hr : aF 12 (cuS S n) (nI j) 0 0 = 0
  · refine Or.inr ?_
    obtain ⟨c, h', hc, hh', e3, ht, hn, Y⟩ := stY_of g' h1 hP e2 hj hr
    have eh' : h' = h := nI_inj (by omega) (by omega) (e3.symm.trans ((f_cu31 hP).trans eh))
    subst eh'
    refine ⟨c, hc, ht, hr, Y, fun cs hcs => ?_⟩
    have hrC : rsn (cuS S n) j = 0 := ((a_why (S := cuS S n) (b := 0) (c := 0) hj).trans (if_pos h1)).symm.trans hr
    have hr0 : rsn S j = 0 := rsn_cu.symm.trans hrC
    by_cases hd : ∃ d, d < 64 ∧ S.1 (148 + d) = nI 39
    · obtain ⟨d, hd64, h39⟩ := hd
      refine Or.inl ?_
      have q := dam_falls g' h1 hP e2 hj hrC hd64 h39
      rw [f_cu24 (S := S) (n := n)] at q
      exact q
    · have hno : ∀ d, d < 64 → ¬ S.1 (148 + d) = nI 39 := fun d a b => hd ⟨d, a, b⟩
      obtain ⟨b, hb, eb, rb, m1, m2'⟩ := best_min g h1 hj hr0
      have hyb : aF 12 S (nI b) 0 0 = 0 := by rw [a_why hb, if_pos h1]; exact rb
      obtain ⟨cb, hb', hcb, hhb, e3b, htb, _, _⟩ := stY_of g h1 hP e2 hb hyb
      have ehb : hb' = h' := nI_inj (by omega) (by omega) (e3b.symm.trans eh)
      subst ehb
      have q1 := hcs b cb hb hcb eb htb
      rw [wt_of (M := mkR S) g h1 hP e2 hb rb hcb hh eh htb hno rfl] at q1
      have q2 := wt_of (M := mkR S) g' h1 hP e2 hj hrC hc hh e3 ht hno rfl
      rw [f_cu32 (S := S) (n := n) hP] at q2
      rw [q1, q2, eb]
      refine Or.inr ?_
      by_cases q : (f_X7_worth (mkR S) 2 (nI j)).1 = (f_X7_worth (mkR S) 2 (nI b)).1
      · refine Or.inr ⟨q, fun z => ?_⟩
        have z := (nI_ltI (a := j) (b := b) (by omega) (by omega)).mp z
        have := m2' q
        omega
      · exact Or.inl (Int32.lt_of_le_of_ne m1 (fun z => q z.symm))
  · exact Or.inl ⟨hr, stN_of g' h1 hj hr⟩
