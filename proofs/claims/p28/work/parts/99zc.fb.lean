/-! fbF: the best step is none, or one that is possible -/
theorem aB_none {j : Nat} {S : aT} (h1 : S.1 1 = 1) (hb : aB S = -1) (hj : j < 3) : ¬ rsn S j = 0 := fun h => by
  obtain ⟨i, hi, e⟩ := best_any (R := up2 (mkR S) 0 0 0) (k := 2) (by decide) (by rw [m2]; exact h1) (can_of hj (rsn_c.trans h))
  exact nI_ne_m1 (by omega) (e.symm.trans (aB_e.symm.trans hb))
theorem rsn_cu {n j : Nat} {S : aT} : rsn (cuS S n) j = rsn S j := reason_c ((mkR_2 (cuS S n)).trans (mkR_2 S).symm)
theorem why_cu {n j : Nat} {S : aT} (hj : j < 3) : aF 12 (cuS S n) (nI j) 0 0 = aF 12 S (nI j) 0 0 := by
  rw [a_why hj, a_why hj, rsn_cu]
theorem fbF_of {V P h : Nat} {S : aT} (g : gI V S) (h1 : S.1 1 = 1) (hP : P < 2) (e2 : S.1 2 = nI P) (hh : h < 64) (eh : aF 3 S (nI P) 1 0 = nI h) : fbF S P h := by
  unfold fbF
  by_cases hb : aB S = -1
  · refine Or.inl ⟨hb, fun n j hj => ?_⟩
    rw [why_cu hj, a_why hj, if_pos h1]
    exact Int32.not_le.mp (fun z => aB_none h1 hb hj (reason_le.mp z))
  · obtain ⟨_, j, hj, e, r⟩ := aB_at hb
    have hr : aF 12 S (nI j) 0 0 = 0 := by rw [a_why hj, if_pos h1]; exact r
    obtain ⟨c, h', hc, hh', e3, ht, hn, Y⟩ := stY_of g h1 hP e2 hj hr
    have eh' : h' = h := nI_inj (by omega) (by omega) (e3.symm.trans eh)
    subst eh'
    exact Or.inr ⟨j, c, hj, hc, e, ht, hr, Y⟩
