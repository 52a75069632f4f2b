/-! what a possible step is worth, by the graph -/
theorem worth_val {M : bM} {k P a hh j c : Nat} (hk : k ≠ 7) (hR : costR (M k)) (hP : P < 2) (e2 : M k 2 = nI P) (ha : M k (14 + 5 * P) = nI (a + 1)) (ha64 : a < 64) (ehh : M k (276 + 64 * P + a) = nI hh) (hh64 : hh < 64) (hj : j < 3) (hn : nb hh j = c) (hc : c < 64) : ∃ D o, wayD (edg (bareR (M k))) (wtR (M k) P) c D ∧ minL D o ∧ (f_X7_worth M k (nI j)).1 = if f_X7_isRiver M k (nI (1 - P)) (nI c) = 0 then (if ans9 o = 99999 then 99999 else M k (20 + 64 * P + c) + ans9 o) else M k 9 * M k (20 + 64 * P + c) := by
  obtain ⟨hm, D, o, w, ml, e⟩ := cheapFrom_ok (M := M) (k := k) (p := P) (s := c) hk hP hc hR
  refine ⟨D, o, w, ml, ?_⟩
  have hhd : f_X7_head M k (nI P) = nI hh := (head_row hP ha ha64).trans ehh
  rw [u_f_X7_worth]
  dsimp only
  rw [e2, hhd, sf_nI hh64 hj, nbI_of hn hc, sub1 hP]
  have hcost : f_X7_cost (f_X7_cheapestFrom M k (nI P) (nI c)).2 k (nI P) (nI c) = M k (20 + 64 * P + c) := (cost_at hP hc).trans (by rw [hm k hk])
  have hcost0 : f_X7_cost M k (nI P) (nI c) = M k (20 + 64 * P + c) := cost_at hP hc
  rw [hcost, hcost0]
  generalize f_X7_cheapestFrom M k (nI P) (nI c) = Z at *
  rw [e]
  by_cases c1 : f_X7_isRiver M k (nI (1 - P)) (nI c) = 0
  · rw [if_pos c1, if_pos c1]
    by_cases c2 : ans9 o = 99999
    · rw [if_pos c2, if_pos c2]
    · rw [if_neg c2, if_neg c2]
  · rw [if_neg c1, if_neg c1]
theorem worth_row {M N : bM} {k P a hh j c : Nat} (hk : k ≠ 7) (hN : N k = M k) (hR : costR (M k)) (hP : P < 2) (e2 : M k 2 = nI P) (ha : M k (14 + 5 * P) = nI (a + 1)) (ha64 : a < 64) (ehh : M k (276 + 64 * P + a) = nI hh) (hh64 : hh < 64) (hj : j < 3) (hn : nb hh j = c) (hc : c < 64) : (f_X7_worth N k (nI j)).1 = (f_X7_worth M k (nI j)).1 := by
  obtain ⟨D, o, w, ml, e⟩ := worth_val (M := M) hk hR hP e2 ha ha64 ehh hh64 hj hn hc
  obtain ⟨D', o', w', ml', e'⟩ := worth_val (M := N) (k := k) (P := P) (a := a) (hh := hh) (j := j) (c := c) hk (by rw [hN]; exact hR) hP (by rw [hN]; exact e2) (by rw [hN]; exact ha) ha64 (by rw [hN]; exact ehh) hh64 hj hn hc
  rw [hN] at w'
  have eo : o' = o := minL_eq (fun x _ => wayD_eq w' w x) ml' ml
  rw [e, e', eo, rvR_eq (M := N), rvR_eq (M := M), hN]
