/-! THE CHEAPEST WAY, BY THE GRAPH -/
theorem ch_val {P a hh : Nat} {S : aT} (hR : costR S.1) (hP : P < 2) (ha : S.1 (14 + 5 * P) = nI (a + 1)) (ha64 : a < 64) (ehh : S.1 (276 + 64 * P + a) = nI hh) (hh64 : hh < 64) : ∃ D o, wayD (edg (bareR S.1)) (wtR S.1 P) hh D ∧ minL D o ∧ aF 14 S (nI P) 0 0 = if ans9 o = 99999 then -1 else ans9 o := by
  obtain ⟨hm, D, o, w, ml, e⟩ := cheapFrom_ok (M := up2 (mkR S) 0 0 0) (k := 2) (p := P) (s := hh) (by decide) hP hh64 (by rw [m2]; exact hR)
  rw [m2] at w
  refine ⟨D, o, w, ml, ?_⟩
  have hhd : f_X7_head (up2 (mkR S) 0 0 0) 2 (nI P) = nI hh := (head_row hP (by rw [m2]; exact ha) ha64).trans (by rw [m2]; exact ehh)
  rw [aF_14, u_f_X7_cheapest]
  dsimp only
  rw [ref_e, ref_e, ref_e, if_neg (pl_in hP), if_neg (show ¬ f_X7_in (0 : Int32).toInt64 0 1 = 0 by decide +kernel), hhd]
  generalize f_X7_cheapestFrom (up2 (mkR S) 0 0 0) 2 (nI P) (nI hh) = Z at *
  have h0 : Z.2 0 0 = 0 := by rw [hm 0 (by decide)]; exact ref_00
  rw [e]
  by_cases c : ans9 o = 99999
  · rw [if_pos c, if_pos c]; exact cod_00 h0
  · rw [if_neg c, if_neg c]; exact cod_00 h0
theorem ch_56 {P a hh : Nat} {S : aT} (hR : costR S.1) (hP : P < 2) (ha : S.1 (14 + 5 * P) = nI (a + 1)) (ha64 : a < 64) (ehh : S.1 (276 + 64 * P + a) = nI hh) (hh64 : hh < 64) (h : ¬ S.1 (276 + 64 * P + a) < 56) : aF 14 S (nI P) 0 0 = 0 := by
  obtain ⟨D, o, w, ml, e⟩ := ch_val hR hP ha ha64 ehh hh64
  have h56 : 56 ≤ hh := by
    rw [ehh] at h
    rcases Nat.lt_or_ge hh 56 with q | q
    · exact absurd ((nI_ltI (a := hh) (b := 56) (by omega) (by decide)).mpr q) h
    · exact q
  have h0 : o = some 0 := by
    rcases ml with ⟨_, q⟩ | ⟨v, c, ev, _, _, _, q⟩
    · exact absurd ((q hh h56 hh64).symm.trans w.1) (by decide)
    · have := q hh 0 h56 hh64 w.1
      rw [ev, show v = 0 by omega]
  rw [e, h0]
  rfl
