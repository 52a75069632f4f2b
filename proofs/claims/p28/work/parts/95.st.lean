/-! WHAT STEPS ASKS OF A STEP -/
theorem rsn_rem {S : aT} {d : Int32} : f_X7_reason (remM S) 2 d = f_X7_reason (mkR S) 2 d := reason_c rem_2
theorem stN_of {V j : Nat} {S : aT} (g : gI V S) (h1 : S.1 1 = 1) (hj : j < 3) (hr : ¬ aF 12 S (nI j) 0 0 = 0) : stN S j := by
  have hl13 : (S.2.1.take 13).length ≤ 14 := by rw [List.length_take]; have := g.1; omega
  have hw : aF 12 S (nI j) 0 0 = rsn S j := by rw [a_why hj, if_pos h1]
  rw [hw] at hr
  obtain ⟨d1, d2⟩ := a_st (b := 0) (c := 0) g.1 hj h1
  have no := stepOn_no (R := remM S) (k := 2) (d := nI j) (by rw [rsn_rem]; exact hr)
  rw [no] at d1 d2
  have d2 : tF 7 S (nI j) 0 = nxt S (upd S.1 6 (remM S 2 6 + 1)) := by
    rw [d2]
    show nxt S (up2 (remM S) 2 6 (remM S 2 6 + 1) 2) = _
    rw [up2_upd, rem_row]
  have d1 : aF 7 S (nI j) 0 0 = rsn S j := d1.trans rsn_rem
  unfold stN
  rw [hw, d1, d2]
  refine ⟨rfl, ?_, au_some (x := S.1) (L := S.2.1.take 13) rfl hl13, tu_nxt⟩
  rw [a_ab3, a_ab3]
  exact upd_ne (r := S.1) (v := remM S 2 6 + 1) (j := 6) (x := 3) (by decide)
theorem reason_8 {M N : bM} {k j P a hh : Nat} {v : Int32} (hP : P < 2) (e2 : M k 2 = nI P) (ha : M k (14 + 5 * P) = nI (a + 1)) (ha64 : a < 64) (ehh : M k (276 + 64 * P + a) = nI hh) (hh64 : hh < 64) (hj : j < 3) (hN : N k = upd (M k) 8 v) : f_X7_reason N k (nI j) = f_X7_reason M k (nI j) := by
  have ne : ∀ x, x ≠ 8 → N k x = M k x := fun x hx => by rw [hN, upd_ne hx]
  have h1 : f_X7_head M k (nI P) = nI hh := (head_row hP ha ha64).trans ehh
  have h2 : f_X7_head N k (nI P) = nI hh := (head_row (R := N) hP ((ne _ (by omega)).trans ha) ha64).trans ((ne _ (by omega)).trans ehh)
  rw [u_f_X7_reason, u_f_X7_reason]
  dsimp only
  rw [ne 2 (by decide), e2, h1, h2, sf_nI hh64 hj]
  by_cases q : nbI hh j = -1
  · rw [if_pos q, if_pos q]
  rw [if_neg q, if_neg q]
  obtain ⟨n64, en⟩ := nbI_pos q
  rw [en, u_f_X7_isDam, u_f_X7_isDam, u_f_X7_isRiver, u_f_X7_isRiver, idxK 148 (by omega), idxK 212 (by omega), ne (148 + nb hh j) (by omega), ne (212 + nb hh j) (by omega)]
theorem tu_2 {S : aT} {r r' : Nat → Int32} : tF 11 (tF 11 (nxt (nxt S r) r') 0 0) 0 0 = cuS S 12 := by
  show (S.1, (S.2.1.take 13).take 12, S.2.2) = (S.1, S.2.1.take 12, S.2.2)
  rw [List.take_take, show min 12 13 = 12 from rfl]
theorem s1_row {S : aT} (hl : S.2.1.length ≤ 14) : aF 10 S 0 40 0 = S.1 8 ∧ tF 10 S 0 40 = nxt S (upd S.1 8 40) := by
  obtain ⟨d1, d2⟩ := a_lt (S := S) (x := 0) (y := 40) (c := 0) hl (by decide +kernel)
  obtain ⟨w1, w2⟩ := change_row (M := remM S) (k := 2) (w := 0) (v := 40) (by decide)
  refine ⟨d1.trans (w1.trans (by rw [rem_row])), d2.trans ?_⟩
  have e : (f_X7_change (remM S) 2 0 40).2 2 = upd S.1 8 40 := by
    rw [show f_X7_change (remM S) 2 0 40 = f_X7_change (remM S) 2 (nI 0) 40 from rfl, w2, up2_upd, rem_row]
  rw [e]
