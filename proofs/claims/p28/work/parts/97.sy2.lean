/-! stY of a possible step -/
theorem nbI_of {h j c : Nat} (hn : nb h j = c) (hc : c < 64) : nbI h j = nI c := by
  unfold nbI
  rw [hn, if_pos hc]
theorem stY_of {V P j : Nat} {S : aT} (g : gI V S) (h1 : S.1 1 = 1) (hP : P < 2) (e2 : S.1 2 = nI P) (hj : j < 3) (hr : aF 12 S (nI j) 0 0 = 0) : ∃ c h, c < 64 ∧ h < 64 ∧ aF 3 S (nI P) 1 0 = nI h ∧ toI (nI h) (nI j) = nI c ∧ nb h j = c ∧ stY S P j c := by
  have hl := g.1
  have hw : rsn S j = 0 := by rw [a_why hj, if_pos h1] at hr; exact hr
  obtain ⟨p, c, q, b, hh, hp, hc, hq, hb, e2', nq, nb1, hh64, ehh, hn, hd, e4, hmk, hri, _, _⟩ := step_geo (R := mkR S) (k := 2) g.2.1.1 h1 hj hw
  rw [mkR_2] at e2' nq nb1 ehh hd e4 hmk hri
  have ep : p = P := nI_inj (by omega) (by omega) (e2'.symm.trans e2)
  subst ep
  obtain ⟨s8, s1⟩ := s1_row hl
  obtain ⟨S1, hS1⟩ : ∃ T, T = nxt S (upd S.1 8 40) := ⟨_, rfl⟩
  rw [← hS1] at s1
  have g1 : gI V S1 := by rw [← s1]; exact gI_10 g
  have f1 : S1.1 = upd S.1 8 40 := by rw [hS1]
  have ne : ∀ x, x ≠ 8 → S1.1 x = S.1 x := fun x hx => by rw [f1]; exact upd_ne hx
  have h11 : S1.1 1 = 1 := (ne 1 (by decide)).trans h1
  have r1 : remM S1 2 = S1.1 := rem_row
  have hr1 : f_X7_reason (remM S1) 2 (nI j) = 0 := (reason_8 (M := mkR S) (N := remM S1) (k := 2) hp e2 nq (by omega) ehh hh64 hj (r1.trans f1)).trans hw
  have k2 : remM S1 2 2 = nI p := by rw [r1, ne 2 (by decide)]; exact e2
  have kq : remM S1 2 (14 + 5 * p) = nI (q + 1) := by rw [r1, ne _ (by omega)]; exact nq
  have kh : remM S1 2 (276 + 64 * p + q) = nI hh := by rw [r1, ne _ (by omega)]; exact ehh
  have ht : f_X7_stepFrom (f_X7_head (remM S1) 2 (remM S1 2 2)) (nI j) = nI c := by rw [k2, head_row hp kq (by omega), kh, sf_nI hh64 hj, nbI_of hn hc]
  obtain ⟨z1, z2⟩ := step_ref (R := remM S1) (k := 2) (p := p) (c := c) (a := q) (d := nI j) hp hc k2 kq hq (by rw [hr1]; decide) ht
  have hri' : f_X7_isRiver (remM S1) 2 (nI (1 - p)) (nI c) = 0 ↔ S.1 (212 + c) = 0 := by
    have e : f_X7_isRiver (remM S1) 2 (nI (1 - p)) (nI c) = f_X7_isRiver (mkR S) 2 (nI (1 - p)) (nI c) := by
      rw [u_f_X7_isRiver, u_f_X7_isRiver, idxK 212 (by omega), r1, ne _ (by omega), mkR_2]
    rw [e]; exact hri
  obtain ⟨d1, d2⟩ := a_st (b := 0) (c := 0) g1.1 hj h11
  rw [z1] at d1
  rw [z2, r1] at d2
  obtain ⟨B, hB⟩ : ∃ B : Bool, B = decide (¬ f_X7_isRiver (remM S1) 2 (nI (1 - p)) (nI c) = 0) := ⟨_, rfl⟩
  rw [← hB] at d2
  have hBt : B = true ↔ ¬ S.1 (212 + c) = 0 := by rw [hB, decide_eq_true_iff]; exact not_congr hri'
  obtain ⟨t1, t2, t3, t4, t5, t6⟩ := stepR_at (r := S1.1) (p := p) (c := c) (q := q) (b := B) hp hc h11 hq
  obtain ⟨R2, hR2⟩ : ∃ R2, R2 = stepR S1.1 p c q B := ⟨_, rfl⟩
  rw [← hR2] at d2 t1 t2 t3 t4 t5 t6
  have hto : toI (nI hh) (nI j) = nI c := (toI_nI ⟨hh, hh64⟩ ⟨j, hj⟩).trans (nbI_of hn hc)
  have hhead : aF 3 S (nI p) 1 0 = nI hh := (a_pl1 hp nq (by omega)).trans ehh
  have hmet : aF 4 S (nI (c % 8)) (nI (c / 8)) 2 = nI (2 - p) ↔ B = true := by
    rw [a_ct hc, hBt]
    unfold ctR
    rw [if_pos hd]
    have bb := bit_3 ⟨p, hp⟩
    dsimp only at bb
    rcases hmk with z | z
    · rw [z]
      exact ⟨fun x => absurd (nI_inj (a := 0) (b := 2 - p) (by decide) (by omega) x) (by omega), fun x => absurd rfl x⟩
    · rw [z]
      exact ⟨fun _ => bb.2.2, fun _ => bb.2.1⟩
  refine ⟨c, hh, hc, hh64, hhead, hto, hn, ?_⟩
  unfold stY
  rw [s1, d2, s8]
  refine ⟨(a_se (S := S) (p := 0) (by decide)).symm, d1, ?_, ?_, ?_, ?_, ?_, ?_, ?_⟩
  · exact (a_pl1 (S := nxt S1 R2) (a := q + 1) hp t1 (by omega)).trans t2
  · rw [a_ab3, a_ab3]
    exact t3.trans (by rw [ne 3 (by decide)])
  · rw [a_pl2 hp, a_pl2 hp]
    refine t4.trans ?_
    rw [ne (10 + 5 * p) (by omega), ne 9 (by decide), ne (20 + 64 * p + c) (by omega), a_cost hc hp]
    have e6 : aF 6 (nxt S1 R2) 1 0 0 = S.1 9 := (a_se (S := nxt S1 R2) (p := 1) (by decide)).trans (t6.trans (ne 9 (by decide)))
    rw [e6]
    by_cases y : B = true
    · rw [if_pos y, if_pos (hmet.mpr y), Int32.mul_comm]
    · rw [if_neg y, if_neg (fun z => y (hmet.mp z)), Int32.mul_one]
  · rw [a_ab1]
    exact t5.trans hmet.symm
  · exact au_some (S := nxt S1 R2) (x := S1.1) (L := S1.2.1.take 13) rfl (by rw [List.length_take]; omega)
  · rw [tu_nxt (S := S1) (r := R2), hS1]
    exact au_some (x := S.1) (L := (S.2.1.take 13).take 12) rfl (by rw [List.length_take]; omega)
  · rw [hS1]; exact tu_2
