/-! THE CONTRACTS, BY THE INVARIANT ALONE -/
theorem ob_5 {D : va_G} {E : Nat → ClassId} {o : Nat} {S : aT} {H : Heap} (h : Ob D E o S H) : ∃ M, sS M (mkR S) ∧ (S.1 4 = -1 → S.1 5 = -1) := by
  obtain ⟨M, hM, _⟩ := h
  exact ⟨M, hM.1, hM.1.1.1.2.2⟩
theorem i_refuses (l : Launch) (hst : l.stackTraces = false) (D : va_G) (E : Nat → ClassId) (o : Nat) {V : Nat} (S : aT) (X : Nat) (hX : X < 100000) (g : gI V S) : Met l yL_refuses wsL_refuses (lRm 9 40 240) (lP D E [.ref o, .int (nI X)] (Ob D E o S) (rA o)) (lQ (fun r H => r = 1 ∧ Ob D E o S H) (rA o)) 40 240 (rA o) := by
  obtain ⟨m, a, b, _, _, hm, _, _, _, n14, n19, ha, hb, _⟩ := gR_nums g.2.1.1
  exact c_refuses l hst D E o S X hX a b n14 (by omega) n19 (by omega) (fun _ h => hB1_of h) aB_over
theorem i_holds (l : Launch) (hst : l.stackTraces = false) (D : va_G) (E : Nat → ClassId) (o : Nat) {V : Nat} (S : aT) (X : Nat) (hX : X < 2 ^ 31) (g : gI V S) (hV : V < 2 ^ 30) (h5 : S.1 4 = -1 → S.1 5 = -1) : Met l yL_holds wsL_holds (lRm 9 620 3720) (lP D E [.ref o, .int (nI X)] (Ob D E o S) (rA o)) (lQ (fun r H => r = 1 ∧ Ob D E o S H) (rA o)) 620 3720 (rA o) := by
  obtain ⟨a0, a1, FA, FB, FC0, FC1, FS, FD⟩ := holds_of g hV h5
  exact c_holds l hst D E o S X hX a0 a1 FA FB FC0 FC1 FS FD
theorem i_builds (l : Launch) (hst : l.stackTraces = false) (D : va_G) (E : Nat → ClassId) (o q : Nat) (hd : djo o q) {V : Nat} {M : bM} (S : aT) (X : Nat) (hX : X < 2 ^ 31) (g : gI V S) (hs : sS M (mkR S)) : Met l yL_builds wsL_builds (lRm 9 30 180) (lP D E [.ref o, .ref q, .int (nI X)] (fun H => Ob D E o S H ∧ Ob D E q S H) (rAA o q)) (lQ (fun r H => r = 1 ∧ ∃ n, Ob D E o (cuS S n) H ∧ Ob D E q (cuS S n) H) (rAA o q)) 30 180 (rAA o q) := by
  obtain ⟨P, hP, e2⟩ := row_tu g.2.1.1
  exact c_builds l hst D E o q hd S X hX P hP e2 (fun h1 => bdF_of g hs hP e2 h1 (by omega) (by omega))
