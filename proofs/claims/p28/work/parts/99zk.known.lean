/-! WHAT THE TABLES SAY AT THE LAW'S ENTRY -/
abbrev aL0 (s : State) : Nat → Prop := fun q => s.heap.size ≤ q
theorem in_tab {w : Cond} (h : w ∈ tables_1) : w ∈ lw_tbl := List.mem_append_right _ h
theorem in_wsX60 : ∀ w ∈ wsX60, w ∈ lw_tbl := lw_in_X6
theorem in_wsX40 : ∀ w ∈ wsX40, w ∈ lw_tbl := lw_in_X4
theorem in_wsX00 : ∀ w ∈ wsX00, w ∈ lw_tbl := lw_in_X0
theorem in_wsX50 : ∀ w ∈ wsX50, w ∈ lw_tbl := lw_in_X5
theorem in_wsX10 : ∀ w ∈ wsX10, w ∈ lw_tbl := lw_in_X1
theorem in_wsX30 : ∀ w ∈ wsX30, w ∈ lw_tbl := lw_in_X3
theorem in_wsX20 : ∀ w ∈ wsX20, w ∈ lw_tbl := lw_in_X2
theorem law_D {args : Array Value} {s : State} (hts : ∀ w ∈ lw_tbl, w.before args s = true) : ∃ D : va_G, ∀ (c : Nat) (q : vw_C), vwCl[c]? = some q → u_Kn s q.1 q.2.1 q.2.2 (D.1 c) (D.2 c) := by
  obtain ⟨c0, d0, h0⟩ := u_known (C := RX0) (T := TX0) (N := 12) (n := 12) hts in_wsX00 (hts (.instantiable RX0 12) (in_tab (List.mem_of_getElem? (i := 40) (by decide +kernel))))
  obtain ⟨c1, d1, h1⟩ := u_known (C := RX1) (T := TX1) (N := 3) (n := 3) hts in_wsX10 (hts (.instantiable RX1 3) (in_tab (List.mem_of_getElem? (i := 177) (by decide +kernel))))
  obtain ⟨c2, d2, h2⟩ := u_known (C := RX2) (T := TX2) (N := 8) (n := 8) hts in_wsX20 (hts (.instantiable RX2 8) (in_tab (List.mem_of_getElem? (i := 46) (by decide +kernel))))
  obtain ⟨c3, d3, h3⟩ := u_known (C := RX3) (T := TX3) (N := 2) (n := 2) hts in_wsX30 (hts (.instantiable RX3 2) (in_tab (List.mem_of_getElem? (i := 197) (by decide +kernel))))
  obtain ⟨c4, d4, h4⟩ := u_known (C := RX4) (T := TX4) (N := 2) (n := 2) hts in_wsX40 (hts (.instantiable RX4 2) (in_tab (List.mem_of_getElem? (i := 25) (by decide +kernel))))
  obtain ⟨c5, d5, h5⟩ := u_known (C := RX5) (T := TX5) (N := 6) (n := 6) hts in_wsX50 (hts (.instantiable RX5 6) (in_tab (List.mem_of_getElem? (i := 143) (by decide +kernel))))
  obtain ⟨c6, d6, h6⟩ := u_known (C := RX6) (T := TX6) (N := 7) (n := 7) hts in_wsX60 (hts (.instantiable RX6 7) (in_tab (List.mem_of_getElem? (i := 17) (by decide +kernel))))
  refine ⟨(fun k => if k = 0 then c0 else if k = 1 then c1 else if k = 2 then c2 else if k = 3 then c3 else if k = 4 then c4 else if k = 5 then c5 else c6, fun k => if k = 0 then d0 else if k = 1 then d1 else if k = 2 then d2 else if k = 3 then d3 else if k = 4 then d4 else if k = 5 then d5 else d6), ?_⟩
  intro k q hq
  match k, hq with
  | 0, hq => cases hq; exact h0
  | 1, hq => cases hq; exact h1
  | 2, hq => cases hq; exact h2
  | 3, hq => cases hq; exact h3
  | 4, hq => cases hq; exact h4
  | 5, hq => cases hq; exact h5
  | 6, hq => cases hq; exact h6
  | k + 7, hq => simp [vwCl] at hq
theorem law_E {args : Array Value} {s : State} (hts : ∀ w ∈ lw_tbl, w.before args s = true) : ∃ E : Nat → ClassId, (∀ (k : Nat) (q : ClassId × FieldType), (tysE E)[k]? = some q → ArrOfT s q.1 q.2 ∧ va_RA s q.1 q.2) ∧ bA E s := by
  obtain ⟨e0, k0, m0, f0, g0, h0⟩ := Cond.arrayClass_spec (hts (.arrayClass .int) (in_tab (List.mem_of_getElem? (i := 89) (by decide +kernel))))
  obtain ⟨e1, k1, m1, f1, g1, h1⟩ := Cond.arrayClass_spec (hts (.arrayClass .boolean) (in_tab (List.mem_of_getElem? (i := 90) (by decide +kernel))))
  obtain ⟨e2, k2, m2, f2, g2, h2⟩ := Cond.arrayClass_spec (hts (.arrayClass .char) (in_tab (List.mem_of_getElem? (i := 38) (by decide +kernel))))
  have hao := hts (.arrayOver (.object RX0)) (in_tab (List.mem_of_getElem? (i := 183) (by decide +kernel)))
  obtain ⟨m3, e3, k3, f3, _, g3, h3, n3⟩ := Cond.arrayOver_spec hao
  refine ⟨fun k => if k = 0 then e0 else if k = 1 then e1 else if k = 2 then e2 else e3, ?_, ?_, va_AO.of hao⟩
  · intro k q hq
    match k, hq with
    | 0, hq => cases hq; exact ⟨fun n z => ⟨fun k h => (by cases h), k0, g0, m0, h0⟩, f0⟩
    | 1, hq => cases hq; exact ⟨fun n z => ⟨fun k h => (by cases h), k1, g1, m1, h1⟩, f1⟩
    | 2, hq => cases hq; exact ⟨fun n z => ⟨fun k h => (by cases h), k2, g2, m2, h2⟩, f2⟩
    | 3, hq => cases hq; exact ⟨fun n z => ⟨fun k h => (by cases h), k3, g3, m3, h3⟩, k3, m3, g3, h3, f3, n3⟩
    | k + 4, hq => simp [tysE] at hq
  · intro k q hq
    match k, hq with
    | 0, hq => cases hq; exact f0
    | 1, hq => cases hq; exact f1
    | 2, hq => cases hq; exact f2
    | k + 3, hq => simp [arrN] at hq
theorem law_N {args : Array Value} {s : State} (hts : ∀ w ∈ lw_tbl, w.before args s = true) : bN s := by
  intro k q hq
  match k, hq with
  | 0, hq => cases hq; exact va_Nw.of rfl (hts (.methodLinkNest RX5 82 yX6_copyRow "RiverMeeting") (in_tab (List.mem_of_getElem? (i := 852) (by decide +kernel))))
  | 1, hq => cases hq; exact va_Nw.of rfl (hts (.methodLinkNest RX5 56 yX6_fits "RiverMeeting") (in_tab (List.mem_of_getElem? (i := 501) (by decide +kernel))))
  | 2, hq => cases hq; exact va_Nw.of rfl (hts (.methodLinkNest RX5 31 yX6_cellBeside "RiverMeeting") (in_tab (List.mem_of_getElem? (i := 148) (by decide +kernel))))
  | 3, hq => cases hq; exact va_Nw.of rfl (hts (.methodLinkNest RX3 9 yX0_init "RiverMeeting") (in_tab (List.mem_of_getElem? (i := 203) (by decide +kernel))))
  | 4, hq => cases hq; exact va_Nw.of rfl (hts (.methodLinkNest RX2 43 yX6_copyRow "RiverMeeting") (in_tab (List.mem_of_getElem? (i := 681) (by decide +kernel))))
  | 5, hq => cases hq; exact va_Nw.of rfl (hts (.methodLinkNest RX2 36 yX6_fits "RiverMeeting") (in_tab (List.mem_of_getElem? (i := 243) (by decide +kernel))))
  | 6, hq => cases hq; exact va_Nw.of rfl (hts (.methodLinkNest RX1 17 yX0_init "RiverMeeting") (in_tab (List.mem_of_getElem? (i := 184) (by decide +kernel))))
  | 7, hq => cases hq; exact va_Nw.of rfl (hts (.methodLinkNest RX0 91 yX6_fits "RiverMeeting") (in_tab (List.mem_of_getElem? (i := 453) (by decide +kernel))))
  | 8, hq => cases hq; exact va_Nw.of rfl (hts (.methodLinkNest RX0 80 yX6_drawnFrom "RiverMeeting") (in_tab (List.mem_of_getElem? (i := 229) (by decide +kernel))))
  | 9, hq => cases hq; exact va_Nw.of rfl (hts (.methodLinkNest RX0 76 yX6_nextNumber "RiverMeeting") (in_tab (List.mem_of_getElem? (i := 224) (by decide +kernel))))
  | 10, hq => cases hq; exact va_Nw.of rfl (hts (.methodLinkNest RX0 180 yX6_copyRow "RiverMeeting") (in_tab (List.mem_of_getElem? (i := 684) (by decide +kernel))))
  | 11, hq => cases hq; exact va_Nw.of rfl (hts (.methodLinkNest RX0 120 yX6_cellBeside "RiverMeeting") (in_tab (List.mem_of_getElem? (i := 448) (by decide +kernel))))
  | 12, hq => cases hq; exact va_Nw.of rfl (hts (.methodLinkNest RX0 11 yX2_init "RiverMeeting") (in_tab (List.mem_of_getElem? (i := 47) (by decide +kernel))))
  | 13, hq => cases hq; exact va_Nw.of rfl (hts (.methodLinkNest RX0 105 yX6_isSettingValue "RiverMeeting") (in_tab (List.mem_of_getElem? (i := 560) (by decide +kernel))))
  | 14, hq => cases hq; exact va_Nw.of rfl (hts (.methodLinkNest RX6 9 yX4_init "RiverMeeting") (in_tab (List.mem_of_getElem? (i := 26) (by decide +kernel))))
  | 15, hq => cases hq; exact va_Nw.of rfl (hts (.methodLinkNest RX6 42 yX3_init "RiverMeeting") (in_tab (List.mem_of_getElem? (i := 198) (by decide +kernel))))
  | 16, hq => cases hq; exact va_Nw.of rfl (hts (.methodLinkNest RX6 18 yX0_init "RiverMeeting") (in_tab (List.mem_of_getElem? (i := 41) (by decide +kernel))))
  | k + 17, hq => simp [nestL] at hq
theorem law_T {args : Array Value} {s : State} (hts : ∀ w ∈ lw_tbl, w.before args s = true) : bT s := by
  refine ⟨fun x hx => ?_, fun z hz => ?_⟩
  · simp only [xDecl, List.mem_cons, List.not_mem_nil, or_false] at hx
    rcases hx with rfl | rfl | rfl
    · exact va_Nw.of rfl (hts _ (in_tab (List.mem_of_getElem? (i := 290) (by decide +kernel))))
    · exact va_Nw.of rfl (hts _ (in_tab (List.mem_of_getElem? (i := 292) (by decide +kernel))))
    · exact va_Nw.of rfl (hts _ (in_tab (List.mem_of_getElem? (i := 294) (by decide +kernel))))
  · simp only [xCast, List.mem_cons, List.not_mem_nil, or_false] at hz
    rcases hz with rfl | rfl | rfl
    · exact va_Nw.of rfl (hts _ (in_tab (List.mem_of_getElem? (i := 288) (by decide +kernel))))
    · exact va_Nw.of rfl (hts _ (in_tab (List.mem_of_getElem? (i := 360) (by decide +kernel))))
    · exact va_Nw.of rfl (hts _ (in_tab (List.mem_of_getElem? (i := 599) (by decide +kernel))))
theorem law_Nc {args : Array Value} {s : State} (hgv : (Jvm.Cond.and given_1 narrow_1).before args s = true) : bNc s := by
  have hf := flat_of_before _ hgv
  intro k q hq
  match k, hq with
  | 0, hq => cases hq; exact va_Nc.of (hf (.not (.castable xISE xIAE)) (List.mem_of_getElem? (i := 13) (by decide +kernel)))
  | 1, hq => cases hq; exact va_Nc.of (hf (.not (.castable xIAE xIOB)) (List.mem_of_getElem? (i := 31) (by decide +kernel)))
  | 2, hq => cases hq; exact va_Nc.of (hf (.not (.castable xISE xIOB)) (List.mem_of_getElem? (i := 32) (by decide +kernel)))
  | k + 3, hq => simp [xNc] at hq
theorem law_Z {args : Array Value} {s : State} (hts : ∀ w ∈ lw_tbl, w.before args s = true) (hgv : (Jvm.Cond.and given_1 narrow_1).before args s = true) : bZ (aL0 s) s s.heap := by
  have hf := flat_of_before _ hgv
  have hini := hts (.initialized Bundle.tN) (in_tab (List.mem_of_getElem? (i := 9) (by decide +kernel)))
  have hA : ∀ a : Nat, a < s.heap.size → ¬ aL0 s a := fun a h q => Nat.not_le_of_lt h q
  exact ⟨vx_Zqof (hts (.laysStatic Bundle.tN "UNASSIGNED_STACK" Bundle.steD) (in_tab (List.mem_of_getElem? (i := 313) (by decide +kernel)))) hini (hf (.isRef (.static Bundle.tN "UNASSIGNED_STACK" Bundle.steD)) (List.mem_of_getElem? (i := 4) (by decide +kernel))) hA,
    vx_Zqof (hts (.laysStatic Bundle.tN "SUPPRESSED_SENTINEL" Bundle.listD) (in_tab (List.mem_of_getElem? (i := 315) (by decide +kernel)))) hini (hf (.isRef (.static Bundle.tN "SUPPRESSED_SENTINEL" Bundle.listD)) (List.mem_of_getElem? (i := 5) (by decide +kernel))) hA⟩
theorem law_str {args : Array Value} {s : State} {k : Nat} {tx : String} (h1 : (Cond.stringRef RX6 k tx).before args s = true) (h2 : (Cond.exactly (.string RX6 k) "java/lang/String").before args s = true) : ∃ a, vk_R RX6 k tx a s := by
  obtain ⟨a, c, cell, k9, q1, _⟩ := Cond.exactly_spec h2
  exact ⟨a, vk_R.of (A := args) h1 q1⟩
theorem law_S {args : Array Value} {s : State} (hts : ∀ w ∈ lw_tbl, w.before args s = true) (hgv : (Jvm.Cond.and given_1 narrow_1).before args s = true) : bStr s := by
  have hf := flat_of_before _ hgv
  intro k q hq
  match k, hq with
  | 0, hq => cases hq; exact law_str (hts (.stringRef RX6 55 "a character code is 0 to 255") (in_tab (List.mem_of_getElem? (i := 327) (by decide +kernel)))) (hf (.exactly (.string RX6 55) "java/lang/String") (List.mem_of_getElem? (i := 33) (by decide +kernel)))
  | 1, hq => cases hq; exact law_str (hts (.stringRef RX6 66 "the text has 120 characters already") (in_tab (List.mem_of_getElem? (i := 367) (by decide +kernel)))) (hf (.exactly (.string RX6 66) "java/lang/String") (List.mem_of_getElem? (i := 65) (by decide +kernel)))
  | 2, hq => cases hq; exact law_str (hts (.stringRef RX6 80 "the text is not a game") (in_tab (List.mem_of_getElem? (i := 409) (by decide +kernel)))) (hf (.exactly (.string RX6 80) "java/lang/String") (List.mem_of_getElem? (i := 105) (by decide +kernel)))
  | 3, hq => cases hq; exact law_str (hts (.stringRef RX6 134 "what is 0 to 8") (in_tab (List.mem_of_getElem? (i := 585) (by decide +kernel)))) (hf (.exactly (.string RX6 134) "java/lang/String") (List.mem_of_getElem? (i := 133) (by decide +kernel)))
  | 4, hq => cases hq; exact law_str (hts (.stringRef RX6 141 "a player is 0 or 1") (in_tab (List.mem_of_getElem? (i := 606) (by decide +kernel)))) (hf (.exactly (.string RX6 141) "java/lang/String") (List.mem_of_getElem? (i := 154) (by decide +kernel)))
  | 5, hq => cases hq; exact law_str (hts (.stringRef RX6 166 "what is 0 to 5") (in_tab (List.mem_of_getElem? (i := 615) (by decide +kernel)))) (hf (.exactly (.string RX6 166) "java/lang/String") (List.mem_of_getElem? (i := 180) (by decide +kernel)))
  | 6, hq => cases hq; exact law_str (hts (.stringRef RX6 172 "there is no such cell") (in_tab (List.mem_of_getElem? (i := 624) (by decide +kernel)))) (hf (.exactly (.string RX6 172) "java/lang/String") (List.mem_of_getElem? (i := 203) (by decide +kernel)))
  | 7, hq => cases hq; exact law_str (hts (.stringRef RX6 191 "what is 0 to 3") (in_tab (List.mem_of_getElem? (i := 631) (by decide +kernel)))) (hf (.exactly (.string RX6 191) "java/lang/String") (List.mem_of_getElem? (i := 234) (by decide +kernel)))
  | 8, hq => cases hq; exact law_str (hts (.stringRef RX6 196 "the river has not so many cells") (in_tab (List.mem_of_getElem? (i := 643) (by decide +kernel)))) (hf (.exactly (.string RX6 196) "java/lang/String") (List.mem_of_getElem? (i := 259) (by decide +kernel)))
  | 9, hq => cases hq; exact law_str (hts (.stringRef RX6 198 "a setting is 0 or 1") (in_tab (List.mem_of_getElem? (i := 651) (by decide +kernel)))) (hf (.exactly (.string RX6 198) "java/lang/String") (List.mem_of_getElem? (i := 302) (by decide +kernel)))
  | 10, hq => cases hq; exact law_str (hts (.stringRef RX6 214 "a direction is 0 to 2") (in_tab (List.mem_of_getElem? (i := 663) (by decide +kernel)))) (hf (.exactly (.string RX6 214) "java/lang/String") (List.mem_of_getElem? (i := 334) (by decide +kernel)))
  | 11, hq => cases hq; exact law_str (hts (.stringRef RX6 216 "the game is over") (in_tab (List.mem_of_getElem? (i := 664) (by decide +kernel)))) (hf (.exactly (.string RX6 216) "java/lang/String") (List.mem_of_getElem? (i := 369) (by decide +kernel)))
  | 12, hq => cases hq; exact law_str (hts (.stringRef RX6 228 "the game is over, or a step is possible") (in_tab (List.mem_of_getElem? (i := 711) (by decide +kernel)))) (hf (.exactly (.string RX6 228) "java/lang/String") (List.mem_of_getElem? (i := 400) (by decide +kernel)))
  | 13, hq => cases hq; exact law_str (hts (.stringRef RX6 237 "there is no such setting or value") (in_tab (List.mem_of_getElem? (i := 721) (by decide +kernel)))) (hf (.exactly (.string RX6 237) "java/lang/String") (List.mem_of_getElem? (i := 455) (by decide +kernel)))
  | 14, hq => cases hq; exact law_str (hts (.stringRef RX6 245 "no state is remembered") (in_tab (List.mem_of_getElem? (i := 730) (by decide +kernel)))) (hf (.exactly (.string RX6 245) "java/lang/String") (List.mem_of_getElem? (i := 505) (by decide +kernel)))
  | 15, hq => cases hq; exact law_str (hts (.stringRef RX6 256 "a way is 0 or 1") (in_tab (List.mem_of_getElem? (i := 758) (by decide +kernel)))) (hf (.exactly (.string RX6 256) "java/lang/String") (List.mem_of_getElem? (i := 545) (by decide +kernel)))
  | 16, hq => cases hq; exact law_str (hts (.stringRef RX6 283 "a script has 1 to 4 commands") (in_tab (List.mem_of_getElem? (i := 804) (by decide +kernel)))) (hf (.exactly (.string RX6 283) "java/lang/String") (List.mem_of_getElem? (i := 675) (by decide +kernel)))
  | 17, hq => cases hq; exact law_str (hts (.stringRef RX6 285 "a script is not negative") (in_tab (List.mem_of_getElem? (i := 805) (by decide +kernel)))) (hf (.exactly (.string RX6 285) "java/lang/String") (List.mem_of_getElem? (i := 725) (by decide +kernel)))
  | 18, hq => cases hq; exact law_str (hts (.stringRef RX6 291 "a script has at most 4 digits a command") (in_tab (List.mem_of_getElem? (i := 810) (by decide +kernel)))) (hf (.exactly (.string RX6 291) "java/lang/String") (List.mem_of_getElem? (i := 772) (by decide +kernel)))
  | 19, hq => cases hq; exact law_str (hts (.stringRef RX6 301 "m is 1 to 200") (in_tab (List.mem_of_getElem? (i := 827) (by decide +kernel)))) (hf (.exactly (.string RX6 301) "java/lang/String") (List.mem_of_getElem? (i := 835) (by decide +kernel)))
  | 20, hq => cases hq; exact law_str (hts (.stringRef RX6 315 "a save slot is 0 or 1") (in_tab (List.mem_of_getElem? (i := 783) (by decide +kernel)))) (hf (.exactly (.string RX6 315) "java/lang/String") (List.mem_of_getElem? (i := 579) (by decide +kernel)))
  | 21, hq => cases hq; exact law_str (hts (.stringRef RX6 324 "nothing has been saved in the slot") (in_tab (List.mem_of_getElem? (i := 796) (by decide +kernel)))) (hf (.exactly (.string RX6 324) "java/lang/String") (List.mem_of_getElem? (i := 620) (by decide +kernel)))
  | k + 22, hq => simp [strL] at hq
