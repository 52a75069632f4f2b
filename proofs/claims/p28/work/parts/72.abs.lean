/-! THE ABSTRACT STATE: the row, the rows remembered (the newest first), the slots -/
abbrev aT : Type := (Nat → Int32) × List (Nat → Int32) × (Nat → Option (Nat → Int32))
def rowO (o : Option (Nat → Int32)) (j : Nat) : Int32 := match o with
  | some x => x j
  | none => 0
def mkR (S : aT) : bM := fun a j => if a = 0 then (if j = 6 then nI S.2.1.length else 0) else if a = 2 then S.1 j else if a = 4 then rowO (S.2.1[S.2.1.length - 1 - j / 404]?) (j % 404) else if a = 5 then rowO (S.2.2 (j / 404)) (j % 404) else if a = 6 then (match S.2.2 j with
  | some _ => 1
  | none => 0) else 0
theorem mkR_0 (S : aT) (j : Nat) : mkR S 0 j = if j = 6 then nI S.2.1.length else 0 := rfl
theorem mkR_2 (S : aT) : mkR S 2 = S.1 := rfl
theorem mkR_4 (S : aT) (j : Nat) : mkR S 4 j = rowO (S.2.1[S.2.1.length - 1 - j / 404]?) (j % 404) := rfl
theorem mkR_5 (S : aT) (j : Nat) : mkR S 5 j = rowO (S.2.2 (j / 404)) (j % 404) := rfl
theorem mkR_6 (S : aT) (j : Nat) : mkR S 6 j = match S.2.2 j with
  | some _ => 1
  | none => 0 := rfl
theorem dm404 {k j : Nat} (h : j < 404) : (404 * k + j) / 404 = k ∧ (404 * k + j) % 404 = j := ⟨by omega, by omega⟩
/-- a memory of the reference that says the state -/
abbrev rT (T : bM) (S : aT) : Prop := (∀ j, j < 404 → T 2 j = S.1 j) ∧ T 0 2 = 0 ∧ T 0 6 = nI S.2.1.length ∧ S.2.1.length ≤ 14 ∧ (∀ i x, S.2.1[i]? = some x → ∀ j, j < 404 → T 4 (404 * (S.2.1.length - 1 - i) + j) = x j) ∧ (∀ s, s < 2 → (S.2.2 s = none → T 6 s = 0) ∧ ∀ x, S.2.2 s = some x → T 6 s = 1 ∧ ∀ j, j < 404 → T 5 (404 * s + j) = x j)
theorem rT_mk {S : aT} (h : S.2.1.length ≤ 14) : rT (mkR S) S := by
  refine ⟨fun j _ => rfl, rfl, rfl, h, fun i x hi j hj => ?_, fun s _ => ⟨fun q => ?_, fun x q => ⟨?_, fun j hj => ?_⟩⟩⟩
  · have hl := (List.getElem?_eq_some_iff.mp hi).1
    obtain ⟨d1, d2⟩ := dm404 (k := S.2.1.length - 1 - i) hj
    rw [mkR_4, d1, d2, show S.2.1.length - 1 - (S.2.1.length - 1 - i) = i by omega, hi]
    rfl
  · rw [mkR_6, q]
  · rw [mkR_6, q]
  · obtain ⟨d1, d2⟩ := dm404 (k := s) hj
    rw [mkR_5, d1, d2, q]
    rfl
theorem sS_can {M T : bM} {S : aT} (hs : sS M T) (hr : rT T S) : sS M (mkR S) := by
  obtain ⟨a1, ⟨hch, z, hz, e1, e2, e3⟩, ⟨x, n, hx, hn, f1, f2, f3, f4⟩, a4, a5⟩ := hs
  obtain ⟨r2, r02, r06, rl, rh, rk⟩ := hr
  have z0 : z = 0 := nI_inj (a := z) (b := 0) (by omega) (by decide) (by rw [← e2, r02]; rfl)
  have n0 : n = S.2.1.length := nI_inj (by omega) (by omega) (by rw [← f3, r06])
  refine ⟨goodS_ext (r := T 2) (fun j hj => (r2 j hj).symm) a1, ⟨hch, z, hz, e1, by rw [z0]; rfl, fun i hi => absurd hi (by omega)⟩, ⟨x, n, hx, hn, f1, f2, by rw [n0]; rfl, fun i hi => goodS_ext (fun j hj => ?_) (f4 i hi)⟩, fun s hs2 => ?_, a5⟩
  · have hi' : S.2.1.length - 1 - i < S.2.1.length := by omega
    obtain ⟨d1, d2⟩ := dm404 (k := i) hj
    have hx' : S.2.1[S.2.1.length - 1 - i]? = some (S.2.1[S.2.1.length - 1 - i]'hi') := List.getElem?_eq_getElem hi'
    have := rh _ _ hx' j hj
    rw [show S.2.1.length - 1 - (S.2.1.length - 1 - i) = i by omega] at this
    show mkR S 4 (404 * i + j) = T 4 (404 * i + j)
    rw [mkR_4, d1, d2, hx', this]
    rfl
  · obtain ⟨b1, b2, b3⟩ := a4 s hs2
    obtain ⟨k1, k2⟩ := rk s hs2
    rw [mkR_6]
    cases hk : S.2.2 s with
    | none =>
      have := k1 hk
      exact ⟨by rw [b1, this], Or.inl rfl, fun q => absurd rfl q⟩
    | some x' =>
      obtain ⟨k3, k4⟩ := k2 x' hk
      refine ⟨by rw [b1, k3], Or.inr rfl, fun _ => goodS_ext (fun j hj => ?_) (b3 (by rw [k3]; decide))⟩
      obtain ⟨d1, d2⟩ := dm404 (k := s) hj
      show mkR S 5 (404 * s + j) = T 5 (404 * s + j)
      rw [mkR_5, d1, d2, hk, k4 j hj]
      rfl
/-- the class's memory says the state -/
abbrev rl (M : bM) (S : aT) : Prop := sS M (mkR S) ∧ S.2.1.length ≤ 14
theorem rl_can {M T : bM} {S : aT} (hs : sS M T) (hr : rT T S) : rl M S := ⟨sS_can hs hr, hr.2.2.2.1⟩
/-- calls that read -/
theorem rl_rd {M M' T : bM} {S : aT} (hs : rl M S) (h : sS M' T) (k1 : M' 1 = M 1) (k2 : M' 30 = M 30) (hr : ∀ a, a ≠ 0 → a ≠ 3 → a ≠ 7 → a ≠ 8 → T a = mkR S a) : rl M' S := by
  refine ⟨sS_fr (R := T) (fun _ _ _ => rfl) (fun a q0 q3 q7 q8 => (hr a q0 q3 q7 q8).symm) ?_ ?_ h, hs.2⟩
  · obtain ⟨_, z, hz, e1, e2, _⟩ := h.2.1
    obtain ⟨_, z', hz', e1', e2', _⟩ := hs.1.2.1
    rw [e2, e2', ← e1, ← e1', k1]
  · obtain ⟨_, n, _, hn, _, e1, e2, _⟩ := h.2.2.1
    obtain ⟨_, n', _, hn', _, e1', e2', _⟩ := hs.1.2.2.1
    rw [e2, e2', ← e1, ← e1', k2]
abbrev kp (M N : bM) : Prop := N 1 = M 1 ∧ N 30 = M 30
theorem kp_if {c : Prop} [Decidable c] {M : bM} {a b : Nat × Int32 × bM} (h1 : c → kp M a.2.2) (h2 : ¬ c → kp M b.2.2) : kp M (if c then a else b).2.2 := by
  by_cases h : c
  · rw [if_pos h]; exact h1 h
  · rw [if_neg h]; exact h2 h
theorem kp_pr {M N : bM} {e : Nat} {v : Int32} (h : kp M N) : kp M (e, v, N).2.2 := h
theorem kp_about {M : bM} {x1 : Int32} : kp M (f_X6_about M x1).2.2 := by
  rw [u_f_X6_about]
  dsimp only
  repeat' first | with_reducible refine kp_if (fun _ => ?_) (fun _ => ?_) | exact kp_pr ⟨rfl, rfl⟩
theorem kp_playerOf {M : bM} {x1 x2 : Int32} : kp M (f_X6_playerOf M x1 x2).2.2 := by
  rw [u_f_X6_playerOf]
  dsimp only
  repeat' first | with_reducible refine kp_if (fun _ => ?_) (fun _ => ?_) | exact kp_pr ⟨rfl, rfl⟩
theorem kp_cellOf {M : bM} {x1 x2 x3 : Int32} : kp M (f_X6_cellOf M x1 x2 x3).2.2 := by
  rw [u_f_X6_cellOf]
  dsimp only
  repeat' first | with_reducible refine kp_if (fun _ => ?_) (fun _ => ?_) | exact kp_pr ⟨rfl, rfl⟩
theorem kp_course {M : bM} {x1 x2 : Int32} : kp M (f_X6_course M x1 x2).2.2 := by
  rw [u_f_X6_course]
  dsimp only
  repeat' first | with_reducible refine kp_if (fun _ => ?_) (fun _ => ?_) | exact kp_pr ⟨rfl, rfl⟩
theorem kp_setting {M : bM} {x1 : Int32} : kp M (f_X6_setting M x1).2.2 := by
  rw [u_f_X6_setting]
  dsimp only
  repeat' first | with_reducible refine kp_if (fun _ => ?_) (fun _ => ?_) | exact kp_pr ⟨rfl, rfl⟩
theorem kp_why {M : bM} {x1 : Int32} : kp M (f_X6_why M x1).2.2 := by
  rw [u_f_X6_why]
  dsimp only
  repeat' first | with_reducible refine kp_if (fun _ => ?_) (fun _ => ?_) | exact kp_pr ⟨rfl, rfl⟩
theorem kp_whyDam {M : bM} {x1 x2 : Int32} : kp M (f_X6_whyDam M x1 x2).2.2 := by
  rw [u_f_X6_whyDam]
  dsimp only
  have f := fun (k : Nat) (q : k < 3 ∨ 3 + 10 ≤ k) (u : k < 23 ∨ 30 ≤ k ∨ k = 24) => fr_X0_reasonAgainstDam M 3 (f_X6_cellAt x1 x2) k q u
  generalize f_X0_reasonAgainstDam M 3 (f_X6_cellAt x1 x2) = A at *
  have h : kp M A.2 := ⟨f 1 (by omega) (by omega), f 30 (by omega) (by omega)⟩
  repeat' first | with_reducible refine kp_if (fun _ => ?_) (fun _ => ?_) | exact kp_pr ⟨rfl, rfl⟩ | exact kp_pr h
theorem kp_cheapest {M : bM} {x1 x2 : Int32} : kp M (f_X6_cheapest M x1 x2).2.2 := by
  rw [u_f_X6_cheapest]
  dsimp only
  have f0 := fun (k : Nat) (u : k < 23 ∨ 30 ≤ k ∨ k = 24) => fr_X5_openFree M 3 k u
  generalize f_X5_openFree M 3 = N at *
  generalize f_X2_head N (f_X0_sideOf M 3 x1) = hd at *
  have f1 := fun (k : Nat) (u : k < 23 ∨ 30 ≤ k ∨ k = 24) => fr_X5_cheapestCellFirst N (f_X0_sideOf M 3 x1 + 1) hd k u
  have f2 := fun (k : Nat) (u : k < 23 ∨ 30 ≤ k ∨ k = 24) => fr_X5_cheapestByRounds N (f_X0_sideOf M 3 x1 + 1) hd k u
  generalize f_X5_cheapestCellFirst N (f_X0_sideOf M 3 x1 + 1) hd = A at *
  generalize f_X5_cheapestByRounds N (f_X0_sideOf M 3 x1 + 1) hd = B at *
  have h1 : kp M A.2 := ⟨(f1 1 (by omega)).trans (f0 1 (by omega)), (f1 30 (by omega)).trans (f0 30 (by omega))⟩
  have h2 : kp M B.2 := ⟨(f2 1 (by omega)).trans (f0 1 (by omega)), (f2 30 (by omega)).trans (f0 30 (by omega))⟩
  repeat' first | with_reducible refine kp_if (fun _ => ?_) (fun _ => ?_) | exact kp_pr ⟨rfl, rfl⟩ | exact kp_pr h1 | exact kp_pr h2
theorem kp_meetsIn {M : bM} {x1 : Int32} : kp M (f_X6_meetsIn M x1).2.2 := by
  rw [u_f_X6_meetsIn]
  dsimp only
  have f := fun (k : Nat) (u : k < 23 ∨ 30 ≤ k ∨ k = 24) => fr_X5_stepsToMeet M 3 x1 k u
  generalize f_X5_stepsToMeet M 3 x1 = A at *
  have h : kp M A.2 := ⟨f 1 (by omega), f 30 (by omega)⟩
  repeat' first | with_reducible refine kp_if (fun _ => ?_) (fun _ => ?_) | exact kp_pr ⟨rfl, rfl⟩ | exact kp_pr h
theorem kp_best {M : bM} : kp M (f_X6_best M).2 := by
  rw [u_f_X6_best]
  exact ⟨fr_X5_bestStep M 3 1 (by omega), fr_X5_bestStep M 3 30 (by omega)⟩
theorem kp_least {M : bM} : kp M (f_X6_leastWished M).2 := by
  rw [u_f_X6_leastWished]
  dsimp only
  exact ⟨fr_X5_dearestForBoth M 3 1 (by omega), fr_X5_dearestForBoth M 3 30 (by omega)⟩
theorem kp_simulate {M R : bM} {x1 : Int64} {x2 : Int32} (hs : sS M R) : kp M (f_X6_simulate M x1 x2).2.2 := by
  rw [u_f_X6_simulate]
  dsimp only
  obtain ⟨t, f1, f2, f3⟩ := trial_0 hs
  generalize f_X0_copyFrom M 13 3 = C at *
  generalize f_X7_copyState (up2 R 0 0 0) 2 404 0 3 404 0 = T at *
  have l := sim_loop x2.toNatClampNeg 0 x1 0 C T t
  generalize lp_X6_simulate_52 x2.toNatClampNeg 0 x1 0 C = A at *
  have h : kp M A.2.2 := ⟨(l.2.2.1 1 (by omega) (by omega)).trans (f1 1 (by omega)), (l.2.2.1 30 (by omega) (by omega)).trans (f1 30 (by omega))⟩
  repeat' first | with_reducible refine kp_if (fun _ => ?_) (fun _ => ?_) | exact kp_pr ⟨rfl, rfl⟩ | exact kp_pr h
/-! the reference's readers keep the rows -/
abbrev rdT (R T : bM) : Prop := ∀ a, a ≠ 0 → a ≠ 3 → a ≠ 7 → a ≠ 8 → T a = R a
theorem rdT_ref {R : bM} {v : Int32} : rdT R (up2 R 0 0 v) := fun a q _ _ _ => up2_row q
theorem rdT_if {c : Prop} [Decidable c] {R : bM} {a b : Int32 × bM} (h1 : c → rdT R a.2) (h2 : ¬ c → rdT R b.2) : rdT R (if c then a else b).2 := by
  by_cases h : c
  · rw [if_pos h]; exact h1 h
  · rw [if_neg h]; exact h2 h
theorem rdT_pr {R T : bM} {v : Int32} (h : rdT R T) : rdT R (v, T).2 := h
theorem rd_about {R : bM} {x1 : Int32} : rdT R (f_X7_about R x1).2 := by
  rw [u_f_X7_about]
  dsimp only
  rw [ref_e, ref_e]
  repeat' first | with_reducible refine rdT_if (fun _ => ?_) (fun _ => ?_) | exact rdT_pr rdT_ref
theorem rd_playerOf {R : bM} {x1 x2 : Int32} : rdT R (f_X7_playerOf R x1 x2).2 := by
  rw [u_f_X7_playerOf]
  dsimp only
  rw [ref_e, ref_e, ref_e]
  repeat' first | with_reducible refine rdT_if (fun _ => ?_) (fun _ => ?_) | exact rdT_pr rdT_ref
theorem rd_cellOf {R : bM} {x1 x2 x3 : Int32} : rdT R (f_X7_cellOf R x1 x2 x3).2 := by
  rw [u_f_X7_cellOf]
  dsimp only
  rw [ref_e, ref_e, ref_e]
  repeat' first | with_reducible refine rdT_if (fun _ => ?_) (fun _ => ?_) | exact rdT_pr rdT_ref
theorem rd_setting {R : bM} {x1 : Int32} : rdT R (f_X7_setting R x1).2 := by
  rw [u_f_X7_setting]
  dsimp only
  rw [ref_e, ref_e]
  repeat' first | with_reducible refine rdT_if (fun _ => ?_) (fun _ => ?_) | exact rdT_pr rdT_ref
theorem rd_whyDam {R : bM} {x1 x2 : Int32} : rdT R (f_X7_whyDam R x1 x2).2 := by
  rw [u_f_X7_whyDam]
  dsimp only
  rw [ref_e, ref_e]
  refine rdT_if (fun _ => rdT_pr rdT_ref) (fun c => rdT_if (fun _ => rdT_pr rdT_ref) (fun _ => ?_))
  obtain ⟨x, hx, e⟩ := cell_nI c
  rw [e]
  have h2 := (damReason_row (M := up2 R 0 0 0) (k := 2) (by decide) hx).1
  have fR := fun a (q : a ≠ 2) (q7 : a ≠ 7) => fr_X7_damReason (up2 R 0 0 0) 2 (nI x) a q q7
  refine rdT_pr (fun a q0 q3 q7 q8 => ?_)
  by_cases e2 : a = 2
  · rw [e2, h2]; exact up2_row (by decide)
  · rw [fR a e2 q7]; exact up2_row q0
/-! acts: what they lay down -/
def actS (S : aT) (T : bM) : aT := if T 0 0 = 0 then (T 2, (S.1 :: S.2.1).take 14, S.2.2) else S
abbrev dn (S : aT) (T : bM) : Prop := rT T (actS S T)
theorem dn_if {c : Prop} [Decidable c] {S : aT} {a b : Int32 × bM} (h1 : c → dn S a.2) (h2 : ¬ c → dn S b.2) : dn S (if c then a else b).2 := by
  by_cases h : c
  · rw [if_pos h]; exact h1 h
  · rw [if_neg h]; exact h2 h
theorem dn_pr {S : aT} {T : bM} {v : Int32} (h : dn S T) : dn S (v, T).2 := h
theorem rT_ref {S : aT} {T : bM} {v : Int32} (h : rT T S) : rT (up2 T 0 0 v) S := by
  obtain ⟨r2, r02, r06, rl, rh, rk⟩ := h
  rw [show rT (up2 T 0 0 v) S = rT (up2 T 0 0 v) S from rfl]
  refine ⟨fun j hj => by rw [up2_row (by decide)]; exact r2 j hj, by rw [up2_at, if_neg (by decide)]; exact r02, by rw [up2_at, if_neg (by decide)]; exact r06, rl, fun i x hi j hj => by rw [up2_row (by decide)]; exact rh i x hi j hj, fun s hs => ?_⟩
  rw [up2_row (show (6 : Nat) ≠ 0 by decide), up2_row (show (5 : Nat) ≠ 0 by decide)]
  exact rk s hs
theorem dn_no {S : aT} (h : S.2.1.length ≤ 14) {v : Int32} (hv : v ≠ 0) : dn S (up2 (mkR S) 0 0 v) := by
  show rT _ (actS S _)
  unfold actS
  rw [if_neg (by rw [ref_00]; exact hv)]
  exact rT_ref (rT_mk h)
theorem rT_rem {S : aT} {T : bM} (hl : S.2.1.length ≤ 14) (h : ∀ a, a ≠ 2 → a ≠ 7 → T a = f_X7_remember (up2 (mkR S) 0 0 0) a) : rT T (T 2, (S.1 :: S.2.1).take 14, S.2.2) := by
  obtain ⟨q1, q2, q3, q4⟩ := remR (R := up2 (mkR S) 0 0 0) hl (by rw [up2_at, if_neg (by decide)]; rfl)
  have hlen : ((S.1 :: S.2.1).take 14).length = if S.2.1.length = 14 then 14 else S.2.1.length + 1 := by
    rw [List.length_take, List.length_cons]
    split <;> omega
  refine ⟨fun _ _ => rfl, ?_, ?_, ?_, ?_, ?_⟩
  · rw [h 0 (by decide) (by decide), q2 2 (by decide), up2_at, if_neg (by decide)]; rfl
  · rw [h 0 (by decide) (by decide), q3, hlen]
  · show ((S.1 :: S.2.1).take 14).length ≤ 14
    rw [hlen]; split <;> omega
  · show ∀ i x, ((S.1 :: S.2.1).take 14)[i]? = some x → ∀ j, j < 404 → T 4 (404 * (((S.1 :: S.2.1).take 14).length - 1 - i) + j) = x j
    intro i x hi j hj
    have hil := (List.getElem?_eq_some_iff.mp hi).1
    rw [hlen] at hil
    rw [hlen, h 4 (by decide) (by decide), q4 _ j hj (by omega)]
    have hx : (S.1 :: S.2.1)[i]? = some x := by
      rw [List.getElem?_take] at hi
      split at hi
      · exact hi
      · cases hi
    have h4 : ∀ t, up2 (mkR S) 0 0 0 4 t = mkR S 4 t := fun t => by rw [up2_row (by decide)]
    rcases Nat.eq_zero_or_pos i with e | e
    · subst e
      rw [List.getElem?_cons_zero] at hx
      cases hx
      rw [if_pos (by omega), up2_row (by decide)]
      rfl
    · obtain ⟨i', rfl⟩ : ∃ i', i = i' + 1 := ⟨i - 1, by omega⟩
      rw [List.getElem?_cons_succ] at hx
      have hmk := (rT_mk hl).2.2.2.2.1 i' x hx j hj
      rw [if_neg (by omega)]
      by_cases c : S.2.1.length = 14
      · rw [if_pos c, h4]
        rw [c] at hmk hil
        rw [if_pos c]
        rw [← hmk]
        rw [if_pos rfl] at hil
        congr 1
        omega
      · rw [if_neg c, h4]
        rw [if_neg c] at hil
        rw [if_neg c, ← hmk]
        congr 1
        omega
  · intro s hs
    have := (rT_mk hl).2.2.2.2.2 s hs
    rw [h 6 (by decide) (by decide), h 5 (by decide) (by decide), q1 6 (by decide) (by decide), q1 5 (by decide) (by decide), up2_row (show (6 : Nat) ≠ 0 by decide), up2_row (show (5 : Nat) ≠ 0 by decide)]
    exact this
theorem dn_rem {S : aT} {T : bM} (hl : S.2.1.length ≤ 14) (h : ∀ a, a ≠ 2 → a ≠ 7 → T a = f_X7_remember (up2 (mkR S) 0 0 0) a) : dn S T := by
  show rT T (actS S T)
  have h0 : T 0 0 = 0 := by
    rw [h 0 (by decide) (by decide), (remR (R := up2 (mkR S) 0 0 0) hl (by rw [up2_at, if_neg (by decide)]; rfl)).2.1 0 (by decide)]
    exact ref_00
  unfold actS
  rw [if_pos h0]
  exact rT_rem hl h
theorem dn_game {S : aT} (hl : S.2.1.length ≤ 14) {x1 : Int64} : dn S (f_X7_game (mkR S) x1).2 := by
  rw [u_f_X7_game]
  exact dn_rem hl (fun a q q7 => fr_X7_gameOn _ 2 x1 a q)
theorem dn_step {S : aT} (hl : S.2.1.length ≤ 14) {x1 : Int32} : dn S (f_X7_step (mkR S) x1).2 := by
  rw [u_f_X7_step]
  dsimp only
  rw [ref_e, ref_e, ref_e]
  exact dn_if (fun _ => dn_pr (dn_no hl (by decide))) (fun _ => dn_if (fun _ => dn_pr (dn_no hl (by decide))) (fun _ => dn_pr (dn_rem hl (fun a q q7 => fr_X7_stepOn _ 2 x1 a q))))
theorem dn_dam {S : aT} (hl : S.2.1.length ≤ 14) {x1 x2 : Int32} : dn S (f_X7_dam (mkR S) x1 x2).2 := by
  rw [u_f_X7_dam]
  dsimp only
  rw [ref_e, ref_e, ref_e]
  exact dn_if (fun _ => dn_pr (dn_no hl (by decide))) (fun _ => dn_if (fun _ => dn_pr (dn_no hl (by decide))) (fun _ => dn_pr (dn_rem hl (fun a q q7 => fr_X7_damOn _ 2 _ a q q7))))
theorem dn_flood {S : aT} (hl : S.2.1.length ≤ 14) : dn S (f_X7_flood (mkR S)).2 := by
  rw [u_f_X7_flood]
  dsimp only
  rw [ref_e, ref_e]
  exact dn_if (fun _ => dn_pr (dn_no hl (by decide))) (fun _ => dn_if (fun _ => dn_pr (dn_rem hl (fun a q q7 => fr_X7_floodOn _ 2 a q))) (fun _ => dn_pr (dn_no hl (by decide))))
theorem dn_set {S : aT} (hl : S.2.1.length ≤ 14) {x1 x2 : Int32} : dn S (f_X7_set (mkR S) x1 x2).2 := by
  rw [u_f_X7_set]
  dsimp only
  rw [ref_e, ref_e]
  exact dn_if (fun _ => dn_pr (dn_no hl (by decide))) (fun _ => dn_pr (dn_rem hl (fun a q q7 => fr_X7_change _ 2 x1 x2 a q)))
/-! undo, save, restore -/
def undoS (S : aT) : aT := match S.2.1 with
  | [] => S
  | x :: L => (x, L, S.2.2)
theorem rT_undo {S : aT} (hl : S.2.1.length ≤ 14) : rT (f_X7_undo (mkR S)).2 (undoS S) := by
  obtain ⟨r, L, k⟩ := S
  rw [u_f_X7_undo]
  dsimp only
  rw [ref_e, ref_e]
  have h6 : mkR (r, L, k) 0 6 = nI L.length := rfl
  rw [h6]
  have hl : L.length ≤ 14 := hl
  cases L with
  | nil =>
    rw [if_pos (show nI ([] : List (Nat → Int32)).length = 0 from rfl)]
    exact rT_ref (rT_mk (S := (r, [], k)) hl)
  | cons x L =>
    have hn : (x :: L).length = L.length + 1 := rfl
    rw [hn] at hl h6 ⊢
    have e06 : up2 (mkR (r, x :: L, k)) 0 0 0 0 6 = nI (L.length + 1) := by rw [up2_at, if_neg (by decide)]; exact h6
    have en1 : nI (L.length + 1) - 1 = nI L.length := by rw [show (1 : Int32) = nI 1 from rfl, pk_sub (by omega), show L.length + 1 - 1 = L.length by omega]
    rw [if_neg (show ¬ nI (L.length + 1) = 0 from fun q => absurd (nI_inj (a := L.length + 1) (b := 0) (by omega) (by decide) q) (by omega)), e06, en1]
    have e06' : up2 (up2 (mkR (r, x :: L, k)) 0 0 0) 0 6 (nI L.length) 0 6 = nI L.length := by rw [up2_at, if_pos rfl]
    rw [e06', idx404]
    have hmk := rT_mk (S := (r, x :: L, k)) hl
    have cs := fun j => cs_at (M := up2 (up2 (mkR (r, x :: L, k)) 0 0 0) 0 6 (nI L.length)) (k1 := 4) (n1 := 5656) (k3 := 2) (n3 := 404) (a := 404 * L.length) (b := 0) (by decide) (by omega) (by decide) j
    have fR := fun k' (hk : k' ≠ 2) => fr_X7_copyState (up2 (up2 (mkR (r, x :: L, k)) 0 0 0) 0 6 (nI L.length)) 4 5656 (nI (404 * L.length)) 2 404 0 k' hk
    rw [show (nI 0 : Int32) = 0 from rfl] at cs
    generalize f_X7_copyState (up2 (up2 (mkR (r, x :: L, k)) 0 0 0) 0 6 (nI L.length)) 4 5656 (nI (404 * L.length)) 2 404 0 = T at *
    have rr : ∀ a, a ≠ 0 → a ≠ 2 → T a = mkR (r, x :: L, k) a := fun a q q2 => (fR a q2).trans ((up2_row q).trans (up2_row q))
    have r0 : T 0 = up2 (up2 (mkR (r, x :: L, k)) 0 0 0) 0 6 (nI L.length) 0 := fR 0 (by decide)
    show rT T (x, L, k)
    refine ⟨fun j hj => ?_, ?_, ?_, by show L.length ≤ 14; omega, fun i y hi j hj => ?_, fun s hs => ?_⟩
    · show T 2 j = x j
      rw [cs j, if_pos (by omega), up2_row (show (4 : Nat) ≠ 0 by decide), up2_row (show (4 : Nat) ≠ 0 by decide), Nat.sub_zero]
      have := hmk.2.2.2.2.1 0 x rfl j hj
      rw [show (r, x :: L, k).2.1.length - 1 - 0 = L.length by show L.length + 1 - 1 - 0 = L.length; omega] at this
      exact this
    · rw [r0, up2_at, if_neg (show ¬ (2 : Nat) = 6 by decide), up2_at, if_neg (show ¬ (2 : Nat) = 0 by decide)]; rfl
    · show T 0 6 = nI L.length
      rw [r0, up2_at, if_pos rfl]
    · show T 4 (404 * (L.length - 1 - i) + j) = y j
      rw [rr 4 (by decide) (by decide)]
      have := hmk.2.2.2.2.1 (i + 1) y (by rw [show (r, x :: L, k).2.1 = x :: L from rfl, List.getElem?_cons_succ]; exact hi) j hj
      rw [show (r, x :: L, k).2.1.length - 1 - (i + 1) = L.length - 1 - i by show L.length + 1 - 1 - (i + 1) = L.length - 1 - i; omega] at this
      exact this
    · rw [rr 6 (by decide) (by decide), rr 5 (by decide) (by decide)]
      exact hmk.2.2.2.2.2 s hs
theorem in2 {x : Int32} : vp_in x 2 ↔ (0 ≤ x.toInt ∧ x.toInt < 2) := vp_in_iff
def saveS (S : aT) (x : Int32) : aT := if 0 ≤ x.toInt ∧ x.toInt < 2 then (S.1, S.2.1, fun s => if s = x.toNatClampNeg then some S.1 else S.2.2 s) else S
theorem saveS_nI {S : aT} {s : Nat} (hs : s < 2) : saveS S (nI s) = (S.1, S.2.1, fun t => if t = s then some S.1 else S.2.2 t) := by
  unfold saveS
  rw [if_pos (in2.mp (vp_in_nI hs (by decide))), nI_clamp (by omega)]
theorem rT_save {S : aT} (hl : S.2.1.length ≤ 14) {x1 : Int32} : rT (f_X7_save (mkR S) x1).2 (saveS S x1) := by
  rw [u_f_X7_save]
  dsimp only
  rw [ref_e, ref_e]
  have i1 := in_small (x := x1) (n := 1) (hi := 1) (by decide) (by decide)
  by_cases hp : vp_in x1 2
  · obtain ⟨s, hs2, rfl⟩ := vp_in_of hp (by decide)
    rw [if_neg (i1.mpr hp), idx404, nI_clamp (by omega), saveS_nI hs2]
    have cs := fun j => cs_at (M := up2 (mkR S) 0 0 0) (k1 := 2) (n1 := 404) (k3 := 5) (n3 := 808) (a := 0) (b := 404 * s) (by decide) (by decide) (by omega) j
    have fR := fun k (hk : k ≠ 5) => fr_X7_copyState (up2 (mkR S) 0 0 0) 2 404 0 5 808 (nI (404 * s)) k hk
    rw [show (nI 0 : Int32) = 0 from rfl] at cs
    generalize f_X7_copyState (up2 (mkR S) 0 0 0) 2 404 0 5 808 (nI (404 * s)) = T at *
    have hmk := rT_mk hl
    show rT (up2 T 6 s 1) _
    have rr : ∀ a, a ≠ 0 → a ≠ 5 → a ≠ 6 → up2 T 6 s 1 a = mkR S a := fun a q q5 q6 => (up2_row q6).trans ((fR a q5).trans (up2_row q))
    have r5 : up2 T 6 s 1 5 = T 5 := up2_row (by decide)
    have r6 : ∀ j, up2 T 6 s 1 6 j = if j = s then 1 else mkR S 6 j := fun j => by rw [up2_at, fR 6 (by decide), up2_row (by decide)]
    have r0 : up2 T 6 s 1 0 = up2 (mkR S) 0 0 0 0 := (up2_row (by decide)).trans (fR 0 (by decide))
    generalize up2 T 6 s 1 = U at *
    refine ⟨fun j hj => by rw [rr 2 (by decide) (by decide) (by decide)]; rfl, by rw [r0, up2_at, if_neg (by decide)]; rfl, by rw [r0, up2_at, if_neg (by decide)]; rfl, hl, fun i x hi j hj => by rw [rr 4 (by decide) (by decide) (by decide)]; exact hmk.2.2.2.2.1 i x hi j hj, fun t ht => ?_⟩
    show ((if t = s then some S.1 else S.2.2 t) = none → U 6 t = 0) ∧ ∀ x, (if t = s then some S.1 else S.2.2 t) = some x → U 6 t = 1 ∧ ∀ j, j < 404 → U 5 (404 * t + j) = x j
    by_cases e : t = s
    · subst e
      have hk : (if t = t then some S.1 else S.2.2 t) = some S.1 := if_pos rfl
      have hu : U 6 t = 1 := by rw [r6, if_pos rfl]
      rw [hk, hu]
      refine ⟨fun q => (Option.some_ne_none _ q).elim, fun x q => ⟨rfl, fun j hj => ?_⟩⟩
      cases q
      rw [r5, cs, if_pos (by omega), up2_row (by decide), Nat.zero_add, show 404 * t + j - 404 * t = j by omega]
      rfl
    · rw [if_neg e, r6, if_neg e]
      obtain ⟨k1, k2⟩ := hmk.2.2.2.2.2 t ht
      refine ⟨k1, fun x q => ⟨(k2 x q).1, fun j hj => ?_⟩⟩
      rw [r5, cs, if_neg (by omega), up2_row (by decide)]
      exact (k2 x q).2 j hj
  · rw [if_pos (show f_X7_in x1.toInt64 0 1 = 0 from Classical.byContradiction (fun z => hp (i1.mp z)))]
    unfold saveS
    rw [if_neg (fun q => hp (in2.mpr q))]
    exact rT_ref (rT_mk hl)
def restS (S : aT) (x : Int32) : aT := if 0 ≤ x.toInt ∧ x.toInt < 2 then (match S.2.2 x.toNatClampNeg with
  | some r => (r, [], S.2.2)
  | none => S) else S
theorem restS_nI {S : aT} {s : Nat} (hs : s < 2) : restS S (nI s) = match S.2.2 s with
  | some r => (r, [], S.2.2)
  | none => S := by
  unfold restS
  rw [if_pos (in2.mp (vp_in_nI hs (by decide))), nI_clamp (by omega)]
theorem rT_rest {S : aT} (hl : S.2.1.length ≤ 14) {x1 : Int32} : rT (f_X7_restore (mkR S) x1).2 (restS S x1) := by
  rw [u_f_X7_restore]
  dsimp only
  rw [ref_e, ref_e, ref_e]
  have i1 := in_small (x := x1) (n := 1) (hi := 1) (by decide) (by decide)
  by_cases hp : vp_in x1 2
  · obtain ⟨s, hs2, rfl⟩ := vp_in_of hp (by decide)
    rw [if_neg (i1.mpr hp), idx404, nI_clamp (by omega), restS_nI hs2]
    have hmk := rT_mk hl
    obtain ⟨k1, k2⟩ := hmk.2.2.2.2.2 s hs2
    cases hk : S.2.2 s with
    | none =>
      rw [if_pos (k1 hk)]
      exact rT_ref hmk
    | some y =>
      obtain ⟨k3, k4⟩ := k2 y hk
      rw [if_neg (by rw [k3]; decide)]
      have cs := fun j => cs_at (M := up2 (mkR S) 0 0 0) (k1 := 5) (n1 := 808) (k3 := 2) (n3 := 404) (a := 404 * s) (b := 0) (by decide) (by omega) (by decide) j
      have fR := fun k (hk : k ≠ 2) => fr_X7_copyState (up2 (mkR S) 0 0 0) 5 808 (nI (404 * s)) 2 404 0 k hk
      rw [show (nI 0 : Int32) = 0 from rfl] at cs
      generalize f_X7_copyState (up2 (mkR S) 0 0 0) 5 808 (nI (404 * s)) 2 404 0 = T at *
      show rT (up2 T 0 6 0) (y, [], S.2.2)
      have rr : ∀ a, a ≠ 0 → a ≠ 2 → up2 T 0 6 0 a = mkR S a := fun a q q2 => (up2_row q).trans ((fR a q2).trans (up2_row q))
      have r2 : up2 T 0 6 0 2 = T 2 := up2_row (by decide)
      have r0 : ∀ j, up2 T 0 6 0 0 j = if j = 6 then 0 else up2 (mkR S) 0 0 0 0 j := fun j => by rw [up2_at, fR 0 (by decide)]
      generalize up2 T 0 6 0 = U at *
      refine ⟨fun j hj => ?_, by rw [r0, if_neg (by decide), up2_at, if_neg (by decide)]; rfl, by rw [r0, if_pos rfl]; rfl, by show (0 : Nat) ≤ 14; decide, fun i x hi j hj => ?_, fun t ht => ?_⟩
      · show U 2 j = y j
        rw [r2, cs, if_pos (by omega), up2_row (by decide), Nat.sub_zero]
        exact k4 j hj
      · have hi : ([] : List (Nat → Int32))[i]? = some x := hi
        simp at hi
      · rw [rr 6 (by decide) (by decide), rr 5 (by decide) (by decide)]
        exact hmk.2.2.2.2.2 t ht
  · rw [if_pos (show f_X7_in x1.toInt64 0 1 = 0 from Classical.byContradiction (fun z => hp (i1.mp z)))]
    unfold restS
    rw [if_neg (fun q => hp (in2.mpr q))]
    exact rT_ref (rT_mk hl)
