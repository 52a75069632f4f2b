/-! THE TEXT: a command on both sides, the whole text, errorPosition and load -/
theorem cm_A {t : Nat → Nat} {z : Nat} {k : Bool × Nat} {S : bM} {A A' : bM → Int32 × bM} {B : Int32 × bM} (h : cmO t z k S A' B) (e : k.1 = false → ∀ M, txC M t z → A M = A' M) : cmO t z k S A B := by
  obtain ⟨h1, h2, h3, h4, h5⟩ := h
  refine ⟨h1, h2, h3, h4, fun q M V hx ht hv hV => ?_⟩
  rw [e q M hx]
  exact h5 q M V hx ht hv hV
theorem dg_at {M : bM} {t : Nat → Nat} {z s o : Nat} (h : txC M t z) (ho : s + o < z) (hd : 48 ≤ t (s + o)) : f_X4_digitAt M (nI s + nI o) = nI (t (s + o) - 48) := by
  rw [nI_add, dig_in h ho, dig_v hd]
theorem nu_at {M : bM} {t : Nat → Nat} {z p : Nat} (h : txC M t z) (ho : p + 1 < z) (hd : 48 ≤ t p) (hd1 : 48 ≤ t (p + 1)) : f_X4_numberAt M (nI p) = nI ((t p - 48) * 10 + (t (p + 1) - 48)) := by
  rw [u_f_X4_numberAt]
  dsimp only
  rw [nI_1, dig_in h (by omega), dig_in h ho, dig_v hd, dig_v hd1, show (10 : Int32) = nI 10 from rfl, pk_mul, nI_add, Nat.mul_comm]
theorem rc_all {R : bM} {t : Nat → Nat} {z s : Nat} (hR : txA R t z) (hp : R 0 11 = nI s) (hs : s < z) : cmO t z (ckT t z s) R (fun M => f_X6_doTextCommand M (nI s)) (f_X7_readCommand R 3) := by
  have hz := hR.1
  obtain ⟨e, h256⟩ := hR.2.2 s hs
  have hq : ∀ c : Nat, c < 256 → (nI (t s) = nI c ↔ t s = c) := fun c hc => nI_eq (by omega) (by omega)
  have q1 : nI (t s) = 98 ↔ t s = 98 := hq 98 (by decide)
  have q2 : nI (t s) = 100 ↔ t s = 100 := hq 100 (by decide)
  have q3 : nI (t s) = 101 ↔ t s = 101 := hq 101 (by decide)
  have q4 : nI (t s) = 102 ↔ t s = 102 := hq 102 (by decide)
  have q5 : nI (t s) = 110 ↔ t s = 110 := hq 110 (by decide)
  have q6 : nI (t s) = 115 ↔ t s = 115 := hq 115 (by decide)
  have q7 : nI (t s) = 118 ↔ t s = 118 := hq 118 (by decide)
  have q8 : nI (t s) = 119 ↔ t s = 119 := hq 119 (by decide)
  have hA : ∀ M, txC M t z → f_X4_signAt M (nI s) = nI (t s) := fun M hx => signAt_in hx hs
  have hS : txA (up2 R 0 11 (nI (s + 1))) t z := txA_11 hR
  rw [u_f_X7_readCommand, hp, nI_clamp (by omega), e, nI_1]
  dsimp only
  by_cases c1 : t s = 98
  · rw [if_pos (q1.mpr c1), ck98 c1]
    refine cm_move (cm_A (rd_best up2_11) (fun _ M hx => ?_))
    show f_X6_doTextCommand M (nI s) = _
    rw [u_f_X6_doTextCommand]
    dsimp only
    rw [hA M hx, if_pos (q1.mpr c1)]
    try rfl
  rw [if_neg (fun q => c1 (q1.mp q))]
  by_cases c2 : t s = 100
  · rw [if_pos (q2.mpr c2), ck100 c2]
    refine cm_move (cm_A (rd_dam hS up2_11 (by omega)) (fun hk M hx => ?_))
    obtain ⟨a1, a2, a3, a4⟩ := nx_f hk
    rw [a4] at hk
    obtain ⟨b1, b2, b3, _⟩ := nx_f hk
    have x1 := cAt_all ⟨t (s + 1) - 48, by omega⟩ ⟨t (s + 2) - 48, by omega⟩
    dsimp only at x1
    show f_X6_doTextCommand M (nI s) = _
    rw [u_f_X6_doTextCommand]
    dsimp only
    rw [hA M hx, if_neg (fun q => c1 (q1.mp q)), if_pos (q2.mpr c2), show (1 : Int32) = nI 1 from rfl, show (2 : Int32) = nI 2 from rfl, dg_at hx a1 a2, dg_at hx b1 b2, x1, Nat.add_comm (t (s + 1) - 48)]
    try rfl
  rw [if_neg (fun q => c2 (q2.mp q))]
  by_cases c3 : t s = 101
  · rw [if_pos (q3.mpr c3), ck101 c3]
    refine cm_move (cm_A (rd_step (j := 1) up2_11 (by decide)) (fun _ M hx => ?_))
    show f_X6_doTextCommand M (nI s) = _
    rw [u_f_X6_doTextCommand]
    dsimp only
    rw [hA M hx, if_neg (fun q => c1 (q1.mp q)), if_neg (fun q => c2 (q2.mp q)), if_pos (q3.mpr c3)]
    rfl
  rw [if_neg (fun q => c3 (q3.mp q))]
  by_cases c4 : t s = 102
  · rw [if_pos (q4.mpr c4), ck102 c4]
    refine cm_move (cm_A (rd_flood up2_11) (fun _ M hx => ?_))
    show f_X6_doTextCommand M (nI s) = _
    rw [u_f_X6_doTextCommand]
    dsimp only
    rw [hA M hx, if_neg (fun q => c1 (q1.mp q)), if_neg (fun q => c2 (q2.mp q)), if_neg (fun q => c3 (q3.mp q)), if_pos (q4.mpr c4)]
    try rfl
  rw [if_neg (fun q => c4 (q4.mp q))]
  by_cases c5 : t s = 110
  · rw [if_pos (q5.mpr c5), ck110 c5]
    have ef : f_X7_figures (up2 R 0 11 (nI (s + 1))) 0 2 0 99 = _ := fig2 (lo := 0) (hi := 99) hS up2_11 (by omega) (by decide) (by decide) (by decide)
    rw [ef, done_if, done_if]
    by_cases d1 : s + 1 < z ∧ 48 ≤ t (s + 1) ∧ t (s + 1) ≤ 57 ∧ (t (s + 1) - 48) * 10 ≤ 99
    · rw [if_pos d1, nx_yes (t := t) (z := z) (p := s + 1) (lo := 48) (hi := 57) ⟨d1.1, d1.2.1, d1.2.2.1⟩]
      by_cases d2 : s + 1 + 1 < z ∧ 48 ≤ t (s + 1 + 1) ∧ t (s + 1 + 1) ≤ 57 ∧ 0 ≤ (t (s + 1) - 48) * 10 + (t (s + 1 + 1) - 48) ∧ (t (s + 1) - 48) * 10 + (t (s + 1 + 1) - 48) ≤ 99
      · rw [if_pos d2, nx_yes (t := t) (z := z) (p := s + 2) (lo := 48) (hi := 57) ⟨d2.1, d2.2.1, d2.2.2.1⟩, up2_11s]
        dsimp only
        rw [if_neg (nI_ne_m1 (by omega)), up2_11s]
        have key : cmO t z (false, s + 3) (up2 R 0 11 (nI (s + 1 + 2))) (fun M => (1, f_X0_beginGame M 3 (nI ((t (s + 1) - 48) * 10 + (t (s + 1 + 1) - 48))).toInt64)) (gmX (up2 R 0 11 (nI (s + 1 + 2))) (nI ((t (s + 1) - 48) * 10 + (t (s + 1 + 1) - 48)))) := rd_gmX up2_11
        unfold gmX at key
        have hA2 : ∀ M, txC M t z → f_X6_doTextCommand M (nI s) = (1, f_X0_beginGame M 3 (nI ((t (s + 1) - 48) * 10 + (t (s + 1 + 1) - 48))).toInt64) := fun M hx => by
          rw [u_f_X6_doTextCommand]
          dsimp only
          rw [hA M hx, if_neg (fun q => c1 (q1.mp q)), if_neg (fun q => c2 (q2.mp q)), if_neg (fun q => c3 (q3.mp q)), if_neg (fun q => c4 (q4.mp q)), if_pos (q5.mpr c5), nI_1, nu_at hx d2.1 d1.2.1 d2.2.1]
        by_cases w : (f_X7_gameOn (up2 R 0 11 (nI (s + 1 + 2))) 3 (nI ((t (s + 1) - 48) * 10 + (t (s + 1 + 1) - 48))).toInt64).1 ≤ 0
        · rw [if_pos w] at key
          rw [if_pos w]
          exact cm_move (cm_A key (fun _ M hx => hA2 M hx))
        · rw [if_neg w] at key
          rw [if_neg w]
          exact cm_move (cm_A key (fun _ M hx => hA2 M hx))
      · rw [if_neg d2, nx_no (t := t) (z := z) (p := s + 2) (lo := 48) (hi := 57) (by omega) (fun q => d2 ⟨q.1, q.2.1, q.2.2, by omega, by have := q.2.2; show (t (s + 1) - 48) * 10 + (t (s + 2) - 48) ≤ 99; omega⟩)]
        dsimp only
        rw [if_pos rfl, up2_11s]
        exact cm_move (cm_stop up2_11)
    · rw [if_neg d1, nx_no (t := t) (z := z) (p := s + 1) (lo := 48) (hi := 57) (by omega) (fun q => d1 ⟨q.1, q.2.1, q.2.2, by omega⟩)]
      dsimp only
      rw [if_pos rfl]
      exact cm_move (cm_stop up2_11)
  rw [if_neg (fun q => c5 (q5.mp q))]
  by_cases c6 : t s = 115
  · rw [if_pos (q6.mpr c6), ck115 c6]
    refine cm_move (cm_A (rd_step (j := 0) up2_11 (by decide)) (fun _ M hx => ?_))
    show f_X6_doTextCommand M (nI s) = _
    rw [u_f_X6_doTextCommand]
    dsimp only
    rw [hA M hx, if_neg (fun q => c1 (q1.mp q)), if_neg (fun q => c2 (q2.mp q)), if_neg (fun q => c3 (q3.mp q)), if_neg (fun q => c4 (q4.mp q)), if_neg (fun q => c5 (q5.mp q)), if_pos (q6.mpr c6)]
    rfl
  rw [if_neg (fun q => c6 (q6.mp q))]
  by_cases c7 : t s = 118
  · rw [if_pos (q7.mpr c7), ck118 c7]
    have ef : f_X7_figures (up2 R 0 11 (nI (s + 1))) 0 1 0 1 = _ := fig1 (h := 1) hS up2_11 (by omega) (by decide) (by decide)
    rw [ef, done_if, done_if, done_if]
    by_cases d1 : s + 1 < z ∧ 48 ≤ t (s + 1) ∧ t (s + 1) ≤ 48 + 1
    · rw [if_pos d1, nx_yes (t := t) (z := z) (p := s + 1) (lo := 48) (hi := 49) ⟨d1.1, d1.2.1, d1.2.2⟩]
      dsimp only
      rw [up2_11s]
      have eg : f_X7_figures (up2 R 0 11 (nI (s + 1 + 1))) (nI (t (s + 1) - 48)) 2 1 40 = _ := fig2 (lo := 1) (hi := 40) (txA_11 hR) up2_11 (by omega) (nI_ne_m1 (by omega)) (by decide) (by decide)
      rw [eg]
      by_cases d2 : s + 1 + 1 < z ∧ 48 ≤ t (s + 1 + 1) ∧ t (s + 1 + 1) ≤ 57 ∧ (t (s + 1 + 1) - 48) * 10 ≤ 40
      · rw [if_pos d2, nx_yes (t := t) (z := z) (p := s + 2) (lo := 48) (hi := 52) ⟨d2.1, d2.2.1, by have := d2.2.2.2; show t (s + 1 + 1) ≤ 52; omega⟩]
        by_cases d3 : s + 1 + 1 + 1 < z ∧ 48 ≤ t (s + 1 + 1 + 1) ∧ t (s + 1 + 1 + 1) ≤ 57 ∧ 1 ≤ (t (s + 1 + 1) - 48) * 10 + (t (s + 1 + 1 + 1) - 48) ∧ (t (s + 1 + 1) - 48) * 10 + (t (s + 1 + 1 + 1) - 48) ≤ 40
        · have hl : (if t (s + 2) = 48 then 49 else 48) ≤ t (s + 3) := by
            have h1 : 48 ≤ t (s + 3) := d3.2.1
            have h2 : 1 ≤ (t (s + 2) - 48) * 10 + (t (s + 3) - 48) := d3.2.2.2.1
            split <;> omega
          have hu : t (s + 3) ≤ (if t (s + 2) = 52 then 48 else 57) := by
            have h1 : t (s + 3) ≤ 57 := d3.2.2.1
            have h2 : (t (s + 2) - 48) * 10 + (t (s + 3) - 48) ≤ 40 := d3.2.2.2.2
            split <;> omega
          rw [if_pos d3, nx_yes (t := t) (z := z) (p := s + 3) (lo := if t (s + 2) = 48 then 49 else 48) (hi := if t (s + 2) = 52 then 48 else 57) ⟨d3.1, hl, hu⟩]
          dsimp only
          rw [if_neg (nI_ne_m1 (by omega)), up2_11s, up2_11s]
          refine cm_move (cm_A (rd_chX up2_11 (by omega)) (fun _ M hx => ?_))
          show f_X6_doTextCommand M (nI s) = _
          rw [u_f_X6_doTextCommand]
          dsimp only
          rw [hA M hx, if_neg (fun q => c1 (q1.mp q)), if_neg (fun q => c2 (q2.mp q)), if_neg (fun q => c3 (q3.mp q)), if_neg (fun q => c4 (q4.mp q)), if_neg (fun q => c5 (q5.mp q)), if_neg (fun q => c6 (q6.mp q)), if_pos (q7.mpr c7), show (1 : Int32) = nI 1 from rfl, show (2 : Int32) = nI 2 from rfl, dg_at hx d1.1 d1.2.1, nI_add, nu_at (p := s + 2) hx d3.1 d2.2.1 d3.2.1]
          try rfl
        · rw [if_neg d3, nx_no (t := t) (z := z) (p := s + 3) (lo := if t (s + 2) = 48 then 49 else 48) (hi := if t (s + 2) = 52 then 48 else 57) (by omega) (fun q => d3 (by
            obtain ⟨r1, r2, r3⟩ := q
            have s1 : 48 ≤ t (s + 2) := d2.2.1
            have s2 : (t (s + 2) - 48) * 10 ≤ 40 := d2.2.2.2
            show s + 3 < z ∧ 48 ≤ t (s + 3) ∧ t (s + 3) ≤ 57 ∧ 1 ≤ (t (s + 2) - 48) * 10 + (t (s + 3) - 48) ∧ (t (s + 2) - 48) * 10 + (t (s + 3) - 48) ≤ 40
            by_cases w1 : t (s + 2) = 48
            · rw [if_pos w1] at r2
              rw [if_neg (by omega)] at r3
              exact ⟨r1, by omega, by omega, by omega, by omega⟩
            · rw [if_neg w1] at r2
              by_cases w2 : t (s + 2) = 52
              · rw [if_pos w2] at r3
                exact ⟨r1, by omega, by omega, by omega, by omega⟩
              · rw [if_neg w2] at r3
                exact ⟨r1, by omega, by omega, by omega, by omega⟩))]
          dsimp only
          rw [if_pos rfl, up2_11s]
          exact cm_move (cm_stop up2_11)
      · rw [if_neg d2, nx_no (t := t) (z := z) (p := s + 2) (lo := 48) (hi := 52) (by omega) (fun q => d2 ⟨q.1, q.2.1, by have := q.2.2; show t (s + 2) ≤ 57; omega, by have := q.2.2; show (t (s + 2) - 48) * 10 ≤ 40; omega⟩)]
        dsimp only
        rw [if_pos rfl]
        exact cm_move (cm_stop up2_11)
    · rw [if_neg d1, nx_no (t := t) (z := z) (p := s + 1) (lo := 48) (hi := 49) (by omega) (fun q => d1 ⟨q.1, q.2.1, q.2.2⟩)]
      dsimp only
      rw [fig_none]
      dsimp only
      rw [if_pos rfl]
      exact cm_move (cm_stop up2_11)
  rw [if_neg (fun q => c7 (q7.mp q))]
  by_cases c8 : t s = 119
  · rw [if_pos (q8.mpr c8), ck119 c8]
    refine cm_move (cm_A (rd_step (j := 2) up2_11 (by decide)) (fun _ M hx => ?_))
    show f_X6_doTextCommand M (nI s) = _
    rw [u_f_X6_doTextCommand]
    dsimp only
    rw [hA M hx, if_neg (fun q => c1 (q1.mp q)), if_neg (fun q => c2 (q2.mp q)), if_neg (fun q => c3 (q3.mp q)), if_neg (fun q => c4 (q4.mp q)), if_neg (fun q => c5 (q5.mp q)), if_neg (fun q => c6 (q6.mp q)), if_neg (fun q => c7 (q7.mp q)), if_pos (q8.mpr c8)]
    rfl
  rw [if_neg (fun q => c8 (q8.mp q)), up2_11, nI_pred, up2_11s]
  have ek : ckT t z s = (true, s) := by
    unfold ckT
    rw [if_neg c1, if_neg c2, if_neg c3, if_neg c4, if_neg c5, if_neg c6, if_neg c7, if_neg c8]
  rw [ek]
  exact cm_move (cm_stop up2_11)
theorem nx_le {t : Nat → Nat} {z p lo hi N : Nat} {k : Bool × Nat} (hz : z ≤ N) (hp : p ≤ N) (hk : k.2 ≤ N) : (nx t z p lo hi k).2 ≤ N := by
  unfold nx
  split
  · split
    · exact hk
    · exact hp
  · exact hz
theorem ck_le {t : Nat → Nat} {z s N : Nat} (hz : z ≤ N) (hs : s + 4 ≤ N) : (ckT t z s).2 ≤ N := by
  have h1 : s + 1 ≤ N := by omega
  have h2 : s + 2 ≤ N := by omega
  have h3 : s + 3 ≤ N := by omega
  unfold ckT
  split
  · exact h1
  · split
    · exact nx_le hz h1 (nx_le hz h2 h3)
    · split
      · exact h1
      · split
        · exact h1
        · split
          · exact nx_le hz h1 (nx_le hz h2 h3)
          · split
            · exact h1
            · split
              · exact nx_le hz h1 (nx_le hz h2 (nx_le hz h3 hs))
              · split
                · exact h1
                · show s ≤ N; omega
theorem txA_fr {R N : bM} {t : Nat → Nat} {z : Nat} (h : txA R t z) (h2 : N 0 2 = R 0 2) (h1 : N 1 = R 1) : txA N t z := ⟨h.1, by rw [h2]; exact h.2.1, fun i hi => by rw [h1]; exact h.2.2 i hi⟩
theorem txC_fr {M N : bM} {t : Nat → Nat} {z : Nat} (h : txC M t z) (h1 : N 1 = M 1) (h2 : N 2 = M 2) : txC N t z := ⟨h.1, by rw [h1]; exact h.2.1, fun i hi => by rw [h2]; exact h.2.2 i hi⟩
theorem rt_end2 {M R : bM} {t : Nat → Nat} {z n i : Nat} (hC : txC M t z) (hR : txA R t z) (hp : R 0 11 = nI z) : lp_X4_firstError_16 M n i (nI z) = (false, 0, nI z) ∧ lp_X7_readText_39 3 n i R = (false, 0, R) := by
  have hz := hC.1
  constructor
  · cases n with
    | zero => rw [u0_lp_X4_firstError_16]
    | succ n => rw [u1_lp_X4_firstError_16, hC.2.1, if_pos (nI_le (Nat.le_refl z) (by omega))]
  · cases n with
    | zero => rw [u0_lp_X7_readText_39, ite_self]
    | succ n => rw [u1_lp_X7_readText_39, hR.2.1, hp, if_pos (nI_le (Nat.le_refl z) (by omega))]
theorem rt_pos {M : bM} {t : Nat → Nat} {z : Nat} (hC : txC M t z) : ∀ (n i s : Nat) (R : bM), txA R t z → R 0 11 = nI s → s ≤ z → z ≤ s + n →
    (lp_X4_firstError_16 M n i (nI s)).1 = (lp_X7_readText_39 3 n i R).1 ∧ ((lp_X4_firstError_16 M n i (nI s)).1 = true → (lp_X4_firstError_16 M n i (nI s)).2.1 = (lp_X7_readText_39 3 n i R).2.1) ∧ (∀ j, j ≠ 11 → j ≠ 12 → (lp_X7_readText_39 3 n i R).2.2 0 j = R 0 j) ∧ ((lp_X4_firstError_16 M n i (nI s)).1 = true → ∃ p, p < 2 ^ 20 ∧ (lp_X4_firstError_16 M n i (nI s)).2.1 = nI p) := by
  have hz := hC.1
  intro n
  induction n with
  | zero =>
    intro i s R hR hp h1 h2
    have e : s = z := by omega
    subst e
    obtain ⟨a, b⟩ := rt_end2 (n := 0) (i := i) hC hR hp
    rw [a, b]
    exact ⟨rfl, fun q => no_ft q, fun _ _ _ => rfl, fun q => no_ft q⟩
  | succ n ih =>
    intro i s R hR hp h1 h2
    by_cases c : s < z
    · have hc := rc_all hR hp c
      have hsz := ck_size c (hR.2.2 s c).2
      have hr1 := fr_X7_readCommand R 3 1 (by decide) (by decide) (by decide)
      rw [cls_ck hC c, u1_lp_X7_readText_39, hR.2.1, hp, if_neg (nI_ge c (by omega))]
      dsimp only
      generalize f_X7_readCommand R 3 = B at *
      obtain ⟨k1, k2, k3, k4, _⟩ := hc
      by_cases d : (ckT t z s).1 = true
      · rw [if_pos d, if_pos (k1 d)]
        exact ⟨rfl, fun _ => k3.symm, k4, fun _ => ⟨_, Nat.lt_of_le_of_lt (ck_le (N := 200) (by omega) (by omega)) (by decide), rfl⟩⟩
      · have d' : (ckT t z s).1 = false := by simpa using d
        rw [if_neg d, if_neg (k2 d')]
        obtain ⟨z1, z2, z3⟩ := hsz d'
        obtain ⟨i1, i2, i3, i4⟩ := ih (i + 1) (ckT t z s).2 B.2 (txA_fr hR (k4 2 (by decide) (by decide)) hr1) k3 z3 (by omega)
        exact ⟨i1, i2, fun j q1 q2 => (i3 j q1 q2).trans (k4 j q1 q2), i4⟩
    · have e : s = z := by omega
      subst e
      obtain ⟨a, b⟩ := rt_end2 (n := n + 1) (i := i) hC hR hp
      rw [a, b]
      exact ⟨rfl, fun q => no_ft q, fun _ _ _ => rfl, fun q => no_ft q⟩
theorem rt_st {t : Nat → Nat} {z : Nat} : ∀ (n i s V : Nat) (R M : bM) (x : Int32), txA R t z → R 0 11 = nI s → s ≤ z → z ≤ s + n → txC M t z → tG True M R 3 3 → gmB V (R 3 0) → V + n < 2 ^ 20 → x = R 0 12 → (lp_X7_readText_39 3 n i R).1 = false →
    (lp_X6_load_57 n i (nI s) x M).2.1 = (lp_X7_readText_39 3 n i R).2.2 0 12 ∧ tG True (lp_X6_load_57 n i (nI s) x M).2.2 (lp_X7_readText_39 3 n i R).2.2 3 3 ∧ gmB (V + n) ((lp_X7_readText_39 3 n i R).2.2 3 0) ∧
    (∀ a, (a < 3 ∨ 13 ≤ a) → (a < 23 ∨ 30 ≤ a ∨ a = 24) → (lp_X6_load_57 n i (nI s) x M).2.2 a = M a) := by
  intro n
  induction n with
  | zero =>
    intro i s V R M x hR hp h1 h2 hC ht hv hV hx he
    have e : s = z := by omega
    subst e
    obtain ⟨_, b⟩ := rt_end2 (n := 0) (i := i) hC hR hp
    rw [b, u0_lp_X6_load_57]
    exact ⟨hx, ht, hv, fun _ _ _ => rfl⟩
  | succ n ih =>
    intro i s V R M x hR hp h1 h2 hC ht hv hV hx he
    have hz := hC.1
    by_cases c : s < z
    · have hc := rc_all hR hp c
      have hsz := ck_size c (hR.2.2 s c).2
      have hr1 := fr_X7_readCommand R 3 1 (by decide) (by decide) (by decide)
      have fA := fun a (w1 : a < 3 ∨ 13 ≤ a) (w2 : a < 23 ∨ 30 ≤ a ∨ a = 24) => fr_X6_doTextCommand M (nI s) a w1 w2
      rw [u1_lp_X7_readText_39, hR.2.1, hp, if_neg (nI_ge c (by omega))] at he ⊢
      dsimp only at he ⊢
      rw [u1_lp_X6_load_57, hC.2.1, if_neg (nI_ge c (by omega))]
      dsimp only
      generalize f_X7_readCommand R 3 = B at *
      obtain ⟨k1, k2, k3, k4, k5⟩ := hc
      by_cases d : (ckT t z s).1 = true
      · rw [if_pos (k1 d)] at he
        exact no_tf he
      · have d' : (ckT t z s).1 = false := by simpa using d
        rw [if_neg (k2 d')] at he ⊢
        obtain ⟨z1, z2, z3⟩ := hsz d'
        obtain ⟨m1, m2, m3⟩ := k5 d' M V hC ht hv (by omega)
        have m1 : tG True (f_X6_doTextCommand M (nI s)).2 B.2 3 3 := m1
        have m2 : B.2 0 12 = R 0 12 + (if (f_X6_doTextCommand M (nI s)).1 = 0 then 1 else 0) := m2
        generalize f_X6_doTextCommand M (nI s) = A at *
        have hC' : txC A.2 t z := txC_fr hC (fA 1 (by decide) (by decide)) (fA 2 (by decide) (by decide))
        rw [signAt_in hC' c, z1]
        have go := fun (y : Int32) (hy : y = B.2 0 12) => ih (i + 1) (ckT t z s).2 (V + 1) B.2 A.2 y (txA_fr hR (k4 2 (by decide) (by decide)) hr1) k3 z3 (by omega) hC' m1 m3 (by omega) hy he
        by_cases w : A.1 = 0
        · rw [if_pos w] at m2 ⊢
          obtain ⟨i1, i2, i3, i4⟩ := go (x + 1) (by rw [m2, hx])
          exact ⟨i1, i2, by rw [show V + (n + 1) = V + 1 + n by omega]; exact i3, fun a w1 w2 => (i4 a w1 w2).trans (fA a w1 w2)⟩
        · rw [if_neg w] at m2 ⊢
          obtain ⟨i1, i2, i3, i4⟩ := go x (by rw [m2, hx, Int32.add_zero])
          exact ⟨i1, i2, by rw [show V + (n + 1) = V + 1 + n by omega]; exact i3, fun a w1 w2 => (i4 a w1 w2).trans (fA a w1 w2)⟩
    · have e : s = z := by omega
      subst e
      obtain ⟨_, b⟩ := rt_end2 (n := n + 1) (i := i) hC hR hp
      rw [b, u1_lp_X6_load_57, hC.2.1, if_pos (nI_le (Nat.le_refl s) (by omega))]
      obtain ⟨v, v1, v2⟩ := hv
      exact ⟨hx, ht, ⟨v, by omega, v2⟩, fun _ _ _ => rfl⟩
/-- the text's numbers -/
theorem tx_of {M R : bM} (h : txS2 M R) : ∃ t z, txC M t z ∧ txA R t z := by
  obtain ⟨hc, z, hz, e1, e2, e3⟩ := h
  have ht : ∀ i, i < z → R 1 i = nI (R 1 i).toNatClampNeg ∧ (R 1 i).toNatClampNeg < 256 := fun i hi => by
    obtain ⟨j, hj, e⟩ := vp_in_of (e3 i hi).2 (by decide)
    rw [e, nI_clamp (by omega)]
    exact ⟨rfl, hj⟩
  exact ⟨fun i => (R 1 i).toNatClampNeg, z, ⟨hz, e1, fun i hi => by rw [(e3 i hi).1]; exact ht i hi⟩, ⟨hz, e2, ht⟩⟩
/-- the row behind the start of reading -/
abbrev rd0 (R : bM) : bM := up2 (up2 (f_X7_clear R 3) 0 12 0) 0 11 0
theorem rd0_tx {R : bM} {t : Nat → Nat} {z : Nat} (h : txA R t z) : txA (rd0 R) t z ∧ (∀ j, j ≠ 11 → j ≠ 12 → rd0 R 0 j = R 0 j) ∧ rd0 R 3 = f_X7_clear R 3 3 ∧ rd0 R 0 12 = 0 := by
  have fr := fun k (hk : k ≠ 3) => fr_X7_clear R 3 k hk
  have h0 : ∀ j, j ≠ 11 → j ≠ 12 → rd0 R 0 j = R 0 j := fun j q1 q2 => by show up2 (up2 (f_X7_clear R 3) 0 12 0) 0 11 0 0 j = R 0 j; rw [up2_at, if_neg q1, up2_at, if_neg q2, fr 0 (by decide)]
  exact ⟨txA_fr h (h0 2 (by decide) (by decide)) ((up2_row (by decide)).trans ((up2_row (by decide)).trans (fr 1 (by decide)))), h0, (up2_row (by decide)).trans (up2_row (by decide)), by show up2 (up2 (f_X7_clear R 3) 0 12 0) 0 11 0 0 12 = 0; rw [up2_at, if_neg (by decide), up2_at, if_pos rfl]⟩
theorem txt_ok {M R : bM} {t : Nat → Nat} {z : Nat} (hC : txC M t z) (hR : txA R t z) :
    f_X4_firstError M = (f_X7_readText R 3).1 ∧ (∀ j, j ≠ 11 → j ≠ 12 → (f_X7_readText R 3).2 0 j = R 0 j) ∧ ((f_X7_readText R 3).1 = -1 → 1 ≤ z ∧ (lp_X7_readText_39 3 120 0 (up2 (rd0 R) 0 11 1)).1 = false ∧ (f_X7_readText R 3).2 = (lp_X7_readText_39 3 120 0 (up2 (rd0 R) 0 11 1)).2.2) := by
  have hz := hC.1
  obtain ⟨r1, r2, r3, _⟩ := rd0_tx hR
  rw [u_f_X4_firstError, u_f_X7_readText]
  dsimp only
  have r12 : up2 (up2 (f_X7_clear R 3) 0 12 0) 0 11 0 0 2 = nI z := r1.2.1
  rw [r12]
  by_cases c : z = 0
  · subst c
    rw [show (0 : Int32) = nI 0 from rfl, signAt_out hC (Nat.le_refl 0) (by decide), if_neg (by decide), if_pos rfl]
    exact ⟨rfl, r2, fun q => absurd q (show ¬ (0 : Int32) = -1 by decide)⟩
  · have hz0 : 0 < z := by omega
    have es : f_X4_signAt M 0 = nI (t 0) := signAt_in (p := 0) hC hz0
    have r13 : up2 (up2 (f_X7_clear R 3) 0 12 0) 0 11 0 1 0 = nI (t 0) := (r1.2.2 0 hz0).1
    rw [es, if_neg (fun q => c ((nI_z (by omega)).mp q)), r13]
    by_cases d : nI (t 0) = 87
    · rw [if_pos d, if_pos d]
      have l := rt_pos hC 120 0 1 (up2 (rd0 R) 0 11 (nI 1)) (txA_11 r1) up2_11 hz0 (by omega)
      have hc1 := hC
      rw [show (nI 1 : Int32) = 1 from rfl] at l
      generalize lp_X4_firstError_16 M 120 0 1 = A at *
      generalize lp_X7_readText_39 3 120 0 (up2 (rd0 R) 0 11 1) = B at *
      obtain ⟨l1, l2, l3, l5⟩ := l
      have l4 : ∀ j, j ≠ 11 → j ≠ 12 → B.2.2 0 j = R 0 j := fun j q1 q2 => (l3 j q1 q2).trans (by rw [up2_at, if_neg q1]; exact r2 j q1 q2)
      by_cases w : A.1 = true
      · rw [if_pos w, if_pos (l1 ▸ w)]
        obtain ⟨p, p1, p2⟩ := l5 w
        refine ⟨l2 w, l4, fun q => absurd (p2.symm.trans ((l2 w).trans q)) (nI_ne_m1 (by omega))⟩
      · rw [if_neg w, if_neg (l1 ▸ w)]
        exact ⟨rfl, l4, fun _ => ⟨hz0, by rw [← l1]; simpa using w, rfl⟩⟩
    · rw [if_neg d, if_neg d]
      exact ⟨rfl, r2, fun q => absurd q (show ¬ (0 : Int32) = -1 by decide)⟩
