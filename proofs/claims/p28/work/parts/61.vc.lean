/-! the text: clearText, append -/
theorem ch_all : ∀ i : Fin 256, vp_nar .char ((nI i.val).toUInt32 % 65536).toInt32 = nI i.val ∧ narrow .char (.int (nI i.val)) = .int (nI i.val) := by decide +kernel
theorem ok_append {M R : bM} {x1 : Int32} (hs : sS M R) : okF 1 2 (f_X6_append M x1) (f_X7_append R x1) := by
  rw [u_f_X6_append, u_f_X7_append, u_f_X4_isFull]
  dsimp only
  rw [ref_e, ref_e, ref_e]
  have i1 := in_small (x := x1) (n := 255) (hi := 255) (by decide) (by decide)
  obtain ⟨a1, ⟨hch, z, hz, e1, e2, e3⟩, a3, a4, a5⟩ := id hs
  have h255 : vp_in x1 256 ↔ ¬ x1 < 0 ∧ x1 ≤ 255 := by
    rw [vp_in_iff, Int32.lt_iff_toInt_lt, Int32.le_iff_toInt_le, show (255 : Int32).toInt = 255 by decide, show (0 : Int32).toInt = 0 by decide]
    omega
  by_cases hp : vp_in x1 256
  · rw [if_neg (h255.mp hp).1, if_pos (h255.mp hp).2, if_neg (i1.mpr hp), e1, e2]
    by_cases c : z = 120
    · rw [if_neg (show ¬ nI z < 120 from fun q => by have := (nI_ltI (a := z) (b := 120) (by omega) (by decide)).mp q; omega), if_neg (by decide), if_pos (show nI z = 120 from by rw [c]; rfl)]
      exact ⟨ref_00 (R := R), Or.inr (Or.inr rfl), fun q => absurd q (show ¬ (2 : Nat) = 0 by decide), sS_ref hs⟩
    · rw [if_pos (show nI z < 120 from (nI_ltI (a := z) (b := 120) (by omega) (by decide)).mpr (by omega)), if_pos rfl, if_neg (show ¬ nI z = 120 from fun q => c (nI_inj (a := z) (b := 120) (by omega) (by decide) q)), u_f_X4_add, e1]
      dsimp only
      obtain ⟨v, hv, rfl⟩ := vp_in_of hp (by decide)
      obtain ⟨v1, v2⟩ := ch_all ⟨v, hv⟩
      dsimp only at v1 v2
      rw [if_neg (show ¬ nI z < 0 from nI_pos (by omega)), if_neg (show ¬ (120 : Int32) ≤ nI z from nI_ge (a := z) (b := 120) (by omega) (by decide)), v1, nI_clamp (by omega), show up2 R 0 0 0 0 2 = nI z from by rw [up2_at, if_neg (by decide)]; exact e2, nI_clamp (by omega), show up2 M 2 z (nI v) 1 1 = nI z from by rw [up2_row (by decide)]; exact e1, nI_1, show up2 (up2 R 0 0 0) 1 z (nI v) 0 2 = nI z from by rw [up2_row (show (0 : Nat) ≠ 1 by decide), up2_at, if_neg (by decide)]; exact e2, nI_1]
      have r0 : ∀ j, up2 (up2 (up2 R 0 0 0) 1 z (nI v)) 0 2 (nI (z + 1)) 0 j = if j = 2 then nI (z + 1) else if j = 0 then 0 else R 0 j := fun j => by rw [up2_at, up2_row (show (0 : Nat) ≠ 1 by decide), up2_at]
      have r1 : ∀ j, up2 (up2 (up2 R 0 0 0) 1 z (nI v)) 0 2 (nI (z + 1)) 1 j = if j = z then nI v else R 1 j := fun j => by rw [up2_row (show (1 : Nat) ≠ 0 by decide), up2_at, up2_row (show (1 : Nat) ≠ 0 by decide)]
      have rr : ∀ a, a ≠ 0 → a ≠ 1 → up2 (up2 (up2 R 0 0 0) 1 z (nI v)) 0 2 (nI (z + 1)) a = R a := fun a q q2 => (up2_row q).trans ((up2_row q2).trans (up2_row q))
      have hM : ∀ a, a ≠ 1 → a ≠ 2 → up2 (up2 M 2 z (nI v)) 1 1 (nI (z + 1)) a = M a := fun a q q2 => (up2_row q).trans (up2_row q2)
      have h2 : ∀ j, up2 (up2 M 2 z (nI v)) 1 1 (nI (z + 1)) 2 j = if j = z then nI v else M 2 j := fun j => by rw [up2_row (show (2 : Nat) ≠ 1 by decide), up2_at]
      have h11 : up2 (up2 M 2 z (nI v)) 1 1 (nI (z + 1)) 1 1 = nI (z + 1) := by rw [up2_at, if_pos rfl]
      generalize up2 (up2 M 2 z (nI v)) 1 1 (nI (z + 1)) = F at *
      generalize up2 (up2 (up2 R 0 0 0) 1 z (nI v)) 0 2 (nI (z + 1)) = U at *
      refine ⟨by show U 0 0 = _; rw [r0, if_neg (by decide), if_pos rfl]; rfl, Or.inl rfl, fun _ => by show F 1 1 = U 0 2; rw [h11, r0, if_pos rfl], ?_⟩
      suffices hS : sS F U from hS
      refine ⟨goodS_fr (fun a q1 q2 => hM a (by omega) (by omega)) (rr 2 (by decide) (by decide)) a1, ⟨fun j hj => ?_, z + 1, by omega, h11, by rw [r0, if_pos rfl], fun i hi => ?_⟩, hiS_fr (fun a q1 q2 => hM a (by omega) (by omega)) (by rw [r0, if_neg (by decide), if_neg (by decide)]) (rr 4 (by decide) (by decide)) a3, slS_fr (fun a q1 q2 => hM a (by omega) (by omega)) (rr 5 (by decide) (by decide)) (rr 6 (by decide) (by decide)) a4, fun i hi => by rw [hM 24 (by decide) (by decide)]; exact a5 i hi⟩
      · rw [h2]
        by_cases e : j = z
        · rw [if_pos e]; exact v2
        · rw [if_neg e]; exact hch j hj
      · rw [h2, r1]
        by_cases e : i = z
        · rw [if_pos e, if_pos e]; exact ⟨rfl, hp⟩
        · rw [if_neg e, if_neg e]; exact e3 i (by omega)
  · rw [if_pos (show f_X7_in x1.toInt64 0 255 = 0 from Classical.byContradiction (fun q => hp (i1.mp q)))]
    have fin : okF 1 2 (1, 0, M) (0, up2 R 0 0 1) := ⟨ref_00 (R := R), Or.inr (Or.inl rfl), fun q => absurd q (show ¬ (1 : Nat) = 0 by decide), sS_ref hs⟩
    by_cases c1 : x1 < 0
    · rw [if_pos c1]; exact fin
    · rw [if_neg c1, if_neg (fun q => hp (h255.mpr ⟨c1, q⟩))]; exact fin
/-! set and flood -/
theorem in1_small {x : Int32} {n : Nat} {hi : Int64} (hh : hi.toInt = n) : ¬ f_X7_in x.toInt64 1 hi = 0 ↔ 1 ≤ x.toInt ∧ x.toInt ≤ n := by
  rw [in_iff, Int32.toInt_toInt64, show (1 : Int64).toInt = 1 by decide, hh]
theorem setting_eq {x y : Int32} : f_X6_isSettingValue x y = f_X7_isSetting x y := by
  have i1 := in1_small (x := y) (n := 40) (hi := 40) (by decide)
  have i2 := in1_small (x := y) (n := 9) (hi := 9) (by decide)
  have hlt : y < 1 ↔ y.toInt < 1 := by rw [Int32.lt_iff_toInt_lt, show (1 : Int32).toInt = 1 by decide]
  have h40 : (40 : Int32) < y ↔ 40 < y.toInt := by rw [Int32.lt_iff_toInt_lt, show (40 : Int32).toInt = 40 by decide]
  have h9 : (9 : Int32) < y ↔ 9 < y.toInt := by rw [Int32.lt_iff_toInt_lt, show (9 : Int32).toInt = 9 by decide]
  have e40 : (if y < 1 then (0 : Int32) else if 40 < y then 0 else 1) = if f_X7_in y.toInt64 1 40 = 0 then 0 else 1 := by
    by_cases c : f_X7_in y.toInt64 1 40 = 0
    · rw [if_pos c]
      by_cases d : y < 1
      · rw [if_pos d]
      · have d1 : ¬ y.toInt < 1 := fun z => d (hlt.mpr z)
        rw [if_neg d, if_pos (Classical.byContradiction (fun q => by
          have q1 : ¬ (40 : Int) < y.toInt := fun z => q (h40.mpr z)
          exact i1.mpr ⟨by omega, by omega⟩ c))]
    · rw [if_neg c]
      have := i1.mp c
      rw [if_neg (fun z => by have := hlt.mp z; omega), if_neg (fun z => by have := h40.mp z; omega)]
  have e9 : (if y < 1 then (0 : Int32) else if 9 < y then 0 else 1) = if f_X7_in y.toInt64 1 9 = 0 then 0 else 1 := by
    by_cases c : f_X7_in y.toInt64 1 9 = 0
    · rw [if_pos c]
      by_cases d : y < 1
      · rw [if_pos d]
      · have d1 : ¬ y.toInt < 1 := fun z => d (hlt.mpr z)
        rw [if_neg d, if_pos (Classical.byContradiction (fun q => by
          have q1 : ¬ (9 : Int) < y.toInt := fun z => q (h9.mpr z)
          exact i2.mpr ⟨by omega, by omega⟩ c))]
    · rw [if_neg c]
      have := i2.mp c
      rw [if_neg (fun z => by have := hlt.mp z; omega), if_neg (fun z => by have := h9.mp z; omega)]
  rw [u_f_X6_isSettingValue, u_f_X7_isSetting, e40, e9]
  dsimp only
  by_cases c : x = 0
  · subst c
    rw [if_pos rfl, if_pos rfl]
    by_cases d : f_X7_in y.toInt64 1 40 = 0
    · rw [if_pos d, if_pos d, if_neg (show ¬ (0 : Int32) = 1 by decide)]
    · rw [if_neg d, if_neg d]
  · rw [if_neg c, if_neg c]
theorem ok_set {M R : bM} {x1 x2 : Int32} (hs : sS M R) : okF 1 9 (f_X6_set M x1 x2) (f_X7_set R x1 x2) := by
  rw [u_f_X6_set, u_f_X7_set, setting_eq]
  dsimp only
  rw [ref_e, ref_e]
  by_cases c : f_X7_isSetting x1 x2 = 0
  · rw [if_pos c, if_pos c]
    exact ⟨ref_00 (R := R), Or.inr (Or.inl rfl), fun q => absurd q (show ¬ (1 : Nat) = 0 by decide), sS_ref hs⟩
  · rw [if_neg c, if_neg c]
    have hw : ∃ w, w < 2 ∧ x1 = nI w := by
      by_cases h0 : x1 = 0
      · exact ⟨0, by decide, h0⟩
      · by_cases h1 : x1 = 1
        · exact ⟨1, by decide, h1⟩
        · rw [u_f_X7_isSetting, if_neg h0, if_neg h1] at c
          exact absurd rfl c
    obtain ⟨w, hw2, rfl⟩ := hw
    obtain ⟨b1, b2, b3⟩ := sS_rem (sS_ref (v := 0) hs)
    have b00 : f_X7_remember (up2 R 0 0 0) 0 0 = 0 := by rw [b3 0 (by decide)]; exact ref_00
    generalize f_X7_remember (up2 R 0 0 0) = N at *
    generalize f_X1_remember M 3 = L at *
    obtain ⟨a1, a2, a3, a4, a5⟩ := id b1
    obtain ⟨k1, k2⟩ := sG_change (k := 2) (v := x2) hw2 a1.1
    have g1 := gR_change (k := 2) a1.2.1 c
    have g2 : gD ((f_X7_change N 2 (nI w) x2).2 2) := by
      rw [(change_row (M := N) (k := 2) (v := x2) hw2).2, up2_upd]
      exact gD_eq a1.2.2 (by unfold upd; rw [if_neg (by omega)]) (by unfold upd; rw [if_neg (by omega)])
    have f1 := fun (a : Nat) (q : a < 3 ∨ 3 + 10 ≤ a) => fr_X0_changeSetting L 3 (nI w) x2 a q
    have f2 := fun (a : Nat) (q : a ≠ 2) => fr_X7_change N 2 (nI w) x2 a q
    generalize f_X0_changeSetting L 3 (nI w) x2 = A at *
    generalize f_X7_change N 2 (nI w) x2 = B at *
    have f20 := f2 0 (by decide)
    exact ⟨by rw [f20]; exact b00, Or.inl rfl, fun _ => k1, sS_act (fun a q1 q2 => f1 a (by omega)) (fun a q1 q2 q3 q4 q5 => f2 a q2) (by rw [f20]) (by rw [f20]) ⟨k2, g1, g2⟩ b1⟩
theorem gD_floodOn {R : bM} {k : Nat} (hg : gR (R k)) (h : gD (R k)) : gD ((f_X7_floodOn R k).2 k) := by
  have hL := flood_loop (k := k) 3 0 0 R
  obtain ⟨m, a, b, h0, h1, hm, n3, n2, _⟩ := gR_nums hg
  rw [u_f_X7_floodOn]
  dsimp only
  generalize lp_X7_floodOn_4 k 3 0 0 R = Z at *
  refine gD_te ?_
  rw [hL 2 (by omega), n2]
  have hP := pays_row (M := Z.2) (k := k) (p := m % 2) (v := 5) (Nat.mod_lt m (by decide))
  generalize f_X7_pays Z.2 k (nI (m % 2)) 5 = P at *
  refine gD_eq h ?_ ?_
  · rw [up2_at, if_neg (by decide), hP, paysR_ne (by omega) (by omega), hL 11 (by omega)]
  · rw [up2_at, if_neg (by decide), hP, paysR_ne (by omega) (by omega), hL 16 (by omega)]
theorem ok_flood {M R : bM} (hs : sS M R) : okF 2 9 (f_X6_flood M) (f_X7_flood R) := by
  rw [u_f_X6_flood, u_f_X7_flood]
  dsimp only
  rw [ref_e, ref_e]
  have hcf := sG_canFlood (k := 2) hs.1.1 hs.1.2.1
  have fail : okF 2 9 (2, 0, M) (0, up2 R 0 0 1) := ⟨ref_00 (R := R), Or.inr (Or.inl rfl), fun q => absurd q (show ¬ (2 : Nat) = 0 by decide), sS_ref hs⟩
  by_cases h1 : R 2 1 = 1
  · rw [if_neg (show ¬ f_X7_isUnderWay R 2 = 0 from fun q => uw_iff.mp q h1)]
    by_cases h2 : f_X7_canStep R 2 = 0
    · rw [if_neg (hcf.mpr ⟨h1, h2⟩), if_pos h2]
      obtain ⟨b1, b2, b3⟩ := sS_rem (sS_ref (v := 0) hs)
      have h1' : f_X7_remember (up2 R 0 0 0) 2 1 = 1 := by rw [b2, up2_row (by decide)]; exact h1
      have b00 : f_X7_remember (up2 R 0 0 0) 0 0 = 0 := by rw [b3 0 (by decide)]; exact ref_00
      generalize f_X7_remember (up2 R 0 0 0) = N at *
      generalize f_X1_remember M 3 = L at *
      obtain ⟨a1, a2, a3, a4, a5⟩ := id b1
      obtain ⟨k1, k2, _⟩ := sG_flood (k := 2) a1.1 a1.2.1 h1'
      have g1 := gR_floodOn (k := 2) a1.2.1 h1'
      have g2 := gD_floodOn (k := 2) a1.2.1 a1.2.2
      have f1 := fun (a : Nat) (q : a < 3 ∨ 3 + 10 ≤ a) => fr_X0_washAway L 3 a q
      have f2 := fun (a : Nat) (q : a ≠ 2) => fr_X7_floodOn N 2 a q
      generalize f_X0_washAway L 3 = A at *
      generalize f_X7_floodOn N 2 = B at *
      have f20 := f2 0 (by decide)
      exact ⟨by rw [f20]; exact b00, Or.inl rfl, fun _ => k1, sS_act (fun a q1 q2 => f1 a (by omega)) (fun a q1 q2 q3 q4 q5 => f2 a q2) (by rw [f20]) (by rw [f20]) ⟨k2, g1, g2⟩ b1⟩
    · rw [if_pos (Classical.byContradiction (fun q => h2 (hcf.mp q).2)), if_neg h2]; exact fail
  · rw [if_pos (Classical.byContradiction (fun q => h1 (hcf.mp q).1)), if_pos (uw_iff.mpr h1)]; exact fail
/-! the start: two new objects say the same -/
theorem gD_clear {R : bM} {k : Nat} : gD (f_X7_clear R k k) := by
  rw [clear_row]
  have h0 : vp_in 0 4 := vp_in_nI (n := 0) (by decide) (by decide)
  refine ⟨?_, ?_⟩
  · rw [show ∀ r : Nat → Int32, newR r 0 11 = 0 from fun r => by simp [newR]]; exact h0
  · rw [show ∀ r : Nat → Int32, newR r 0 16 = 0 from fun r => by simp [newR]]; exact h0
theorem sS_start : sS (f_X0_startAnew (zW 192) 3) (f_X7_clear Z0 2) := by
  have fr := fun (a : Nat) (q : a < 3 ∨ 3 + 10 ≤ a) => fr_X0_startAnew (zW 192) 3 a q
  have fR := fun (a : Nat) (q : a ≠ 2) => fr_X7_clear Z0 2 a q
  have g : goodS (f_X0_startAnew (zW 192) 3) 3 (f_X7_clear Z0 2 2) := ⟨sG_start, gR_clear, gD_clear⟩
  have hz : ∀ a, a < 3 ∨ 3 + 10 ≤ a → a ≠ 24 → ∀ j, f_X0_startAnew (zW 192) 3 a j = 0 := fun a q q2 j => by
    rw [fr a q, ← zW_row (i := 192) q2]
  have hR : ∀ a, a ≠ 2 → ∀ j, f_X7_clear Z0 2 a j = 0 := fun a q j => by rw [fR a q]
  have h24 : ∀ i, i < 192 → f_X0_startAnew (zW 192) 3 24 i = nbI (i / 3) (i % 3) := fun i hi => by
    rw [fr 24 (by omega)]
    unfold zW
    rw [if_pos ⟨rfl, hi⟩, rem3 hi, div3 hi]
    exact cb_nI (by omega) (by omega)
  generalize f_X0_startAnew (zW 192) 3 = M at *
  generalize f_X7_clear Z0 2 = R at *
  refine ⟨g, ⟨fun j hj => by rw [hz 2 (by omega) (by decide)]; decide, 0, by decide, hz 1 (by omega) (by decide) 1, hR 0 (by decide) 2, fun i hi => absurd hi (Nat.not_lt_zero i)⟩, ⟨0, 0, by decide, by decide, hz 30 (by omega) (by decide) 1, hz 30 (by omega) (by decide) 2, hR 0 (by decide) 6, fun i hi => absurd hi (Nat.not_lt_zero i)⟩, fun s hs => ⟨?_, ?_, ?_⟩, h24⟩
  · rw [hz (172 + 11 * s) (by omega) (by omega), hR 6 (by decide)]
  · exact Or.inl (hR 6 (by decide) s)
  · intro q; exact absurd (hR 6 (by decide) s) q
