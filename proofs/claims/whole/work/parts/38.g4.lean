/-! TEXT, second half: the end of a text; scripts' commands and drawn turns keep the trial good -/
theorem rt_loop {k : Nat} (h0 : 0 ≠ k) (h7 : 7 ≠ k) : ∀ (n i : Nat) (N : bM) (s z : Nat), gR (N k) → txS N s z → z ≤ s + n → (lp_X7_readText_39 k n i N).1 = false → (lp_X7_readText_39 k n i N).2.2 0 2 ≤ (lp_X7_readText_39 k n i N).2.2 0 11 := by
  intro n
  induction n with
  | zero =>
    intro i N s z hg t hz _
    have hs : s = z := by have := t.2.2.1; omega
    have e : N 0 2 ≤ N 0 11 := by rw [t.1, t.2.1, hs]; exact Int32.le_refl _
    rw [u0_lp_X7_readText_39, if_pos e]
    exact e
  | succ n ih =>
    intro i N s z hg t hz hf
    rw [u1_lp_X7_readText_39] at hf ⊢
    by_cases c : N 0 2 ≤ N 0 11
    · rw [if_pos c] at hf ⊢; exact c
    rw [if_neg c] at hf ⊢
    dsimp only at hf ⊢
    by_cases c2 : (f_X7_readCommand N k).1 = 0
    · rw [if_pos c2] at hf; exact absurd hf (by simp)
    rw [if_neg c2] at hf ⊢
    have hr := readCommand_ok h0 h7 hg t ((nlt_le t).mp c)
    obtain ⟨s', q1, q2⟩ := hr.2.2 c2
    exact ih _ _ s' z hr.1 q2 (by omega) hf
theorem rt_end (N : bM) (hg : gR (N 3)) (t : txR N) (h : (lp_X7_readText_39 3 120 0 N).1 = false) : (lp_X7_readText_39 3 120 0 N).2.2 0 2 ≤ (lp_X7_readText_39 3 120 0 N).2.2 0 11 := by
  obtain ⟨s, z, t⟩ := t
  exact rt_loop (by decide) (by decide) 120 0 N s z hg t (by have := t.2.2.2; omega) h
theorem sb_loop : ∀ (n i : Nat) (x : Int32) (M : bM), gR (M 3) → gR ((lp_X7_stepsBest_4 n i x M).2 3) := by
  intro n
  induction n with
  | zero => intro i x M h; rw [u0_lp_X7_stepsBest_4]; exact h
  | succ n ih =>
    intro i x M h
    rw [u1_lp_X7_stepsBest_4]
    by_cases c : x = 0
    · rw [if_pos c]; exact h
    rw [if_neg c]
    dsimp only
    have hk := fr_X7_bestOf M 3 3 (by decide)
    have hu := best_under (M := M) (k := 3)
    generalize f_X7_bestOf M 3 = Z at *
    have hg : gR (Z.2 3) := gR_keep hk h
    by_cases c1 : Z.1 = -1
    · rw [if_pos c1]; exact ih _ _ _ hg
    rw [if_neg c1]
    have hs := gR_stepOn (d := Z.1) hg (by rw [hk]; exact hu c1)
    generalize f_X7_stepOn Z.2 3 Z.1 = Y at *
    by_cases c2 : Y.1 = 0
    · rw [if_pos c2]; exact ih _ _ _ hs
    · rw [if_neg c2]; exact ih _ _ _ hs
theorem gR_stepsBest {M : bM} {x : Int32} (h : gR (M 3)) : gR ((f_X7_stepsBest M x).2 3) := by
  rw [u_f_X7_stepsBest]
  exact sb_loop _ _ _ _ h
theorem gR_if {c : Prop} [Decidable c] {a b : Int32 × bM} {k : Nat} (h1 : c → gR (a.2 k)) (h2 : ¬ c → gR (b.2 k)) : gR ((if c then a else b).2 k) := by
  by_cases h : c
  · rw [if_pos h]; exact h1 h
  · rw [if_neg h]; exact h2 h
theorem gR_command {M : bM} {x y : Int32} (h : gR (M 3)) : gR ((f_X7_command M x y).2 3) := by
  rw [u_f_X7_command]
  dsimp only
  repeat' (with_reducible refine gR_if (fun _ => ?_) (fun _ => ?_))
  all_goals try dsimp only
  all_goals first
    | with_reducible exact h
    | with_reducible exact gR_gameOn h
    | with_reducible exact gR_stepsBest h
    | with_reducible exact gR_stepOn h (uw_of (by assumption))
    | with_reducible exact gR_floodOn h (uw_of (by assumption))
    | with_reducible exact gR_change h (by assumption)
    | with_reducible exact gR_damOn' (by decide) (cell64 (isCell_in (by assumption)).1 (isCell_in (by assumption)).2) (uw_of (by assumption)) h
theorem gR_turnOf {M : bM} {k : Nat} {x q : Int32} (h7 : 7 ≠ k) (hq : ¬ q < 0) (h : gR (M k)) : gR (f_X7_turnOf M k x q k) := by
  rw [u_f_X7_turnOf]
  dsimp only
  by_cases c1 : f_X7_isUnderWay M k = 0
  · rw [if_pos c1]; exact gR_gameOn h
  rw [if_neg c1]
  have hu := uw_of c1
  by_cases c2 : f_X7_canStep M k = 0
  · rw [if_pos c2]; exact gR_floodOn h hu
  rw [if_neg c2]
  by_cases c3 : x = 0
  · rw [if_pos c3]; exact gR_damOn' h7 (dq_in hq) hu h
  rw [if_neg c3]
  by_cases c4 : 5 ≤ x
  · rw [if_pos c4]
    have hk := fr_X7_bestOf M k k (Ne.symm h7)
    generalize f_X7_bestOf M k = Z at *
    exact gR_stepOn (gR_keep hk h) (by rw [hk]; exact hu)
  · rw [if_neg c4]; exact gR_stepOn h hu
/-- the powers of ten thousand -/
def pw : Nat → Int64
  | 0 => 1
  | n + 1 => pw n * 10000
theorem pw_v : ∀ k : Fin 5, (pw k.val).toInt = 10000 ^ k.val ∧ ¬ pw k.val = 0 := by decide +kernel
theorem pw_d : ∀ k : Fin 4, pw (k.val + 1) / 10000 = pw k.val := by decide +kernel
theorem pw_nz {k : Nat} (h : k ≤ 4) : ¬ pw k = 0 := (pw_v ⟨k, by omega⟩).2
theorem pw_st {N i : Nat} (h1 : i < N) (h2 : N ≤ 4) : pw (N - i) / 10000 = pw (N - (i + 1)) := by
  have := pw_d ⟨N - (i + 1), by omega⟩
  rw [show N - i = (N - (i + 1)) + 1 by omega]
  exact this
theorem pw_dz {N i : Nat} (h1 : i < N) (h2 : N ≤ 4) : ¬ pw (N - i) / 10000 = 0 := by
  rw [pw_st h1 h2]
  exact pw_nz (by omega)
theorem in_le4 {x : Int32} (c : ¬ f_X7_in x.toInt64 1 4 = 0) : x.toNatClampNeg ≤ 4 ∧ 1 ≤ x.toNatClampNeg := by
  have h1 := (in_iff _ _ _).mp c
  rw [Int32.toInt_toInt64] at h1
  have e1 : (1 : Int64).toInt = 1 := by decide
  have e4 : (4 : Int64).toInt = 4 := by decide
  rw [e1, e4] at h1
  have hn : ¬ x < 0 := by rw [Int32.lt_iff_toInt_lt]; have : (0 : Int32).toInt = 0 := by decide
                          omega
  obtain ⟨j, hj, rfl⟩ := nI_of hn
  rw [nI_clamp hj]
  rw [nI_toInt hj] at h1
  omega
theorem i64_div_toInt {a b : Int64} (ha : 0 ≤ a.toInt) (hb : 0 < b.toInt) : (a / b).toInt = a.toInt / b.toInt := by
  rw [Int64.toInt_div]
  rw [Int.tdiv_eq_ediv_of_nonneg ha]
  have h1 : 0 ≤ a.toInt / b.toInt := Int.ediv_nonneg ha (by omega)
  have h2 : a.toInt / b.toInt ≤ a.toInt := Int.ediv_le_self _ ha
  have h3 : a.toInt < 2 ^ 63 := Int64.toInt_lt a
  exact Int.bmod_eq_of_le (by omega) (by omega)
/-- a group of four digits -/
theorem grp_v {s : Int64} {k : Nat} (hk : k ≤ 4) (hs : 0 ≤ s.toInt) : ∃ g : Nat, g < 10000 ∧ (s / pw k - s / pw k / 10000 * 10000).toInt32 = nI g ∧ (g : Int) = s.toInt / 10000 ^ k % 10000 := by
  have hp := (pw_v ⟨k, by omega⟩).1
  have hp' : (pw k).toInt = 10000 ^ k := hp
  have hpos : (0 : Int) < 10000 ^ k := Int.pow_pos (by decide)
  have e1 : (s / pw k).toInt = s.toInt / 10000 ^ k := by rw [i64_div_toInt hs (by rw [hp']; exact hpos), hp']
  have h1 : 0 ≤ s.toInt / 10000 ^ k := Int.ediv_nonneg hs (by omega)
  have e2 : (s / pw k / 10000).toInt = s.toInt / 10000 ^ k / 10000 := by
    rw [i64_div_toInt (by rw [e1]; exact h1) (by decide), e1]
    rfl
  have h3 : (s / pw k).toInt < 2 ^ 63 := Int64.toInt_lt _
  rw [e1] at h3
  have h2 : 0 ≤ s.toInt / 10000 ^ k / 10000 := Int.ediv_nonneg h1 (by decide)
  generalize hX : s.toInt / 10000 ^ k = X at *
  have e3 : (s / pw k - s / pw k / 10000 * 10000).toInt = X % 10000 := by
    rw [Int64.toInt_sub, Int64.toInt_mul, e1, e2, show (10000 : Int64).toInt = 10000 from by decide]
    have b1 : (X / 10000 * 10000).bmod (2 ^ 64) = X / 10000 * 10000 := Int.bmod_eq_of_le (by omega) (by omega)
    rw [b1]
    have b2 : X - X / 10000 * 10000 = X % 10000 := by omega
    rw [b2]
    exact Int.bmod_eq_of_le (by omega) (by omega)
  refine ⟨(X % 10000).toNat, by omega, ?_, by omega⟩
  apply Int32.toInt_inj.mp
  rw [Int64.toInt_toInt32, e3, nI_toInt (by omega)]
  rw [Int.bmod_eq_of_le (by omega) (by omega)]
  omega
theorem grp_in {s : Int64} {k : Nat} (hk : k ≤ 4) (hs : 0 ≤ s.toInt) : vp_in ((s / pw k - s / pw k / 10000 * 10000).toInt32 - (s / pw k - s / pw k / 10000 * 10000).toInt32 / 1000 * 1000) 1000 := by
  obtain ⟨g, hg, e, _⟩ := grp_v hk hs
  rw [e, show (1000 : Int32) = nI 1000 from rfl, pk_rem (by omega) (by decide) (by decide)]
  exact vp_in_nI (Nat.mod_lt _ (by decide)) (by decide)
theorem in_nn {s a : Int64} (c : ¬ f_X7_in s 0 a = 0) : 0 ≤ s.toInt := by
  have h1 := (in_iff _ _ _).mp c
  have e0 : (0 : Int64).toInt = 0 := by decide
  rw [e0] at h1
  exact h1.1
