/-! errorPosition and load -/
theorem ok_error {M R : bM} (hs : sS M R) : (f_X7_errorPosition R).2 0 0 = 0 ∧ f_X6_errorPosition M = (f_X7_errorPosition R).1 ∧ sS M (f_X7_errorPosition R).2 := by
  have hs' := sS_ref (v := 0) hs
  obtain ⟨t, z, hC, hR⟩ := tx_of hs'.2.1
  obtain ⟨l1, l2, _⟩ := txt_ok hC hR
  have fr := fun k (q1 : k ≠ 3) (q2 : k ≠ 7) (q3 : k ≠ 0) => fr_X7_readText (up2 R 0 0 0) 3 k q1 q2 q3
  rw [u_f_X6_errorPosition, u_f_X7_errorPosition]
  dsimp only
  generalize f_X7_readText (up2 R 0 0 0) 3 = B at *
  refine ⟨?_, l1, ?_⟩
  · show B.2 0 0 = 0
    rw [l2 0 (by decide) (by decide)]
    exact ref_00
  · exact sS_fr (fun _ _ _ => rfl) (fun a q1 q2 q3 q4 => fr a q2 q3 q1) (l2 2 (by decide) (by decide)) (l2 6 (by decide) (by decide)) hs'
/-- the reference's last writes of load -/
abbrev ldR (B : bM) : bM := up2 (up2 (up2 (f_X7_copyState (up2 B 0 0 0) 3 404 0 2 404 0) 0 6 0) 6 0 0) 6 1 0
theorem ldR_at {B : bM} : (∀ a, a ≠ 0 → a ≠ 2 → a ≠ 6 → ldR B a = B a) ∧ (∀ j, ldR B 0 j = if j = 6 then 0 else if j = 0 then 0 else B 0 j) ∧ (∀ s, s < 2 → ldR B 6 s = 0) ∧ (∀ j, j < 404 → ldR B 2 j = B 3 j) := by
  have cs := fun j => cs_at (M := up2 B 0 0 0) (k1 := 3) (n1 := 404) (k3 := 2) (n3 := 404) (a := 0) (b := 0) (by decide) (by decide) (by decide) j
  have fR := fun k (hk : k ≠ 2) => fr_X7_copyState (up2 B 0 0 0) 3 404 0 2 404 0 k hk
  rw [show (nI 0 : Int32) = 0 from rfl] at cs
  unfold ldR
  generalize f_X7_copyState (up2 B 0 0 0) 3 404 0 2 404 0 = T at *
  refine ⟨fun a q0 q2 q6 => ?_, fun j => ?_, fun s hs => ?_, fun j hj => ?_⟩
  · rw [up2_row q6, up2_row q6, up2_row q0, fR a q2, up2_row q0]
  · rw [up2_row (show (0 : Nat) ≠ 6 by decide), up2_row (show (0 : Nat) ≠ 6 by decide), up2_at, fR 0 (by decide), up2_at]
  · rcases (by omega : s = 0 ∨ s = 1) with rfl | rfl
    · rw [up2_at, if_neg (by decide), up2_at, if_pos rfl]
    · rw [up2_at, if_pos rfl]
  · rw [up2_row (show (2 : Nat) ≠ 6 by decide), up2_row (show (2 : Nat) ≠ 6 by decide), up2_row (show (2 : Nat) ≠ 0 by decide), cs, if_pos (by omega), up2_row (show (3 : Nat) ≠ 0 by decide), Nat.zero_add, Nat.sub_zero]
/-- the class before the commands of load -/
abbrev ldM (M : bM) : bM := up2 (up2 (f_X1_forgetAll (f_X0_startAnew M 3)) 172 1 0) 183 1 0
theorem ldM_at {M : bM} : (∀ a, a ≠ 30 → a ≠ 172 → a ≠ 183 → ldM M a = f_X0_startAnew M 3 a) ∧ ldM M 30 1 = M 30 1 ∧ ldM M 30 2 = 0 ∧ (∀ s, s < 2 → ldM M (172 + 11 * s) 1 = 0) ∧ (∀ a, (a < 3 ∨ 13 ≤ a) → f_X0_startAnew M 3 a = M a) := by
  have fr := fun (a : Nat) (q : a < 3 ∨ 3 + 10 ≤ a) => fr_X0_startAnew M 3 a q
  unfold ldM
  rw [u_f_X1_forgetAll]
  dsimp only
  generalize f_X0_startAnew M 3 = C at *
  refine ⟨fun a q0 q2 q6 => ?_, ?_, ?_, fun s hs => ?_, fun a q => fr a (by omega)⟩
  · rw [up2_row q6, up2_row q2, up2_row q0]
  · rw [up2_row (show (30 : Nat) ≠ 183 by decide), up2_row (show (30 : Nat) ≠ 172 by decide), up2_at, if_neg (by decide), fr 30 (by omega)]
  · rw [up2_row (show (30 : Nat) ≠ 183 by decide), up2_row (show (30 : Nat) ≠ 172 by decide), up2_at, if_pos rfl]
  · rcases (by omega : s = 0 ∨ s = 1) with rfl | rfl
    · show up2 (up2 (up2 C 30 2 0) 172 1 0) 183 1 0 172 1 = 0
      rw [up2_row (show (172 : Nat) ≠ 183 by decide), up2_at, if_pos rfl]
    · show up2 (up2 (up2 C 30 2 0) 172 1 0) 183 1 0 183 1 = 0
      rw [up2_at, if_pos rfl]
theorem load_run {M R : bM} {t : Nat → Nat} {z : Nat} (hC : txC M t z) (hR : txA R t z) (hb : besR M) (hz : 1 ≤ z) (he : (lp_X7_readText_39 3 120 0 (up2 (rd0 R) 0 11 1)).1 = false) :
    (lp_X6_load_57 120 0 1 0 (ldM M)).2.1 = (lp_X7_readText_39 3 120 0 (up2 (rd0 R) 0 11 1)).2.2 0 12 ∧ tG True (lp_X6_load_57 120 0 1 0 (ldM M)).2.2 (lp_X7_readText_39 3 120 0 (up2 (rd0 R) 0 11 1)).2.2 3 3 ∧ gmB 121 ((lp_X7_readText_39 3 120 0 (up2 (rd0 R) 0 11 1)).2.2 3 0) ∧
    (∀ a, (a < 3 ∨ 13 ≤ a) → (a < 23 ∨ 30 ≤ a ∨ a = 24) → (lp_X6_load_57 120 0 1 0 (ldM M)).2.2 a = ldM M a) := by
  have hz' := hC.1
  obtain ⟨r1, r2, r3, r4⟩ := rd0_tx hR
  obtain ⟨m1, m2, m3, m4, m5⟩ := ldM_at (M := M)
  have g1 : sG True (f_X0_startAnew M 3) 3 (f_X7_clear R 3 3) := sG_start
  have t0 : tG True (ldM M) (up2 (rd0 R) 0 11 1) 3 3 := by
    have e3 : up2 (rd0 R) 0 11 1 3 = f_X7_clear R 3 3 := (up2_row (by decide)).trans r3
    refine ⟨?_, ?_, ?_, ?_⟩
    · rw [e3]; exact sG_row (fun a q1 q2 => m1 a (by omega) (by omega) (by omega)) g1
    · rw [e3]; exact gR_clear
    · rw [e3]; exact gD_clear
    · exact besR_fr ((m1 24 (by decide) (by decide) (by decide)).trans (m5 24 (by omega))) hb
  have v0 : gmB 1 (up2 (rd0 R) 0 11 1 3 0) := by
    refine ⟨1, Nat.le_refl 1, ?_⟩
    rw [show up2 (rd0 R) 0 11 1 3 = f_X7_clear R 3 3 from (up2_row (by decide)).trans r3, clear_row]
    simp [newR]
    rfl
  have hC' : txC (ldM M) t z := txC_fr hC ((m1 1 (by decide) (by decide) (by decide)).trans (m5 1 (by omega))) ((m1 2 (by decide) (by decide) (by decide)).trans (m5 2 (by omega)))
  have x0 : (0 : Int32) = up2 (rd0 R) 0 11 1 0 12 := by rw [up2_at, if_neg (by decide), r4]
  have l := rt_st 120 0 1 1 (up2 (rd0 R) 0 11 1) (ldM M) 0 (txA_11 r1) up2_11 hz (by omega) hC' t0 v0 (by decide) x0 he
  rw [show (nI 1 : Int32) = 1 from rfl] at l
  exact l
theorem ok_load0 {M R : bM} (hs : sS M R) : okF 2 9 (f_X6_load M) (f_X7_load R) ∧ (gmB 121 ((f_X7_load R).2 2 0) ∨ (f_X7_load R).2 2 = R 2) := by
  obtain ⟨t, z, hC, hR⟩ := tx_of hs.2.1
  obtain ⟨l1, l2, l3⟩ := txt_ok hC hR
  have fr := fun k (q1 : k ≠ 3) (q2 : k ≠ 7) (q3 : k ≠ 0) => fr_X7_readText R 3 k q1 q2 q3
  have lr := load_run hC hR hs.2.2.2.2
  rw [u_f_X6_load, u_f_X7_load]
  dsimp only
  rw [ref_e, ref_e, l1]
  generalize f_X7_readText R 3 = B at *
  by_cases c : B.1 = -1
  · rw [if_pos c, if_pos c]
    obtain ⟨z1, e1, e2⟩ := l3 c
    obtain ⟨q1, q2, q3, q4⟩ := lr z1 e1
    rw [← e2] at q1 q2 q3
    have hm : up2 (up2 (f_X1_forgetAll (f_X0_startAnew M 3)) 172 1 0) 183 1 0 = ldM M := rfl
    have hd : up2 (up2 (up2 (f_X7_copyState (up2 B.2 0 0 0) 3 404 0 2 404 0) 0 6 0) 6 0 0) 6 1 0 = ldR B.2 := rfl
    rw [hm, hd]
    generalize lp_X6_load_57 120 0 1 0 (ldM M) = A at *
    obtain ⟨m1, m2, m3, m4, m5⟩ := ldM_at (M := M)
    obtain ⟨d1, d2, d3, d4⟩ := ldR_at (B := B.2)
    generalize ldM M = C at *
    generalize ldR B.2 = D at *
    dsimp only
    obtain ⟨a1, a2, ⟨x, n, hx, hn, y1, y2, y3, y4⟩, a4, a5⟩ := id hs
    have hg : goodS A.2.2 3 (D 2) := goodS_ext (r := B.2 3) d4 ⟨q2.1, q2.2.1, q2.2.2.1⟩
    have hr0 : ∀ j, j ≠ 11 → j ≠ 12 → j ≠ 6 → j ≠ 0 → D 0 j = R 0 j := fun j w1 w2 w3 w4 => by rw [d2, if_neg w3, if_neg w4]; exact l2 j w1 w2
    have hS : sS A.2.2 D := by
      refine ⟨hg, txS2_fr ?_ ?_ (hr0 2 (by decide) (by decide) (by decide) (by decide)) ((d1 1 (by decide) (by decide) (by decide)).trans (fr 1 (by decide) (by decide) (by decide))) a2, ⟨x, 0, hx, by decide, ?_, ?_, ?_, fun i hi => absurd hi (Nat.not_lt_zero i)⟩, fun s hs2 => ⟨?_, ?_, ?_⟩, q2.2.2.2⟩
      · rw [q4 1 (by decide) (by decide), m1 1 (by decide) (by decide) (by decide), m5 1 (by decide)]
      · rw [q4 2 (by decide) (by decide), m1 2 (by decide) (by decide) (by decide), m5 2 (by decide)]
      · rw [q4 30 (by decide) (by decide), m2]; exact y1
      · rw [q4 30 (by decide) (by decide), m3]; rfl
      · rw [d2, if_pos rfl]; rfl
      · rw [q4 (172 + 11 * s) (by omega) (by omega), m4 s hs2, d3 s hs2]
      · exact Or.inl (d3 s hs2)
      · intro w; exact absurd (d3 s hs2) w
    refine ⟨⟨?_, Or.inl rfl, fun _ => ?_, hS⟩, Or.inl ?_⟩
    · show D 0 0 = 0
      rw [d2, if_neg (by decide), if_pos rfl]
    · show A.2.1 = D 0 12
      rw [d2, if_neg (by decide), if_neg (by decide)]; exact q1
    · rw [d4 0 (by decide)]; exact q3
  · rw [if_neg c, if_neg c]
    have hS : sS M B.2 := sS_fr (fun _ _ _ => rfl) (fun a q1 q2 q3 q4 => fr a q2 q3 q1) (l2 2 (by decide) (by decide)) (l2 6 (by decide) (by decide)) hs
    refine ⟨⟨ref_00 (R := B.2), Or.inr (Or.inl rfl), fun q => absurd q (show ¬ (2 : Nat) = 0 by decide), sS_ref hS⟩, Or.inr ?_⟩
    dsimp only
    rw [up2_row (show (2 : Nat) ≠ 0 by decide)]
    exact fr 2 (by decide) (by decide) (by decide)
theorem ok_load {M R : bM} (hs : sS M R) : okF 2 9 (f_X6_load M) (f_X7_load R) := (ok_load0 hs).1
/-! THE GAMES: how many there are in every row that is kept, call by call -/
abbrev gB (V : Nat) (R : bM) : Prop := gmB V (R 2 0) ∧ (∀ i, i < 14 → gmB V (R 4 (404 * i))) ∧ ∀ s, s < 2 → gmB V (R 5 (404 * s))
theorem gmB_le {V W : Nat} {x : Int32} (h : V ≤ W) (q : gmB V x) : gmB W x := by obtain ⟨v, h1, h2⟩ := q; exact ⟨v, by omega, h2⟩
theorem gB_fr {V W : Nat} {R R' : bM} (hW : V ≤ W) (h2 : R' 2 = R 2) (h4 : R' 4 = R 4) (h5 : R' 5 = R 5) (h : gB V R) : gB W R' :=
  ⟨by rw [h2]; exact gmB_le hW h.1, fun i hi => by rw [h4]; exact gmB_le hW (h.2.1 i hi), fun s hs => by rw [h5]; exact gmB_le hW (h.2.2 s hs)⟩
theorem gB_ref {V : Nat} {R : bM} {v : Int32} (h : gB V R) : gB V (up2 R 0 0 v) := gB_fr (Nat.le_refl V) (up2_row (by decide)) (up2_row (by decide)) (up2_row (by decide)) h
theorem rem4 {R : bM} {n : Nat} (hn : n ≤ 14) (h6 : R 0 6 = nI n) : ∀ i, i < 14 → f_X7_remember R 4 (404 * i) = R 2 0 ∨ ∃ i', i' < 14 ∧ f_X7_remember R 4 (404 * i) = R 4 (404 * i') := by
  have cs : ∀ (M : bM) (c : Nat), c ≤ 14 → ∀ j, f_X7_copyState M 2 404 0 4 5656 (nI (404 * c)) 4 j = if 404 * c ≤ j ∧ j < 404 * c + 404 then M 2 (j - 404 * c) else M 4 j := by
    intro M c hc j
    have := cs_at (M := M) (k1 := 2) (n1 := 404) (k3 := 4) (n3 := 5656) (a := 0) (b := 404 * c) (by decide) (by decide) (by omega) j
    rw [Nat.zero_add] at this
    exact this
  intro i hi
  rw [u_f_X7_remember, h6]
  dsimp only
  by_cases c : n = 14
  · subst c
    rw [if_pos (show nI 14 = 14 from rfl)]
    obtain ⟨s1, s2⟩ := shift_loop (N := 5252) (Nat.le_refl _) 5252 0 R rfl
    generalize lp_X7_remember_11 5252 0 R = S at *
    have e6 : S 0 6 - 1 = nI 13 := by rw [s1 0 (by decide), h6]; rfl
    rw [e6]
    have e0 : up2 S 0 6 (nI 13) 0 6 = nI 13 := by rw [up2_at, if_pos rfl]
    rw [e0, idx404]
    have cs' := cs (up2 S 0 6 (nI 13)) 13 (by decide)
    generalize f_X7_copyState (up2 S 0 6 (nI 13)) 2 404 0 4 5656 (nI (404 * 13)) = T at *
    rw [up2_row (show (4 : Nat) ≠ 0 by decide), cs', up2_row (show (2 : Nat) ≠ 0 by decide), up2_row (show (4 : Nat) ≠ 0 by decide), s1 2 (by decide)]
    by_cases e : i = 13
    · rw [if_pos (by omega), show 404 * i - 404 * 13 = 0 by omega]; exact Or.inl rfl
    · rw [if_neg (by omega), s2, if_pos (by omega)]
      exact Or.inr ⟨i + 1, by omega, by rw [show 404 * (i + 1) = 404 * i + 404 by omega]⟩
  · rw [if_neg (show ¬ nI n = 14 from fun q => c (nI_inj (a := n) (b := 14) (by omega) (by decide) q)), idx404]
    have cs' := cs R n hn
    generalize f_X7_copyState R 2 404 0 4 5656 (nI (404 * n)) = T at *
    rw [up2_row (show (4 : Nat) ≠ 0 by decide), cs']
    by_cases e : i = n
    · rw [if_pos (by omega), show 404 * i - 404 * n = 0 by omega]; exact Or.inl rfl
    · rw [if_neg (by omega)]; exact Or.inr ⟨i, hi, rfl⟩
theorem sS_n {M R : bM} (hs : sS M R) : ∃ n, n ≤ 14 ∧ R 0 6 = nI n := by
  obtain ⟨x, n, _, hn, _, _, e3, _⟩ := hs.2.2.1
  exact ⟨n, hn, e3⟩
theorem gB_rem {V n : Nat} {R : bM} (hn : n ≤ 14) (h6 : R 0 6 = nI n) (h : gB V R) : gB V (f_X7_remember R) := by
  have fr := fun k (q : k ≠ 4) (q0 : k ≠ 0) => fr_X7_remember R k q q0
  refine ⟨by rw [fr 2 (by decide) (by decide)]; exact h.1, fun i hi => ?_, fun s hs => by rw [fr 5 (by decide) (by decide)]; exact h.2.2 s hs⟩
  rcases rem4 hn h6 i hi with e | ⟨i', hi', e⟩
  · rw [e]; exact h.1
  · rw [e]; exact h.2.1 i' hi'
/-- an act on row 2 behind remember -/
theorem gB_act {V n : Nat} {R B : bM} (hn : n ≤ 14) (h6 : R 0 6 = nI n) (h : gB V R) (h0 : gmB (V + 1) (B 2 0)) (hr : ∀ a, a ≠ 2 → a ≠ 7 → B a = f_X7_remember (up2 R 0 0 0) a) : gB (V + 1) B := by
  have g := gB_rem (R := up2 R 0 0 0) hn (by rw [up2_at, if_neg (by decide)]; exact h6) (gB_ref h)
  exact ⟨h0, fun i hi => by rw [hr 4 (by decide) (by decide)]; exact gmB_up (g.2.1 i hi), fun s hs => by rw [hr 5 (by decide) (by decide)]; exact gmB_up (g.2.2 s hs)⟩
theorem rem_2 {R : bM} : f_X7_remember (up2 R 0 0 0) 2 = R 2 := (fr_X7_remember _ 2 (by decide) (by decide)).trans (up2_row (by decide))
theorem gB_1 {V : Nat} {R : bM} (h : gB V R) : gB (V + 1) R := gB_fr (Nat.le_succ V) rfl rfl rfl h
theorem gb_game {V : Nat} {M R : bM} {x1 : Int64} (hs : sS M R) (h : gB V R) : gB (V + 1) (f_X7_game R x1).2 := by
  obtain ⟨n, hn, h6⟩ := sS_n hs
  rw [u_f_X7_game]
  dsimp only
  refine gB_act hn h6 h ?_ (fun a q _ => fr_X7_gameOn _ 2 x1 a q)
  rw [r0_gameOn, rem_2]
  obtain ⟨v, v1, v2⟩ := h.1
  exact ⟨v + 1, by omega, by rw [v2, nI_1]⟩
theorem gb_pr {V : Nat} {v : Int32} {X : bM} (h : gB V X) : gB V (v, X).2 := h
theorem gb_if {c : Prop} [Decidable c] {a b : Int32 × bM} {V : Nat} (h1 : c → gB V a.2) (h2 : ¬ c → gB V b.2) : gB V (if c then a else b).2 := by
  by_cases h : c
  · rw [if_pos h]; exact h1 h
  · rw [if_neg h]; exact h2 h
theorem gR2 {M R : bM} (hs : sS M R) : gR (f_X7_remember (up2 R 0 0 0) 2) := by rw [rem_2]; exact hs.1.2.1
theorem gb_step {V : Nat} {M R : bM} {x1 : Int32} (hs : sS M R) (h : gB V R) : gB (V + 1) (f_X7_step R x1).2 := by
  obtain ⟨n, hn, h6⟩ := sS_n hs
  rw [u_f_X7_step]
  dsimp only
  rw [ref_e, ref_e, ref_e]
  have act : gB (V + 1) (f_X7_stepOn (f_X7_remember (up2 R 0 0 0)) 2 x1).2 := gB_act hn h6 h (by rw [r0_stepOn (gR2 hs), rem_2]; exact gmB_up h.1) (fun a q _ => fr_X7_stepOn _ 2 x1 a q)
  exact gb_if (fun _ => gb_pr (gB_1 (gB_ref h))) (fun _ => gb_if (fun _ => gb_pr (gB_1 (gB_ref h))) (fun _ => gb_pr act))
theorem gb_dam {V : Nat} {M R : bM} {x1 x2 : Int32} (hs : sS M R) (h : gB V R) : gB (V + 1) (f_X7_dam R x1 x2).2 := by
  obtain ⟨n, hn, h6⟩ := sS_n hs
  rw [u_f_X7_dam]
  dsimp only
  rw [ref_e, ref_e, ref_e]
  refine gb_if (fun _ => gb_pr (gB_1 (gB_ref h))) (fun c => gb_if (fun _ => gb_pr (gB_1 (gB_ref h))) (fun _ => ?_))
  obtain ⟨x, hx, e⟩ := cell_nI c
  rw [e]
  exact gb_pr (gB_act hn h6 h (by rw [r0_damOn (by decide) hx (gR2 hs), rem_2]; exact gmB_up h.1) (fun a q q7 => fr_X7_damOn _ 2 (nI x) a q q7))
theorem gb_flood {V : Nat} {M R : bM} (hs : sS M R) (h : gB V R) : gB (V + 1) (f_X7_flood R).2 := by
  obtain ⟨n, hn, h6⟩ := sS_n hs
  rw [u_f_X7_flood]
  dsimp only
  rw [ref_e, ref_e]
  have act : gB (V + 1) (f_X7_floodOn (f_X7_remember (up2 R 0 0 0)) 2).2 := gB_act hn h6 h (by rw [r0_floodOn (gR2 hs), rem_2]; exact gmB_up h.1) (fun a q _ => fr_X7_floodOn _ 2 a q)
  exact gb_if (fun _ => gb_pr (gB_1 (gB_ref h))) (fun _ => gb_if (fun _ => gb_pr act) (fun _ => gb_pr (gB_1 (gB_ref h))))
theorem gb_set {V : Nat} {M R : bM} {x1 x2 : Int32} (hs : sS M R) (h : gB V R) : gB (V + 1) (f_X7_set R x1 x2).2 := by
  obtain ⟨n, hn, h6⟩ := sS_n hs
  rw [u_f_X7_set]
  dsimp only
  rw [ref_e, ref_e]
  refine gb_if (fun _ => gb_pr (gB_1 (gB_ref h))) (fun c => ?_)
  have hw : ∃ w, w < 2 ∧ x1 = nI w := by
    rcases isSet_in c with ⟨q, _⟩ | ⟨q, _⟩
    · exact ⟨0, by decide, q⟩
    · exact ⟨1, by decide, q⟩
  obtain ⟨w, hw2, e⟩ := hw
  rw [e]
  exact gb_pr (gB_act hn h6 h (by rw [r0_change hw2, rem_2]; exact gmB_up h.1) (fun a q _ => fr_X7_change _ 2 (nI w) x2 a q))
theorem gb_undo {V : Nat} {M R : bM} (hs : sS M R) (h : gB V R) : gB (V + 1) (f_X7_undo R).2 := by
  obtain ⟨n, hn, h6⟩ := sS_n hs
  rw [u_f_X7_undo]
  dsimp only
  rw [ref_e, ref_e]
  refine gb_if (fun _ => gb_pr (gB_1 (gB_ref h))) (fun c => ?_)
  have hn1 : 1 ≤ n := by
    rcases Nat.eq_zero_or_pos n with z | z
    · exact absurd (by rw [h6, z]; rfl) c
    · exact z
  have e6 : up2 R 0 0 0 0 6 - 1 = nI (n - 1) := by
    rw [up2_at, if_neg (by decide), h6, show (1 : Int32) = nI 1 from rfl, pk_sub hn1]
  have e7 : up2 (up2 R 0 0 0) 0 6 (nI (n - 1)) 0 6 = nI (n - 1) := by rw [up2_at, if_pos rfl]
  rw [e6, e7, idx404]
  have cs := cs_at (M := up2 (up2 R 0 0 0) 0 6 (nI (n - 1))) (k1 := 4) (n1 := 5656) (k3 := 2) (n3 := 404) (a := 404 * (n - 1)) (b := 0) (by decide) (by omega) (by decide) 0
  have fR := fun k (hk : k ≠ 2) => fr_X7_copyState (up2 (up2 R 0 0 0) 0 6 (nI (n - 1))) 4 5656 (nI (404 * (n - 1))) 2 404 0 k hk
  rw [show (nI 0 : Int32) = 0 from rfl, if_pos (by omega)] at cs
  refine gb_pr ?_
  generalize f_X7_copyState (up2 (up2 R 0 0 0) 0 6 (nI (n - 1))) 4 5656 (nI (404 * (n - 1))) 2 404 0 = T at *
  have hrow : ∀ a, a ≠ 0 → a ≠ 2 → T a = R a := fun a q q2 => (fR a q2).trans ((up2_row q).trans (up2_row q))
  refine ⟨?_, fun i hi => by rw [hrow 4 (by decide) (by decide)]; exact gmB_up (h.2.1 i hi), fun s hs => by rw [hrow 5 (by decide) (by decide)]; exact gmB_up (h.2.2 s hs)⟩
  rw [cs, up2_row (show (4 : Nat) ≠ 0 by decide), up2_row (show (4 : Nat) ≠ 0 by decide)]
  exact gmB_up (h.2.1 (n - 1) (by omega))
theorem gb_save {V : Nat} {R : bM} {x1 : Int32} (h : gB V R) : gB (V + 1) (f_X7_save R x1).2 := by
  rw [u_f_X7_save]
  dsimp only
  rw [ref_e, ref_e]
  have i1 := in_small (x := x1) (n := 1) (hi := 1) (by decide) (by decide)
  refine gb_if (fun _ => gb_pr (gB_1 (gB_ref h))) (fun c => ?_)
  obtain ⟨s, hs2, e⟩ := vp_in_of (i1.mp c) (by decide)
  rw [e, idx404, nI_clamp (by omega)]
  have cs := fun j => cs_at (M := up2 R 0 0 0) (k1 := 2) (n1 := 404) (k3 := 5) (n3 := 808) (a := 0) (b := 404 * s) (by decide) (by decide) (by omega) j
  have fR := fun k (hk : k ≠ 5) => fr_X7_copyState (up2 R 0 0 0) 2 404 0 5 808 (nI (404 * s)) k hk
  rw [show (nI 0 : Int32) = 0 from rfl] at cs
  refine gb_pr ?_
  generalize f_X7_copyState (up2 R 0 0 0) 2 404 0 5 808 (nI (404 * s)) = T at *
  have hrow : ∀ a, a ≠ 0 → a ≠ 5 → a ≠ 6 → up2 T 6 s 1 a = R a := fun a q q5 q6 => (up2_row q6).trans ((fR a q5).trans (up2_row q))
  refine ⟨by rw [hrow 2 (by decide) (by decide) (by decide)]; exact gmB_up h.1, fun i hi => by rw [hrow 4 (by decide) (by decide) (by decide)]; exact gmB_up (h.2.1 i hi), fun i hi => ?_⟩
  rw [up2_row (show (5 : Nat) ≠ 6 by decide), cs, up2_row (show (2 : Nat) ≠ 0 by decide), up2_row (show (5 : Nat) ≠ 0 by decide)]
  by_cases d : 404 * s ≤ 404 * i ∧ 404 * i < 404 * s + 404
  · rw [if_pos d, show 0 + (404 * i - 404 * s) = 0 by omega]; exact gmB_up h.1
  · rw [if_neg d]; exact gmB_up (h.2.2 i hi)
theorem gb_restore {V : Nat} {R : bM} {x1 : Int32} (h : gB V R) : gB (V + 1) (f_X7_restore R x1).2 := by
  rw [u_f_X7_restore]
  dsimp only
  rw [ref_e, ref_e, ref_e]
  have i1 := in_small (x := x1) (n := 1) (hi := 1) (by decide) (by decide)
  refine gb_if (fun _ => gb_pr (gB_1 (gB_ref h))) (fun c => gb_if (fun _ => gb_pr (gB_1 (gB_ref h))) (fun _ => ?_))
  obtain ⟨s, hs2, e⟩ := vp_in_of (i1.mp c) (by decide)
  rw [e, idx404]
  have cs := cs_at (M := up2 R 0 0 0) (k1 := 5) (n1 := 808) (k3 := 2) (n3 := 404) (a := 404 * s) (b := 0) (by decide) (by omega) (by decide) 0
  have fR := fun k (hk : k ≠ 2) => fr_X7_copyState (up2 R 0 0 0) 5 808 (nI (404 * s)) 2 404 0 k hk
  rw [show (nI 0 : Int32) = 0 from rfl, if_pos (by omega)] at cs
  refine gb_pr ?_
  generalize f_X7_copyState (up2 R 0 0 0) 5 808 (nI (404 * s)) 2 404 0 = T at *
  have hrow : ∀ a, a ≠ 0 → a ≠ 2 → up2 T 0 6 0 a = R a := fun a q q2 => (up2_row q).trans ((fR a q2).trans (up2_row q))
  refine ⟨?_, fun i hi => by rw [hrow 4 (by decide) (by decide)]; exact gmB_up (h.2.1 i hi), fun s hs => by rw [hrow 5 (by decide) (by decide)]; exact gmB_up (h.2.2 s hs)⟩
  rw [up2_row (show (2 : Nat) ≠ 0 by decide), cs, up2_row (show (5 : Nat) ≠ 0 by decide)]
  exact gmB_up (h.2.2 s hs2)
theorem gb_load {V : Nat} {M R : bM} (hV : 121 ≤ V) (hs : sS M R) (h : gB V R) : gB (V + 1) (f_X7_load R).2 := by
  have fr := fun k (q1 : k ≠ 3) (q2 : k ≠ 7) (q3 : k ≠ 0) (q4 : k ≠ 2) (q5 : k ≠ 6) => fr_X7_load R k q1 q2 q3 q4 q5
  refine ⟨?_, fun i hi => by rw [fr 4 (by decide) (by decide) (by decide) (by decide) (by decide)]; exact gmB_up (h.2.1 i hi), fun s hs => by rw [fr 5 (by decide) (by decide) (by decide) (by decide) (by decide)]; exact gmB_up (h.2.2 s hs)⟩
  rcases (ok_load0 hs).2 with e | e
  · exact gmB_le (by omega) e
  · rw [e]; exact gmB_up h.1
/-- a call that keeps the rows 2, 4 and 5 -/
theorem gb_rd {V : Nat} {R B : bM} (h : gB V R) (h2 : B 2 = R 2) (h4 : B 4 = R 4) (h5 : B 5 = R 5) : gB (V + 1) B := gB_fr (Nat.le_succ V) h2 h4 h5 h
theorem gB_start : gB 200 (f_X7_clear Z0 2) := by
  have fR := fun (a : Nat) (q : a ≠ 2) => fr_X7_clear Z0 2 a q
  refine ⟨⟨1, by decide, ?_⟩, fun i _ => ⟨0, by decide, by rw [fR 4 (by decide)]; rfl⟩, fun s _ => ⟨0, by decide, by rw [fR 5 (by decide)]; rfl⟩⟩
  rw [clear_row]
  simp [newR]
  rfl
theorem gb_whyDam {V : Nat} {R : bM} {x1 x2 : Int32} (h : gB V R) : gB (V + 1) (f_X7_whyDam R x1 x2).2 := by
  rw [u_f_X7_whyDam]
  dsimp only
  rw [ref_e, ref_e]
  refine gb_if (fun _ => gb_pr (gB_1 (gB_ref h))) (fun c => gb_if (fun _ => gb_pr (gB_1 (gB_ref h))) (fun _ => ?_))
  obtain ⟨x, hx, e⟩ := cell_nI c
  rw [e]
  have h2 := (damReason_row (M := up2 R 0 0 0) (k := 2) (by decide) hx).1
  have fR := fun a (q : a ≠ 2) (q7 : a ≠ 7) => fr_X7_damReason (up2 R 0 0 0) 2 (nI x) a q q7
  exact gb_pr (gb_rd (gB_ref h) h2 (fR 4 (by decide) (by decide)) (fR 5 (by decide) (by decide)))
theorem gb_about {V : Nat} {R : bM} {x1 : Int32} (h : gB V R) : gB (V + 1) (f_X7_about R x1).2 := by
  rw [u_f_X7_about]
  dsimp only
  rw [ref_e, ref_e]
  repeat' first | with_reducible refine gb_if (fun _ => ?_) (fun _ => ?_) | exact gb_pr (gB_1 (gB_ref h))
theorem gb_playerOf {V : Nat} {R : bM} {x1 x2 : Int32} (h : gB V R) : gB (V + 1) (f_X7_playerOf R x1 x2).2 := by
  rw [u_f_X7_playerOf]
  dsimp only
  rw [ref_e, ref_e, ref_e]
  repeat' first | with_reducible refine gb_if (fun _ => ?_) (fun _ => ?_) | exact gb_pr (gB_1 (gB_ref h))
theorem gb_cellOf {V : Nat} {R : bM} {x1 x2 x3 : Int32} (h : gB V R) : gB (V + 1) (f_X7_cellOf R x1 x2 x3).2 := by
  rw [u_f_X7_cellOf]
  dsimp only
  rw [ref_e, ref_e, ref_e]
  repeat' first | with_reducible refine gb_if (fun _ => ?_) (fun _ => ?_) | exact gb_pr (gB_1 (gB_ref h))
theorem gb_setting {V : Nat} {R : bM} {x1 : Int32} (h : gB V R) : gB (V + 1) (f_X7_setting R x1).2 := by
  rw [u_f_X7_setting]
  dsimp only
  rw [ref_e, ref_e]
  repeat' first | with_reducible refine gb_if (fun _ => ?_) (fun _ => ?_) | exact gb_pr (gB_1 (gB_ref h))
