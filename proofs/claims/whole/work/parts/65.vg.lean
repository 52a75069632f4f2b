/-! THE TEXT: one command of the reference -/
theorem done_e {M : bM} {x : Int32} : f_X7_done M x = (1, up2 M 0 12 (M 0 12 + (if x = 0 then 1 else 0))) := by
  rw [u_f_X7_done]
  by_cases c : x = 0
  · rw [if_pos c, if_pos c]
  · rw [if_neg c, if_neg c]
theorem dg_in {v : Nat} (hv : v < 256) : f_X7_in (nI v - 48).toInt64 0 9 = 0 ↔ ¬ (48 ≤ v ∧ v ≤ 57) := by
  have i := in_small (x := nI v - 48) (n := 9) (hi := 9) (by decide) (by decide)
  by_cases c : 48 ≤ v
  · rw [dig_v c] at i ⊢
    constructor
    · intro h q
      exact i.mpr (vp_in_nI (by omega) (by decide)) h
    · intro h
      refine Classical.byContradiction (fun q => ?_)
      obtain ⟨j, hj, e⟩ := vp_in_of (i.mp q) (by decide)
      have := nI_inj (by omega) (by omega) e
      omega
  · refine ⟨fun _ q => c q.1, fun _ => Classical.byContradiction (fun q => i.mp q (Or.inl (dig_neg (by omega))))⟩
theorem fig_none {R : bM} {d lo hi : Int32} : f_X7_figures R (-1) d lo hi = (-1, R) := by
  rw [u_f_X7_figures]
  by_cases c : d = 2
  · rw [if_pos c, if_pos rfl, if_pos rfl]
  · rw [if_neg c, if_pos rfl, if_pos rfl]
theorem fig1 {R : bM} {t : Nat → Nat} {z p h : Nat} {a : Int32} (hR : txA R t z) (hp : R 0 11 = nI p) (hpz : p ≤ z) (ha : ¬ a = -1) (hh : h ≤ 9) :
    f_X7_figures R a 1 0 (nI h) = if p < z ∧ 48 ≤ t p ∧ t p ≤ 48 + h then (nI (t p - 48), up2 R 0 11 (nI (p + 1))) else (-1, R) := by
  have hz := hR.1
  rw [u_f_X7_figures, if_neg (show ¬ (1 : Int32) = 2 by decide), if_neg ha, hR.2.1, hp]
  dsimp only
  by_cases c : p < z
  · obtain ⟨e, h256⟩ := hR.2.2 p c
    rw [if_neg (nI_ge c (by omega)), nI_clamp (by omega), e]
    have hd := dg_in h256
    by_cases c1 : 48 ≤ t p ∧ t p ≤ 57
    · rw [if_neg (fun q => hd.mp q c1), dig_v c1.1, Int32.mul_one, Int32.zero_add]
      by_cases c2 : t p ≤ 48 + h
      · rw [if_neg (nI_nlt (by omega) (by omega)), Int32.add_sub_cancel, if_pos (nI_pos' (by omega)), if_neg ha, if_pos ⟨c, c1.1, c2⟩, nI_1]
      · rw [if_pos (nI_lt (by omega) (by omega)), if_neg (fun q => c2 q.2.2)]
    · rw [if_pos (hd.mpr c1), if_neg (fun q => c1 ⟨q.2.1, by omega⟩)]
  · rw [if_pos (nI_le (by omega) (by omega)), if_neg (fun q => c q.1)]
theorem fig2 {R : bM} {t : Nat → Nat} {z p lo hi : Nat} {a : Int32} (hR : txA R t z) (hp : R 0 11 = nI p) (hpz : p ≤ z) (ha : ¬ a = -1) (hlo : lo ≤ 9) (hhi : hi ≤ 99) :
    f_X7_figures R a 2 (nI lo) (nI hi) = if p < z ∧ 48 ≤ t p ∧ t p ≤ 57 ∧ (t p - 48) * 10 ≤ hi then (if p + 1 < z ∧ 48 ≤ t (p + 1) ∧ t (p + 1) ≤ 57 ∧ lo ≤ (t p - 48) * 10 + (t (p + 1) - 48) ∧ (t p - 48) * 10 + (t (p + 1) - 48) ≤ hi then (nI ((t p - 48) * 10 + (t (p + 1) - 48)), up2 (up2 R 0 11 (nI (p + 1))) 0 11 (nI (p + 2))) else (-1, up2 R 0 11 (nI (p + 1)))) else (-1, R) := by
  have hz := hR.1
  rw [u_f_X7_figures, if_pos rfl, if_neg ha, hR.2.1, hp]
  dsimp only
  by_cases c : p < z
  · obtain ⟨e, h256⟩ := hR.2.2 p c
    rw [if_neg (nI_ge c (by omega)), nI_clamp (by omega), e]
    have hd := dg_in h256
    by_cases c1 : 48 ≤ t p ∧ t p ≤ 57
    · rw [if_neg (fun q => hd.mp q c1), dig_v c1.1, show (10 : Int32) = nI 10 from rfl, pk_mul, Int32.zero_add]
      by_cases c2 : (t p - 48) * 10 ≤ hi
      · have e9 : nI ((t p - 48) * 10) + nI 10 - 1 = nI ((t p - 48) * 10 + 9) := by
          rw [nI_add, show (1 : Int32) = nI 1 from rfl, pk_sub (by omega)]
          exact congrArg nI (by omega)
        rw [if_neg (nI_nlt (by omega) (by omega)), e9, if_pos (nI_le (by omega) (by omega)), if_neg ha, if_pos (show p < z ∧ 48 ≤ t p ∧ t p ≤ 57 ∧ (t p - 48) * 10 ≤ hi from ⟨c, c1.1, c1.2, c2⟩), nI_1]
        have m2 : up2 R 0 11 (nI (p + 1)) 0 2 = nI z := by rw [up2_at, if_neg (by decide)]; exact hR.2.1
        have m11 : up2 R 0 11 (nI (p + 1)) 0 11 = nI (p + 1) := by rw [up2_at, if_pos rfl]
        have m1 : ∀ q, up2 R 0 11 (nI (p + 1)) 1 q = R 1 q := fun q => by rw [up2_row (show (1 : Nat) ≠ 0 by decide)]
        rw [m2, m11, m1]
        by_cases d : p + 1 < z
        · obtain ⟨e', h256'⟩ := hR.2.2 (p + 1) d
          rw [if_neg (nI_ge d (by omega)), nI_clamp (by omega), e']
          have hd' := dg_in h256'
          by_cases d1 : 48 ≤ t (p + 1) ∧ t (p + 1) ≤ 57
          · rw [if_neg (fun q => hd'.mp q d1), dig_v d1.1, Int32.mul_one, nI_add]
            by_cases d2 : (t p - 48) * 10 + (t (p + 1) - 48) ≤ hi
            · rw [if_neg (nI_nlt (by omega) (by omega)), Int32.add_sub_cancel]
              by_cases d3 : lo ≤ (t p - 48) * 10 + (t (p + 1) - 48)
              · rw [if_pos (nI_le d3 (by omega)), if_neg ha, if_pos (show p + 1 < z ∧ 48 ≤ t (p + 1) ∧ t (p + 1) ≤ 57 ∧ lo ≤ (t p - 48) * 10 + (t (p + 1) - 48) ∧ (t p - 48) * 10 + (t (p + 1) - 48) ≤ hi from ⟨d, d1.1, d1.2, d3, d2⟩), nI_1]
              · rw [if_neg (fun q => d3 ((nI_leI (by omega) (by omega)).mp q)), if_neg (fun q => d3 q.2.2.2.1)]
            · rw [if_pos (nI_lt (by omega) (by omega)), if_neg (fun q => d2 q.2.2.2.2)]
          · rw [if_pos (hd'.mpr d1), if_neg (fun q => d1 ⟨q.2.1, q.2.2.1⟩)]
        · rw [if_pos (nI_le (by omega) (by omega)), if_neg (fun q => d q.1)]
      · rw [if_pos (nI_lt (by omega) (by omega)), if_neg (fun q => c2 q.2.2.2)]
    · rw [if_pos (hd.mpr c1), if_neg (fun q => c1 ⟨q.2.1, q.2.2.1⟩)]
  · rw [if_pos (nI_le (by omega) (by omega)), if_neg (fun q => c q.1)]
/-! what a command does -/
abbrev stO (V : Nat) (S : bM) (A : Int32 × bM) (B : bM) : Prop := tG True A.2 B 3 3 ∧ B 0 12 = S 0 12 + (if A.1 = 0 then 1 else 0) ∧ gmB (V + 1) (B 3 0)
abbrev cmO (t : Nat → Nat) (z : Nat) (k : Bool × Nat) (S : bM) (A : bM → Int32 × bM) (B : Int32 × bM) : Prop := (k.1 = true → B.1 = 0) ∧ (k.1 = false → ¬ B.1 = 0) ∧ B.2 0 11 = nI k.2 ∧ (∀ j, j ≠ 11 → j ≠ 12 → B.2 0 j = S 0 j) ∧
  (k.1 = false → ∀ M V, txC M t z → tG True M S 3 3 → gmB V (S 3 0) → V < 2 ^ 20 → stO V S (A M) B.2)
theorem gmB_up {V : Nat} {x : Int32} (h : gmB V x) : gmB (V + 1) x := by obtain ⟨v, h1, h2⟩ := h; exact ⟨v, by omega, h2⟩
theorem one_ne : ¬ (1 : Int32) = 0 := by decide
theorem tG_12 {M R S : bM} {v : Int32} (h : S 3 = R 3) (t : tG True M R 3 3) : tG True M (up2 S 0 12 v) 3 3 :=
  tG_row (fun _ _ _ => rfl) rfl (by rw [up2_row (show (3 : Nat) ≠ 0 by decide)]; exact h) t
/-- an act that ends with a count: T is the row before the count, b whether it is done -/
theorem fin_ok {t : Nat → Nat} {z p : Nat} {S T : bM} {A : bM → Int32 × bM} {b : Int32} (hp : S 0 11 = nI p) (h0 : ∀ j, T 0 j = S 0 j) (hb : b = 0 ∨ b = 1)
    (hT : ∀ M V, txC M t z → tG True M S 3 3 → gmB V (S 3 0) → V < 2 ^ 20 → tG True (A M).2 T 3 3 ∧ (A M).1 = b ∧ gmB (V + 1) (T 3 0)) : cmO t z (false, p) S A (f_X7_done T b) := by
  rw [done_e]
  refine ⟨fun q => no_ft q, fun _ => one_ne, ?_, fun j h1 h2 => ?_, fun _ M V hx ht hv hV => ?_⟩
  · show up2 T 0 12 (T 0 12 + (if b = 0 then 1 else 0)) 0 11 = nI p
    rw [up2_at, if_neg (by decide), h0, hp]
  · show up2 T 0 12 (T 0 12 + (if b = 0 then 1 else 0)) 0 j = S 0 j
    rw [up2_at, if_neg h2, h0]
  · obtain ⟨a1, a2, a3⟩ := hT M V hx ht hv hV
    refine ⟨tG_12 rfl a1, ?_, ?_⟩
    · show up2 T 0 12 (T 0 12 + (if b = 0 then 1 else 0)) 0 12 = S 0 12 + (if (A M).1 = 0 then 1 else 0)
      rw [up2_at, if_pos rfl, h0, a2]
    · show gmB (V + 1) (up2 T 0 12 (T 0 12 + (if b = 0 then 1 else 0)) 3 0)
      rw [up2_row (show (3 : Nat) ≠ 0 by decide)]
      exact a3
theorem stO_mk {V : Nat} {S X B : bM} (h1 : tG True X B 3 3) (h2 : B 0 12 = S 0 12) (h3 : gmB (V + 1) (B 3 0)) : stO V S (1, X) B := ⟨h1, by rw [if_neg one_ne, Int32.add_zero]; exact h2, h3⟩
theorem rd_step {t : Nat → Nat} {z p j : Nat} {S : bM} (hp : S 0 11 = nI p) (hj : j < 3) : cmO t z (false, p) S (fun M => f_X0_stepIfPossible M 3 (nI j)) (f_X7_readStep S 3 (nI j)) := by
  rw [u_f_X7_readStep]
  dsimp only
  by_cases c1 : S 3 1 = 1
  · rw [if_neg (fun q => uw_iff.mp q c1)]
    by_cases c2 : f_X7_reason S 3 (nI j) = 0
    · rw [if_pos c2, if_pos (stepOn_1.mpr c2)]
      refine fin_ok hp (fun i => by rw [fr_X7_stepOn S 3 (nI j) 0 (by decide)]) (Or.inr rfl) (fun M V hx ht hv hV => ?_)
      obtain ⟨a1, a2, a3⟩ := (tG_ifp (by decide) ht hj).1 ⟨c1, c2⟩
      exact ⟨a3, a1, by rw [r0_stepOn ht.2.1]; exact gmB_up hv⟩
    · rw [if_neg c2]
      refine fin_ok hp (fun i => rfl) (Or.inl rfl) (fun M V hx ht hv hV => ?_)
      have := (tG_ifp (by decide) ht hj).2 (fun q => c2 q.2)
      try dsimp only
      rw [this]
      exact ⟨ht, rfl, gmB_up hv⟩
  · rw [if_pos (uw_iff.mpr c1)]
    refine fin_ok hp (fun i => rfl) (Or.inl rfl) (fun M V hx ht hv hV => ?_)
    have := (tG_ifp (by decide) ht hj).2 (fun q => c1 q.1)
    try dsimp only
    rw [this]
    exact ⟨ht, rfl, gmB_up hv⟩
theorem rd_best {t : Nat → Nat} {z p : Nat} {S : bM} (hp : S 0 11 = nI p) : cmO t z (false, p) S (fun M => (1, (f_X0_stepIfPossible (f_X5_bestStep M 3).2 3 (f_X5_bestStep M 3).1).2)) (f_X7_readBest S 3) := by
  rw [u_f_X7_readBest]
  dsimp only
  have hr := fr_X7_bestOf S 3 0 (by decide)
  have hok := best_ok (R := S) (k := 3) (by decide)
  have hun := best_under (M := S) (k := 3)
  have hb := fun (M : bM) (ht : tG True M S 3 3) => tG_best (k := 3) (g := 3) (by decide) (by decide) ht
  generalize f_X7_bestOf S 3 = B at *
  by_cases c : B.1 = -1
  · rw [if_pos c]
    refine ⟨fun q => no_ft q, fun _ => one_ne, by show B.2 0 11 = nI p; rw [hr, hp], fun j h1 h2 => by show B.2 0 j = S 0 j; rw [hr], fun _ M V hx ht hv hV => ?_⟩
    obtain ⟨b1, b2, b3⟩ := hb M ht
    show stO V S (1, (f_X0_stepIfPossible (f_X5_bestStep M 3).2 3 (f_X5_bestStep M 3).1).2) B.2
    rw [b1, c, sip_bad not_in3]
    exact stO_mk b2 (by rw [hr]) (by rw [b3]; exact gmB_up hv)
  · rw [if_neg c]
    have h1 := hun c
    rcases hok with hok | ⟨j, hj, e, er⟩
    · exact absurd hok c
    rw [e]
    have hs0 := fr_X7_stepOn B.2 3 (nI j) 0 (by decide)
    refine ⟨fun q => no_ft q, fun _ => one_ne, by show (f_X7_stepOn B.2 3 (nI j)).2 0 11 = nI p; rw [hs0, hr, hp], fun i h1 h2 => by show (f_X7_stepOn B.2 3 (nI j)).2 0 i = S 0 i; rw [hs0, hr], fun _ M V hx ht hv hV => ?_⟩
    obtain ⟨b1, b2, b3⟩ := hb M ht
    show stO V S (1, (f_X0_stepIfPossible (f_X5_bestStep M 3).2 3 (f_X5_bestStep M 3).1).2) (f_X7_stepOn B.2 3 (nI j)).2
    rw [b1, e]
    obtain ⟨a1, a2, a3⟩ := (tG_ifp (by decide) b2 hj).1 ⟨by rw [b3]; exact h1, by rw [reason_c b3]; exact er⟩
    exact stO_mk a3 (by rw [hs0, hr]) (by rw [r0_stepOn b2.2.1, b3]; exact gmB_up hv)
/-- the dam of a command, behind its two digits -/
def dmB (S : bM) (x : Int32) : Int32 × bM := if f_X7_isUnderWay S 3 = 0 then (if (f_X7_done S 0).1 = 0 then (0, (f_X7_done S 0).2) else (1, (f_X7_done S 0).2)) else (if (f_X7_damReason S 3 x).1 = 0 then (if (f_X7_damOn (f_X7_damReason S 3 x).2 3 x).1 = 0 then (if (f_X7_done (f_X7_damOn (f_X7_damReason S 3 x).2 3 x).2 1).1 = 0 then (0, (f_X7_done (f_X7_damOn (f_X7_damReason S 3 x).2 3 x).2 1).2) else (1, (f_X7_done (f_X7_damOn (f_X7_damReason S 3 x).2 3 x).2 1).2)) else (if (f_X7_done (f_X7_damOn (f_X7_damReason S 3 x).2 3 x).2 0).1 = 0 then (0, (f_X7_done (f_X7_damOn (f_X7_damReason S 3 x).2 3 x).2 0).2) else (1, (f_X7_done (f_X7_damOn (f_X7_damReason S 3 x).2 3 x).2 0).2))) else (if (f_X7_done (f_X7_damReason S 3 x).2 0).1 = 0 then (0, (f_X7_done (f_X7_damReason S 3 x).2 0).2) else (1, (f_X7_done (f_X7_damReason S 3 x).2 0).2)))
theorem done_if {T : bM} {b : Int32} : (if (f_X7_done T b).1 = 0 then ((0 : Int32), (f_X7_done T b).2) else (1, (f_X7_done T b).2)) = f_X7_done T b := by
  rw [done_e, if_neg one_ne]
theorem rd_dmB {t : Nat → Nat} {z p c : Nat} {S : bM} (hp : S 0 11 = nI p) (hc : c < 64) : cmO t z (false, p) S (fun M => f_X0_damIfPossible M 3 (nI c)) (dmB S (nI c)) := by
  unfold dmB
  rw [done_if, done_if, done_if, done_if]
  have hrow : (f_X7_damReason S 3 (nI c)).2 3 = S 3 := (damReason_row (M := S) (k := 3) (by decide) hc).1
  have hr0 := fr_X7_damReason S 3 (nI c) 0 (by decide) (by decide)
  by_cases c1 : S 3 1 = 1
  · rw [if_neg (fun q => uw_iff.mp q c1)]
    have heq : ∀ M, tG True M S 3 3 → (f_X7_damReason (f_X7_damReason S 3 (nI c)).2 3 (nI c)).1 = (f_X7_damReason S 3 (nI c)).1 := fun M ht => by
      have ht' : tG True M (f_X7_damReason S 3 (nI c)).2 3 3 := tG_row (fun _ _ _ => rfl) rfl hrow ht
      rw [← (sG_damReason (k := 3) (by decide) (by decide) ht.2.2.2 ht.1 ht.2.1 ht.2.2.1 c1 hc).1]
      exact (sG_damReason (k := 3) (by decide) (by decide) ht'.2.2.2 ht'.1 ht'.2.1 ht'.2.2.1 (by rw [hrow]; exact c1) hc).1.symm
    by_cases c2 : (f_X7_damReason S 3 (nI c)).1 = 0
    · rw [if_pos c2]
      have hd0 := fr_X7_damOn (f_X7_damReason S 3 (nI c)).2 3 (nI c) 0 (by decide) (by decide)
      have key : ∀ M V, tG True M S 3 3 → gmB V (S 3 0) → (f_X7_damOn (f_X7_damReason S 3 (nI c)).2 3 (nI c)).1 = 0 ∧ tG True (f_X0_damIfPossible M 3 (nI c)).2 (f_X7_damOn (f_X7_damReason S 3 (nI c)).2 3 (nI c)).2 3 3 ∧ (f_X0_damIfPossible M 3 (nI c)).1 = 1 ∧ gmB (V + 1) ((f_X7_damOn (f_X7_damReason S 3 (nI c)).2 3 (nI c)).2 3 0) := fun M V ht hv => by
        have ht' : tG True M (f_X7_damReason S 3 (nI c)).2 3 3 := tG_row (fun _ _ _ => rfl) rfl hrow ht
        obtain ⟨a1, a2, a3⟩ := (tG_dip (k := 3) (by decide) (by decide) ht' hc).1 ⟨by rw [hrow]; exact c1, (heq M ht).trans c2⟩
        exact ⟨a2, a3, a1, by rw [r0_damOn (by decide) hc ht'.2.1, hrow]; exact gmB_up hv⟩
      generalize f_X7_damOn (f_X7_damReason S 3 (nI c)).2 3 (nI c) = D at *
      by_cases c3 : D.1 = 0
      · rw [if_pos c3]
        exact fin_ok hp (fun i => by rw [hd0, hr0]) (Or.inr rfl) (fun M V hx ht hv hV => by
          obtain ⟨k1, k2, k3, k4⟩ := key M V ht hv
          exact ⟨k2, k3, k4⟩)
      · rw [if_neg c3]
        exact fin_ok hp (fun i => by rw [hd0, hr0]) (Or.inl rfl) (fun M V hx ht hv hV => absurd (key M V ht hv).1 c3)
    · rw [if_neg c2]
      refine fin_ok hp (fun i => by rw [hr0]) (Or.inl rfl) (fun M V hx ht hv hV => ?_)
      obtain ⟨a1, a2⟩ := (tG_dip (k := 3) (by decide) (by decide) ht hc).2 (fun q => c2 q.2)
      exact ⟨tG_row (fun _ _ _ => rfl) rfl hrow a2, a1, by rw [hrow]; exact gmB_up hv⟩
  · rw [if_pos (uw_iff.mpr c1)]
    refine fin_ok hp (fun i => rfl) (Or.inl rfl) (fun M V hx ht hv hV => ?_)
    obtain ⟨a1, a2⟩ := (tG_dip (k := 3) (by decide) (by decide) ht hc).2 (fun q => c1 q.1)
    exact ⟨a2, a1, gmB_up hv⟩
theorem txA_11 {R : bM} {t : Nat → Nat} {z : Nat} {v : Int32} (h : txA R t z) : txA (up2 R 0 11 v) t z :=
  ⟨h.1, by rw [up2_at, if_neg (by decide)]; exact h.2.1, fun i hi => by rw [up2_row (show (1 : Nat) ≠ 0 by decide)]; exact h.2.2 i hi⟩
theorem tG_11 {M R : bM} {v : Int32} (t : tG True M R 3 3) : tG True M (up2 R 0 11 v) 3 3 := tG_row (fun _ _ _ => rfl) rfl (by rw [up2_row (show (3 : Nat) ≠ 0 by decide)]) t
theorem up2_11s {R : bM} {v w : Int32} : up2 (up2 R 0 11 v) 0 11 w = up2 R 0 11 w := by
  funext a b
  rw [u2, u2, u2]
  by_cases c : a = 0 ∧ b = 11
  · rw [if_pos c, if_pos c]
  · rw [if_neg c, if_neg c, if_neg c]
/-- the spot moved on, then a command -/
theorem cm_move {t : Nat → Nat} {z p : Nat} {k : Bool × Nat} {S : bM} {A : bM → Int32 × bM} {B : Int32 × bM} (h : cmO t z k (up2 S 0 11 (nI p)) A B) : cmO t z k S A B := by
  obtain ⟨h1, h2, h3, h4, h5⟩ := h
  refine ⟨h1, h2, h3, fun j q1 q2 => by rw [h4 j q1 q2, up2_at, if_neg q1], fun q M V hx ht hv hV => ?_⟩
  obtain ⟨a1, a2, a3⟩ := h5 q M V hx (tG_11 ht) (by rw [up2_row (show (3 : Nat) ≠ 0 by decide)]; exact hv) hV
  exact ⟨a1, by rw [a2, up2_at, if_neg (by decide)], a3⟩
/-- a command that stops at a character -/
theorem cm_stop {t : Nat → Nat} {z p : Nat} {S : bM} {A : bM → Int32 × bM} (hp : S 0 11 = nI p) : cmO t z (true, p) S A (0, S) :=
  ⟨fun _ => rfl, fun q => no_tf q, hp, fun _ _ _ => rfl, fun q => no_tf q⟩
theorem up2_11 {S : bM} {v : Int32} : up2 S 0 11 v 0 11 = v := by rw [up2_at, if_pos rfl]
theorem nx_no {t : Nat → Nat} {z p lo hi : Nat} {k : Bool × Nat} (hpz : p ≤ z) (h : ¬ (p < z ∧ lo ≤ t p ∧ t p ≤ hi)) : nx t z p lo hi k = (true, p) := by
  unfold nx
  by_cases c : p < z
  · rw [if_pos c, if_neg (fun q => h ⟨c, q⟩)]
  · rw [if_neg c, show z = p by omega]
theorem nx_yes {t : Nat → Nat} {z p lo hi : Nat} {k : Bool × Nat} (h : p < z ∧ lo ≤ t p ∧ t p ≤ hi) : nx t z p lo hi k = k := by
  unfold nx
  rw [if_pos h.1, if_pos h.2]
theorem rd_dam {t : Nat → Nat} {z p : Nat} {S : bM} (hS : txA S t z) (hp : S 0 11 = nI p) (hpz : p ≤ z) : cmO t z (nx t z p 48 55 (nx t z (p + 1) 48 55 (false, p + 2))) S (fun M => f_X0_damIfPossible M 3 (nI (8 * (t (p + 1) - 48) + (t p - 48)))) (f_X7_readDam S 3) := by
  rw [u_f_X7_readDam]
  dsimp only
  rw [show (7 : Int32) = nI 7 from rfl, fig1 hS hp hpz (by decide) (by decide)]
  by_cases c1 : p < z ∧ 48 ≤ t p ∧ t p ≤ 48 + 7
  · have hx : t p - 48 < 8 := by omega
    rw [if_pos c1, nx_yes (t := t) (z := z) (p := p) (lo := 48) (hi := 55) ⟨c1.1, c1.2.1, by omega⟩]
    dsimp only
    rw [fig1 (txA_11 hS) up2_11 (by omega) (nI_ne_m1 (by omega)) (by decide)]
    by_cases c2 : p + 1 < z ∧ 48 ≤ t (p + 1) ∧ t (p + 1) ≤ 48 + 7
    · rw [if_pos c2, nx_yes (t := t) (z := z) (p := p + 1) (lo := 48) (hi := 55) ⟨c2.1, c2.2.1, by omega⟩, up2_11s]
      dsimp only
      rw [if_neg (nI_ne_m1 (by omega)), show (8 : Int32) = nI 8 from rfl, pk_mul, nI_add]
      exact cm_move (rd_dmB up2_11 (by omega))
    · rw [if_neg c2, nx_no (t := t) (z := z) (p := p + 1) (lo := 48) (hi := 55) (by omega) (fun q => c2 ⟨q.1, q.2.1, by omega⟩)]
      dsimp only
      rw [if_pos rfl]
      exact cm_move (cm_stop up2_11)
  · rw [if_neg c1, nx_no (t := t) (z := z) (p := p) (lo := 48) (hi := 55) hpz (fun q => c1 ⟨q.1, q.2.1, by omega⟩)]
    dsimp only
    rw [fig_none]
    dsimp only
    rw [if_pos rfl]
    exact cm_stop hp
/-- the flood -/
def flB (S : bM) : Int32 × bM := if f_X7_isUnderWay S 3 = 0 then f_X7_done S 0 else (if f_X7_canStep S 3 = 0 then (if (f_X7_floodOn S 3).1 < 0 then f_X7_done (f_X7_floodOn S 3).2 0 else f_X7_done (f_X7_floodOn S 3).2 1) else f_X7_done S 0)
theorem rd_flood {t : Nat → Nat} {z p : Nat} {S : bM} (hp : S 0 11 = nI p) : cmO t z (false, p) S (fun M => f_X0_floodIfPossible M 3) (flB S) := by
  unfold flB
  have hcf := fun (M : bM) (ht : tG True M S 3 3) => sG_canFlood (k := 3) ht.1 ht.2.1
  by_cases c1 : S 3 1 = 1
  · rw [if_neg (fun q => uw_iff.mp q c1)]
    by_cases c2 : f_X7_canStep S 3 = 0
    · rw [if_pos c2]
      have hf0 := fr_X7_floodOn S 3 0 (by decide)
      have key : ∀ M V, tG True M S 3 3 → gmB V (S 3 0) → ¬ (f_X7_floodOn S 3).1 < 0 ∧ tG True (f_X0_floodIfPossible M 3).2 (f_X7_floodOn S 3).2 3 3 ∧ (f_X0_floodIfPossible M 3).1 = 1 ∧ gmB (V + 1) ((f_X7_floodOn S 3).2 3 0) := fun M V ht hv => by
        obtain ⟨f1, f2⟩ := tG_flood (k := 3) (g := 3) (by decide) ht c1
        have e : f_X0_floodIfPossible M 3 = (1, (f_X0_washAway M 3).2) := by
          rw [u_f_X0_floodIfPossible]
          dsimp only
          rw [if_neg ((hcf M ht).mpr ⟨c1, c2⟩)]
        rw [e]
        exact ⟨f2, f1, rfl, by rw [r0_floodOn ht.2.1]; exact gmB_up hv⟩
      generalize f_X7_floodOn S 3 = F at *
      by_cases c3 : F.1 < 0
      · rw [if_pos c3]
        exact fin_ok hp (fun i => by rw [hf0]) (Or.inl rfl) (fun M V hx ht hv hV => absurd c3 (key M V ht hv).1)
      · rw [if_neg c3]
        exact fin_ok hp (fun i => by rw [hf0]) (Or.inr rfl) (fun M V hx ht hv hV => (key M V ht hv).2)
    · rw [if_neg c2]
      refine fin_ok hp (fun i => rfl) (Or.inl rfl) (fun M V hx ht hv hV => ?_)
      have e : f_X0_floodIfPossible M 3 = (0, M) := by
        rw [u_f_X0_floodIfPossible]
        dsimp only
        rw [if_pos (Classical.byContradiction (fun q => c2 ((hcf M ht).mp q).2))]
      try dsimp only
      rw [e]
      exact ⟨ht, rfl, gmB_up hv⟩
  · rw [if_pos (uw_iff.mpr c1)]
    refine fin_ok hp (fun i => rfl) (Or.inl rfl) (fun M V hx ht hv hV => ?_)
    have e : f_X0_floodIfPossible M 3 = (0, M) := by
      rw [u_f_X0_floodIfPossible]
      dsimp only
      rw [if_pos (Classical.byContradiction (fun q => c1 ((hcf M ht).mp q).1))]
    try dsimp only
    rw [e]
    exact ⟨ht, rfl, gmB_up hv⟩
/-- a new game -/
def gmX (S : bM) (x : Int32) : Int32 × bM := if (f_X7_gameOn S 3 x.toInt64).1 ≤ 0 then f_X7_done (f_X7_gameOn S 3 x.toInt64).2 0 else f_X7_done (f_X7_gameOn S 3 x.toInt64).2 1
theorem rd_gmX {t : Nat → Nat} {z p : Nat} {S : bM} {x : Int32} (hp : S 0 11 = nI p) : cmO t z (false, p) S (fun M => (1, f_X0_beginGame M 3 x.toInt64)) (gmX S x) := by
  unfold gmX
  have hg0 := fr_X7_gameOn S 3 x.toInt64 0 (by decide)
  have key : ∀ M V, tG True M S 3 3 → gmB V (S 3 0) → V < 2 ^ 20 → ¬ (f_X7_gameOn S 3 x.toInt64).1 ≤ 0 ∧ tG True (f_X0_beginGame M 3 x.toInt64) (f_X7_gameOn S 3 x.toInt64).2 3 3 ∧ gmB (V + 1) ((f_X7_gameOn S 3 x.toInt64).2 3 0) := fun M V ht hv hV => by
    obtain ⟨v, v1, v2⟩ := hv
    refine ⟨?_, tG_new (by decide) ht, v + 1, by omega, by rw [r0_gameOn, v2, nI_1]⟩
    rw [(sG_new ht.1).1, v2, nI_1]
    exact nI_nle (by omega) (by omega)
  generalize f_X7_gameOn S 3 x.toInt64 = G at *
  by_cases c : G.1 ≤ 0
  · rw [if_pos c]
    exact fin_ok hp (fun i => by rw [hg0]) (Or.inl rfl) (fun M V hx ht hv hV => absurd c (key M V ht hv hV).1)
  · rw [if_neg c]
    refine fin_ok hp (fun i => by rw [hg0]) (Or.inr rfl) (fun M V hx ht hv hV => ?_)
    obtain ⟨_, k2, k3⟩ := key M V ht hv hV
    refine ⟨?_, rfl, k3⟩
    dsimp only
    exact k2
/-- a change of a setting -/
def chX (S : bM) (x y : Int32) : Int32 × bM := if f_X7_isSetting x y = 0 then f_X7_done S 0 else (if (f_X7_change S 3 x y).1 < 0 then f_X7_done (f_X7_change S 3 x y).2 0 else f_X7_done (f_X7_change S 3 x y).2 1)
theorem rd_chX {t : Nat → Nat} {z p w : Nat} {S : bM} {y : Int32} (hp : S 0 11 = nI p) (hw : w < 2) : cmO t z (false, p) S (fun M => f_X0_changeIfPossible M 3 (nI w) y) (chX S (nI w) y) := by
  unfold chX
  have he : ∀ M : bM, f_X0_changeIfPossible M 3 (nI w) y = if f_X7_isSetting (nI w) y = 0 then (0, M) else (1, (f_X0_changeSetting M 3 (nI w) y).2) := fun M => by
    rw [u_f_X0_changeIfPossible, setting_eq]
  by_cases c : f_X7_isSetting (nI w) y = 0
  · rw [if_pos c]
    refine fin_ok hp (fun i => rfl) (Or.inl rfl) (fun M V hx ht hv hV => ?_)
    try dsimp only
    rw [he, if_pos c]
    exact ⟨ht, rfl, gmB_up hv⟩
  · rw [if_neg c]
    have hc0 := fr_X7_change S 3 (nI w) y 0 (by decide)
    have key : ∀ M V, tG True M S 3 3 → gmB V (S 3 0) → ¬ (f_X7_change S 3 (nI w) y).1 < 0 ∧ tG True (f_X0_changeIfPossible M 3 (nI w) y).2 (f_X7_change S 3 (nI w) y).2 3 3 ∧ (f_X0_changeIfPossible M 3 (nI w) y).1 = 1 ∧ gmB (V + 1) ((f_X7_change S 3 (nI w) y).2 3 0) := fun M V ht hv => by
      obtain ⟨f1, f2⟩ := tG_change (k := 3) (g := 3) (by decide) hw c ht
      rw [he, if_neg c]
      exact ⟨f2, f1, rfl, by rw [r0_change hw]; exact gmB_up hv⟩
    generalize f_X7_change S 3 (nI w) y = F at *
    by_cases c3 : F.1 < 0
    · rw [if_pos c3]
      exact fin_ok hp (fun i => by rw [hc0]) (Or.inl rfl) (fun M V hx ht hv hV => absurd c3 (key M V ht hv).1)
    · rw [if_neg c3]
      exact fin_ok hp (fun i => by rw [hc0]) (Or.inr rfl) (fun M V hx ht hv hV => (key M V ht hv).2)
