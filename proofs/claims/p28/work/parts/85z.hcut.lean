/-! what holds asks -/
def ctR (r : Nat → Int32) (c : Nat) : Int32 := if r (148 + c) = -1 then r (212 + c) else 4
theorem a_ct {S : aT} {c : Nat} (hc : c < 64) : aF 4 S (nI (c % 8)) (nI (c / 8)) 2 = ctR S.1 c := by
  have h := a_ce2 (S := S) (x := c % 8) (y := c / 8) (by omega) (by omega)
  rw [show 8 * (c / 8) + c % 8 = c by omega] at h
  exact h
theorem a_sd {S : aT} {c : Nat} (hc : c < 64) : aF 4 S (nI (c % 8)) (nI (c / 8)) 3 = S.1 (148 + c) := by
  have h := a_ce3 (S := S) (x := c % 8) (y := c / 8) (by omega) (by omega)
  rw [show 8 * (c / 8) + c % 8 = c by omega] at h
  exact h
theorem a_cost {S : aT} {c p : Nat} (hc : c < 64) (hp : p < 2) : aF 4 S (nI (c % 8)) (nI (c / 8)) (nI p) = S.1 (20 + 64 * p + c) := by
  have h := a_ce01 (S := S) (x := c % 8) (y := c / 8) (by omega) (by omega) hp
  rw [show 8 * (c / 8) + c % 8 = c by omega] at h
  exact h
def popC (x : Int32) : Nat := if x = 3 then 2 else if x = 1 then 1 else if x = 2 then 1 else 0
abbrev pcR (r : Nat → Int32) (c : Nat) : Nat := popC (ctR r c)
theorem a_ch01 {S : aT} {p : Nat} (hp : p < 2) : aF 14 S (nI p) 0 0 = aF 14 S (nI p) 1 0 := by
  show cod 3 1 (f_X7_cheapest (mkR S) (nI p) 0) = cod 3 1 (f_X7_cheapest (mkR S) (nI p) 1)
  congr 1
theorem h94a {r x : Int32} {p : Prop} [Decidable p] (h : r = if p then x else -1) (c : ¬ r = -1) : (0 : Int32) = if p then 0 else 1 := by
  by_cases q : p
  · rw [if_pos q]
  · rw [if_neg q] at h; exact absurd h c
theorem h94b {r x : Int32} {p : Prop} [Decidable p] (h : r = if p then x else -1) (hx : ¬ x = -1) (c : r = -1) : (1 : Int32) = if p then 0 else 1 := by
  by_cases q : p
  · rw [if_pos q] at h; exact absurd (h.symm.trans c) hx
  · rw [if_neg q]
/-- what holds of a row, as the law asks it -/
def hoA (S : aT) : Prop := ¬ S.1 1 ≤ 0 ∧ ¬ 4 ≤ S.1 1 ∧ (S.1 1 = 2 ↔ ¬ S.1 4 = -1) ∧ (¬ S.1 1 = 2 → S.1 5 = -1) ∧ ¬ S.1 2 = -1 ∧ ¬ 80 < S.1 3 ∧ (S.1 1 = 3 → S.1 3 = 80) ∧ ¬ S.1 8 ≤ 0
def hoB (S : aT) (i : Nat) : Prop := ¬ ctR S.1 i < 0 ∧ ¬ 5 ≤ ctR S.1 i ∧ (ctR S.1 i = 4 ↔ ¬ S.1 (148 + i) = -1) ∧ ¬ 39 < S.1 (148 + i) ∧ (ctR S.1 i = 3 ↔ nI i = S.1 4) ∧ (S.1 1 = 1 → ¬ ctR S.1 i = 0 → aF 13 S (nI (i % 8)) (nI (i / 8)) 0 = 1)
def hoC (S : aT) (P a : Nat) : Prop := S.1 (14 + 5 * P) = nI (a + 1) ∧ a < 64 ∧ S.1 (276 + 64 * P) = nI (1 + 5 * P) ∧ ¬ 3 < S.1 (11 + 5 * P) ∧ ¬ S.1 (13 + 5 * P) < S.1 (10 + 5 * P) ∧ (∀ k, 1 ≤ k → k ≤ a → ∃ j, j < 3 ∧ S.1 (276 + 64 * P + k) = toI (S.1 (276 + 64 * P + (k - 1))) (nI j)) ∧ (¬ S.1 (276 + 64 * P + a) < 56 → aF 14 S (nI P) 0 0 = 0) ∧ (S.1 1 = 2 ↔ aF 15 S (nI P) 0 0 = 0)
def hoD (S : aT) : Prop := (¬ aW S = -1 → ∃ w, w < 64 ∧ aW S = nI w ∧ ctR S.1 w = 0) ∧ (¬ aB S = -1 → aF 12 S (aB S) 0 0 = 0) ∧ (S.1 1 = 2 → S.1 5 = if S.1 10 < S.1 15 then 0 else if S.1 15 < S.1 10 then 1 else -1) ∧ ∀ c p, c < 64 → p < 2 → ¬ 10 ≤ S.1 (20 + 64 * p + c)
