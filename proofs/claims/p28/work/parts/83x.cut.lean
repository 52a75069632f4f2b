/-! a state with fewer remembered rows; what builds and steps ask -/
abbrev cuS (S : aT) (n : Nat) : aT := (S.1, S.2.1.take n, S.2.2)
theorem cuS_all {S : aT} : cuS S S.2.1.length = S := by
  obtain ⟨r, L, k⟩ := S
  show (r, L.take L.length, k) = (r, L, k)
  rw [List.take_length]
theorem bool_ne {p q : Prop} [Decidable p] [Decidable q] (h : p ↔ ¬ q) : (if p then (1 : Int32) else 0) = if q then 0 else 1 := by
  by_cases c : q
  · rw [if_pos c, if_neg (fun z => h.mp z c)]
  · rw [if_neg c, if_pos (h.mpr c)]
theorem bool_eq {p q : Prop} [Decidable p] [Decidable q] (h : p ↔ q) : (if p then (1 : Int32) else 0) = if q then 1 else 0 := by
  by_cases c : q
  · rw [if_pos c, if_pos (h.mpr c)]
  · rw [if_neg c, if_neg (fun z => c (h.mp z))]
def bdF (S : aT) (P : Nat) (a b : Int32) : Prop := (aF 13 S a b 0 = 1 ↔ ¬ aF 4 S a b 2 = 0) ∧ (aF 13 S a b 0 = 2 → aF 3 S (nI P) 3 0 = 3) ∧ aF 8 S a b 0 = aF 13 S a b 0 ∧ aF 3 (tF 8 S a b) (nI P) 3 0 = aF 3 S (nI P) 3 0 + (if aF 13 S a b 0 = 0 then 1 else 0) ∧ aF 2 (tF 8 S a b) 7 0 0 = aF 2 S 7 0 0 + (if aF 13 S a b 0 = 0 then 0 else 1) ∧ (¬ 0 < aF 13 S a b 0 → aF 4 (tF 8 S a b) a b 3 = if aF 6 S 0 0 0 = 1 then -1 else 1) ∧ ¬ thr (aF 11 (tF 8 S a b) 0 0 0) ∧ tF 11 (tF 8 S a b) 0 0 = cuS S 13
