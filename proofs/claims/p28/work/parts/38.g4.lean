/-! TEXT, second half: the end of a text; scripts' commands and drawn turns keep the trial good -/
/-- the powers of ten thousand -/
def pw : Nat → Int64
  | 0 => 1
  | n + 1 => pw n * 10000
theorem pw_v : ∀ k : Fin 5, (pw k.val).toInt = 10000 ^ k.val ∧ ¬ pw k.val = 0 := by decide +kernel
theorem i64_div_toInt {a b : Int64} (ha : 0 ≤ a.toInt) (hb : 0 < b.toInt) : (a / b).toInt = a.toInt / b.toInt := by
  rw [Int64.toInt_div]
  rw [Int.tdiv_eq_ediv_of_nonneg ha]
  have h1 : 0 ≤ a.toInt / b.toInt := Int.ediv_nonneg ha (by omega)
  have h2 : a.toInt / b.toInt ≤ a.toInt := Int.ediv_le_self _ ha
  have h3 : a.toInt < 2 ^ 63 := Int64.toInt_lt a
  exact Int.bmod_eq_of_le (by omega) (by omega)
