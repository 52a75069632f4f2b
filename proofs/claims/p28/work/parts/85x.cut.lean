/-! what steps asks, on the whole -/
def csF (S : aT) (P h : Nat) (cs : Int32) : Prop := ∀ j c, j < 3 → c < 64 → aB S = nI j → toI (nI h) (nI j) = nI c → cs = wtS S (tF 7 (tF 10 S 0 40) (nI j) 0) P c (aF 3 S (nI P) 2 0)
def fbF (S : aT) (P h : Nat) : Prop := (aB S = -1 ∧ ∀ n j, j < 3 → 0 < aF 12 (cuS S n) (nI j) 0 0) ∨ ∃ j c, j < 3 ∧ c < 64 ∧ aB S = nI j ∧ toI (nI h) (nI j) = nI c ∧ aF 12 S (nI j) 0 0 = 0 ∧ stY S P j c
def fkF (S : aT) (P h n j : Nat) : Prop := (¬ aF 12 (cuS S n) (nI j) 0 0 = 0 ∧ stN (cuS S n) j) ∨ ∃ c, c < 64 ∧ toI (nI h) (nI j) = nI c ∧ aF 12 (cuS S n) (nI j) 0 0 = 0 ∧ stY (cuS S n) P j c ∧ ∀ cs, csF S P h cs → (aF 2 (tF 7 (tF 10 (cuS S n) 0 40) (nI j) 0) 4 0 0 < aF 2 S 4 0 0 ∨ cs < wtS (cuS S n) (tF 7 (tF 10 (cuS S n) 0 40) (nI j) 0) P c (aF 3 S (nI P) 2 0) ∨ wtS (cuS S n) (tF 7 (tF 10 (cuS S n) 0 40) (nI j) 0) P c (aF 3 S (nI P) 2 0) = cs ∧ ¬ nI j < aB S)
theorem f_cu2 {S : aT} {n : Nat} {a : Int32} : aF 2 (cuS S n) a 0 0 = aF 2 S a 0 0 := rfl
theorem f_cu3 {S : aT} {n : Nat} {a b : Int32} : aF 3 (cuS S n) a b 0 = aF 3 S a b 0 := rfl
theorem csF_no {S : aT} {P h : Nat} {cs : Int32} (hb : aB S = -1) : csF S P h cs := fun j c hj _ e _ => absurd (e.symm.trans hb) (nI_ne_m1 (by omega))
theorem csF_at {S : aT} {P h j c : Nat} (hj : j < 3) (hc : c < 64) (hb : aB S = nI j) (ht : toI (nI h) (nI j) = nI c) {r : Int32} (hr : r = aF 3 S (nI P) 2 0) : csF S P h (wtS S (tF 7 (tF 10 S 0 40) (nI j) 0) P c r) := by
  intro j2 c2 hj2 hc2 e2 t2
  have ej : j = j2 := nI_inj (by omega) (by omega) (hb.symm.trans e2)
  subst ej
  have ec : c = c2 := nI_inj (by omega) (by omega) (ht.symm.trans t2)
  subst ec
  rw [hr]
