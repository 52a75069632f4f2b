/-! what steps asks -/
theorem cuS_cuS {S : aT} {n k : Nat} : cuS (cuS S n) k = cuS S (min k n) := by
  show (S.1, (S.2.1.take n).take k, S.2.2) = (S.1, S.2.1.take (min k n), S.2.2)
  rw [List.take_take]
def wv (w pd2 pd : Int32) : Int32 := if w = -1 then 99999 else w + pd2 - pd
def wtS (S S2 : aT) (P c : Nat) (pd : Int32) : Int32 := wv (if aF 4 S (nI (c % 8)) (nI (c / 8)) 2 = nI (2 - P) then 0 else aF 14 S2 (nI P) 0 0) (aF 3 S2 (nI P) 2 0) pd
theorem wtS_M {S S2 : aT} {P c : Nat} {pd r : Int32} (hM : aF 4 S (nI (c % 8)) (nI (c / 8)) 2 = nI (2 - P)) (h : r = aF 3 S2 (nI P) 2 0) : ((0 : Int32) + r) - pd = wtS S S2 P c pd := by
  unfold wtS wv
  rw [if_pos hM, if_neg (by decide), h]
theorem wtS_1 {S S2 : aT} {P c : Nat} {pd w : Int32} (hM : ¬ aF 4 S (nI (c % 8)) (nI (c / 8)) 2 = nI (2 - P)) (h : w = aF 14 S2 (nI P) 0 0) (hw : w = -1) : (99999 : Int32) = wtS S S2 P c pd := by
  unfold wtS wv
  rw [if_neg hM, if_pos (h.symm.trans hw)]
theorem wtS_2 {S S2 : aT} {P c : Nat} {pd w r : Int32} (hM : ¬ aF 4 S (nI (c % 8)) (nI (c / 8)) 2 = nI (2 - P)) (h : w = aF 14 S2 (nI P) 0 0) (hw : ¬ w = -1) (h2 : r = aF 3 S2 (nI P) 2 0) : (w + r) - pd = wtS S S2 P c pd := by
  unfold wtS wv
  rw [if_neg hM, if_neg (fun q => hw (h.trans q)), h, h2]
def stN (S : aT) (j : Nat) : Prop := aF 7 S (nI j) 0 0 = aF 12 S (nI j) 0 0 ∧ aF 2 (tF 7 S (nI j) 0) 3 0 0 = aF 2 S 3 0 0 ∧ ¬ thr (aF 11 (tF 7 S (nI j) 0) 0 0 0) ∧ tF 11 (tF 7 S (nI j) 0) 0 0 = cuS S 13
def stY (S : aT) (P j c : Nat) : Prop := aF 10 S 0 40 0 = aF 6 S 0 0 0 ∧ aF 7 (tF 10 S 0 40) (nI j) 0 0 = 0 ∧ aF 3 (tF 7 (tF 10 S 0 40) (nI j) 0) (nI P) 1 0 = nI c ∧ aF 2 (tF 7 (tF 10 S 0 40) (nI j) 0) 3 0 0 = aF 2 S 3 0 0 + 1 ∧ aF 3 (tF 7 (tF 10 S 0 40) (nI j) 0) (nI P) 2 0 = aF 3 S (nI P) 2 0 + aF 4 S (nI (c % 8)) (nI (c / 8)) (nI P) * (if aF 4 S (nI (c % 8)) (nI (c / 8)) 2 = nI (2 - P) then aF 6 (tF 7 (tF 10 S 0 40) (nI j) 0) 1 0 0 else 1) ∧ (aF 2 (tF 7 (tF 10 S 0 40) (nI j) 0) 1 0 0 = 2 ↔ aF 4 S (nI (c % 8)) (nI (c / 8)) 2 = nI (2 - P)) ∧ ¬ thr (aF 11 (tF 7 (tF 10 S 0 40) (nI j) 0) 0 0 0) ∧ ¬ thr (aF 11 (tF 11 (tF 7 (tF 10 S 0 40) (nI j) 0) 0 0) 0 0 0) ∧ tF 11 (tF 11 (tF 7 (tF 10 S 0 40) (nI j) 0) 0 0) 0 0 = cuS S 12
