/-! what steps asks, on the whole -/
def csF (S : aT) (P h : Nat) (cs : Int32) : Prop := ∀ j c, j < 3 → c < 64 → aB S = nI j → toI (nI h) (nI j) = nI c → cs = wtS S (tF 7 (tF 10 S 0 40) (nI j) 0) P c (aF 3 S (nI P) 2 0)
def fbF (S : aT) (P h : Nat) : Prop := (aB S = -1 ∧ ∀ n j, j < 3 → 0 < aF 12 (cuS S n) (nI j) 0 0) ∨ ∃ j c, j < 3 ∧ c < 64 ∧ aB S = nI j ∧ toI (nI h) (nI j) = nI c ∧ aF 12 S (nI j) 0 0 = 0 ∧ stY S P j c
def fkF (S : aT) (P h n j : Nat) : Prop := (¬ aF 12 (cuS S n) (nI j) 0 0 = 0 ∧ stN (cuS S n) j) ∨ ∃ c, c < 64 ∧ toI (nI h) (nI j) = nI c ∧ aF 12 (cuS S n) (nI j) 0 0 = 0 ∧ stY (cuS S n) P j c ∧ ∀ cs, csF S P h cs → (aF 2 (tF 7 (tF 10 (cuS S n) 0 40) (nI j) 0) 4 0 0 < aF 2 S 4 0 0 ∨ cs < wtS (cuS S n) (tF 7 (tF 10 (cuS S n) 0 40) (nI j) 0) P c (aF 3 S (nI P) 2 0) ∨ wtS (cuS S n) (tF 7 (tF 10 (cuS S n) 0 40) (nI j) 0) P c (aF 3 S (nI P) 2 0) = cs ∧ ¬ nI j < aB S)
theorem f_cu23 {S : aT} {n : Nat} : aF 2 (cuS S n) 3 0 0 = aF 2 S 3 0 0 := (a_ab3 (S := cuS S n)).trans (a_ab3 (S := S)).symm
theorem f_cu24 {S : aT} {n : Nat} : aF 2 (cuS S n) 4 0 0 = aF 2 S 4 0 0 := (a_ab4 (S := cuS S n)).trans (a_ab4 (S := S)).symm
theorem f_cu32 {S : aT} {n p : Nat} (hp : p < 2) : aF 3 (cuS S n) (nI p) 2 0 = aF 3 S (nI p) 2 0 := (a_pl2 (S := cuS S n) hp).trans (a_pl2 (S := S) hp).symm
theorem a_pl1h {S : aT} {p : Nat} {c : Int32} (hp : p < 2) : aF 3 S (nI p) 1 c = f_X7_head (up2 (mkR S) 0 0 0) 2 (nI p) := by
  show cod 3 1 (f_X7_playerOf (mkR S) (nI p) 1) = _
  rw [u_f_X7_playerOf]
  dsimp only
  rw [ref_e, ref_e, ref_e, if_neg (pl_in hp), if_neg (show ¬ f_X7_in (1 : Int32).toInt64 0 5 = 0 by decide +kernel), if_neg (show ¬ (1 : Int32) = 0 by decide), if_pos rfl]
  exact cod_00 ref_00
theorem f_cu31 {S : aT} {n p : Nat} (hp : p < 2) : aF 3 (cuS S n) (nI p) 1 0 = aF 3 S (nI p) 1 0 := (a_pl1h (S := cuS S n) hp).trans ((head7_c ((m2 (S := cuS S n)).trans (m2 (S := S)).symm)).trans (a_pl1h (S := S) hp).symm)
theorem csF_no {S : aT} {P h : Nat} {cs : Int32} (hb : aB S = -1) : csF S P h cs := fun j c hj _ e _ => absurd (e.symm.trans hb) (nI_ne_m1 (by omega))
theorem csF_at {S : aT} {P h j c : Nat} (hj : j < 3) (hc : c < 64) (hb : aB S = nI j) (ht : toI (nI h) (nI j) = nI c) {r : Int32} (hr : r = aF 3 S (nI P) 2 0) : csF S P h (wtS S (tF 7 (tF 10 S 0 40) (nI j) 0) P c r) := by
  intro j2 c2 hj2 hc2 e2 t2
  have ej : j = j2 := nI_inj (by omega) (by omega) (hb.symm.trans e2)
  subst ej
  have ec : c = c2 := nI_inj (by omega) (by omega) (ht.symm.trans t2)
  subst ec
  rw [hr]
