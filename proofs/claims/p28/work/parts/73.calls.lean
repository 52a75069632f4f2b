/-! THE LAW'S CALLS, as the abstract state has them -/
def exI (e : Nat) : Int32 := if e = 1 then -9999002 else if e = 2 then -9999003 else -9999001
def cdF (f : Nat × Int32 × bM) : Int32 := if f.1 = 0 then f.2.1 else exI f.1
def cod (a b : Nat) (h : Int32 × bM) : Int32 := if h.2 0 0 = 0 then h.1 else exI (if h.2 0 0 = 1 then a else b)
theorem cod_ok {a b : Nat} {f : Nat × Int32 × bM} {h : Int32 × bM} (ha : a ≠ 0) (hb : b ≠ 0) (k : okF a b f h) : cdF f = cod a b h := by
  obtain ⟨k1, k2, k3, _⟩ := k
  unfold cdF cod
  rw [k1]
  by_cases c : f.1 = 0
  · rw [if_pos c, if_pos (by unfold plc; rw [if_pos c]), k3 c]
  · rw [if_neg c, if_neg (fun q => c (plc_0 q))]
    congr 1
    rcases k2 with k2 | k2 | k2
    · exact absurd k2 c
    · rw [if_pos (by unfold plc; rw [if_neg c, if_pos k2]), k2]
    · by_cases d : f.1 = a
      · rw [if_pos (by unfold plc; rw [if_neg c, if_pos d]), d]
      · rw [if_neg (by unfold plc; rw [if_neg c, if_neg d, if_pos k2]; decide), k2]
def cF (k : Nat) (M : bM) (a b c : Int32) : Nat × Int32 × bM := match k with
  | 0 => f_X6_append M a
  | 2 => f_X6_about M a
  | 3 => f_X6_playerOf M a b
  | 4 => f_X6_cellOf M a b c
  | 5 => f_X6_course M a b
  | 6 => f_X6_setting M a
  | 7 => f_X6_step M a
  | 8 => f_X6_dam M a b
  | 9 => f_X6_flood M
  | 10 => f_X6_set M a b
  | 11 => f_X6_undo M
  | 12 => f_X6_why M a
  | 13 => f_X6_whyDam M a b
  | 14 => f_X6_cheapest M a b
  | 15 => f_X6_meetsIn M a
  | 16 => f_X6_save M a
  | _ => f_X6_restore M a
def aF (k : Nat) (S : aT) (a b c : Int32) : Int32 := match k with
  | 0 => -9999002
  | 2 => cod 1 9 (f_X7_about (mkR S) a)
  | 3 => cod 3 1 (f_X7_playerOf (mkR S) a b)
  | 4 => cod 3 1 (f_X7_cellOf (mkR S) a b c)
  | 5 => cod 3 9 (f_X7_course (mkR S) a b)
  | 6 => cod 1 9 (f_X7_setting (mkR S) a)
  | 7 => cod 1 2 (f_X7_step (mkR S) a)
  | 8 => cod 3 2 (f_X7_dam (mkR S) a b)
  | 9 => cod 2 9 (f_X7_flood (mkR S))
  | 10 => cod 1 9 (f_X7_set (mkR S) a b)
  | 11 => cod 2 9 (f_X7_undo (mkR S))
  | 12 => cod 1 9 (f_X7_why (mkR S) a)
  | 13 => cod 3 9 (f_X7_whyDam (mkR S) a b)
  | 14 => cod 3 1 (f_X7_cheapest (mkR S) a b)
  | 15 => cod 3 9 (f_X7_meetsIn (mkR S) a)
  | 16 => cod 3 9 (f_X7_save (mkR S) a)
  | _ => cod 3 2 (f_X7_restore (mkR S) a)
def tF (k : Nat) (S : aT) (a b : Int32) : aT := match k with
  | 7 => actS S (f_X7_step (mkR S) a).2
  | 8 => actS S (f_X7_dam (mkR S) a b).2
  | 9 => actS S (f_X7_flood (mkR S)).2
  | 10 => actS S (f_X7_set (mkR S) a b).2
  | 11 => undoS S
  | 16 => saveS S a
  | 17 => restS S a
  | _ => S
theorem app_no {M : bM} {x : Int32} (h : ¬ vp_in x 256) : f_X6_append M x = (1, 0, M) := by
  have h255 : vp_in x 256 ↔ ¬ x < 0 ∧ x ≤ 255 := by
    rw [vp_in_iff, Int32.lt_iff_toInt_lt, Int32.le_iff_toInt_le, show (255 : Int32).toInt = 255 by decide, show (0 : Int32).toInt = 0 by decide]
    omega
  by_cases c1 : x < 0
  · exact p_X6_append_e12 M x c1
  · exact p_X6_append_e20 M x c1 (fun q => h (h255.mpr ⟨c1, q⟩))
theorem cF_0 {M : bM} {a b c : Int32} : cF 0 M a b c = f_X6_append M a := rfl
theorem tF_0 {S : aT} {a b : Int32} : tF 0 S a b = S := rfl
theorem ck_0 {M : bM} {S : aT} {a b c : Int32} (h0 : ¬ vp_in a 256) (hs : rl M S) : cdF (f_X6_append M a) = aF 0 S a b c ∧ rl (f_X6_append M a).2.2 (tF 0 S a b) := by
  rw [app_no h0]
  exact ⟨rfl, hs⟩
theorem cF_2 {M : bM} {a b c : Int32} : cF 2 M a b c = f_X6_about M a := rfl
theorem aF_2 {S : aT} {a b c : Int32} : aF 2 S a b c = cod 1 9 (f_X7_about (mkR S) a) := rfl
theorem tF_2 {S : aT} {a b : Int32} : tF 2 S a b = S := rfl
theorem ck_2 {M : bM} {S : aT} {a b c : Int32} (hs : rl M S) : cdF (f_X6_about M a) = aF 2 S a b c ∧ rl (f_X6_about M a).2.2 (tF 2 S a b) := by
  have q := ok_about (x1 := a) hs.1
  rw [aF_2, tF_2]
  exact ⟨cod_ok (by decide) (by decide) q, rl_rd hs q.2.2.2 kp_about.1 kp_about.2 rd_about⟩
theorem cF_3 {M : bM} {a b c : Int32} : cF 3 M a b c = f_X6_playerOf M a b := rfl
theorem aF_3 {S : aT} {a b c : Int32} : aF 3 S a b c = cod 3 1 (f_X7_playerOf (mkR S) a b) := rfl
theorem tF_3 {S : aT} {a b : Int32} : tF 3 S a b = S := rfl
theorem ck_3 {M : bM} {S : aT} {a b c : Int32} (hs : rl M S) : cdF (f_X6_playerOf M a b) = aF 3 S a b c ∧ rl (f_X6_playerOf M a b).2.2 (tF 3 S a b) := by
  have q := ok_playerOf (x1 := a) (x2 := b) hs.1
  rw [aF_3, tF_3]
  exact ⟨cod_ok (by decide) (by decide) q, rl_rd hs q.2.2.2 kp_playerOf.1 kp_playerOf.2 rd_playerOf⟩
theorem cF_4 {M : bM} {a b c : Int32} : cF 4 M a b c = f_X6_cellOf M a b c := rfl
theorem aF_4 {S : aT} {a b c : Int32} : aF 4 S a b c = cod 3 1 (f_X7_cellOf (mkR S) a b c) := rfl
theorem tF_4 {S : aT} {a b : Int32} : tF 4 S a b = S := rfl
theorem ck_4 {M : bM} {S : aT} {a b c : Int32} (hs : rl M S) : cdF (f_X6_cellOf M a b c) = aF 4 S a b c ∧ rl (f_X6_cellOf M a b c).2.2 (tF 4 S a b) := by
  have q := ok_cellOf (x1 := a) (x2 := b) (x3 := c) hs.1
  rw [aF_4, tF_4]
  exact ⟨cod_ok (by decide) (by decide) q, rl_rd hs q.2.2.2 kp_cellOf.1 kp_cellOf.2 rd_cellOf⟩
theorem cF_5 {M : bM} {a b c : Int32} : cF 5 M a b c = f_X6_course M a b := rfl
theorem aF_5 {S : aT} {a b c : Int32} : aF 5 S a b c = cod 3 9 (f_X7_course (mkR S) a b) := rfl
theorem tF_5 {S : aT} {a b : Int32} : tF 5 S a b = S := rfl
theorem ck_5 {M : bM} {S : aT} {a b c : Int32} (hs : rl M S) : cdF (f_X6_course M a b) = aF 5 S a b c ∧ rl (f_X6_course M a b).2.2 (tF 5 S a b) := by
  have q := ok_course (x1 := a) (x2 := b) hs.1
  rw [aF_5, tF_5]
  exact ⟨cod_ok (by decide) (by decide) q, rl_rd hs q.2.2.2 kp_course.1 kp_course.2 (fun k q0 _ _ _ => fr_X7_course _ a b k q0)⟩
theorem cF_6 {M : bM} {a b c : Int32} : cF 6 M a b c = f_X6_setting M a := rfl
theorem aF_6 {S : aT} {a b c : Int32} : aF 6 S a b c = cod 1 9 (f_X7_setting (mkR S) a) := rfl
theorem tF_6 {S : aT} {a b : Int32} : tF 6 S a b = S := rfl
theorem ck_6 {M : bM} {S : aT} {a b c : Int32} (hs : rl M S) : cdF (f_X6_setting M a) = aF 6 S a b c ∧ rl (f_X6_setting M a).2.2 (tF 6 S a b) := by
  have q := ok_setting (x1 := a) hs.1
  rw [aF_6, tF_6]
  exact ⟨cod_ok (by decide) (by decide) q, rl_rd hs q.2.2.2 kp_setting.1 kp_setting.2 rd_setting⟩
theorem cF_7 {M : bM} {a b c : Int32} : cF 7 M a b c = f_X6_step M a := rfl
theorem aF_7 {S : aT} {a b c : Int32} : aF 7 S a b c = cod 1 2 (f_X7_step (mkR S) a) := rfl
theorem tF_7 {S : aT} {a b : Int32} : tF 7 S a b = actS S (f_X7_step (mkR S) a).2 := rfl
theorem ck_7 {M : bM} {S : aT} {a b c : Int32} (hs : rl M S) : cdF (f_X6_step M a) = aF 7 S a b c ∧ rl (f_X6_step M a).2.2 (tF 7 S a b) := by
  have q := ok_step (x1 := a) hs.1
  rw [aF_7, tF_7]
  exact ⟨cod_ok (by decide) (by decide) q, rl_can q.2.2.2 (dn_step hs.2)⟩
theorem cF_8 {M : bM} {a b c : Int32} : cF 8 M a b c = f_X6_dam M a b := rfl
theorem aF_8 {S : aT} {a b c : Int32} : aF 8 S a b c = cod 3 2 (f_X7_dam (mkR S) a b) := rfl
theorem tF_8 {S : aT} {a b : Int32} : tF 8 S a b = actS S (f_X7_dam (mkR S) a b).2 := rfl
theorem ck_8 {M : bM} {S : aT} {a b c : Int32} (hs : rl M S) : cdF (f_X6_dam M a b) = aF 8 S a b c ∧ rl (f_X6_dam M a b).2.2 (tF 8 S a b) := by
  have q := ok_dam (x1 := a) (x2 := b) hs.1
  rw [aF_8, tF_8]
  exact ⟨cod_ok (by decide) (by decide) q, rl_can q.2.2.2 (dn_dam hs.2)⟩
theorem cF_9 {M : bM} {a b c : Int32} : cF 9 M a b c = f_X6_flood M := rfl
theorem aF_9 {S : aT} {a b c : Int32} : aF 9 S a b c = cod 2 9 (f_X7_flood (mkR S)) := rfl
theorem tF_9 {S : aT} {a b : Int32} : tF 9 S a b = actS S (f_X7_flood (mkR S)).2 := rfl
theorem ck_9 {M : bM} {S : aT} {a b c : Int32} (hs : rl M S) : cdF (f_X6_flood M) = aF 9 S a b c ∧ rl (f_X6_flood M).2.2 (tF 9 S a b) := by
  have q := ok_flood  hs.1
  rw [aF_9, tF_9]
  exact ⟨cod_ok (by decide) (by decide) q, rl_can q.2.2.2 (dn_flood hs.2)⟩
theorem cF_10 {M : bM} {a b c : Int32} : cF 10 M a b c = f_X6_set M a b := rfl
theorem aF_10 {S : aT} {a b c : Int32} : aF 10 S a b c = cod 1 9 (f_X7_set (mkR S) a b) := rfl
theorem tF_10 {S : aT} {a b : Int32} : tF 10 S a b = actS S (f_X7_set (mkR S) a b).2 := rfl
theorem ck_10 {M : bM} {S : aT} {a b c : Int32} (hs : rl M S) : cdF (f_X6_set M a b) = aF 10 S a b c ∧ rl (f_X6_set M a b).2.2 (tF 10 S a b) := by
  have q := ok_set (x1 := a) (x2 := b) hs.1
  rw [aF_10, tF_10]
  exact ⟨cod_ok (by decide) (by decide) q, rl_can q.2.2.2 (dn_set hs.2)⟩
theorem cF_11 {M : bM} {a b c : Int32} : cF 11 M a b c = f_X6_undo M := rfl
theorem aF_11 {S : aT} {a b c : Int32} : aF 11 S a b c = cod 2 9 (f_X7_undo (mkR S)) := rfl
theorem tF_11 {S : aT} {a b : Int32} : tF 11 S a b = undoS S := rfl
theorem ck_11 {M : bM} {S : aT} {a b c : Int32} (hs : rl M S) : cdF (f_X6_undo M) = aF 11 S a b c ∧ rl (f_X6_undo M).2.2 (tF 11 S a b) := by
  have q := ok_undo  hs.1
  rw [aF_11, tF_11]
  exact ⟨cod_ok (by decide) (by decide) q, rl_can q.2.2.2 (rT_undo hs.2)⟩
theorem cF_12 {M : bM} {a b c : Int32} : cF 12 M a b c = f_X6_why M a := rfl
theorem aF_12 {S : aT} {a b c : Int32} : aF 12 S a b c = cod 1 9 (f_X7_why (mkR S) a) := rfl
theorem tF_12 {S : aT} {a b : Int32} : tF 12 S a b = S := rfl
theorem ck_12 {M : bM} {S : aT} {a b c : Int32} (hs : rl M S) : cdF (f_X6_why M a) = aF 12 S a b c ∧ rl (f_X6_why M a).2.2 (tF 12 S a b) := by
  have q := ok_why (x1 := a) hs.1
  rw [aF_12, tF_12]
  exact ⟨cod_ok (by decide) (by decide) q, rl_rd hs q.2.2.2 kp_why.1 kp_why.2 (fun k q0 _ _ _ => fr_X7_why _ a k q0)⟩
theorem cF_13 {M : bM} {a b c : Int32} : cF 13 M a b c = f_X6_whyDam M a b := rfl
theorem aF_13 {S : aT} {a b c : Int32} : aF 13 S a b c = cod 3 9 (f_X7_whyDam (mkR S) a b) := rfl
theorem tF_13 {S : aT} {a b : Int32} : tF 13 S a b = S := rfl
theorem ck_13 {M : bM} {S : aT} {a b c : Int32} (hs : rl M S) : cdF (f_X6_whyDam M a b) = aF 13 S a b c ∧ rl (f_X6_whyDam M a b).2.2 (tF 13 S a b) := by
  have q := ok_whyDam (x1 := a) (x2 := b) hs.1
  rw [aF_13, tF_13]
  exact ⟨cod_ok (by decide) (by decide) q, rl_rd hs q.2.2.2 kp_whyDam.1 kp_whyDam.2 rd_whyDam⟩
theorem cF_14 {M : bM} {a b c : Int32} : cF 14 M a b c = f_X6_cheapest M a b := rfl
theorem aF_14 {S : aT} {a b c : Int32} : aF 14 S a b c = cod 3 1 (f_X7_cheapest (mkR S) a b) := rfl
theorem tF_14 {S : aT} {a b : Int32} : tF 14 S a b = S := rfl
theorem ck_14 {M : bM} {S : aT} {a b c : Int32} (hs : rl M S) : cdF (f_X6_cheapest M a b) = aF 14 S a b c ∧ rl (f_X6_cheapest M a b).2.2 (tF 14 S a b) := by
  have q := ok_cheapest (x1 := a) (x2 := b) hs.1
  rw [aF_14, tF_14]
  exact ⟨cod_ok (by decide) (by decide) q, rl_rd hs q.2.2.2 kp_cheapest.1 kp_cheapest.2 (fun k q0 _ q7 _ => fr_X7_cheapest _ a b k q0 q7)⟩
theorem cF_15 {M : bM} {a b c : Int32} : cF 15 M a b c = f_X6_meetsIn M a := rfl
theorem aF_15 {S : aT} {a b c : Int32} : aF 15 S a b c = cod 3 9 (f_X7_meetsIn (mkR S) a) := rfl
theorem tF_15 {S : aT} {a b : Int32} : tF 15 S a b = S := rfl
theorem ck_15 {M : bM} {S : aT} {a b c : Int32} (hs : rl M S) : cdF (f_X6_meetsIn M a) = aF 15 S a b c ∧ rl (f_X6_meetsIn M a).2.2 (tF 15 S a b) := by
  have q := ok_meetsIn (x1 := a) hs.1
  rw [aF_15, tF_15]
  exact ⟨cod_ok (by decide) (by decide) q, rl_rd hs q.2.2.2 kp_meetsIn.1 kp_meetsIn.2 (fun k q0 _ q7 _ => fr_X7_meetsIn _ a k q0 q7)⟩
theorem cF_16 {M : bM} {a b c : Int32} : cF 16 M a b c = f_X6_save M a := rfl
theorem aF_16 {S : aT} {a b c : Int32} : aF 16 S a b c = cod 3 9 (f_X7_save (mkR S) a) := rfl
theorem tF_16 {S : aT} {a b : Int32} : tF 16 S a b = saveS S a := rfl
theorem ck_16 {M : bM} {S : aT} {a b c : Int32} (hs : rl M S) : cdF (f_X6_save M a) = aF 16 S a b c ∧ rl (f_X6_save M a).2.2 (tF 16 S a b) := by
  have q := ok_save (x1 := a) hs.1
  rw [aF_16, tF_16]
  exact ⟨cod_ok (by decide) (by decide) q, rl_can q.2.2.2 (rT_save hs.2)⟩
theorem cF_17 {M : bM} {a b c : Int32} : cF 17 M a b c = f_X6_restore M a := rfl
theorem aF_17 {S : aT} {a b c : Int32} : aF 17 S a b c = cod 3 2 (f_X7_restore (mkR S) a) := rfl
theorem tF_17 {S : aT} {a b : Int32} : tF 17 S a b = restS S a := rfl
theorem ck_17 {M : bM} {S : aT} {a b c : Int32} (hs : rl M S) : cdF (f_X6_restore M a) = aF 17 S a b c ∧ rl (f_X6_restore M a).2.2 (tF 17 S a b) := by
  have q := ok_restore (x1 := a) hs.1
  rw [aF_17, tF_17]
  exact ⟨cod_ok (by decide) (by decide) q, rl_can q.2.2.2 (rT_rest hs.2)⟩
def aB (S : aT) : Int32 := (f_X7_best (mkR S)).1
def aW (S : aT) : Int32 := (f_X7_leastWished (mkR S)).1
def aZ (S : aT) (x : Int64) (m : Int32) : Int32 := cod 1 9 (f_X7_simulate (mkR S) x m)
def aG (S : aT) (x : Int64) : Int32 := (f_X7_game (mkR S) x).1
def gT (S : aT) (x : Int64) : aT := actS S (f_X7_game (mkR S) x).2
theorem best_cl {M : bM} {S : aT} (hs : rl M S) : (f_X6_best M).1 = aB S ∧ rl (f_X6_best M).2 S := by
  have q := ok_best hs.1
  exact ⟨q.2.1, rl_rd hs q.2.2 kp_best.1 kp_best.2 (fun k q0 _ q7 _ => fr_X7_best _ k q0 q7)⟩
theorem least_cl {M : bM} {S : aT} (hs : rl M S) : (f_X6_leastWished M).1 = aW S ∧ rl (f_X6_leastWished M).2 S := by
  have q := ok_least hs.1
  exact ⟨q.2.1, rl_rd hs q.2.2 kp_least.1 kp_least.2 (fun k q0 _ q7 q8 => fr_X7_leastWished _ k q0 q7 q8)⟩
theorem game_cl {M : bM} {S : aT} {x : Int64} (hs : rl M S) : (f_X6_game M x).1 = aG S x ∧ rl (f_X6_game M x).2 (gT S x) := by
  have q := ok_game (x1 := x) hs.1
  rw [show aG S x = (f_X7_game (mkR S) x).1 from rfl, show gT S x = actS S (f_X7_game (mkR S) x).2 from rfl]
  exact ⟨q.2.1, rl_can q.2.2 (dn_game hs.2)⟩
theorem sim_cl {M : bM} {S : aT} {x : Int64} {m : Int32} (hs : rl M S) : cdF (f_X6_simulate M x m) = aZ S x m ∧ rl (f_X6_simulate M x m).2.2 S := by
  have q := ok_simulate (x1 := x) (x2 := m) hs.1
  exact ⟨cod_ok (by decide) (by decide) q, rl_rd hs q.2.2.2 (kp_simulate hs.1).1 (kp_simulate hs.1).2 (fun k q0 q3 q7 _ => fr_X7_simulate _ x m k q3 q7 q0)⟩
theorem scr_0 {M : bM} {y : Int64} : f_X6_runScript M 0 y = (1, 0, M) := p_X6_runScript_e12 M 0 y (show (0 : Int32) < 1 by decide)
theorem scr_1 {M : bM} {y : Int64} {Y : Nat} (h : y.toInt = (Y : Int)) (hY : 10000 ≤ Y) : f_X6_runScript M 1 y = (1, 0, M) := by
  by_cases c : 0 ≤ (lg_cmp y 0)
  · refine p_X6_runScript_e32 M 1 y (by decide) (by decide) c _ rfl (fun q => ?_)
    have z := (grp_z (N := 1) (by decide) h).mp ((cmp_z _ _).mp q)
    rw [in_iff, show (pw 1 - 1).toInt = 9999 by decide +kernel, h] at z
    omega
  · exact p_X6_runScript_e33 M 1 y (by decide) (by decide) c
