/-! ROWS: what each act of the reference does to a row of its memory -/
def bitI (p : Nat) : Int32 := (1 : Int32) <<< (nI p &&& 31)
def flowsR (r : Nat → Int32) (p c a : Nat) : Nat → Int32 := fun j => if j = 212 + c then r (212 + c) ||| bitI p else if j = 14 + 5 * p then nI (a + 1) else if j = 276 + 64 * p + a then nI c else r j
def paysR (r : Nat → Int32) (p : Nat) (v : Int32) : Nat → Int32 := fun j => if j = 13 + 5 * p then r (13 + 5 * p) + v else if j = 10 + 5 * p then r (10 + 5 * p) + v else r j
def ageI (d l : Int32) : Int32 := if d = -1 then d else if d + 1 < l then d + 1 else -1
def teR (r : Nat → Int32) : Nat → Int32 := fun j => if j = 1 then (if r 1 = 1 then (if r 3 + 1 = 80 then 3 else r 1) else r 1) else if j = 2 then 1 - r 2 else if j = 3 then r 3 + 1 else if 148 ≤ j ∧ j < 212 then ageI (r j) (r 8) else r j
theorem of_at {M : bM} {k p w : Nat} (hp : p < 2) (hw : w < 5) : f_X7_of M k (nI p) (nI w) = M k (10 + 5 * p + w) := by rw [u_f_X7_of, idx10 hp hw]
theorem add_at {M : bM} {k p w : Nat} {v : Int32} (hp : p < 2) (hw : w < 5) : f_X7_add M k (nI p) (nI w) v = up2 M k (10 + 5 * p + w) (M k (10 + 5 * p + w) + v) := by rw [u_f_X7_add, idx10 hp hw]
theorem head_at {M : bM} {k p a : Nat} (hp : p < 2) (ha : M k (14 + 5 * p) = nI (a + 1)) (ha64 : a < 64) : f_X7_head M k (nI p) = M k (276 + 64 * p + a) := by
  rw [u_f_X7_head, show (4 : Int32) = nI 4 from rfl, of_at hp (by decide)]
  dsimp only
  rw [show 10 + 5 * p + 4 = 14 + 5 * p by omega, ha, show (276 : Int32) = nI 276 from rfl, show (64 : Int32) = nI 64 from rfl, pk_mul, nI_add, nI_add, show (1 : Int32) = nI 1 from rfl, pk_sub (by omega), nI_clamp (by omega), show 276 + 64 * p + (a + 1) - 1 = 276 + 64 * p + a by omega]
theorem flows_row {M : bM} {k p c a : Nat} (hp : p < 2) (hc : c < 64) (ha : M k (14 + 5 * p) = nI a) (ha64 : a < 64) : f_X7_flows M k (nI p) (nI c) k = flowsR (M k) p c a := by
  rw [u_f_X7_flows, show (4 : Int32) = nI 4 from rfl, of_at hp (by decide)]
  dsimp only
  rw [show 10 + 5 * p + 4 = 14 + 5 * p by omega, ha, idx276 hp ha64, idxK 212 (by omega), add_at hp (by decide), show 10 + 5 * p + 4 = 14 + 5 * p by omega]
  funext j
  have e1 : up2 M k (276 + 64 * p + a) (nI c) k (14 + 5 * p) = nI a := by
    rw [up2_same]; unfold upd; rw [if_neg (by omega), ha]
  rw [e1, show nI a + 1 = nI (a + 1) from nI_add a 1]
  unfold flowsR bitI up2
  by_cases h1 : j = 212 + c
  · subst h1
    simp only [true_and, if_true, show ¬ 212 + c = 14 + 5 * p by omega, show ¬ 212 + c = 276 + 64 * p + a by omega, if_false]
  · by_cases h2 : j = 14 + 5 * p
    · subst h2
      simp only [true_and, if_true, h1, if_false]
    · simp only [true_and, h1, h2, if_false]
theorem pays_row {M : bM} {k p : Nat} {v : Int32} (hp : p < 2) : f_X7_pays M k (nI p) v k = paysR (M k) p v := by
  rw [u_f_X7_pays, show (0 : Int32) = nI 0 from rfl, show (3 : Int32) = nI 3 from rfl]
  dsimp only
  rw [add_at hp (by decide), add_at hp (by decide), show 10 + 5 * p + 3 = 13 + 5 * p by omega, Nat.add_zero]
  funext j
  unfold paysR up2
  by_cases h1 : j = 13 + 5 * p
  · subst h1
    simp only [true_and, if_true, show ¬ 13 + 5 * p = 10 + 5 * p by omega, if_false]
  · simp only [true_and, h1, if_false]
theorem isDam_iff {M : bM} {k c : Nat} (hc : c < 64) : f_X7_isDam M k (nI c) = 0 ↔ M k (148 + c) = -1 := by
  rw [u_f_X7_isDam, idxK 148 (by omega)]
  by_cases h : M k (148 + c) = -1
  · rw [if_pos h]; exact ⟨fun _ => h, fun _ => rfl⟩
  · rw [if_neg h]; exact ⟨fun q => absurd q (by decide), fun q => absurd q h⟩
theorem te_loop {k : Nat} : ∀ (n i : Nat) (M : bM), i + n = 64 → ∀ j, lp_X7_turnEnds_9 k n i M k j = if 148 + i ≤ j ∧ j < 212 then ageI (M k j) (M k 8) else M k j := by
  intro n
  induction n with
  | zero =>
    intro i M hi j
    rw [u0_lp_X7_turnEnds_9, if_neg (show ¬ (148 + i ≤ j ∧ j < 212) by omega)]
  | succ n ih =>
    intro i M hi j
    rw [u1_lp_X7_turnEnds_9]
    dsimp only
    have key : ∀ N : bM, (∀ q, N k q = if q = 148 + i then ageI (M k (148 + i)) (M k 8) else M k q) → lp_X7_turnEnds_9 k n (i + 1) N k j = if 148 + i ≤ j ∧ j < 212 then ageI (M k j) (M k 8) else M k j := by
      intro N hN
      rw [ih (i + 1) N (by omega) j, hN 8, if_neg (show ¬ 8 = 148 + i by omega), hN j]
      by_cases e : j = 148 + i
      · rw [if_neg (show ¬ (148 + (i + 1) ≤ j ∧ j < 212) by omega), if_pos e, if_pos (show 148 + i ≤ j ∧ j < 212 by omega), e]
      · rw [if_neg e]
        by_cases h : 148 + i ≤ j ∧ j < 212
        · rw [if_pos h, if_pos (show 148 + (i + 1) ≤ j ∧ j < 212 by omega)]
        · rw [if_neg h, if_neg (show ¬ (148 + (i + 1) ≤ j ∧ j < 212) by omega)]
    by_cases c1 : f_X7_isDam M k (nI i) = 0
    · rw [if_pos c1]
      refine key M (fun q => ?_)
      have := (isDam_iff (by omega)).mp c1
      by_cases e : q = 148 + i
      · rw [if_pos e, e]; unfold ageI; rw [if_pos this]
      · rw [if_neg e]
    · rw [if_neg c1]
      have hne : ¬ M k (148 + i) = -1 := fun q => c1 ((isDam_iff (by omega)).mpr q)
      have e20 : ∀ v q, up2 M k (148 + i) v k q = if q = 148 + i then v else M k q := by
        intro v q
        rw [up2_same]; rfl
      rw [e20, e20, if_pos rfl, if_neg (show ¬ 8 = 148 + i by omega)]
      by_cases c2 : M k (148 + i) + 1 < M k 8
      · rw [if_pos c2]
        refine key _ (fun q => ?_)
        rw [up2_same]
        unfold upd
        rw [e20]
        by_cases e : q = 148 + i
        · rw [if_pos e, if_pos e]; unfold ageI; rw [if_neg hne, if_pos c2]
        · rw [if_neg e, if_neg e, if_neg e]
      · rw [if_neg c2]
        refine key _ (fun q => ?_)
        rw [up2_same]
        unfold upd
        rw [e20]
        by_cases e : q = 148 + i
        · rw [if_pos e, if_pos e]; unfold ageI; rw [if_neg hne, if_neg c2]
        · rw [if_neg e, if_neg e, if_neg e]
theorem te_row {M : bM} {k : Nat} : f_X7_turnEnds M k k = teR (M k) := by
  funext j
  rw [u_f_X7_turnEnds]
  dsimp only
  generalize hL : lp_X7_turnEnds_9 k 64 0 (up2 M k 3 (M k 3 + 1)) = L
  have hl : ∀ j, L k j = if 148 ≤ j ∧ j < 212 then ageI (M k j) (M k 8) else if j = 3 then M k 3 + 1 else M k j := by
    intro j
    rw [← hL, te_loop 64 0 _ rfl j, up2_same]
    unfold upd
    rw [if_neg (by omega : ¬ 8 = 3)]
    by_cases h : 148 ≤ j ∧ j < 212
    · rw [if_pos h, if_pos (show 148 + 0 ≤ j ∧ j < 212 by omega), if_neg (show ¬ j = 3 by omega)]
    · rw [if_neg h, if_neg (show ¬ (148 + 0 ≤ j ∧ j < 212) by omega)]
  have h27 : ∀ q, up2 L k 2 (1 - L k 2) k q = if q = 2 then 1 - M k 2 else L k q := by
    intro q
    rw [up2_same]; unfold upd
    by_cases e : q = 2
    · rw [if_pos e, if_pos e, hl 2, if_neg (show ¬ (148 ≤ 2 ∧ 2 < 212) by omega), if_neg (show ¬ 2 = 3 by omega)]
    · rw [if_neg e, if_neg e]
  have h1 : up2 L k 2 (1 - L k 2) k 1 = M k 1 := by rw [h27, if_neg (show ¬ 1 = 2 by decide), hl, if_neg (show ¬ (148 ≤ 1 ∧ 1 < 212) by omega), if_neg (show ¬ 1 = 3 by omega)]
  have h3 : up2 L k 2 (1 - L k 2) k 3 = M k 3 + 1 := by rw [h27, if_neg (show ¬ 3 = 2 by decide), hl, if_neg (show ¬ (148 ≤ 3 ∧ 3 < 212) by omega), if_pos rfl]
  have fin : ∀ v, up2 (up2 L k 2 (1 - L k 2)) k 1 v k j = if j = 1 then v else if j = 2 then 1 - M k 2 else if j = 3 then M k 3 + 1 else if 148 ≤ j ∧ j < 212 then ageI (M k j) (M k 8) else M k j := by
    intro v
    rw [up2_same]; unfold upd
    by_cases e1 : j = 1
    · rw [if_pos e1, if_pos e1]
    · rw [if_neg e1, if_neg e1, h27]
      by_cases e2 : j = 2
      · rw [if_pos e2, if_pos e2]
      · rw [if_neg e2, if_neg e2, hl]
        by_cases e3 : j = 3
        · rw [if_neg (show ¬ (148 ≤ j ∧ j < 212) by omega), if_pos e3, if_pos e3]
        · rw [if_neg e3, if_neg e3]
  rw [u_f_X7_isUnderWay, h1, h3]
  unfold teR
  by_cases c1 : M k 1 = 1
  · rw [if_pos c1, if_neg (by decide), if_pos c1]
    by_cases c2 : M k 3 + 1 = 80
    · rw [if_pos c2, if_pos c2]; exact fin 3
    · rw [if_neg c2, if_neg c2]; exact fin (M k 1)
  · rw [if_neg c1, if_pos rfl, if_neg c1]; exact fin (M k 1)
/-! ROWS, second half: meeting, step, flood, dam, change, a new game -/
def meetR (r : Nat → Int32) (c : Nat) : Nat → Int32 := fun j =>
  if j = 1 then 2 else if j = 4 then nI c else
  if j = 5 then (if (r 10 + r 9 * r (20 + c)) - (r 15 + r 9 * r (84 + c)) < 0 then 0 else if 0 < (r 10 + r 9 * r (20 + c)) - (r 15 + r 9 * r (84 + c)) then 1 else -1) else
  if j = 12 then (if (r 10 + r 9 * r (20 + c)) - (r 15 + r 9 * r (84 + c)) < 0 then r 12 + 1 else r 12) else
  if j = 17 then (if 0 < (r 10 + r 9 * r (20 + c)) - (r 15 + r 9 * r (84 + c)) then r 17 + 1 else r 17) else
  if j = 10 then r 10 + r 9 * r (20 + c) else if j = 13 then r 13 + r 9 * r (20 + c) else if j = 15 then r 15 + r 9 * r (84 + c) else if j = 18 then r 18 + r 9 * r (84 + c) else r j
theorem i32_nle {a b : Int32} : ¬ a ≤ b ↔ b < a := by
  rw [Int32.le_iff_toInt_le, Int32.lt_iff_toInt_lt]; omega
theorem i32_nlt {a b : Int32} : ¬ a < b ↔ b ≤ a := by
  rw [Int32.le_iff_toInt_le, Int32.lt_iff_toInt_lt]; omega
theorem i32_asymm {a b : Int32} (h : a < b) : ¬ b < a := by
  rw [Int32.lt_iff_toInt_lt] at h ⊢; omega
theorem i32_ne {a b : Int32} (h : a < b) : ¬ a = b := by
  intro e; rw [e, Int32.lt_iff_toInt_lt] at h; omega
theorem meet_row {M : bM} {k c : Nat} (hc : c < 64) : f_X7_meet M k (nI c) k = meetR (M k) c := by
  have p0 : f_X7_pays M k 0 (M k 9 * M k (20 + c)) k = paysR (M k) 0 (M k 9 * M k (20 + c)) := pays_row (p := 0) (by decide)
  have hc0 : f_X7_cost M k 0 (nI c) = M k (20 + c) := cost_at (p := 0) (by decide) hc
  rw [u_f_X7_meet, hc0]
  dsimp only
  generalize hA : f_X7_pays M k 0 (M k 9 * M k (20 + c)) = A at *
  have hA9 : A k 9 = M k 9 := by rw [p0]; rfl
  have hA84 : f_X7_cost A k 1 (nI c) = M k (84 + c) := by
    have := cost_at (M := A) (k := k) (p := 1) (c := c) (by decide) hc
    rw [show nI 1 = 1 from rfl] at this
    rw [this, p0]
    unfold paysR
    rw [if_neg (show ¬ 20 + 64 * 1 + c = 13 + 5 * 0 by omega), if_neg (show ¬ 20 + 64 * 1 + c = 10 + 5 * 0 by omega)]
  rw [hA84, hA9]
  have p1 : f_X7_pays A k 1 (M k 9 * M k (84 + c)) k = paysR (A k) 1 (M k 9 * M k (84 + c)) := pays_row (p := 1) (by decide)
  generalize hB : f_X7_pays A k 1 (M k 9 * M k (84 + c)) = B at *
  rw [p0] at p1
  have o0 : ∀ N : bM, f_X7_of N k 0 0 = N k 10 := fun N => of_at (p := 0) (w := 0) (by decide) (by decide)
  have o1 : ∀ N : bM, f_X7_of N k 1 0 = N k 15 := fun N => of_at (p := 1) (w := 0) (by decide) (by decide)
  have a0 : ∀ N : bM, f_X7_add N k 0 2 1 = up2 N k 12 (N k 12 + 1) := fun N => add_at (p := 0) (w := 2) (by decide) (by decide)
  have a1 : ∀ N : bM, f_X7_add N k 1 2 1 = up2 N k 17 (N k 17 + 1) := fun N => add_at (p := 1) (w := 2) (by decide) (by decide)
  rw [o0, o1]
  generalize hC : up2 (up2 B k 1 2) k 4 (nI c) = C
  have hCj : ∀ j, C k j = if j = 4 then nI c else if j = 1 then 2 else B k j := by
    intro j; rw [← hC, up2_same, up2_same]; rfl
  have hB10 : B k 10 = M k 10 + M k 9 * M k (20 + c) := by rw [p1]; rfl
  have hB15 : B k 15 = M k 15 + M k 9 * M k (84 + c) := by rw [p1]; rfl
  have hB12 : B k 12 = M k 12 := by rw [p1]; rfl
  have hB17 : B k 17 = M k 17 := by rw [p1]; rfl
  have hC10 : C k 10 = M k 10 + M k 9 * M k (20 + c) := by rw [hCj]; exact hB10
  have hC15 : C k 15 = M k 15 + M k 9 * M k (84 + c) := by rw [hCj]; exact hB15
  rw [hC10, hC15]
  have hBj : ∀ j, B k j = if j = 18 then M k 18 + M k 9 * M k (84 + c) else if j = 15 then M k 15 + M k 9 * M k (84 + c) else if j = 13 then M k 13 + M k 9 * M k (20 + c) else if j = 10 then M k 10 + M k 9 * M k (20 + c) else M k j := by
    intro j; rw [p1]; rfl
  have u5 : ∀ v j, up2 C k 5 v k j = if j = 5 then v else C k j := by intro v j; rw [up2_same]; rfl
  generalize hv0 : M k 9 * M k (20 + c) = v0 at *
  generalize hv1 : M k 9 * M k (84 + c) = v1 at *
  generalize hy : M k 10 + v0 - (M k 15 + v1) = y at *
  have fin : ∀ (w a b : Int32) (F : bM), (∀ j, F k j = if j = 12 then a else if j = 17 then b else if j = 5 then w else C k j) → w = (if y < 0 then 0 else if 0 < y then 1 else -1) → a = (if y < 0 then M k 12 + 1 else M k 12) → b = (if 0 < y then M k 17 + 1 else M k 17) → F k = meetR (M k) c := by
    intro w a b F hF hw ha hb
    funext j
    rw [hF j, hCj j, hBj j]
    unfold meetR
    rw [hv0, hv1, hy, ← hw, ← ha, ← hb]
    by_cases j1 : j = 1
    · subst j1; rfl
    by_cases j4 : j = 4
    · subst j4; rfl
    by_cases j5 : j = 5
    · subst j5; rfl
    by_cases j12 : j = 12
    · subst j12; rfl
    by_cases j17 : j = 17
    · subst j17; rfl
    by_cases j10 : j = 10
    · subst j10; rfl
    by_cases j13 : j = 13
    · subst j13; rfl
    by_cases j15 : j = 15
    · subst j15; rfl
    by_cases j18 : j = 18
    · subst j18; rfl
    simp only [j1, j4, j5, j12, j17, j10, j13, j15, j18, if_false]
  have hC12 : C k 12 = M k 12 := by rw [hCj]; exact hB12
  have hC17 : C k 17 = M k 17 := by rw [hCj]; exact hB17
  by_cases c1 : 0 ≤ y
  · have n1 : ¬ y < 0 := i32_nlt.mpr c1
    rw [if_pos c1]
    by_cases c2 : y ≤ 0
    · have n2 : ¬ 0 < y := i32_nlt.mpr c2
      have e0 : y = 0 := Int32.le_antisymm c2 c1
      rw [if_pos c2, if_pos e0]
      refine fin (-1) (M k 12) (M k 17) _ (fun j => ?_) (by rw [if_neg n1, if_neg n2]) (by rw [if_neg n1]) (by rw [if_neg n2])
      rw [u5]
      by_cases j12 : j = 12
      · subst j12; exact hC12
      by_cases j17 : j = 17
      · subst j17; exact hC17
      rw [if_neg j12, if_neg j17]
    · have n2 : 0 < y := i32_nle.mp c2
      have e0 : ¬ y = 0 := fun q => i32_ne n2 q.symm
      rw [if_neg c2, if_neg e0]
      have e5 : up2 C k 5 1 k 5 = 1 := by rw [u5, if_pos rfl]
      rw [e5, a1]
      refine fin 1 (M k 12) (M k 17 + 1) _ (fun j => ?_) (by rw [if_neg n1, if_pos n2]) (by rw [if_neg n1]) (by rw [if_pos n2])
      rw [up2_same]; unfold upd; rw [u5, u5]
      by_cases j12 : j = 12
      · subst j12; exact hC12
      by_cases j17 : j = 17
      · subst j17; show C k 17 + 1 = _; rw [hC17]; rfl
      rw [if_neg j12, if_neg j17, if_neg j17]
  · have n1 : y < 0 := i32_nle.mp c1
    have n2 : ¬ 0 < y := i32_asymm n1
    have e0 : ¬ y = 0 := i32_ne n1
    rw [if_neg c1, if_neg e0]
    have e5 : up2 C k 5 0 k 5 = 0 := by rw [u5, if_pos rfl]
    rw [e5, a0]
    refine fin 0 (M k 12 + 1) (M k 17) _ (fun j => ?_) (by rw [if_pos n1]) (by rw [if_pos n1]) (by rw [if_neg n2])
    rw [up2_same]; unfold upd; rw [u5, u5]
    by_cases j12 : j = 12
    · subst j12; show C k 12 + 1 = _; rw [hC12]; rfl
    by_cases j17 : j = 17
    · subst j17; exact hC17
    rw [if_neg j12, if_neg j12, if_neg j17]
theorem change_row {M : bM} {k w : Nat} {v : Int32} (hw : w < 2) : (f_X7_change M k (nI w) v).1 = M k (8 + w) ∧ (f_X7_change M k (nI w) v).2 = up2 M k (8 + w) v := by
  rw [u_f_X7_change]
  dsimp only
  rw [idxK 8 (by omega)]
  exact ⟨rfl, rfl⟩
/-- the field that a seed lays: the drawn number behind i + 1 steps -/
def lcgI (x : Int64) : Int64 := (x * 6364136223846793005) + 1442695040888963407
def drwI (x : Int64) : Int32 := ((x.toUInt64 >>> ((33 : Int32).toInt64.toUInt64 &&& Int64.toUInt64 63)).toInt64).toInt32
def lcgN (x : Int64) : Nat → Int64
  | 0 => x
  | n + 1 => lcgI (lcgN x n)
theorem lcgN_in (x : Int64) (n : Nat) : lcgN (lcgI x) n = lcgN x (n + 1) := by
  induction n with
  | zero => rw [lcgN, lcgN, lcgN]
  | succ n ih =>
    have e1 : lcgN (lcgI x) (n + 1) = lcgI (lcgN (lcgI x) n) := by rw [lcgN]
    have e2 : lcgN x (n + 1 + 1) = lcgI (lcgN x (n + 1)) := by rw [lcgN]
    rw [e1, e2, ih]
theorem lcgN_1 (x : Int64) : lcgN x 1 = lcgI x := by rw [lcgN, lcgN]
theorem up2_at {M : bM} {k a b : Nat} {v : Int32} : up2 M k a v k b = if b = a then v else M k b := by rw [up2_same]; rfl
theorem on_loop {k : Nat} : ∀ (n i : Nat) (x : Int64) (M : bM), i + n = 64 → ∀ j, (lp_X7_gameOn_5 k n i x M).2 k j =
    if 20 + i ≤ j ∧ j < 84 then (drwI (lcgN x (j - 20 - i + 1)) - drwI (lcgN x (j - 20 - i + 1)) / 10 * 10) else
    if 84 + i ≤ j ∧ j < 148 then (drwI (lcgN x (j - 84 - i + 1)) / 10 - drwI (lcgN x (j - 84 - i + 1)) / 10 / 10 * 10) else
    if 148 + i ≤ j ∧ j < 212 then -1 else if 212 + i ≤ j ∧ j < 276 then 0 else if 276 + i ≤ j ∧ j < 340 then 0 else if 340 + i ≤ j ∧ j < 404 then 0 else M k j := by
  intro n
  induction n with
  | zero =>
    intro i x M hi j
    rw [u0_lp_X7_gameOn_5]
    simp only [show ¬ (20 + i ≤ j ∧ j < 84) by omega, show ¬ (84 + i ≤ j ∧ j < 148) by omega, show ¬ (148 + i ≤ j ∧ j < 212) by omega, show ¬ (212 + i ≤ j ∧ j < 276) by omega, show ¬ (276 + i ≤ j ∧ j < 340) by omega, show ¬ (340 + i ≤ j ∧ j < 404) by omega, if_false]
  | succ n ih =>
    intro i x M hi j
    rw [u1_lp_X7_gameOn_5]
    dsimp only
    rw [ih (i + 1) _ _ (by omega) j]
    simp only [up2_at, show (x * 6364136223846793005) + 1442695040888963407 = lcgI x from rfl, show ∀ y : Int64, ((y.toUInt64 >>> ((33 : Int32).toInt64.toUInt64 &&& Int64.toUInt64 63)).toInt64).toInt32 = drwI y from fun _ => rfl, lcgN_in]
    have n0 : ∀ a b : Nat, ¬ (a + (i + 1) ≤ a + i ∧ a + i < b) := fun a b q => by omega
    by_cases h1 : 20 + i ≤ j ∧ j < 84
    · rw [if_pos h1]
      by_cases e : j = 20 + i
      · subst e
        rw [if_neg (n0 20 84), if_neg (show ¬ (84 + (i + 1) ≤ 20 + i ∧ 20 + i < 148) by omega), if_neg (show ¬ (148 + (i + 1) ≤ 20 + i ∧ 20 + i < 212) by omega), if_neg (show ¬ (212 + (i + 1) ≤ 20 + i ∧ 20 + i < 276) by omega), if_neg (show ¬ (276 + (i + 1) ≤ 20 + i ∧ 20 + i < 340) by omega), if_neg (show ¬ (340 + (i + 1) ≤ 20 + i ∧ 20 + i < 404) by omega), if_neg (show ¬ 20 + i = 340 + i by omega), if_neg (show ¬ 20 + i = 276 + i by omega), if_neg (show ¬ 20 + i = 212 + i by omega), if_neg (show ¬ 20 + i = 148 + i by omega), if_neg (show ¬ 20 + i = 84 + i by omega), if_pos rfl, show 20 + i - 20 - i + 1 = 1 by omega, lcgN_1]
      · rw [if_pos (show 20 + (i + 1) ≤ j ∧ j < 84 by omega), show j - 20 - (i + 1) + 1 + 1 = j - 20 - i + 1 by omega]
    rw [if_neg h1, if_neg (show ¬ (20 + (i + 1) ≤ j ∧ j < 84) by omega)]
    by_cases h2 : 84 + i ≤ j ∧ j < 148
    · rw [if_pos h2]
      by_cases e : j = 84 + i
      · subst e
        rw [if_neg (n0 84 148), if_neg (show ¬ (148 + (i + 1) ≤ 84 + i ∧ 84 + i < 212) by omega), if_neg (show ¬ (212 + (i + 1) ≤ 84 + i ∧ 84 + i < 276) by omega), if_neg (show ¬ (276 + (i + 1) ≤ 84 + i ∧ 84 + i < 340) by omega), if_neg (show ¬ (340 + (i + 1) ≤ 84 + i ∧ 84 + i < 404) by omega), if_neg (show ¬ 84 + i = 340 + i by omega), if_neg (show ¬ 84 + i = 276 + i by omega), if_neg (show ¬ 84 + i = 212 + i by omega), if_neg (show ¬ 84 + i = 148 + i by omega), if_pos rfl, show 84 + i - 84 - i + 1 = 1 by omega, lcgN_1]
      · rw [if_pos (show 84 + (i + 1) ≤ j ∧ j < 148 by omega), show j - 84 - (i + 1) + 1 + 1 = j - 84 - i + 1 by omega]
    rw [if_neg h2, if_neg (show ¬ (84 + (i + 1) ≤ j ∧ j < 148) by omega)]
    repeat' split
    all_goals first | rfl | (exfalso; omega)
/-! GOOD ROWS: what holds of each state of a game, and that each act keeps it -/
theorem drw_nI (x : Int64) : ∃ n, n < 2 ^ 31 ∧ drwI x = nI n := by
  have hlt : x.toUInt64.toNat < 2 ^ 64 := UInt64.toNat_lt _
  refine ⟨x.toUInt64.toNat / 2 ^ 33, by omega, ?_⟩
  unfold drwI nI
  apply Int32.toBitVec_inj.mp
  apply BitVec.eq_of_toNat_eq
  rw [show ((33 : Int32).toInt64.toUInt64 &&& Int64.toUInt64 63) = (33 : UInt64) from by decide]
  rw [Int64.toBitVec_toInt32]
  simp [BitVec.signExtend]
  rw [Int.shiftRight_eq_div_pow]
  have e : x.toUInt64.toNat = x.toBitVec.toNat := rfl
  rw [e]
  omega
def newR (r : Nat → Int32) (x : Int64) : Nat → Int32 := fun j =>
  if j = 0 then r 0 + 1 else if j = 1 then 1 else if j = 2 then 0 else if j = 3 then 0 else if j = 4 then -1 else if j = 5 then -1 else
  if j = 10 then 0 else if j = 11 then 0 else if j = 14 then 1 else if j = 15 then 0 else if j = 16 then 0 else if j = 19 then 1 else
  if 20 ≤ j ∧ j < 84 then (drwI (lcgN x (j - 20 + 1)) - drwI (lcgN x (j - 20 + 1)) / 10 * 10) else
  if 84 ≤ j ∧ j < 148 then (drwI (lcgN x (j - 84 + 1)) / 10 - drwI (lcgN x (j - 84 + 1)) / 10 / 10 * 10) else
  if 148 ≤ j ∧ j < 212 then -1 else if 212 ≤ j ∧ j < 276 then (if j = 213 then 1 else if j = 218 then 2 else 0) else
  if 276 ≤ j ∧ j < 404 then (if j = 276 then 1 else if j = 340 then 6 else 0) else r j
theorem on_row {M : bM} {k : Nat} {x : Int64} : f_X7_gameOn M k x = (M k 0 + 1, (f_X7_gameOn M k x).2) ∧ (f_X7_gameOn M k x).2 k = newR (M k) x := by
  have hL := on_loop (k := k) 64 0 x M rfl
  have hA : ∀ j, (f_X7_gameOn M k x).2 k j = newR (M k) x j ∧ (f_X7_gameOn M k x).1 = (f_X7_gameOn M k x).2 k 0 := by
    intro j
    rw [u_f_X7_gameOn]
    dsimp only
    generalize hZ : (lp_X7_gameOn_5 k 64 0 x M).2 = Z at *
    generalize hA : up2 (up2 (up2 Z k 10 0) k 11 0) k 14 0 = A
    have a14 : A k (14 + 5 * 0) = nI 0 := by rw [← hA, up2_at]; rfl
    have f1 : f_X7_flows A k 0 1 k = flowsR (A k) 0 1 0 := flows_row (p := 0) (c := 1) (by decide) (by decide) a14 (by decide)
    generalize hB : f_X7_flows A k 0 1 = B at *
    generalize hC : up2 (up2 (up2 B k 15 0) k 16 0) k 19 0 = C
    have c19 : C k (14 + 5 * 1) = nI 0 := by rw [← hC, up2_at]; rfl
    have f2 : f_X7_flows C k 1 6 k = flowsR (C k) 1 6 0 := flows_row (p := 1) (c := 6) (by decide) (by decide) c19 (by decide)
    generalize hE : f_X7_flows C k 1 6 = E at *
    refine ⟨?_, rfl⟩
    have hAj : ∀ j, A k j = if j = 14 then 0 else if j = 11 then 0 else if j = 10 then 0 else Z k j := by
      intro j; rw [← hA, up2_at, up2_at, up2_at]
    have hA213 : A k 213 = 0 := by
      rw [hAj, if_neg (by decide), if_neg (by decide), if_neg (by decide), hL, if_neg (by decide), if_neg (by decide), if_neg (by decide), if_pos (by decide)]
    have hA218 : A k 218 = 0 := by
      rw [hAj, if_neg (by decide), if_neg (by decide), if_neg (by decide), hL, if_neg (by decide), if_neg (by decide), if_neg (by decide), if_pos (by decide)]
    have hBj : ∀ j, B k j = if j = 213 then 1 else if j = 14 then 1 else if j = 276 then 1 else A k j := by
      intro j; rw [f1]; unfold flowsR; rw [show 212 + 1 = 213 from rfl, hA213]; rfl
    have hCj : ∀ j, C k j = if j = 19 then 0 else if j = 16 then 0 else if j = 15 then 0 else B k j := by
      intro j; rw [← hC, up2_at, up2_at, up2_at]
    have hC218 : C k 218 = 0 := by
      rw [hCj, if_neg (by decide), if_neg (by decide), if_neg (by decide), hBj, if_neg (by decide), if_neg (by decide), if_neg (by decide), hA218]
    have hEj : ∀ j, E k j = if j = 218 then 2 else if j = 19 then 1 else if j = 340 then 6 else C k j := by
      intro j; rw [f2]; unfold flowsR; rw [show 212 + 6 = 218 from rfl, hC218]; rfl
    have hE0 : E k 0 = M k 0 := by
      rw [hEj, if_neg (by decide), if_neg (by decide), if_neg (by decide), hCj, if_neg (by decide), if_neg (by decide), if_neg (by decide), hBj, if_neg (by decide), if_neg (by decide), if_neg (by decide), hAj, if_neg (by decide), if_neg (by decide), if_neg (by decide), hL, if_neg (by decide), if_neg (by decide), if_neg (by decide), if_neg (by decide), if_neg (by decide), if_neg (by decide)]
    rw [hE0]
    simp only [up2_at, hEj, hCj, hBj, hAj, hL]
    unfold newR
    by_cases j0 : j = 0
    · subst j0; simp
    by_cases j1 : j = 1
    · subst j1; simp
    by_cases j2 : j = 2
    · subst j2; simp
    by_cases j3 : j = 3
    · subst j3; simp
    by_cases j4 : j = 4
    · subst j4; simp
    by_cases j5 : j = 5
    · subst j5; simp
    by_cases j10 : j = 10
    · subst j10; simp
    by_cases j11 : j = 11
    · subst j11; simp
    by_cases j14 : j = 14
    · subst j14; simp
    by_cases j15 : j = 15
    · subst j15; simp
    by_cases j16 : j = 16
    · subst j16; simp
    by_cases j19 : j = 19
    · subst j19; simp
    by_cases j213 : j = 213
    · subst j213; simp
    by_cases j218 : j = 218
    · subst j218; simp
    by_cases j276 : j = 276
    · subst j276; simp
    by_cases j340 : j = 340
    · subst j340; simp
    simp only [j0, j1, j2, j3, j4, j5, j10, j11, j14, j15, j16, j19, j213, j218, j276, j340, if_false, Nat.add_zero, Nat.sub_zero]
    by_cases q1 : 20 ≤ j ∧ j < 84
    · rw [if_pos q1, if_pos q1]
    by_cases q2 : 84 ≤ j ∧ j < 148
    · rw [if_neg q1, if_neg q1, if_pos q2, if_pos q2]
    by_cases q3 : 148 ≤ j ∧ j < 212
    · rw [if_neg q1, if_neg q1, if_neg q2, if_neg q2, if_pos q3, if_pos q3]
    by_cases q4 : 212 ≤ j ∧ j < 276
    · rw [if_neg q1, if_neg q1, if_neg q2, if_neg q2, if_neg q3, if_neg q3, if_pos q4, if_pos q4]
    rw [if_neg q1, if_neg q1, if_neg q2, if_neg q2, if_neg q3, if_neg q3, if_neg q4, if_neg q4]
    by_cases q5 : 276 ≤ j ∧ j < 340
    · rw [if_pos q5, if_pos (show 276 ≤ j ∧ j < 404 by omega)]
    rw [if_neg q5]
    by_cases q6 : 340 ≤ j ∧ j < 404
    · rw [if_pos q6, if_pos (show 276 ≤ j ∧ j < 404 by omega)]
    rw [if_neg q6, if_neg (show ¬ (276 ≤ j ∧ j < 404) by omega)]
  refine ⟨Prod.ext ?_ rfl, funext fun j => (hA j).1⟩
  rw [(hA 0).2, (hA 0).1]
  rfl
/-! GOOD ROWS: what holds of each state of a game, and that each act keeps it -/
abbrev mkIs (r : Nat → Int32) (c v : Nat) : Prop := r (212 + c) = nI v ∧ v < 4
abbrev phI (r : Nat → Int32) (m : Nat) : Int32 := if r 4 = -1 then (if 80 ≤ m then 3 else 1) else 2
/-- m turns are made; q is the bound of what the players have done -/
abbrev gN (r : Nat → Int32) (m q a b x y : Nat) : Prop := (r 3 = nI m ∧ r 2 = nI (m % 2) ∧ r 1 = phI r m ∧ (r 4 = -1 ∨ vp_in (r 4) 64)) ∧
  (r 14 = nI (a + 1) ∧ r 19 = nI (b + 1) ∧ a ≤ (q + 1) / 2 ∧ b ≤ q / 2) ∧ (r 10 = nI x ∧ r 15 = nI y ∧ x ≤ 81 * q ∧ y ≤ 81 * q)
abbrev gC (r : Nat → Int32) (a b : Nat) : Prop := (∀ i, i ≤ a → vp_in (r (276 + i)) 64) ∧ (∀ i, i ≤ b → vp_in (r (340 + i)) 64) ∧ costR r ∧ vp_in (r 8) 41 ∧ vp_in (r 9) 10
abbrev gM (r : Nat → Int32) (a b : Nat) : Prop := (∀ c, c < 64 → ∃ v, mkIs r c v) ∧ (∃ h v, h < 64 ∧ r (276 + a) = nI h ∧ mkIs r h v ∧ v % 2 = 1) ∧ (∃ h v, h < 64 ∧ r (340 + b) = nI h ∧ mkIs r h v ∧ 2 ≤ v)
abbrev gL (r : Nat → Int32) : Prop := r 4 = -1 → ∀ c v, c < 64 → mkIs r c v → v ≤ 2
abbrev gX (r : Nat → Int32) (m q : Nat) : Prop := ∃ a b x y, gN r m q a b x y ∧ gC r a b ∧ gM r a b ∧ gL r
abbrev gR (r : Nat → Int32) : Prop := ∃ m, m ≤ 80 ∧ gX r m m
theorem gR_turn {r : Nat → Int32} {m : Nat} (hm : m < 80) (h : gX r m (m + 1)) : gR (teR r) := by
  obtain ⟨a, b, x, y, ⟨⟨n3, n2, n1, n4⟩, ⟨n14, n19, na, nb'⟩, ⟨n10, n15, nx, ny⟩⟩, ⟨c1, c2, c3, c8, c9⟩, ⟨m1, m2, m3⟩, l⟩ := h
  have hi : ∀ j, 3 < j → ¬ (148 ≤ j ∧ j < 212) → teR r j = r j := fun j h1 h2 => by
    unfold teR
    rw [if_neg (show ¬ j = 1 by omega), if_neg (show ¬ j = 2 by omega), if_neg (show ¬ j = 3 by omega), if_neg h2]
  have hmk : ∀ c v, c < 64 → (mkIs (teR r) c v ↔ mkIs r c v) := fun c v hc => by
    unfold mkIs; rw [hi (212 + c) (by omega) (by omega)]
  have h4 := hi 4 (by omega) (by omega)
  refine ⟨m + 1, by omega, a, b, x, y, ⟨⟨?_, ?_, ?_, ?_⟩, ⟨?_, ?_, na, nb'⟩, ⟨?_, ?_, nx, ny⟩⟩, ⟨fun i hi' => ?_, fun i hi' => ?_, fun i hi' => ?_, ?_, ?_⟩, ⟨fun c hc => ?_, ?_, ?_⟩, ?_⟩
  · show r 3 + 1 = _
    rw [n3]; exact nI_add m 1
  · show 1 - r 2 = _
    rw [n2]
    rcases Nat.mod_two_eq_zero_or_one m with e | e
    · rw [e, show (m + 1) % 2 = 1 by omega]; decide
    · rw [e, show (m + 1) % 2 = 0 by omega]; decide
  · have e3 : r 3 + 1 = 80 ↔ 80 ≤ m + 1 := by
      rw [n3, show (1 : Int32) = nI 1 from rfl, nI_add]
      exact ⟨fun q => by have := nI_inj (b := 80) (by omega) (by decide) q; omega, fun q => by rw [show m + 1 = 80 by omega]; rfl⟩
    show (if r 1 = 1 then (if r 3 + 1 = 80 then 3 else r 1) else r 1) = phI (teR r) (m + 1)
    unfold phI at n1 ⊢
    rw [h4, n1]
    by_cases e4 : r 4 = -1
    · rw [if_pos e4, if_pos e4, if_neg (show ¬ 80 ≤ m by omega), if_pos rfl]
      by_cases e5 : 80 ≤ m + 1
      · rw [if_pos e5, if_pos (e3.mpr e5)]
      · rw [if_neg e5, if_neg (fun q => e5 (e3.mp q))]
    · rw [if_neg e4, if_neg e4, if_neg (by decide)]
  · rw [h4]; exact n4
  · rw [hi 14 (by omega) (by omega)]; exact n14
  · rw [hi 19 (by omega) (by omega)]; exact n19
  · rw [hi 10 (by omega) (by omega)]; exact n10
  · rw [hi 15 (by omega) (by omega)]; exact n15
  · rw [hi _ (by omega) (by omega)]; exact c1 i hi'
  · rw [hi _ (by omega) (by omega)]; exact c2 i hi'
  · rw [hi _ (by omega) (by omega)]; exact c3 i hi'
  · rw [hi _ (by omega) (by omega)]; exact c8
  · rw [hi _ (by omega) (by omega)]; exact c9
  · obtain ⟨v, hv⟩ := m1 c hc
    exact ⟨v, (hmk c v hc).mpr hv⟩
  · obtain ⟨h', v, hh, e1, e2, e3⟩ := m2
    exact ⟨h', v, hh, by rw [hi _ (by omega) (by omega)]; exact e1, (hmk h' v hh).mpr e2, e3⟩
  · obtain ⟨h', v, hh, e1, e2, e3⟩ := m3
    exact ⟨h', v, hh, by rw [hi _ (by omega) (by omega)]; exact e1, (hmk h' v hh).mpr e2, e3⟩
  · intro e4 c v hc hv
    rw [h4] at e4
    exact l e4 c v hc ((hmk c v hc).mp hv)
/-- rows that agree where it matters -/
theorem gX_core {r r' : Nat → Int32} {m q q' : Nat} (hq : q ≤ q') (h : gX r m q) (he : ∀ j, (j = 1 ∨ j = 2 ∨ j = 3 ∨ j = 4 ∨ j = 14 ∨ j = 19 ∨ (20 ≤ j ∧ j < 148) ∨ 212 ≤ j) → r' j = r j) (h8 : vp_in (r' 8) 41) (h9 : vp_in (r' 9) 10) (h10 : ∃ x, r' 10 = nI x ∧ x ≤ 81 * q') (h15 : ∃ y, r' 15 = nI y ∧ y ≤ 81 * q') : gX r' m q' := by
  obtain ⟨a, b, x, y, ⟨⟨n3, n2, n1, n4⟩, ⟨n14, n19, na, nb'⟩, ⟨n10, n15, nx, ny⟩⟩, ⟨c1, c2, c3, c8, c9⟩, ⟨m1, m2, m3⟩, l⟩ := h
  obtain ⟨x', hx, hx'⟩ := h10
  obtain ⟨y', hy, hy'⟩ := h15
  have hmk : ∀ c v, (mkIs r' c v ↔ mkIs r c v) := fun c v => by
    unfold mkIs; rw [he (212 + c) (by omega)]
  refine ⟨a, b, x', y', ⟨⟨?_, ?_, ?_, ?_⟩, ⟨?_, ?_, by omega, by omega⟩, ⟨hx, hy, hx', hy'⟩⟩, ⟨fun i hi' => ?_, fun i hi' => ?_, fun i hi' => ?_, h8, h9⟩, ⟨fun c hc => ?_, ?_, ?_⟩, ?_⟩
  · rw [he _ (by omega)]; exact n3
  · rw [he _ (by omega)]; exact n2
  · unfold phI at n1 ⊢
    rw [he 1 (by omega), he 4 (by omega)]; exact n1
  · rw [he 4 (by omega)]; exact n4
  · rw [he _ (by omega)]; exact n14
  · rw [he _ (by omega)]; exact n19
  · rw [he _ (by omega)]; exact c1 i hi'
  · rw [he _ (by omega)]; exact c2 i hi'
  · rw [he _ (by omega)]; exact c3 i hi'
  · obtain ⟨v, hv⟩ := m1 c hc
    exact ⟨v, (hmk c v).mpr hv⟩
  · obtain ⟨h', v, hh, e1, e2, e3⟩ := m2
    exact ⟨h', v, hh, by rw [he _ (by omega)]; exact e1, (hmk h' v).mpr e2, e3⟩
  · obtain ⟨h', v, hh, e1, e2, e3⟩ := m3
    exact ⟨h', v, hh, by rw [he _ (by omega)]; exact e1, (hmk h' v).mpr e2, e3⟩
  · intro e4 c v hc hv
    rw [he 4 (by omega)] at e4
    exact l e4 c v hc ((hmk c v).mp hv)
theorem or_bit0 {v : Nat} (h : v < 4) : ∃ w, nI v ||| bitI 0 = nI w ∧ w < 4 ∧ w % 2 = 1 ∧ (v % 2 = 0 → w = v + 1) ∧ (2 ≤ v → 2 ≤ w) ∧ (v = 0 → w = 1) := by
  rcases (by omega : v = 0 ∨ v = 1 ∨ v = 2 ∨ v = 3) with rfl | rfl | rfl | rfl
  · exact ⟨1, by decide, by decide, by decide, by decide, by decide, by decide⟩
  · exact ⟨1, by decide, by decide, by decide, by decide, by decide, by decide⟩
  · exact ⟨3, by decide, by decide, by decide, by decide, by decide, by decide⟩
  · exact ⟨3, by decide, by decide, by decide, by decide, by decide, by decide⟩
theorem or_bit1 {v : Nat} (h : v < 4) : ∃ w, nI v ||| bitI 1 = nI w ∧ w < 4 ∧ 2 ≤ w ∧ (v < 2 → w = v + 2) ∧ (v % 2 = 1 → w % 2 = 1) ∧ (v = 0 → w = 2) := by
  rcases (by omega : v = 0 ∨ v = 1 ∨ v = 2 ∨ v = 3) with rfl | rfl | rfl | rfl
  · exact ⟨2, by decide, by decide, by decide, by decide, by decide, by decide⟩
  · exact ⟨3, by decide, by decide, by decide, by decide, by decide, by decide⟩
  · exact ⟨2, by decide, by decide, by decide, by decide, by decide, by decide⟩
  · exact ⟨3, by decide, by decide, by decide, by decide, by decide, by decide⟩
theorem gF0 {r r' : Nat → Int32} {m c : Nat} {z : Int32} (hm : m < 80) (hm0 : m % 2 = 0) (hc : c < 64) (h : gX r m m) (hf : ∀ a, a ≤ 40 → r 14 = nI (a + 1) → ∀ j, (j = 2 ∨ j = 3 ∨ (20 ≤ j ∧ j < 148) ∨ j = 8 ∨ j = 9 ∨ j = 14 ∨ j = 19 ∨ 212 ≤ j) → r' j = flowsR r 0 c (a + 1) j) (h4 : r' 4 = z) (h1 : r' 1 = if z = -1 then r 1 else 2) (hz : z = -1 → r 4 = -1 ∧ ∃ v, mkIs r c v ∧ v = 0) (hz2 : z = -1 ∨ vp_in z 64) (h10 : ∀ x, r 10 = nI x → x ≤ 81 * m → ∃ x', r' 10 = nI x' ∧ x' ≤ 81 * (m + 1)) (h15 : ∀ y, r 15 = nI y → y ≤ 81 * m → ∃ y', r' 15 = nI y' ∧ y' ≤ 81 * (m + 1)) : gX r' m (m + 1) := by
  obtain ⟨a, b, x, y, ⟨⟨n3, n2, n1, n4⟩, ⟨n14, n19, na, nb'⟩, ⟨n10, n15, nx, ny⟩⟩, ⟨c1, c2, c3, c8, c9⟩, ⟨m1, m2, m3⟩, l⟩ := h
  have hf' := hf a (by omega) n14
  obtain ⟨x', hx, hx'⟩ := h10 x n10 nx
  obtain ⟨y', hy, hy'⟩ := h15 y n15 ny
  have hs : ∀ j, j ≠ 212 + c → j ≠ 14 → j ≠ 277 + a → flowsR r 0 c (a + 1) j = r j := fun j q1 q2 q3 => by
    unfold flowsR
    rw [if_neg q1, if_neg (show ¬ j = 14 + 5 * 0 by omega), if_neg (show ¬ j = 276 + 64 * 0 + (a + 1) by omega)]
  obtain ⟨v0, hv0⟩ := m1 c hc
  obtain ⟨w, hw, w4, w1, w0, w2, wz⟩ := or_bit0 hv0.2
  have hmc : r' (212 + c) = nI w := by
    rw [hf' _ (by omega)]; unfold flowsR; rw [if_pos rfl, hv0.1]; exact hw
  have hmk : ∀ d, d ≠ c → d < 64 → r' (212 + d) = r (212 + d) := fun d hd hd2 => by
    rw [hf' _ (by omega), hs _ (by omega) (by omega) (by omega)]
  refine ⟨a + 1, b, x', y', ⟨⟨?_, ?_, ?_, ?_⟩, ⟨?_, ?_, by omega, by omega⟩, ⟨hx, hy, hx', hy'⟩⟩, ⟨fun i hi' => ?_, fun i hi' => ?_, fun i hi' => ?_, ?_, ?_⟩, ⟨fun d hd => ?_, ?_, ?_⟩, ?_⟩
  · rw [hf' _ (by omega), hs _ (by omega) (by omega) (by omega)]; exact n3
  · rw [hf' _ (by omega), hs _ (by omega) (by omega) (by omega)]; exact n2
  · rw [h1]
    unfold phI at n1 ⊢
    rw [h4]
    by_cases e : z = -1
    · rw [if_pos e, if_pos e, n1, if_pos (hz e).1]
    · rw [if_neg e, if_neg e]
  · rw [h4]; exact hz2
  · rw [hf' _ (by omega)]; unfold flowsR; rw [if_neg (show ¬ 14 = 212 + c by omega), if_pos (show 14 = 14 + 5 * 0 by omega)]
  · rw [hf' _ (by omega), hs _ (by omega) (by omega) (by omega)]; exact n19
  · rw [hf' _ (by omega)]
    by_cases e : i = a + 1
    · unfold flowsR
      rw [if_neg (show ¬ 276 + i = 212 + c by omega), if_neg (show ¬ 276 + i = 14 + 5 * 0 by omega), if_pos (show 276 + i = 276 + 64 * 0 + (a + 1) by omega)]
      exact vp_in_nI hc (by decide)
    · rw [hs _ (by omega) (by omega) (by omega)]; exact c1 i (by omega)
  · rw [hf' _ (by omega), hs _ (by omega) (by omega) (by omega)]; exact c2 i hi'
  · rw [hf' _ (by omega), hs _ (by omega) (by omega) (by omega)]; exact c3 i hi'
  · rw [hf' _ (by omega), hs _ (by omega) (by omega) (by omega)]; exact c8
  · rw [hf' _ (by omega), hs _ (by omega) (by omega) (by omega)]; exact c9
  · by_cases e : d = c
    · rw [e]; exact ⟨w, hmc, w4⟩
    · obtain ⟨v, hv⟩ := m1 d hd
      exact ⟨v, (hmk d e hd).trans hv.1, hv.2⟩
  · refine ⟨c, w, hc, ?_, ⟨hmc, w4⟩, w1⟩
    rw [hf' _ (by omega)]
    unfold flowsR
    rw [if_neg (show ¬ 276 + (a + 1) = 212 + c by omega), if_neg (show ¬ 276 + (a + 1) = 14 + 5 * 0 by omega), if_pos (show 276 + (a + 1) = 276 + 64 * 0 + (a + 1) by omega)]
  · obtain ⟨h', v, hh, e1, e2, e3⟩ := m3
    have e9 : r' (340 + b) = nI h' := by rw [hf' _ (by omega), hs _ (by omega) (by omega) (by omega)]; exact e1
    by_cases e : h' = c
    · subst e
      have := nI_inj (by omega) (by omega) (e2.1.symm.trans hv0.1)
      exact ⟨h', w, hh, e9, ⟨hmc, w4⟩, w2 (by omega)⟩
    · exact ⟨h', v, hh, e9, ⟨(hmk h' e hh).trans e2.1, e2.2⟩, e3⟩
  · intro e4 d v hd hv
    rw [h4] at e4
    obtain ⟨g4, u, hu, hu0⟩ := hz e4
    by_cases e : d = c
    · rw [e] at hv
      have q1 := nI_inj (by omega) (by omega) (hv.1.symm.trans hmc)
      have q2 := nI_inj (by omega) (by omega) (hu.1.symm.trans hv0.1)
      have := wz (by omega)
      omega
    · exact l g4 d v hd ⟨(hmk d e hd).symm.trans hv.1, hv.2⟩
theorem gF1 {r r' : Nat → Int32} {m c : Nat} {z : Int32} (hm : m < 80) (hm0 : m % 2 = 1) (hc : c < 64) (h : gX r m m) (hf : ∀ b, b ≤ 40 → r 19 = nI (b + 1) → ∀ j, (j = 2 ∨ j = 3 ∨ (20 ≤ j ∧ j < 148) ∨ j = 8 ∨ j = 9 ∨ j = 14 ∨ j = 19 ∨ 212 ≤ j) → r' j = flowsR r 1 c (b + 1) j) (h4 : r' 4 = z) (h1 : r' 1 = if z = -1 then r 1 else 2) (hz : z = -1 → r 4 = -1 ∧ ∃ v, mkIs r c v ∧ v = 0) (hz2 : z = -1 ∨ vp_in z 64) (h10 : ∀ x, r 10 = nI x → x ≤ 81 * m → ∃ x', r' 10 = nI x' ∧ x' ≤ 81 * (m + 1)) (h15 : ∀ y, r 15 = nI y → y ≤ 81 * m → ∃ y', r' 15 = nI y' ∧ y' ≤ 81 * (m + 1)) : gX r' m (m + 1) := by
  obtain ⟨a, b, x, y, ⟨⟨n3, n2, n1, n4⟩, ⟨n14, n19, na, nb'⟩, ⟨n10, n15, nx, ny⟩⟩, ⟨c1, c2, c3, c8, c9⟩, ⟨m1, m2, m3⟩, l⟩ := h
  have hf' := hf b (by omega) n19
  obtain ⟨x', hx, hx'⟩ := h10 x n10 nx
  obtain ⟨y', hy, hy'⟩ := h15 y n15 ny
  have hs : ∀ j, j ≠ 212 + c → j ≠ 19 → j ≠ 341 + b → flowsR r 1 c (b + 1) j = r j := fun j q1 q2 q3 => by
    unfold flowsR
    rw [if_neg q1, if_neg (show ¬ j = 14 + 5 * 1 by omega), if_neg (show ¬ j = 276 + 64 * 1 + (b + 1) by omega)]
  obtain ⟨v0, hv0⟩ := m1 c hc
  obtain ⟨w, hw, w4, w1, w0, w2, wz⟩ := or_bit1 hv0.2
  have hmc : r' (212 + c) = nI w := by
    rw [hf' _ (by omega)]; unfold flowsR; rw [if_pos rfl, hv0.1]; exact hw
  have hmk : ∀ d, d ≠ c → d < 64 → r' (212 + d) = r (212 + d) := fun d hd hd2 => by
    rw [hf' _ (by omega), hs _ (by omega) (by omega) (by omega)]
  refine ⟨a, b + 1, x', y', ⟨⟨?_, ?_, ?_, ?_⟩, ⟨?_, ?_, by omega, by omega⟩, ⟨hx, hy, hx', hy'⟩⟩, ⟨fun i hi' => ?_, fun i hi' => ?_, fun i hi' => ?_, ?_, ?_⟩, ⟨fun d hd => ?_, ?_, ?_⟩, ?_⟩
  · rw [hf' _ (by omega), hs _ (by omega) (by omega) (by omega)]; exact n3
  · rw [hf' _ (by omega), hs _ (by omega) (by omega) (by omega)]; exact n2
  · rw [h1]
    unfold phI at n1 ⊢
    rw [h4]
    by_cases e : z = -1
    · rw [if_pos e, if_pos e, n1, if_pos (hz e).1]
    · rw [if_neg e, if_neg e]
  · rw [h4]; exact hz2
  · rw [hf' _ (by omega), hs _ (by omega) (by omega) (by omega)]; exact n14
  · rw [hf' _ (by omega)]; unfold flowsR; rw [if_neg (show ¬ 19 = 212 + c by omega), if_pos (show 19 = 14 + 5 * 1 by omega)]
  · rw [hf' _ (by omega), hs _ (by omega) (by omega) (by omega)]; exact c1 i hi'
  · rw [hf' _ (by omega)]
    by_cases e : i = b + 1
    · unfold flowsR
      rw [if_neg (show ¬ 340 + i = 212 + c by omega), if_neg (show ¬ 340 + i = 14 + 5 * 1 by omega), if_pos (show 340 + i = 276 + 64 * 1 + (b + 1) by omega)]
      exact vp_in_nI hc (by decide)
    · rw [hs _ (by omega) (by omega) (by omega)]; exact c2 i (by omega)
  · rw [hf' _ (by omega), hs _ (by omega) (by omega) (by omega)]; exact c3 i hi'
  · rw [hf' _ (by omega), hs _ (by omega) (by omega) (by omega)]; exact c8
  · rw [hf' _ (by omega), hs _ (by omega) (by omega) (by omega)]; exact c9
  · by_cases e : d = c
    · rw [e]; exact ⟨w, hmc, w4⟩
    · obtain ⟨v, hv⟩ := m1 d hd
      exact ⟨v, (hmk d e hd).trans hv.1, hv.2⟩
  · obtain ⟨h', v, hh, e1, e2, e3⟩ := m2
    have e9 : r' (276 + a) = nI h' := by rw [hf' _ (by omega), hs _ (by omega) (by omega) (by omega)]; exact e1
    by_cases e : h' = c
    · subst e
      have := nI_inj (by omega) (by omega) (e2.1.symm.trans hv0.1)
      exact ⟨h', w, hh, e9, ⟨hmc, w4⟩, w2 (by omega)⟩
    · exact ⟨h', v, hh, e9, ⟨(hmk h' e hh).trans e2.1, e2.2⟩, e3⟩
  · refine ⟨c, w, hc, ?_, ⟨hmc, w4⟩, w1⟩
    rw [hf' _ (by omega)]
    unfold flowsR
    rw [if_neg (show ¬ 340 + (b + 1) = 212 + c by omega), if_neg (show ¬ 340 + (b + 1) = 14 + 5 * 1 by omega), if_pos (show 340 + (b + 1) = 276 + 64 * 1 + (b + 1) by omega)]
  · intro e4 d v hd hv
    rw [h4] at e4
    obtain ⟨g4, u, hu, hu0⟩ := hz e4
    by_cases e : d = c
    · rw [e] at hv
      have q1 := nI_inj (by omega) (by omega) (hv.1.symm.trans hmc)
      have q2 := nI_inj (by omega) (by omega) (hu.1.symm.trans hv0.1)
      have := wz (by omega)
      omega
    · exact l g4 d v hd ⟨(hmk d e hd).symm.trans hv.1, hv.2⟩
/-! ACTS of the reference keep a good row -/
theorem phI_1 {r : Nat → Int32} {m : Nat} (h : r 1 = phI r m) (h1 : r 1 = 1) : r 4 = -1 ∧ m < 80 := by
  unfold phI at h
  by_cases e : r 4 = -1
  · rw [if_pos e] at h
    refine ⟨e, ?_⟩
    rcases Nat.lt_or_ge m 80 with q | q
    · exact q
    · rw [if_pos q, h1] at h; exact absurd h (by decide)
  · rw [if_neg e, h1] at h; exact absurd h (by decide)
theorem river_iff {M : bM} {k p c v : Nat} (hp : p < 2) (hc : c < 64) (hv : mkIs (M k) c v) : f_X7_isRiver M k (nI p) (nI c) = 0 ↔ v / 2 ^ p % 2 = 0 := by
  have e : M k ((212 : Int32) + nI c).toNatClampNeg = nI v := by rw [idxK 212 (by omega)]; exact hv.1
  rw [u_f_X7_isRiver, e]
  have h4 := hv.2
  rcases (by omega : p = 0 ∨ p = 1) with rfl | rfl <;> rcases (by omega : v = 0 ∨ v = 1 ∨ v = 2 ∨ v = 3) with rfl | rfl | rfl | rfl <;> decide
theorem river_01 {M : bM} {k : Nat} {p c : Int32} : f_X7_isRiver M k p c = 0 ∨ f_X7_isRiver M k p c = 1 := by
  rw [u_f_X7_isRiver]
  split
  · exact Or.inr rfl
  · exact Or.inl rfl
/-- what a step that isn't refused leads to -/
theorem reason_ok {M : bM} {k : Nat} {d : Int32} (h : f_X7_reason M k d ≤ 0) : ∃ c, c < 64 ∧ f_X7_stepFrom (f_X7_head M k (M k 2)) d = nI c ∧ M k (148 + c) = -1 ∧ f_X7_isRiver M k (M k 2) (nI c) = 0 := by
  rw [u_f_X7_reason] at h
  dsimp only at h
  generalize hx : f_X7_stepFrom (f_X7_head M k (M k 2)) d = x at *
  by_cases c1 : x = -1
  · rw [if_pos c1] at h; exact absurd h (by decide)
  rw [if_neg c1] at h
  have hin : vp_in x 64 := by rw [← hx]; exact stepFrom_in (by rw [hx]; exact c1)
  obtain ⟨c, hc, rfl⟩ := vp_in_of hin (by decide)
  by_cases c2 : f_X7_isDam M k (nI c) = 0
  · rw [if_pos c2] at h
    by_cases c3 : f_X7_isRiver M k (M k 2) (nI c) = 0
    · exact ⟨c, hc, rfl, (isDam_iff hc).mp c2, c3⟩
    · rw [if_neg c3] at h; exact absurd h (by decide)
  · rw [if_neg c2] at h; exact absurd h (by decide)
theorem gR_refused {M : bM} {k : Nat} {v : Int32} (h : gR (M k)) : gR (up2 M k 6 v k) := by
  obtain ⟨m, hm, h⟩ := h
  have h' := h
  obtain ⟨a, b, x, y, ⟨_, _, ⟨n10, n15, nx, ny⟩⟩, ⟨c1, c2, c3, c8, c9⟩, _, _⟩ := h'
  have e : ∀ j, j ≠ 6 → up2 M k 6 v k j = M k j := fun j hj => by rw [up2_at, if_neg hj]
  exact ⟨m, hm, gX_core (Nat.le_refl _) h (fun j hj => e j (by omega)) (by rw [e 8 (by decide)]; exact c8) (by rw [e 9 (by decide)]; exact c9) ⟨x, by rw [e 10 (by decide)]; exact n10, nx⟩ ⟨y, by rw [e 15 (by decide)]; exact n15, ny⟩⟩
theorem gR_wf {r : Nat → Int32} (h : gR r) : (r 2 = 0 ∨ r 2 = 1) ∧ vp_in (r 14 - 1) 64 ∧ vp_in (r 19 - 1) 64 := by
  obtain ⟨m, hm, a, b, x, y, ⟨⟨n3, n2, n1, n4⟩, ⟨n14, n19, na, nb'⟩, _⟩, _⟩ := h
  refine ⟨?_, ?_, ?_⟩
  · rw [n2]
    rcases Nat.mod_two_eq_zero_or_one m with e | e
    · rw [e]; exact Or.inl rfl
    · rw [e]; exact Or.inr rfl
  · rw [n14, show (1 : Int32) = nI 1 from rfl, pk_sub (by omega)]; exact vp_in_nI (by omega) (by decide)
  · rw [n19, show (1 : Int32) = nI 1 from rfl, pk_sub (by omega)]; exact vp_in_nI (by omega) (by decide)
theorem gR_cost {r : Nat → Int32} (h : gR r) : costR r := by
  obtain ⟨m, hm, a, b, x, y, _, ⟨c1, c2, c3, _⟩, _⟩ := h
  exact c3
theorem sm81 {s c : Int32} (hs : vp_in s 10) (hc : vp_in c 10) : ∃ w, s * c = nI w ∧ w ≤ 81 := by
  obtain ⟨i, hi, rfl⟩ := vp_in_of hs (by decide)
  obtain ⟨j, hj, rfl⟩ := vp_in_of hc (by decide)
  refine ⟨i * j, pk_mul i j, ?_⟩
  have h1 : i * j ≤ 9 * j := Nat.mul_le_mul_right j (by omega)
  omega
theorem cost_p {r : Nat → Int32} (h : costR r) {p c : Nat} (hp : p < 2) (hc : c < 64) : vp_in (r (20 + 64 * p + c)) 10 := by
  have := h (64 * p + c) (by omega)
  rwa [show 20 + (64 * p + c) = 20 + 64 * p + c by omega] at this
theorem add_nI {x v : Int32} {a b : Nat} (h : x = nI a) (h2 : v = nI b) : x + v = nI (a + b) := by rw [h, h2, nI_add]
theorem paysR_ne {r : Nat → Int32} {p j : Nat} {v : Int32} (h1 : j ≠ 13 + 5 * p) (h2 : j ≠ 10 + 5 * p) : paysR r p v j = r j := by
  unfold paysR
  rw [if_neg h1, if_neg h2]
theorem paysR_10 {r : Nat → Int32} {p j : Nat} {v : Int32} (h : j = 10 + 5 * p) : paysR r p v j = r j + v := by
  unfold paysR
  rw [if_neg (by omega), if_pos h, ← h]
theorem gR_stepOn {M : bM} {k : Nat} {d : Int32} (h : gR (M k)) (h1 : M k 1 = 1) : gR ((f_X7_stepOn M k d).2 k) := by
  have h0 := h
  obtain ⟨m, hm, hX⟩ := h
  have hX' := hX
  obtain ⟨a, b, x, y, ⟨⟨n3, n2, n1, n4⟩, ⟨n14, n19, na, nb'⟩, ⟨n10, n15, nx, ny⟩⟩, ⟨c1, c2, c3, c8, c9⟩, ⟨m1, m2, m3⟩, l⟩ := hX'
  obtain ⟨e4, hm8⟩ := phI_1 n1 h1
  rw [u_f_X7_stepOn]
  dsimp only
  by_cases hr : f_X7_reason M k d ≤ 0
  · rw [if_pos hr]
    obtain ⟨c, hc, ec, hdam, hriv⟩ := reason_ok hr
    rw [ec]
    obtain ⟨v0, hv0⟩ := m1 c hc
    have p9 := cost_p c3 (p := 0) (by decide) hc
    have q9 := cost_p c3 (p := 1) (by decide) hc
    rcases Nat.mod_two_eq_zero_or_one m with hm0 | hm0
    · have e2 : M k 2 = nI 0 := by rw [n2, hm0]
      rw [e2] at hriv ⊢
      rw [show (1 : Int32) - nI 0 = nI 1 from rfl]
      have hF := flows_row (M := M) (k := k) (p := 0) (c := c) (a := a + 1) (by decide) hc n14 (by omega)
      generalize f_X7_flows M k (nI 0) (nI c) = F at *
      have hf : ∀ (r' : Nat → Int32), (∀ j, (j = 2 ∨ j = 3 ∨ (20 ≤ j ∧ j < 148) ∨ j = 8 ∨ j = 9 ∨ j = 14 ∨ j = 19 ∨ 212 ≤ j) → r' j = F k j) → ∀ a', a' ≤ 40 → M k 14 = nI (a' + 1) → ∀ j, (j = 2 ∨ j = 3 ∨ (20 ≤ j ∧ j < 148) ∨ j = 8 ∨ j = 9 ∨ j = 14 ∨ j = 19 ∨ 212 ≤ j) → r' j = flowsR (M k) 0 c (a' + 1) j := by
        intro r' hr' a' ha' hn' j hj
        have := nI_inj (by omega) (by omega) (hn'.symm.trans n14)
        rw [hr' j hj, hF, show a' = a by omega]
      have hs : ∀ j, j ≠ 212 + c → j ≠ 14 → j ≠ 277 + a → F k j = M k j := fun j q1 q2 q3 => by
        rw [hF]; unfold flowsR
        rw [if_neg q1, if_neg (show ¬ j = 14 + 5 * 0 by omega), if_neg (show ¬ j = 276 + 64 * 0 + (a + 1) by omega)]
      have hv2 : v0 % 2 = 0 := by have := (river_iff (p := 0) (by decide) hc hv0).mp hriv; omega
      by_cases hmt : f_X7_isRiver M k (nI 1) (nI c) = 0
      · rw [if_pos hmt]
        have hv1 := (river_iff (p := 1) (by decide) hc hv0).mp hmt
        have hv00 : v0 = 0 := by have := hv0.2; omega
        dsimp only
        rw [te_row, pays_row (by decide), cost_at (by decide) hc]
        refine gR_turn hm8 (gF0 (c := c) (z := -1) hm8 hm0 hc hX (hf _ (fun j hj => ?_)) ?_ ?_ (fun _ => ⟨e4, v0, hv0, hv00⟩) (Or.inl rfl) (fun x' hx' hl' => ?_) (fun y' hy' hl' => ⟨y', ?_, by omega⟩))
        · unfold paysR
          rw [if_neg (show ¬ j = 13 + 5 * 0 by omega), if_neg (show ¬ j = 10 + 5 * 0 by omega)]
        · rw [paysR_ne (by omega) (by omega), hs 4 (by omega) (by omega) (by omega)]; exact e4
        · rw [paysR_ne (by omega) (by omega), hs 1 (by omega) (by omega) (by omega), if_pos rfl]
        · obtain ⟨w, hw, hw9⟩ := vp_in_of p9 (by decide)
          refine ⟨x' + w, ?_, by omega⟩
          rw [paysR_10 (by omega), hs 10 (by omega) (by omega) (by omega), hs _ (by omega) (by omega) (by omega), hx', hw9, nI_add]
        · rw [paysR_ne (by omega) (by omega), hs 15 (by omega) (by omega) (by omega)]; exact hy'
      · rw [if_neg hmt]
        dsimp only
        rw [te_row, meet_row hc]
        refine gR_turn hm8 (gF0 (c := c) (z := nI c) hm8 hm0 hc hX (hf _ (fun j hj => ?_)) ?_ ?_ (fun q => absurd q (nI_ne_m1 (by omega))) (Or.inr (vp_in_nI hc (by decide))) (fun x' hx' hl' => ?_) (fun y' hy' hl' => ?_))
        · unfold meetR
          simp only [show ¬ j = 1 by omega, show ¬ j = 4 by omega, show ¬ j = 5 by omega, show ¬ j = 12 by omega, show ¬ j = 17 by omega, show ¬ j = 10 by omega, show ¬ j = 13 by omega, show ¬ j = 15 by omega, show ¬ j = 18 by omega, if_false]
        · unfold meetR; simp
        · unfold meetR; rw [if_neg (nI_ne_m1 (by omega))]; simp
        · obtain ⟨w, hw, hw9⟩ := sm81 c9 p9
          refine ⟨x' + w, ?_, by omega⟩
          have e : meetR (F k) c 10 = F k 10 + F k 9 * F k (20 + c) := by unfold meetR; simp
          rw [e, hs 10 (by omega) (by omega) (by omega), hs 9 (by omega) (by omega) (by omega), hs (20 + c) (by omega) (by omega) (by omega)]
          exact add_nI hx' hw
        · obtain ⟨w, hw, hw9⟩ := sm81 c9 q9
          refine ⟨y' + w, ?_, by omega⟩
          have e : meetR (F k) c 15 = F k 15 + F k 9 * F k (84 + c) := by unfold meetR; simp
          rw [e, hs 15 (by omega) (by omega) (by omega), hs 9 (by omega) (by omega) (by omega), hs (84 + c) (by omega) (by omega) (by omega)]
          exact add_nI hy' hw
    · have e2 : M k 2 = nI 1 := by rw [n2, hm0]
      rw [e2] at hriv ⊢
      rw [show (1 : Int32) - nI 1 = nI 0 from rfl]
      have hF := flows_row (M := M) (k := k) (p := 1) (c := c) (a := b + 1) (by decide) hc n19 (by omega)
      generalize f_X7_flows M k (nI 1) (nI c) = F at *
      have hf : ∀ (r' : Nat → Int32), (∀ j, (j = 2 ∨ j = 3 ∨ (20 ≤ j ∧ j < 148) ∨ j = 8 ∨ j = 9 ∨ j = 14 ∨ j = 19 ∨ 212 ≤ j) → r' j = F k j) → ∀ a', a' ≤ 40 → M k 19 = nI (a' + 1) → ∀ j, (j = 2 ∨ j = 3 ∨ (20 ≤ j ∧ j < 148) ∨ j = 8 ∨ j = 9 ∨ j = 14 ∨ j = 19 ∨ 212 ≤ j) → r' j = flowsR (M k) 1 c (a' + 1) j := by
        intro r' hr' a' ha' hn' j hj
        have := nI_inj (by omega) (by omega) (hn'.symm.trans n19)
        rw [hr' j hj, hF, show a' = b by omega]
      have hs : ∀ j, j ≠ 212 + c → j ≠ 19 → j ≠ 341 + b → F k j = M k j := fun j q1 q2 q3 => by
        rw [hF]; unfold flowsR
        rw [if_neg q1, if_neg (show ¬ j = 14 + 5 * 1 by omega), if_neg (show ¬ j = 276 + 64 * 1 + (b + 1) by omega)]
      have hv2 : v0 / 2 % 2 = 0 := by have := (river_iff (p := 1) (by decide) hc hv0).mp hriv; omega
      by_cases hmt : f_X7_isRiver M k (nI 0) (nI c) = 0
      · rw [if_pos hmt]
        have hv1 := (river_iff (p := 0) (by decide) hc hv0).mp hmt
        have hv00 : v0 = 0 := by have := hv0.2; omega
        dsimp only
        rw [te_row, pays_row (by decide), cost_at (by decide) hc]
        refine gR_turn hm8 (gF1 (c := c) (z := -1) hm8 hm0 hc hX (hf _ (fun j hj => ?_)) ?_ ?_ (fun _ => ⟨e4, v0, hv0, hv00⟩) (Or.inl rfl) (fun x' hx' hl' => ⟨x', ?_, by omega⟩) (fun y' hy' hl' => ?_))
        · unfold paysR
          rw [if_neg (show ¬ j = 13 + 5 * 1 by omega), if_neg (show ¬ j = 10 + 5 * 1 by omega)]
        · rw [paysR_ne (by omega) (by omega), hs 4 (by omega) (by omega) (by omega)]; exact e4
        · rw [paysR_ne (by omega) (by omega), hs 1 (by omega) (by omega) (by omega), if_pos rfl]
        · rw [paysR_ne (by omega) (by omega), hs 10 (by omega) (by omega) (by omega)]; exact hx'
        · obtain ⟨w, hw, hw9⟩ := vp_in_of q9 (by decide)
          refine ⟨y' + w, ?_, by omega⟩
          rw [paysR_10 (by omega), hs 15 (by omega) (by omega) (by omega), hs _ (by omega) (by omega) (by omega), hy', hw9, nI_add]
      · rw [if_neg hmt]
        dsimp only
        rw [te_row, meet_row hc]
        refine gR_turn hm8 (gF1 (c := c) (z := nI c) hm8 hm0 hc hX (hf _ (fun j hj => ?_)) ?_ ?_ (fun q => absurd q (nI_ne_m1 (by omega))) (Or.inr (vp_in_nI hc (by decide))) (fun x' hx' hl' => ?_) (fun y' hy' hl' => ?_))
        · unfold meetR
          simp only [show ¬ j = 1 by omega, show ¬ j = 4 by omega, show ¬ j = 5 by omega, show ¬ j = 12 by omega, show ¬ j = 17 by omega, show ¬ j = 10 by omega, show ¬ j = 13 by omega, show ¬ j = 15 by omega, show ¬ j = 18 by omega, if_false]
        · unfold meetR; simp
        · unfold meetR; rw [if_neg (nI_ne_m1 (by omega))]; simp
        · obtain ⟨w, hw, hw9⟩ := sm81 c9 p9
          refine ⟨x' + w, ?_, by omega⟩
          have e : meetR (F k) c 10 = F k 10 + F k 9 * F k (20 + c) := by unfold meetR; simp
          rw [e, hs 10 (by omega) (by omega) (by omega), hs 9 (by omega) (by omega) (by omega), hs (20 + c) (by omega) (by omega) (by omega)]
          exact add_nI hx' hw
        · obtain ⟨w, hw, hw9⟩ := sm81 c9 q9
          refine ⟨y' + w, ?_, by omega⟩
          have e : meetR (F k) c 15 = F k 15 + F k 9 * F k (84 + c) := by unfold meetR; simp
          rw [e, hs 15 (by omega) (by omega) (by omega), hs 9 (by omega) (by omega) (by omega), hs (84 + c) (by omega) (by omega) (by omega)]
          exact add_nI hy' hw
  · rw [if_neg hr]
    exact gR_refused h0
/-! ACTS, second half -/
theorem gR_paid {r r' : Nat → Int32} {m q : Nat} (hq : q ≤ 81) (h : gX r m q) : ∃ x y, r 10 = nI x ∧ r 15 = nI y ∧ x ≤ 81 * q ∧ y ≤ 81 * q := by
  obtain ⟨a, b, x, y, ⟨_, _, ⟨n10, n15, nx, ny⟩⟩, _⟩ := h
  exact ⟨x, y, n10, n15, nx, ny⟩
theorem gX_set {r : Nat → Int32} {m q : Nat} (h : gX r m q) : vp_in (r 8) 41 ∧ vp_in (r 9) 10 := by
  obtain ⟨a, b, x, y, _, ⟨c1, c2, c3, c8, c9⟩, _⟩ := h
  exact ⟨c8, c9⟩
theorem gX_under {r : Nat → Int32} {m q : Nat} (h : gX r m q) (h1 : r 1 = 1) : r 4 = -1 ∧ m < 80 := by
  obtain ⟨a, b, x, y, ⟨⟨n3, n2, n1, n4⟩, _⟩, _⟩ := h
  exact phI_1 n1 h1
theorem gX_turn {r : Nat → Int32} {m q : Nat} (h : gX r m q) : r 2 = nI (m % 2) := by
  obtain ⟨a, b, x, y, ⟨⟨n3, n2, n1, n4⟩, _⟩, _⟩ := h
  exact n2
theorem damReason_row {M : bM} {k c : Nat} (hk : k ≠ 7) (hc : c < 64) : (f_X7_damReason M k (nI c)).2 k = M k ∧ ((f_X7_damReason M k (nI c)).1 ≤ 0 → M k (148 + c) = -1 ∧ M k (212 + c) = 0) := by
  have hi := isBare_iff (M := M) (k := k) hc
  rw [u_f_X7_damReason]
  dsimp only
  by_cases c1 : f_X7_isBare M k (nI c) = 0
  · rw [if_pos c1]; exact ⟨rfl, fun q => absurd q (show ¬ (1 : Int32) ≤ 0 by decide)⟩
  rw [if_neg c1]
  have hb : bareR (M k) c := Classical.byContradiction (fun q => c1 (hi.mpr q))
  by_cases c2 : f_X7_of M k (M k 2) 1 = 3
  · rw [if_pos c2]; exact ⟨rfl, fun q => absurd q (show ¬ (2 : Int32) ≤ 0 by decide)⟩
  rw [if_neg c2, idxK 148 (by omega)]
  have hN : ∀ (N : bM), N k = up2 M k (148 + c) 0 k → up2 N k (148 + c) (-1) k = M k := by
    intro N hN
    funext j
    rw [up2_at, hN, up2_at]
    by_cases e : j = 148 + c
    · rw [if_pos e, e, hb.1]
    · rw [if_neg e, if_neg e]
  have hO : ∀ (N : bM) (q : Int32), (f_X7_isOpen N k q).2 k = N k := fun N q => fr_X7_isOpen N k q k hk
  by_cases c3 : (f_X7_isOpen (up2 M k (148 + c) 0) k 0).1 = 0
  · rw [if_pos c3]; exact ⟨hN _ (hO _ _), fun q => absurd q (show ¬ (3 : Int32) ≤ 0 by decide)⟩
  rw [if_neg c3]
  by_cases c4 : (f_X7_isOpen (f_X7_isOpen (up2 M k (148 + c) 0) k 0).2 k 1).1 = 0
  · rw [if_pos c4]; exact ⟨hN _ ((hO _ _).trans (hO _ _)), fun q => absurd q (show ¬ (3 : Int32) ≤ 0 by decide)⟩
  · rw [if_neg c4]; exact ⟨hN _ ((hO _ _).trans (hO _ _)), fun _ => hb⟩
theorem gX_up {r r' : Nat → Int32} {m : Nat} (h : gX r m m) (he : ∀ j, (j = 1 ∨ j = 2 ∨ j = 3 ∨ j = 4 ∨ j = 8 ∨ j = 9 ∨ j = 14 ∨ j = 19 ∨ (20 ≤ j ∧ j < 148) ∨ 212 ≤ j) → r' j = r j) (h10 : ∀ x, r 10 = nI x → ∃ w, r' 10 = nI (x + w) ∧ w ≤ 81) (h15 : ∀ y, r 15 = nI y → ∃ w, r' 15 = nI (y + w) ∧ w ≤ 81) : gX r' m (m + 1) := by
  have h' := h
  obtain ⟨a, b, x, y, ⟨_, _, ⟨n10, n15, nx, ny⟩⟩, ⟨c1, c2, c3, c8, c9⟩, _⟩ := h'
  obtain ⟨w, hw, hw'⟩ := h10 x n10
  obtain ⟨z, hz, hz'⟩ := h15 y n15
  exact gX_core (Nat.le_succ m) h (fun j hj => he j (by omega)) (by rw [he 8 (by omega)]; exact c8) (by rw [he 9 (by omega)]; exact c9) ⟨x + w, hw, by omega⟩ ⟨y + z, hz, by omega⟩
theorem gR_damOn {M : bM} {k c : Nat} (hk : k ≠ 7) (hc : c < 64) (h : gR (M k)) (h1 : M k 1 = 1) : gR ((f_X7_damOn M k (nI c)).2 k) := by
  obtain ⟨hrow, hfree⟩ := damReason_row (M := M) hk hc
  rw [u_f_X7_damOn]
  dsimp only
  generalize f_X7_damReason M k (nI c) = Z at *
  have hZ : gR (Z.2 k) := by rw [hrow]; exact h
  by_cases c1 : Z.1 ≤ 0
  · rw [if_pos c1]
    dsimp only
    rw [te_row]
    obtain ⟨m, hm, hX⟩ := hZ
    obtain ⟨e4, hm8⟩ := gX_under hX (by rw [hrow]; exact h1)
    have e2 := gX_turn hX
    refine gR_turn hm8 ?_
    rw [idxK 148 (by omega)]
    have e2' : up2 Z.2 k (148 + c) 0 k 2 = nI (m % 2) := by rw [up2_at, if_neg (by omega)]; exact e2
    rw [e2', show (1 : Int32) = nI 1 from rfl, add_at (Nat.mod_lt m (by decide)) (by decide)]
    have hj : ∀ j, j ≠ 10 + 5 * (m % 2) + 1 → j ≠ 148 + c → up2 (up2 Z.2 k (148 + c) 0) k (10 + 5 * (m % 2) + 1) (up2 Z.2 k (148 + c) 0 k (10 + 5 * (m % 2) + 1) + nI 1) k j = Z.2 k j := by
      intro j q1 q2
      rw [up2_at, if_neg q1, up2_at, if_neg q2]
    exact gX_up hX (fun j q => hj j (by omega) (by omega)) (fun x q => ⟨0, by rw [hj _ (by omega) (by omega)]; exact q, by omega⟩) (fun x q => ⟨0, by rw [hj _ (by omega) (by omega)]; exact q, by omega⟩)
  · rw [if_neg c1]
    exact gR_refused hZ
theorem flood_loop {k : Nat} : ∀ (n i : Nat) (x : Int32) (M : bM), (∀ j, ¬ (148 ≤ j ∧ j < 212) → (lp_X7_floodOn_4 k n i x M).2 k j = M k j) := by
  intro n
  induction n with
  | zero => intro i x M j hj; rw [u0_lp_X7_floodOn_4]
  | succ n ih =>
    intro i x M j hj
    rw [u1_lp_X7_floodOn_4]
    dsimp only
    by_cases c1 : f_X7_stepFrom (f_X7_head M k (M k 2)) (nI i) = -1
    · rw [if_pos c1]; exact ih _ _ _ j hj
    rw [if_neg c1]
    obtain ⟨c, hc, e⟩ := vp_in_of (stepFrom_in c1) (by decide)
    rw [e]
    by_cases c2 : f_X7_isDam M k (nI c) = 0
    · rw [if_pos c2]; exact ih _ _ _ j hj
    rw [if_neg c2, ih _ _ _ j hj, idxK 148 (by omega), up2_at, if_neg (by omega)]
theorem gR_floodOn {M : bM} {k : Nat} (h : gR (M k)) (h1 : M k 1 = 1) : gR ((f_X7_floodOn M k).2 k) := by
  have hL := flood_loop (k := k) 3 0 0 M
  rw [u_f_X7_floodOn]
  dsimp only
  generalize lp_X7_floodOn_4 k 3 0 0 M = Z at *
  obtain ⟨m, hm, hX⟩ := h
  obtain ⟨e4, hm8⟩ := gX_under hX h1
  have e2 := gX_turn hX
  rw [te_row]
  refine gR_turn hm8 ?_
  rw [hL 2 (by omega), e2]
  have hP := pays_row (M := Z.2) (k := k) (p := m % 2) (v := 5) (Nat.mod_lt m (by decide))
  generalize f_X7_pays Z.2 k (nI (m % 2)) 5 = P at *
  have hj : ∀ j, j ≠ 13 + 5 * (m % 2) → j ≠ 10 + 5 * (m % 2) → j ≠ 7 → ¬ (148 ≤ j ∧ j < 212) → up2 P k 7 (P k 7 + 1) k j = M k j := by
    intro j q1 q2 q3 q4
    rw [up2_at, if_neg q3, hP, paysR_ne q1 q2, hL j q4]
  have hp : ∀ j x, j = 10 + 5 * (m % 2) → M k j = nI x → up2 P k 7 (P k 7 + 1) k j = nI (x + 5) := by
    intro j x q1 q2
    rw [up2_at, if_neg (by omega), hP, paysR_10 q1, hL j (by omega), q2, show (5 : Int32) = nI 5 from rfl, nI_add]
  refine gX_up hX (fun j q => hj j (by omega) (by omega) (by omega) (by omega)) (fun x q => ?_) (fun x q => ?_)
  · rcases Nat.mod_two_eq_zero_or_one m with e | e
    · exact ⟨5, hp _ _ (by omega) q, by omega⟩
    · exact ⟨0, by rw [hj _ (by omega) (by omega) (by omega) (by omega)]; exact q, by omega⟩
  · rcases Nat.mod_two_eq_zero_or_one m with e | e
    · exact ⟨0, by rw [hj _ (by omega) (by omega) (by omega) (by omega)]; exact q, by omega⟩
    · exact ⟨5, hp _ _ (by omega) q, by omega⟩
theorem new_g {r : Nat → Int32} {x : Int64} (h8 : vp_in (r 8) 41) (h9 : vp_in (r 9) 10) : gR (newR r x) := by
  have e0 : ∀ j, (j = 8 ∨ j = 9) → newR r x j = r j := fun j hj => by
    rcases hj with rfl | rfl <;> simp [newR]
  have e14 : newR r x 14 = nI (0 + 1) := by simp [newR]; rfl
  have e19 : newR r x 19 = nI (0 + 1) := by simp [newR]; rfl
  have e3 : newR r x 3 = nI 0 := by simp [newR]; rfl
  have e2 : newR r x 2 = nI (0 % 2) := by simp [newR]; rfl
  have e1 : newR r x 1 = 1 := by simp [newR]
  have e4 : newR r x 4 = -1 := by simp [newR]
  have e10 : newR r x 10 = nI 0 := by simp [newR]; rfl
  have e15 : newR r x 15 = nI 0 := by simp [newR]; rfl
  have e276 : newR r x (276 + 0) = nI 1 := by simp [newR]; rfl
  have e340 : newR r x (340 + 0) = nI 6 := by simp [newR]; rfl
  have emk : ∀ c, c < 64 → newR r x (212 + c) = if c = 1 then 1 else if c = 6 then 2 else 0 := by
    intro c hc
    unfold newR
    simp only [show ¬ 212 + c = 0 by omega, show ¬ 212 + c = 1 by omega, show ¬ 212 + c = 2 by omega, show ¬ 212 + c = 3 by omega, show ¬ 212 + c = 4 by omega, show ¬ 212 + c = 5 by omega, show ¬ 212 + c = 10 by omega, show ¬ 212 + c = 11 by omega, show ¬ 212 + c = 14 by omega, show ¬ 212 + c = 15 by omega, show ¬ 212 + c = 16 by omega, show ¬ 212 + c = 19 by omega, show ¬ (20 ≤ 212 + c ∧ 212 + c < 84) by omega, show ¬ (84 ≤ 212 + c ∧ 212 + c < 148) by omega, show ¬ (148 ≤ 212 + c ∧ 212 + c < 212) by omega, if_false]
    rw [if_pos (show 212 ≤ 212 + c ∧ 212 + c < 276 by omega)]
    by_cases c1 : c = 1
    · rw [if_pos (show 212 + c = 213 by omega), if_pos c1]
    rw [if_neg (show ¬ 212 + c = 213 by omega), if_neg c1]
    by_cases c6 : c = 6
    · rw [if_pos (show 212 + c = 218 by omega), if_pos c6]
    rw [if_neg (show ¬ 212 + c = 218 by omega), if_neg c6]
  have hmk : ∀ c, c < 64 → ∃ v, mkIs (newR r x) c v ∧ v ≤ 2 := by
    intro c hc
    have := emk c hc
    by_cases c1 : c = 1
    · rw [if_pos c1] at this; exact ⟨1, ⟨this, by decide⟩, by decide⟩
    rw [if_neg c1] at this
    by_cases c6 : c = 6
    · rw [if_pos c6] at this; exact ⟨2, ⟨this, by decide⟩, by decide⟩
    rw [if_neg c6] at this
    exact ⟨0, ⟨this, by decide⟩, by decide⟩
  have ecost : ∀ i, i < 128 → ∃ w, newR r x (20 + i) = nI w ∧ w < 10 := by
    intro i hi
    unfold newR
    simp only [show ¬ 20 + i = 0 by omega, show ¬ 20 + i = 1 by omega, show ¬ 20 + i = 2 by omega, show ¬ 20 + i = 3 by omega, show ¬ 20 + i = 4 by omega, show ¬ 20 + i = 5 by omega, show ¬ 20 + i = 10 by omega, show ¬ 20 + i = 11 by omega, show ¬ 20 + i = 14 by omega, show ¬ 20 + i = 15 by omega, show ¬ 20 + i = 16 by omega, show ¬ 20 + i = 19 by omega, if_false]
    by_cases q : 20 ≤ 20 + i ∧ 20 + i < 84
    · rw [if_pos q]
      obtain ⟨n, hn, e⟩ := drw_nI (lcgN x (20 + i - 20 + 1))
      rw [e, show (10 : Int32) = nI 10 from rfl, pk_rem hn (by decide) (by decide)]
      exact ⟨n % 10, rfl, Nat.mod_lt _ (by decide)⟩
    · rw [if_neg q, if_pos (show 84 ≤ 20 + i ∧ 20 + i < 148 by omega)]
      obtain ⟨n, hn, e⟩ := drw_nI (lcgN x (20 + i - 84 + 1))
      rw [e, show (10 : Int32) = nI 10 from rfl, pk_div hn (by decide) (by decide), pk_rem (by omega) (by decide) (by decide)]
      exact ⟨n / 10 % 10, rfl, Nat.mod_lt _ (by decide)⟩
  refine ⟨0, by decide, 0, 0, 0, 0, ⟨⟨e3, e2, ?_, Or.inl e4⟩, ⟨e14, e19, by decide, by decide⟩, ⟨e10, e15, by decide, by decide⟩⟩, ⟨fun i hi => ?_, fun i hi => ?_, fun i hi => ?_, ?_, ?_⟩, ⟨fun c hc => ?_, ?_, ?_⟩, ?_⟩
  · unfold phI; rw [e1, e4]; rfl
  · rw [show i = 0 by omega, e276]; exact vp_in_nI (by decide) (by decide)
  · rw [show i = 0 by omega, e340]; exact vp_in_nI (by decide) (by decide)
  · obtain ⟨w, hw, h10⟩ := ecost i hi
    rw [hw]; exact vp_in_nI h10 (by decide)
  · rw [e0 8 (Or.inl rfl)]; exact h8
  · rw [e0 9 (Or.inr rfl)]; exact h9
  · obtain ⟨v, hv, _⟩ := hmk c hc
    exact ⟨v, hv⟩
  · exact ⟨1, 1, by decide, e276, ⟨(emk 1 (by decide)).trans rfl, by decide⟩, by decide⟩
  · exact ⟨6, 2, by decide, e340, ⟨(emk 6 (by decide)).trans rfl, by decide⟩, by decide⟩
  · intro _ c v hc hv
    obtain ⟨w, hw, hw2⟩ := hmk c hc
    have := nI_inj (by have := hv.2; omega) (by have := hw.2; omega) (hv.1.symm.trans hw.1)
    omega
theorem gR_gameOn {M : bM} {k : Nat} {x : Int64} (h : gR (M k)) : gR ((f_X7_gameOn M k x).2 k) := by
  obtain ⟨m, hm, hX⟩ := h
  rw [on_row.2]
  exact new_g (gX_set hX).1 (gX_set hX).2
theorem clear_loop {k : Nat} : ∀ (n i : Nat) (M : bM), i + n = 404 → ∀ j, lp_X7_clear_2 k n i M k j = if i ≤ j ∧ j < 404 then 0 else M k j := by
  intro n
  induction n with
  | zero => intro i M hi j; rw [u0_lp_X7_clear_2, if_neg (show ¬ (i ≤ j ∧ j < 404) by omega)]
  | succ n ih =>
    intro i M hi j
    rw [u1_lp_X7_clear_2]
    dsimp only
    rw [ih _ _ (by omega) j, up2_at]
    by_cases e : j = i
    · rw [if_neg (show ¬ (i + 1 ≤ j ∧ j < 404) by omega), if_pos e, if_pos (show i ≤ j ∧ j < 404 by omega)]
    · rw [if_neg e]
      by_cases q : i ≤ j ∧ j < 404
      · rw [if_pos q, if_pos (show i + 1 ≤ j ∧ j < 404 by omega)]
      · rw [if_neg q, if_neg (show ¬ (i + 1 ≤ j ∧ j < 404) by omega)]
theorem clear_row {M : bM} {k : Nat} : f_X7_clear M k k = newR (fun j => if j = 9 then 3 else if j = 8 then 20 else if j < 404 then 0 else M k j) 0 := by
  rw [u_f_X7_clear]
  dsimp only
  rw [on_row.2]
  congr 1
  funext j
  rw [up2_at, up2_at, clear_loop 404 0 M rfl j]
  by_cases e : j < 404
  · rw [if_pos e, if_pos (show 0 ≤ j ∧ j < 404 by omega)]
  · rw [if_neg e, if_neg (show ¬ (0 ≤ j ∧ j < 404) by omega)]
theorem gR_clear {M : bM} {k : Nat} : gR (f_X7_clear M k k) := by
  rw [clear_row]
  exact new_g (by simp; exact vp_in_nI (n := 20) (by decide) (by decide)) (by simp; exact vp_in_nI (n := 3) (by decide) (by decide))
theorem isSet_in {w v : Int32} (h : ¬ f_X7_isSetting w v = 0) : (w = 0 ∧ vp_in v 41) ∨ (w = 1 ∧ vp_in v 10) := by
  have hin : ∀ b : Int64, ¬ f_X7_in v.toInt64 1 b = 0 → 1 ≤ v.toInt ∧ v.toInt ≤ b.toInt := by
    intro b q
    have := (in_iff _ _ _).mp q
    rw [Int32.toInt_toInt64] at this
    exact this
  rw [u_f_X7_isSetting] at h
  dsimp only at h
  have e40 : (40 : Int64).toInt = 40 := by decide
  have e9 : (9 : Int64).toInt = 9 := by decide
  by_cases c0 : w = 0
  · rw [if_pos c0] at h
    refine Or.inl ⟨c0, ?_⟩
    by_cases c1 : f_X7_in v.toInt64 1 40 = 0
    · rw [if_pos c1, if_neg (by rw [c0]; decide)] at h; exact absurd rfl h
    · have := hin _ c1
      exact vp_in_iff.mpr ⟨by omega, by omega⟩
  · rw [if_neg c0] at h
    by_cases c1 : w = 1
    · rw [if_pos c1] at h
      by_cases c2 : f_X7_in v.toInt64 1 9 = 0
      · rw [if_pos c2] at h; exact absurd rfl h
      · have := hin _ c2
        exact Or.inr ⟨c1, vp_in_iff.mpr ⟨by omega, by omega⟩⟩
    · rw [if_neg c1] at h; exact absurd rfl h
theorem gR_change {M : bM} {k : Nat} {w v : Int32} (h : gR (M k)) (hs : ¬ f_X7_isSetting w v = 0) : gR ((f_X7_change M k w v).2 k) := by
  obtain ⟨m, hm, hX⟩ := h
  obtain ⟨x, y, n10, n15, nx, ny⟩ := gR_paid (r' := M k) (by omega) hX
  obtain ⟨s8, s9⟩ := gX_set hX
  rcases isSet_in hs with ⟨rfl, hv⟩ | ⟨rfl, hv⟩
  · have e := (change_row (M := M) (k := k) (w := 0) (v := v) (by decide)).2
    rw [show f_X7_change M k 0 v = f_X7_change M k (nI 0) v from rfl, e]
    have hj : ∀ j, j ≠ 8 → up2 M k (8 + 0) v k j = M k j := fun j q => by rw [up2_at, if_neg (by omega)]
    exact ⟨m, hm, gX_core (Nat.le_refl _) hX (fun j q => hj j (by omega)) (by rw [up2_at, if_pos rfl]; exact hv) (by rw [hj 9 (by decide)]; exact s9) ⟨x, by rw [hj 10 (by decide)]; exact n10, nx⟩ ⟨y, by rw [hj 15 (by decide)]; exact n15, ny⟩⟩
  · have e := (change_row (M := M) (k := k) (w := 1) (v := v) (by decide)).2
    rw [show f_X7_change M k 1 v = f_X7_change M k (nI 1) v from rfl, e]
    have hj : ∀ j, j ≠ 9 → up2 M k (8 + 1) v k j = M k j := fun j q => by rw [up2_at, if_neg (by omega)]
    exact ⟨m, hm, gX_core (Nat.le_refl _) hX (fun j q => hj j (by omega)) (by rw [hj 8 (by decide)]; exact s8) (by rw [up2_at, if_pos rfl]; exact hv) ⟨x, by rw [hj 10 (by decide)]; exact n10, nx⟩ ⟨y, by rw [hj 15 (by decide)]; exact n15, ny⟩⟩
