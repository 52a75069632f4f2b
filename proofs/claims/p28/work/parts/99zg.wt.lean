/-! the row behind a possible step with dams that last for 40 turns -/
theorem step_at {V P j : Nat} {T : aT} (g : gI V T) (h1 : T.1 1 = 1) (hP : P < 2) (e2 : T.1 2 = nI P) (hj : j < 3) (hr : rsn T j = 0) : ∃ (c h q : Nat) (B : Bool) (S1 : aT), c < 64 ∧ h < 64 ∧ q ≤ 61 ∧ T.1 (14 + 5 * P) = nI (q + 1) ∧ T.1 (276 + 64 * P + q) = nI h ∧ nb h j = c ∧ aF 3 T (nI P) 1 0 = nI h ∧ toI (nI h) (nI j) = nI c ∧ (B = true ↔ ¬ T.1 (212 + c) = 0) ∧ (aF 4 T (nI (c % 8)) (nI (c / 8)) 2 = nI (2 - P) ↔ B = true) ∧ (f_X7_isRiver (mkR T) 2 (nI (1 - P)) (nI c) = 0 ↔ T.1 (212 + c) = 0) ∧ tF 7 (tF 10 T 0 40) (nI j) 0 = nxt S1 (stepR (upd T.1 8 40) P c q B) := by
  have hl := g.1
  obtain ⟨p, c, q, b, hh, hp, hc, hq, hb, e2', nq, nb1, hh64, ehh, hn, hd, e4, hmk, hri, _, _⟩ := step_geo (R := mkR T) (k := 2) g.2.1.1 h1 hj hr
  rw [mkR_2] at e2' nq nb1 ehh hd e4 hmk hri
  have ep : p = P := nI_inj (by omega) (by omega) (e2'.symm.trans e2)
  subst ep
  obtain ⟨_, s1⟩ := s1_row hl
  obtain ⟨S1, hS1⟩ : ∃ U, U = nxt T (upd T.1 8 40) := ⟨_, rfl⟩
  rw [← hS1] at s1
  have g1 : gI V S1 := by rw [← s1]; exact gI_10 g
  have f1 : S1.1 = upd T.1 8 40 := by rw [hS1]
  have ne : ∀ x, x ≠ 8 → S1.1 x = T.1 x := fun x hx => by rw [f1]; exact upd_ne hx
  have h11 : S1.1 1 = 1 := (ne 1 (by decide)).trans h1
  have r1 : remM S1 2 = S1.1 := rem_row
  have hr1 : f_X7_reason (remM S1) 2 (nI j) = 0 := (reason_8 (M := mkR T) (N := remM S1) (k := 2) hp e2 nq (by omega) ehh hh64 hj (r1.trans f1)).trans hr
  have k2 : remM S1 2 2 = nI p := by rw [r1, ne 2 (by decide)]; exact e2
  have kq : remM S1 2 (14 + 5 * p) = nI (q + 1) := by rw [r1, ne _ (by omega)]; exact nq
  have kh : remM S1 2 (276 + 64 * p + q) = nI hh := by rw [r1, ne _ (by omega)]; exact ehh
  have ht : f_X7_stepFrom (f_X7_head (remM S1) 2 (remM S1 2 2)) (nI j) = nI c := by rw [k2, head_row hp kq (by omega), kh, sf_nI hh64 hj, nbI_of hn hc]
  obtain ⟨_, z2⟩ := step_ref (R := remM S1) (k := 2) (p := p) (c := c) (a := q) (d := nI j) hp hc k2 kq hq (by rw [hr1]; decide) ht
  have hri' : f_X7_isRiver (remM S1) 2 (nI (1 - p)) (nI c) = 0 ↔ T.1 (212 + c) = 0 := by
    have e : f_X7_isRiver (remM S1) 2 (nI (1 - p)) (nI c) = f_X7_isRiver (mkR T) 2 (nI (1 - p)) (nI c) := by
      rw [u_f_X7_isRiver, u_f_X7_isRiver, idxK 212 (by omega), r1, ne _ (by omega), mkR_2]
    rw [e]; exact hri
  obtain ⟨_, d2⟩ := a_st (b := 0) (c := 0) g1.1 hj h11
  rw [z2, r1, f1] at d2
  obtain ⟨B, hB⟩ : ∃ B : Bool, B = decide (¬ f_X7_isRiver (remM S1) 2 (nI (1 - p)) (nI c) = 0) := ⟨_, rfl⟩
  rw [← hB] at d2
  have hBt : B = true ↔ ¬ T.1 (212 + c) = 0 := by rw [hB, decide_eq_true_iff]; exact not_congr hri'
  have hmet : aF 4 T (nI (c % 8)) (nI (c / 8)) 2 = nI (2 - p) ↔ B = true := by
    rw [a_ct hc, hBt]
    unfold ctR
    rw [if_pos hd]
    have bb := bit_3 ⟨p, hp⟩
    dsimp only at bb
    rcases hmk with z | z
    · rw [z]
      exact ⟨fun x => absurd (nI_inj (a := 0) (b := 2 - p) (by decide) (by omega) x) (by omega), fun x => absurd rfl x⟩
    · rw [z]
      exact ⟨fun _ => bb.2.2, fun _ => bb.2.1⟩
  rw [← s1] at d2
  exact ⟨c, hh, q, B, tF 10 T 0 40, hc, hh64, hq, nq, ehh, hn, (a_pl1 hp nq (by omega)).trans ehh, (toI_nI ⟨hh, hh64⟩ ⟨j, hj⟩).trans (nbI_of hn hc), hBt, hmet, hri, d2⟩
/-! a dam of 39 turns falls -/
theorem dam_falls {V P j : Nat} {T : aT} (g : gI V T) (h1 : T.1 1 = 1) (hP : P < 2) (e2 : T.1 2 = nI P) (hj : j < 3) (hr : rsn T j = 0) {d : Nat} (hd : d < 64) (h39 : T.1 (148 + d) = nI 39) : aF 2 (tF 7 (tF 10 T 0 40) (nI j) 0) 4 0 0 < aF 2 T 4 0 0 := by
  obtain ⟨c, h, q, B, S1, hc, hh, hq, _, _, _, _, _, _, _, _, e⟩ := step_at g h1 hP e2 hj hr
  rw [e, a_ab4, a_ab4]
  have r148 : ∀ i, i < 64 → stepR (upd T.1 8 40) P c q B (148 + i) = ageI (T.1 (148 + i)) 40 := fun i hi => by
    rw [stepR_148 hP hc hq hi, upd_ne (by omega), upd_eq]
  show nI (cnt (damB (stepR (upd T.1 8 40) P c q B)) 64) < nI (cnt (damB T.1) 64)
  generalize stepR (upd T.1 8 40) P c q B = R2 at *
  have l1 := cnt_le (damB R2) 64
  have l2 := cnt_le (damB T.1) 64
  refine (nI_ltI (by omega) (by omega)).mpr (cnt_lt (k := d) (fun i hi z => ?_) hd ?_ ?_)
  · have z : ¬ R2 (148 + i) = -1 := of_decide_eq_true z
    refine decide_eq_true (fun y => z ?_)
    rw [r148 i hi, y]
    exact age_none
  · intro z
    have z : ¬ R2 (148 + d) = -1 := of_decide_eq_true z
    refine z ?_
    rw [r148 d hd, h39, age40 (Nat.le_refl 39), if_pos rfl]
  · refine decide_eq_true (fun y => ?_)
    exact nI_ne_m1 (by decide) (h39.symm.trans y)
/-! with no dam of 39 turns: what the step is worth -/
theorem bare_same {V P c q : Nat} {B : Bool} {r : Nat → Int32} (hP : P < 2) (hc : c < 64) (hq : q ≤ 61) (g2 : gp2 r) (hno : ∀ d, d < 64 → ¬ r (148 + d) = nI 39) {x : Nat} (hx : x < 64) (hne : x ≠ c) : bareR r x ↔ bareR (stepR (upd r 8 40) P c q B) x := by
  have e1 : stepR (upd r 8 40) P c q B (148 + x) = ageI (r (148 + x)) 40 := by
    rw [stepR_148 hP hc hq hx, upd_ne (by omega), upd_eq]
  have e2 : stepR (upd r 8 40) P c q B (212 + x) = r (212 + x) := by
    rw [stepR_ne hP hc hq (by omega), upd_ne (by omega)]
  show (r (148 + x) = -1 ∧ r (212 + x) = 0) ↔ (stepR (upd r 8 40) P c q B (148 + x) = -1 ∧ stepR (upd r 8 40) P c q B (212 + x) = 0)
  rw [e1, e2]
  rcases g2 x hx with z | ⟨v, v1, v2, v3⟩
  · rw [z, age_none]
  · have hv : v ≠ 39 := fun y => hno x hx (by rw [v2, y])
    rw [v2, age40 v1, if_neg hv]
    exact ⟨fun y => absurd y.1 (nI_ne_m1 (by omega)), fun y => absurd y.1 (nI_ne_m1 (by omega))⟩
theorem ans9_m1 {o : Option Nat} (h : ∀ v, o = some v → v < 2 ^ 31) : ¬ ans9 o = -1 := by
  cases o with
  | none => exact (show ¬ (99999 : Int32) = -1 by decide)
  | some v => exact nI_ne_m1 (h v rfl)
theorem minL_lt {D : Nat → Option Nat} {o : Option Nat} {W : Nat} (h : minL D o) (hW : ∀ c v, D c = some v → v ≤ W) (v : Nat) (e : o = some v) : v ≤ W := by
  rcases h with ⟨q, _⟩ | ⟨v', c, q, _, _, z, _⟩
  · rw [q] at e; exact absurd e (by simp)
  · rw [q] at e
    rw [← Option.some.inj e]
    exact hW c v' z
theorem wv_1 {a b k : Int32} (h : ¬ a = -1) : wv a (b + k) b = k + a := by
  unfold wv
  rw [if_neg h, Int32.add_comm b k, ← Int32.add_assoc, Int32.add_sub_cancel, Int32.add_comm]
theorem wv_2 {b k : Int32} : wv 0 (b + k) b = k := by rw [wv_1 (show ¬ (0 : Int32) = -1 by decide), Int32.add_zero]
theorem wv_0 {a b : Int32} : wv (-1) a b = 99999 := if_pos rfl
theorem wt_of {V P j c h : Nat} {T : aT} {M : bM} (g : gI V T) (h1 : T.1 1 = 1) (hP : P < 2) (e2 : T.1 2 = nI P) (hj : j < 3) (hr : rsn T j = 0) (hc : c < 64) (hh : h < 64) (eh : aF 3 T (nI P) 1 0 = nI h) (ht : toI (nI h) (nI j) = nI c) (hno : ∀ d, d < 64 → ¬ T.1 (148 + d) = nI 39) (hM : M 2 = T.1) : wtS T (tF 7 (tF 10 T 0 40) (nI j) 0) P c (aF 3 T (nI P) 2 0) = (f_X7_worth M 2 (nI j)).1 := by
  obtain ⟨c', h', q, B, S1, hc', hh', hq, nq, ehh, hn, eh', ht', hB, hmet, hri, e⟩ := step_at g h1 hP e2 hj hr
  have q1 : h' = h := nI_inj (by omega) (by omega) (eh'.symm.trans eh)
  subst q1
  have q2 : c' = c := nI_inj (by omega) (by omega) (ht'.symm.trans ht)
  subst q2
  have hco := gR_cost g.2.1.1
  obtain ⟨D, o, w, ml, ew⟩ := worth_val (M := M) (k := 2) (P := P) (a := q) (hh := h') (j := j) (c := c') (by decide) (by rw [hM]; exact hco) hP (by rw [hM]; exact e2) (by rw [hM]; exact nq) (by omega) (by rw [hM]; exact ehh) hh' hj hn hc'
  have hri' : f_X7_isRiver M 2 (nI (1 - P)) (nI c') = 0 ↔ T.1 (212 + c') = 0 := by
    rw [rvR_eq, hM, ← mkR_2 T, ← rvR_eq (M := mkR T)]
    exact hri
  rw [hM] at w ew
  rw [ew, e]
  obtain ⟨t1, t2, t3, t4, t5, t6⟩ := stepR_at (r := upd T.1 8 40) (p := P) (c := c') (q := q) (b := B) hP hc' ((upd_ne (by decide)).trans h1) hq
  rw [upd_ne (x := 10 + 5 * P) (by omega), upd_ne (x := 9) (by omega), upd_ne (x := 20 + 64 * P + c') (by omega)] at t4
  have hbr : ∀ x, x < 64 → x ≠ c' → (bareR T.1 x ↔ bareR (stepR (upd T.1 8 40) P c' q B) x) := fun x hx hne => bare_same (V := V) hP hc' hq g.2.1.2.2.2.1 hno hx hne
  have hwt : ∀ x, wtR (stepR (upd T.1 8 40) P c' q B) P x = wtR T.1 P x := fun x => by
    unfold wtR
    by_cases z : x < 64
    · rw [if_pos z, if_pos z, stepR_ne hP hc' hq (by omega), upd_ne (by omega)]
    · rw [if_neg z, if_neg z]
  have hcoR : costR (stepR (upd T.1 8 40) P c' q B) := fun i hi => by
    rw [stepR_ne hP hc' hq (by omega), upd_ne (by omega)]
    exact hco i hi
  generalize stepR (upd T.1 8 40) P c' q B = R2 at *
  unfold wtS
  rw [a_pl2 hP, a_pl2 hP]
  show wv (if aF 4 T (nI (c' % 8)) (nI (c' / 8)) 2 = nI (2 - P) then 0 else aF 14 (nxt S1 R2) (nI P) 0 0) (R2 (10 + 5 * P)) (T.1 (10 + 5 * P)) = _
  rw [t4]
  by_cases y : B = true
  · rw [if_pos (hmet.mpr y), if_pos y, if_neg (fun z => (hB.mp y) (hri'.mp z))]
    exact wv_2
  · have y0 : T.1 (212 + c') = 0 := Classical.byContradiction (fun z => y (hB.mpr z))
    rw [if_neg (fun z => y (hmet.mp z)), if_neg y, if_pos (hri'.mpr y0)]
    obtain ⟨D', o', w', ml', e'⟩ := ch_val (S := nxt S1 R2) (P := P) (a := q + 1) (hh := c') hcoR hP t1 (by omega) t2 hc'
    have w' : wayD (edg (bareR R2)) (wtR R2 P) c' D' := w'
    rw [show wtR R2 P = wtR T.1 P from funext hwt] at w'
    have w2 : wayD (edg (bareR R2)) (wtR T.1 P) c' D := wayD_into (fun b x hx => ⟨fun z => ⟨z.1, (hbr x z.1 hx).mp z.2.1, z.2.2⟩, fun z => ⟨z.1, (hbr x z.1 hx).mpr z.2.1, z.2.2⟩⟩) w
    have eo : o' = o := minL_eq (fun x _ => wayD_eq w' w2 x) ml' ml
    rw [e', eo]
    by_cases z : ans9 o = 99999
    · rw [if_pos z, if_pos z]
      exact wv_0
    · rw [if_neg z, if_neg z]
      refine wv_1 (ans9_m1 (fun v hv => ?_))
      have := minL_lt ml (fun x u hu => (wayD_max w (wtR_9 hco hP) hc' (fun _ _ hz => hz.1) hu).2) v hv
      omega
