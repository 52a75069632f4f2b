/-! WHAT THE CALLS ANSWER, by the row -/
theorem cod_00 {a b : Nat} {v : Int32} {T : bM} (h : T 0 0 = 0) : cod a b (v, T) = v := if_pos h
theorem cod_r {a b : Nat} {v x : Int32} {R : bM} (hx : x ≠ 0) : cod a b (v, up2 R 0 0 x) = exI (if x = 1 then a else b) := by
  unfold cod
  rw [show (v, up2 R 0 0 x).2 0 0 = x from ref_00 (R := R), if_neg hx]
theorem m2 {S : aT} {v : Int32} : up2 (mkR S) 0 0 v 2 = S.1 := up2_row (by decide)
theorem a_ab0 {S : aT} {b c : Int32} : aF 2 S 0 b c = S.1 0 := by
  show cod 1 9 (f_X7_about (mkR S) 0) = S.1 0
  rw [u_f_X7_about]
  dsimp only
  rw [ref_e, ref_e, if_neg (show ¬ f_X7_in (0 : Int32).toInt64 0 8 = 0 by decide +kernel), if_neg (show ¬ (0 : Int32) = 2 by decide), if_neg (show ¬ (0 : Int32) = 4 by decide), if_neg (show ¬ (0 : Int32) = 5 by decide), if_neg (show ¬ (0 : Int32) = 6 by decide), if_neg (show ¬ (0 : Int32) = 7 by decide), if_neg (show ¬ (0 : Int32) = 8 by decide)]
  exact (cod_00 ref_00).trans (by rw [m2]; rfl)
theorem a_ab1 {S : aT} {b c : Int32} : aF 2 S 1 b c = S.1 1 := by
  show cod 1 9 (f_X7_about (mkR S) 1) = S.1 1
  rw [u_f_X7_about]
  dsimp only
  rw [ref_e, ref_e, if_neg (show ¬ f_X7_in (1 : Int32).toInt64 0 8 = 0 by decide +kernel), if_neg (show ¬ (1 : Int32) = 2 by decide), if_neg (show ¬ (1 : Int32) = 4 by decide), if_neg (show ¬ (1 : Int32) = 5 by decide), if_neg (show ¬ (1 : Int32) = 6 by decide), if_neg (show ¬ (1 : Int32) = 7 by decide), if_neg (show ¬ (1 : Int32) = 8 by decide)]
  exact (cod_00 ref_00).trans (by rw [m2]; rfl)
theorem a_ab3 {S : aT} {b c : Int32} : aF 2 S 3 b c = S.1 3 := by
  show cod 1 9 (f_X7_about (mkR S) 3) = S.1 3
  rw [u_f_X7_about]
  dsimp only
  rw [ref_e, ref_e, if_neg (show ¬ f_X7_in (3 : Int32).toInt64 0 8 = 0 by decide +kernel), if_neg (show ¬ (3 : Int32) = 2 by decide), if_neg (show ¬ (3 : Int32) = 4 by decide), if_neg (show ¬ (3 : Int32) = 5 by decide), if_neg (show ¬ (3 : Int32) = 6 by decide), if_neg (show ¬ (3 : Int32) = 7 by decide), if_neg (show ¬ (3 : Int32) = 8 by decide)]
  exact (cod_00 ref_00).trans (by rw [m2]; rfl)
theorem a_ab5 {S : aT} {b c : Int32} : aF 2 S 5 b c = S.1 4 := by
  show cod 1 9 (f_X7_about (mkR S) 5) = S.1 4
  rw [u_f_X7_about]
  dsimp only
  rw [ref_e, ref_e, if_neg (show ¬ f_X7_in (5 : Int32).toInt64 0 8 = 0 by decide +kernel), if_neg (show ¬ (5 : Int32) = 2 by decide), if_neg (show ¬ (5 : Int32) = 4 by decide), if_pos rfl]
  exact (cod_00 ref_00).trans (by rw [m2]; rfl)
theorem a_ab6 {S : aT} {b c : Int32} : aF 2 S 6 b c = S.1 5 := by
  show cod 1 9 (f_X7_about (mkR S) 6) = S.1 5
  rw [u_f_X7_about]
  dsimp only
  rw [ref_e, ref_e, if_neg (show ¬ f_X7_in (6 : Int32).toInt64 0 8 = 0 by decide +kernel), if_neg (show ¬ (6 : Int32) = 2 by decide), if_neg (show ¬ (6 : Int32) = 4 by decide), if_neg (show ¬ (6 : Int32) = 5 by decide), if_pos rfl]
  exact (cod_00 ref_00).trans (by rw [m2]; rfl)
theorem a_ab7 {S : aT} {b c : Int32} : aF 2 S 7 b c = S.1 6 := by
  show cod 1 9 (f_X7_about (mkR S) 7) = S.1 6
  rw [u_f_X7_about]
  dsimp only
  rw [ref_e, ref_e, if_neg (show ¬ f_X7_in (7 : Int32).toInt64 0 8 = 0 by decide +kernel), if_neg (show ¬ (7 : Int32) = 2 by decide), if_neg (show ¬ (7 : Int32) = 4 by decide), if_neg (show ¬ (7 : Int32) = 5 by decide), if_neg (show ¬ (7 : Int32) = 6 by decide), if_pos rfl]
  exact (cod_00 ref_00).trans (by rw [m2]; rfl)
theorem a_ab8 {S : aT} {b c : Int32} : aF 2 S 8 b c = S.1 7 := by
  show cod 1 9 (f_X7_about (mkR S) 8) = S.1 7
  rw [u_f_X7_about]
  dsimp only
  rw [ref_e, ref_e, if_neg (show ¬ f_X7_in (8 : Int32).toInt64 0 8 = 0 by decide +kernel), if_neg (show ¬ (8 : Int32) = 2 by decide), if_neg (show ¬ (8 : Int32) = 4 by decide), if_neg (show ¬ (8 : Int32) = 5 by decide), if_neg (show ¬ (8 : Int32) = 6 by decide), if_neg (show ¬ (8 : Int32) = 7 by decide), if_pos rfl]
  exact (cod_00 ref_00).trans (by rw [m2]; rfl)
theorem a_ab2 {S : aT} {b c : Int32} : aF 2 S 2 b c = if S.1 1 = 1 then S.1 2 else -1 := by
  show cod 1 9 (f_X7_about (mkR S) 2) = _
  rw [u_f_X7_about]
  dsimp only
  rw [ref_e, ref_e, if_neg (show ¬ f_X7_in (2 : Int32).toInt64 0 8 = 0 by decide +kernel), if_pos rfl]
  by_cases h : S.1 1 = 1
  · rw [if_neg (fun q => uw_iff.mp q (by rw [m2]; exact h)), if_pos h]
    exact (cod_00 ref_00).trans (by rw [m2])
  · rw [if_pos (uw_iff.mpr (by rw [m2]; exact h)), if_neg h]
    exact cod_00 ref_00
abbrev damB (r : Nat → Int32) : Nat → Bool := fun c => decide (¬ r (148 + c) = -1)
theorem dam_loop {M : bM} : ∀ (n i : Nat), i + n = 64 → lp_X7_about_30 M n i (nI (cnt (damB (M 2)) i)) = nI (cnt (damB (M 2)) 64)
  | 0, i, h => by
    rw [u0_lp_X7_about_30, show i = 64 by omega]
  | n + 1, i, h => by
    rw [u1_lp_X7_about_30]
    dsimp only
    have ih := dam_loop (M := M) n (i + 1) (by omega)
    by_cases c : M 2 (148 + i) = -1
    · rw [if_pos ((isDam_iff (by omega)).mpr c)]
      have e : cnt (damB (M 2)) (i + 1) = cnt (damB (M 2)) i := by
        show cnt (damB (M 2)) i + (if damB (M 2) i = true then 1 else 0) = _
        rw [if_neg (by simp [damB, c])]
        rfl
      rw [e] at ih
      rw [show nI (cnt (damB (M 2)) i) + 0 = nI (cnt (damB (M 2)) i) from Int32.add_zero _]
      exact ih
    · rw [if_neg (fun q => c ((isDam_iff (by omega)).mp q))]
      have e : cnt (damB (M 2)) (i + 1) = cnt (damB (M 2)) i + 1 := by
        show cnt (damB (M 2)) i + (if damB (M 2) i = true then 1 else 0) = _
        rw [if_pos (by simp [damB, c])]
      rw [e] at ih
      rw [show nI (cnt (damB (M 2)) i) + 1 = nI (cnt (damB (M 2)) i + 1) from nI_1 _]
      exact ih
theorem a_ab4 {S : aT} {b c : Int32} : aF 2 S 4 b c = nI (cnt (damB S.1) 64) := by
  show cod 1 9 (f_X7_about (mkR S) 4) = _
  rw [u_f_X7_about]
  dsimp only
  rw [ref_e, ref_e, if_neg (show ¬ f_X7_in (4 : Int32).toInt64 0 8 = 0 by decide +kernel), if_neg (show ¬ (4 : Int32) = 2 by decide), if_pos rfl]
  refine (cod_00 ref_00).trans ?_
  have h := dam_loop (M := up2 (mkR S) 0 0 0) 64 0 rfl
  rw [m2] at h
  exact h
theorem a_abX {S : aT} {x b c : Int32} (h : ¬ vp_in x 9) : aF 2 S x b c = -9999002 := by
  show cod 1 9 (f_X7_about (mkR S) x) = _
  rw [u_f_X7_about]
  dsimp only
  rw [ref_e, ref_e, if_pos (Classical.byContradiction (fun q => h ((in_small (n := 8) (by decide) (by decide)).mp q)))]
  exact cod_r (by decide)
/-! playerOf -/
theorem pl_in {p : Nat} (hp : p < 2) : ¬ f_X7_in (nI p).toInt64 0 1 = 0 := (in_small (n := 1) (by decide) (by decide)).mpr (vp_in_nI hp (by decide))
theorem a_plX {S : aT} {x b c : Int32} (h : ¬ vp_in x 2) : aF 3 S x b c = -9999001 := by
  show cod 3 1 (f_X7_playerOf (mkR S) x b) = _
  rw [u_f_X7_playerOf]
  dsimp only
  rw [ref_e, ref_e, ref_e, if_pos (Classical.byContradiction (fun q => h ((in_small (n := 1) (by decide) (by decide)).mp q)))]
  exact cod_r (by decide)
theorem a_plY {S : aT} {p : Nat} {x c : Int32} (hp : p < 2) (h : ¬ vp_in x 6) : aF 3 S (nI p) x c = -9999002 := by
  show cod 3 1 (f_X7_playerOf (mkR S) (nI p) x) = _
  rw [u_f_X7_playerOf]
  dsimp only
  rw [ref_e, ref_e, ref_e, if_neg (pl_in hp), if_pos (Classical.byContradiction (fun q => h ((in_small (n := 5) (by decide) (by decide)).mp q)))]
  exact cod_r (by decide)
theorem a_pl0 {S : aT} {p : Nat} {c : Int32} (hp : p < 2) : aF 3 S (nI p) 0 c = S.1 (14 + 5 * p) := by
  show cod 3 1 (f_X7_playerOf (mkR S) (nI p) 0) = _
  rw [u_f_X7_playerOf]
  dsimp only
  rw [ref_e, ref_e, ref_e, if_neg (pl_in hp), if_neg (show ¬ f_X7_in (0 : Int32).toInt64 0 5 = 0 by decide +kernel), if_pos rfl]
  refine (cod_00 ref_00).trans ?_
  have e : f_X7_of (up2 (mkR S) 0 0 0) 2 (nI p) 4 = up2 (mkR S) 0 0 0 2 (10 + 5 * p + 4) := of_at (w := 4) hp (by decide)
  rw [m2, show 10 + 5 * p + 4 = 14 + 5 * p by omega] at e
  exact e
theorem a_pl1 {S : aT} {p : Nat} {c : Int32} (hp : p < 2) {a : Nat} (ha : S.1 (14 + 5 * p) = nI (a + 1)) (ha64 : a < 64) : aF 3 S (nI p) 1 c = S.1 (276 + 64 * p + a) := by
  show cod 3 1 (f_X7_playerOf (mkR S) (nI p) 1) = _
  rw [u_f_X7_playerOf]
  dsimp only
  rw [ref_e, ref_e, ref_e, if_neg (pl_in hp), if_neg (show ¬ f_X7_in (1 : Int32).toInt64 0 5 = 0 by decide +kernel), if_neg (show ¬ (1 : Int32) = 0 by decide), if_pos rfl]
  refine (cod_00 ref_00).trans ?_
  have e := head_at (M := up2 (mkR S) 0 0 0) (k := 2) hp (by rw [m2]; exact ha) ha64
  rw [m2] at e
  exact e
theorem a_pl2 {S : aT} {p : Nat} {c : Int32} (hp : p < 2) : aF 3 S (nI p) 2 c = S.1 (10 + 5 * p) := by
  show cod 3 1 (f_X7_playerOf (mkR S) (nI p) 2) = _
  rw [u_f_X7_playerOf]
  dsimp only
  rw [ref_e, ref_e, ref_e, if_neg (pl_in hp), if_neg (show ¬ f_X7_in (2 : Int32).toInt64 0 5 = 0 by decide +kernel), if_neg (show ¬ (2 : Int32) = 0 by decide), if_neg (show ¬ (2 : Int32) = 1 by decide), if_neg (show ¬ (2 : Int32) = 5 by decide)]
  refine (cod_00 ref_00).trans ?_
  have e : f_X7_of (up2 (mkR S) 0 0 0) 2 (nI p) (2 - 2) = up2 (mkR S) 0 0 0 2 (10 + 5 * p + 0) := of_at (w := 0) hp (by decide)
  rw [m2, show 10 + 5 * p + 0 = 10 + 5 * p by omega] at e
  exact e
theorem a_pl3 {S : aT} {p : Nat} {c : Int32} (hp : p < 2) : aF 3 S (nI p) 3 c = S.1 (11 + 5 * p) := by
  show cod 3 1 (f_X7_playerOf (mkR S) (nI p) 3) = _
  rw [u_f_X7_playerOf]
  dsimp only
  rw [ref_e, ref_e, ref_e, if_neg (pl_in hp), if_neg (show ¬ f_X7_in (3 : Int32).toInt64 0 5 = 0 by decide +kernel), if_neg (show ¬ (3 : Int32) = 0 by decide), if_neg (show ¬ (3 : Int32) = 1 by decide), if_neg (show ¬ (3 : Int32) = 5 by decide)]
  refine (cod_00 ref_00).trans ?_
  have e : f_X7_of (up2 (mkR S) 0 0 0) 2 (nI p) (3 - 2) = up2 (mkR S) 0 0 0 2 (10 + 5 * p + 1) := of_at (w := 1) hp (by decide)
  rw [m2, show 10 + 5 * p + 1 = 11 + 5 * p by omega] at e
  exact e
theorem a_pl5 {S : aT} {p : Nat} {c : Int32} (hp : p < 2) : aF 3 S (nI p) 5 c = S.1 (13 + 5 * p) := by
  show cod 3 1 (f_X7_playerOf (mkR S) (nI p) 5) = _
  rw [u_f_X7_playerOf]
  dsimp only
  rw [ref_e, ref_e, ref_e, if_neg (pl_in hp), if_neg (show ¬ f_X7_in (5 : Int32).toInt64 0 5 = 0 by decide +kernel), if_neg (show ¬ (5 : Int32) = 0 by decide), if_neg (show ¬ (5 : Int32) = 1 by decide), if_pos rfl]
  refine (cod_00 ref_00).trans ?_
  have e : f_X7_of (up2 (mkR S) 0 0 0) 2 (nI p) 3 = up2 (mkR S) 0 0 0 2 (10 + 5 * p + 3) := of_at (w := 3) hp (by decide)
  rw [m2, show 10 + 5 * p + 3 = 13 + 5 * p by omega] at e
  exact e
/-! cellOf -/
theorem xy_in {x y : Nat} (hx : x < 8) (hy : y < 8) : ¬ f_X7_isCell (nI x) (nI y) = 0 := by
  have h : ∀ a b : Fin 8, ¬ f_X7_isCell (nI a.val) (nI b.val) = 0 := by decide +kernel
  exact h ⟨x, hx⟩ ⟨y, hy⟩
theorem xy_c {x y : Nat} (hx : x < 8) (hy : y < 8) : (8 : Int32) * nI y + nI x = nI (8 * y + x) := by rw [show (8 : Int32) = nI 8 from rfl, pk_mul, nI_add]
theorem xy_no {x y : Int32} (h : ¬ vp_in x 8 ∨ ¬ vp_in y 8) : f_X7_isCell x y = 0 := by
  rw [u_f_X7_isCell]
  dsimp only
  by_cases c : vp_in x 8
  · rw [if_neg ((in_small (n := 7) (by decide) (by decide)).mpr c)]
    rcases h with h | h
    · exact absurd c h
    · rw [if_pos (Classical.byContradiction (fun q => h ((in_small (n := 7) (by decide) (by decide)).mp q)))]
  · rw [if_pos (Classical.byContradiction (fun q => c ((in_small (n := 7) (by decide) (by decide)).mp q)))]
theorem a_ceX {S : aT} {x y c : Int32} (h : ¬ vp_in x 8 ∨ ¬ vp_in y 8) : aF 4 S x y c = -9999001 := by
  show cod 3 1 (f_X7_cellOf (mkR S) x y c) = _
  rw [u_f_X7_cellOf]
  dsimp only
  rw [ref_e, ref_e, ref_e, if_pos (xy_no h)]
  exact cod_r (by decide)
theorem a_ceY {S : aT} {x y : Nat} {w : Int32} (hx : x < 8) (hy : y < 8) (h : ¬ vp_in w 4) : aF 4 S (nI x) (nI y) w = -9999002 := by
  show cod 3 1 (f_X7_cellOf (mkR S) (nI x) (nI y) w) = _
  rw [u_f_X7_cellOf]
  dsimp only
  rw [ref_e, ref_e, ref_e, if_neg (xy_in hx hy), if_pos (Classical.byContradiction (fun q => h ((in_small (n := 3) (by decide) (by decide)).mp q)))]
  exact cod_r (by decide)
theorem a_ce01 {S : aT} {x y p : Nat} (hx : x < 8) (hy : y < 8) (hp : p < 2) : aF 4 S (nI x) (nI y) (nI p) = S.1 (20 + 64 * p + (8 * y + x)) := by
  show cod 3 1 (f_X7_cellOf (mkR S) (nI x) (nI y) (nI p)) = _
  rw [u_f_X7_cellOf]
  dsimp only
  rw [ref_e, ref_e, ref_e, if_neg (xy_in hx hy), if_neg (show ¬ f_X7_in (nI p).toInt64 0 3 = 0 from (in_small (n := 3) (by decide) (by decide)).mpr (vp_in_nI (by omega) (by decide))), if_neg (show ¬ (2 : Int32) ≤ nI p from nI_ge (a := p) (b := 2) hp (by decide)), xy_c hx hy]
  refine (cod_00 ref_00).trans ?_
  rw [cost_at hp (by omega), m2]
theorem a_ce3 {S : aT} {x y : Nat} (hx : x < 8) (hy : y < 8) : aF 4 S (nI x) (nI y) 3 = S.1 (148 + (8 * y + x)) := by
  show cod 3 1 (f_X7_cellOf (mkR S) (nI x) (nI y) 3) = _
  rw [u_f_X7_cellOf]
  dsimp only
  rw [ref_e, ref_e, ref_e, if_neg (xy_in hx hy), if_neg (show ¬ f_X7_in (3 : Int32).toInt64 0 3 = 0 by decide +kernel), if_pos (show (2 : Int32) ≤ 3 by decide), if_pos rfl, xy_c hx hy]
  refine (cod_00 ref_00).trans ?_
  rw [m2, show (148 : Int32) = nI 148 from rfl, nI_add, nI_clamp (by omega)]
theorem a_ce2 {S : aT} {x y : Nat} (hx : x < 8) (hy : y < 8) : aF 4 S (nI x) (nI y) 2 = if S.1 (148 + (8 * y + x)) = -1 then S.1 (212 + (8 * y + x)) else 4 := by
  show cod 3 1 (f_X7_cellOf (mkR S) (nI x) (nI y) 2) = _
  rw [u_f_X7_cellOf]
  dsimp only
  rw [ref_e, ref_e, ref_e, if_neg (xy_in hx hy), if_neg (show ¬ f_X7_in (2 : Int32).toInt64 0 3 = 0 by decide +kernel), if_pos (show (2 : Int32) ≤ 2 by decide), if_neg (show ¬ (2 : Int32) = 3 by decide), xy_c hx hy]
  have hc : 8 * y + x < 64 := by omega
  by_cases h : S.1 (148 + (8 * y + x)) = -1
  · rw [if_pos h, if_pos ((isDam_iff hc).mpr (by rw [m2]; exact h))]
    refine (cod_00 ref_00).trans ?_
    rw [m2, show (212 : Int32) = nI 212 from rfl, nI_add, nI_clamp (by omega)]
  · rw [if_neg h, if_neg (fun q => h (by have := (isDam_iff hc).mp q; rw [m2] at this; exact this))]
    exact cod_00 ref_00
/-! course, setting -/
theorem pl_and {p : Nat} (hp : p < 2) : (nI p &&& 1 : Int32) = nI p := by
  have h : ∀ a : Fin 2, (nI a.val &&& 1 : Int32) = nI a.val := by decide
  exact h ⟨p, hp⟩
theorem a_coX {S : aT} {x k c : Int32} (h : ¬ vp_in x 2) : aF 5 S x k c = -9999001 := by
  show cod 3 9 (f_X7_course (mkR S) x k) = _
  rw [u_f_X7_course]
  dsimp only
  rw [ref_e, ref_e, if_pos (Classical.byContradiction (fun q => h ((in_small (n := 1) (by decide) (by decide)).mp q)))]
  exact cod_r (by decide)
theorem co_in {S : aT} {p a : Nat} {x : Int32} (hp : p < 2) (ha : S.1 (14 + 5 * p) = nI (a + 1)) (ha64 : a < 64) : ¬ f_X7_in x.toInt64 0 ((f_X7_of (mkR S) 2 (nI p &&& 1) 4 - 1).toInt64) = 0 ↔ vp_in x (a + 1) := by
  have e : f_X7_of (mkR S) 2 (nI p) 4 = mkR S 2 (10 + 5 * p + 4) := of_at (w := 4) hp (by decide)
  rw [pl_and hp, e, mkR_2, show 10 + 5 * p + 4 = 14 + 5 * p by omega, ha, show (1 : Int32) = nI 1 from rfl, pk_sub (by omega), show a + 1 - 1 = a by omega]
  refine in_small (n := a) ?_ (by omega)
  rw [Int32.toInt_toInt64]
  exact nI_toInt (by omega)
theorem a_coY {S : aT} {p a : Nat} {x c : Int32} (hp : p < 2) (ha : S.1 (14 + 5 * p) = nI (a + 1)) (ha64 : a < 64) (h : ¬ vp_in x (a + 1)) : aF 5 S (nI p) x c = -9999001 := by
  show cod 3 9 (f_X7_course (mkR S) (nI p) x) = _
  rw [u_f_X7_course]
  dsimp only
  rw [ref_e, ref_e, if_neg (pl_in hp), if_pos (Classical.byContradiction (fun q => h ((co_in hp ha ha64).mp q)))]
  exact cod_r (by decide)
theorem a_co {S : aT} {p a k : Nat} {c : Int32} (hp : p < 2) (ha : S.1 (14 + 5 * p) = nI (a + 1)) (ha64 : a < 64) (hk : k ≤ a) : aF 5 S (nI p) (nI k) c = S.1 (276 + 64 * p + k) := by
  show cod 3 9 (f_X7_course (mkR S) (nI p) (nI k)) = _
  rw [u_f_X7_course]
  dsimp only
  rw [ref_e, ref_e, if_neg (pl_in hp), if_neg ((co_in hp ha ha64).mpr (vp_in_nI (by omega) (by omega)))]
  refine (cod_00 ref_00).trans ?_
  rw [m2, idx276 hp (by omega)]
theorem a_se {S : aT} {p : Nat} {b c : Int32} (hp : p < 2) : aF 6 S (nI p) b c = S.1 (8 + p) := by
  show cod 1 9 (f_X7_setting (mkR S) (nI p)) = _
  rw [u_f_X7_setting]
  dsimp only
  rw [ref_e, ref_e, if_neg (pl_in hp)]
  refine (cod_00 ref_00).trans ?_
  rw [m2, show (8 : Int32) = nI 8 from rfl, nI_add, nI_clamp (by omega)]
theorem a_seX {S : aT} {x b c : Int32} (h : ¬ vp_in x 2) : aF 6 S x b c = -9999002 := by
  show cod 1 9 (f_X7_setting (mkR S) x) = _
  rw [u_f_X7_setting]
  dsimp only
  rw [ref_e, ref_e, if_pos (Classical.byContradiction (fun q => h ((in_small (n := 1) (by decide) (by decide)).mp q)))]
  exact cod_r (by decide)
/-! why, whyDam -/
abbrev rsn (S : aT) (j : Nat) : Int32 := f_X7_reason (mkR S) 2 (nI j)
theorem di_in {j : Nat} (hj : j < 3) : ¬ f_X7_in (nI j).toInt64 0 2 = 0 := (in_small (n := 2) (by decide) (by decide)).mpr (vp_in_nI hj (by decide))
theorem a_why {S : aT} {j : Nat} {b c : Int32} (hj : j < 3) : aF 12 S (nI j) b c = if S.1 1 = 1 then rsn S j else -1 := by
  show cod 1 9 (f_X7_why (mkR S) (nI j)) = _
  rw [u_f_X7_why]
  dsimp only
  rw [ref_e, ref_e, if_neg (di_in hj)]
  by_cases h : S.1 1 = 1
  · rw [if_neg (fun q => uw_iff.mp q (by rw [m2]; exact h)), if_pos h]
    exact (cod_00 ref_00).trans (reason_c (up2_row (by decide)))
  · rw [if_pos (uw_iff.mpr (by rw [m2]; exact h)), if_neg h]
    exact cod_00 ref_00
theorem a_whyX {S : aT} {x b c : Int32} (h : ¬ vp_in x 3) : aF 12 S x b c = -9999002 := by
  show cod 1 9 (f_X7_why (mkR S) x) = _
  rw [u_f_X7_why]
  dsimp only
  rw [ref_e, ref_e, if_pos (Classical.byContradiction (fun q => h ((in_small (n := 2) (by decide) (by decide)).mp q)))]
  exact cod_r (by decide)
abbrev dsn (S : aT) (c : Nat) : Int32 := (f_X7_damReason (up2 (mkR S) 0 0 0) 2 (nI c)).1
theorem a_wdX {S : aT} {x y c : Int32} (h : ¬ vp_in x 8 ∨ ¬ vp_in y 8) : aF 13 S x y c = -9999001 := by
  show cod 3 9 (f_X7_whyDam (mkR S) x y) = _
  rw [u_f_X7_whyDam]
  dsimp only
  rw [ref_e, ref_e, if_pos (xy_no h)]
  exact cod_r (by decide)
theorem a_wd {S : aT} {x y : Nat} {c : Int32} (hx : x < 8) (hy : y < 8) : aF 13 S (nI x) (nI y) c = if S.1 1 = 1 then dsn S (8 * y + x) else -1 := by
  show cod 3 9 (f_X7_whyDam (mkR S) (nI x) (nI y)) = _
  rw [u_f_X7_whyDam]
  dsimp only
  rw [ref_e, ref_e, if_neg (xy_in hx hy), xy_c hx hy]
  by_cases h : S.1 1 = 1
  · rw [if_neg (fun q => uw_iff.mp q (by rw [m2]; exact h)), if_pos h]
    refine cod_00 ?_
    have e := (fr_X7_damReason (up2 (mkR S) 0 0 0) 2 (nI (8 * y + x)) 0 (by decide) (by decide))
    rw [e]
    exact ref_00
  · rw [if_pos (uw_iff.mpr (by rw [m2]; exact h)), if_neg h]
    exact cod_00 ref_00
theorem a_chX {S : aT} {x b c : Int32} (h : ¬ vp_in x 2) : aF 14 S x b c = -9999001 := by
  show cod 3 1 (f_X7_cheapest (mkR S) x b) = _
  rw [u_f_X7_cheapest]
  dsimp only
  rw [ref_e, ref_e, ref_e, if_pos (Classical.byContradiction (fun q => h ((in_small (n := 1) (by decide) (by decide)).mp q)))]
  exact cod_r (by decide)
theorem a_chY {S : aT} {p : Nat} {x c : Int32} (hp : p < 2) (h : ¬ vp_in x 2) : aF 14 S (nI p) x c = -9999002 := by
  show cod 3 1 (f_X7_cheapest (mkR S) (nI p) x) = _
  rw [u_f_X7_cheapest]
  dsimp only
  rw [ref_e, ref_e, ref_e, if_neg (pl_in hp), if_pos (Classical.byContradiction (fun q => h ((in_small (n := 1) (by decide) (by decide)).mp q)))]
  exact cod_r (by decide)
theorem a_meX {S : aT} {x b c : Int32} (h : ¬ vp_in x 2) : aF 15 S x b c = -9999001 := by
  show cod 3 9 (f_X7_meetsIn (mkR S) x) = _
  rw [u_f_X7_meetsIn]
  dsimp only
  rw [ref_e, ref_e, if_pos (Classical.byContradiction (fun q => h ((in_small (n := 1) (by decide) (by decide)).mp q)))]
  exact cod_r (by decide)
theorem a_saX {S : aT} {x b c : Int32} (h : ¬ vp_in x 2) : aF 16 S x b c = -9999001 ∧ tF 16 S x b = S := by
  refine ⟨?_, if_neg (fun q => h (in2.mpr q))⟩
  show cod 3 9 (f_X7_save (mkR S) x) = _
  rw [u_f_X7_save]
  dsimp only
  rw [ref_e, ref_e, if_pos (Classical.byContradiction (fun q => h ((in_small (n := 1) (by decide) (by decide)).mp q)))]
  exact cod_r (by decide)
theorem a_reX {S : aT} {x b c : Int32} (h : ¬ vp_in x 2) : aF 17 S x b c = -9999001 ∧ tF 17 S x b = S := by
  refine ⟨?_, if_neg (fun q => h (in2.mpr q))⟩
  show cod 3 2 (f_X7_restore (mkR S) x) = _
  rw [u_f_X7_restore]
  dsimp only
  rw [ref_e, ref_e, ref_e, if_pos (Classical.byContradiction (fun q => h ((in_small (n := 1) (by decide) (by decide)).mp q)))]
  exact cod_r (by decide)
theorem act_no {S : aT} {v : Int32} (h : v ≠ 0) : actS S (up2 (mkR S) 0 0 v) = S := if_neg (by rw [ref_00]; exact h)
/-! acts that are refused -/
theorem a_stX {S : aT} {x b c : Int32} (h : ¬ vp_in x 3) : aF 7 S x b c = -9999002 ∧ tF 7 S x b = S := by
  show cod 1 2 (f_X7_step (mkR S) x) = _ ∧ actS S (f_X7_step (mkR S) x).2 = S
  rw [u_f_X7_step]
  dsimp only
  rw [ref_e, ref_e, ref_e, if_pos (Classical.byContradiction (fun q => h ((in_small (n := 2) (by decide) (by decide)).mp q)))]
  exact ⟨cod_r (by decide), act_no (by decide)⟩
theorem a_stO {S : aT} {j : Nat} {b c : Int32} (hj : j < 3) (h : ¬ S.1 1 = 1) : aF 7 S (nI j) b c = -9999003 ∧ tF 7 S (nI j) b = S := by
  show cod 1 2 (f_X7_step (mkR S) (nI j)) = _ ∧ actS S (f_X7_step (mkR S) (nI j)).2 = S
  rw [u_f_X7_step]
  dsimp only
  rw [ref_e, ref_e, ref_e, if_neg (di_in hj), if_pos (uw_iff.mpr h)]
  exact ⟨cod_r (by decide), act_no (by decide)⟩
theorem a_daX {S : aT} {x y c : Int32} (h : ¬ vp_in x 8 ∨ ¬ vp_in y 8) : aF 8 S x y c = -9999001 ∧ tF 8 S x y = S := by
  show cod 3 2 (f_X7_dam (mkR S) x y) = _ ∧ actS S (f_X7_dam (mkR S) x y).2 = S
  rw [u_f_X7_dam]
  dsimp only
  rw [ref_e, ref_e, ref_e, if_pos (xy_no h)]
  exact ⟨cod_r (by decide), act_no (by decide)⟩
theorem a_daO {S : aT} {x y : Nat} {c : Int32} (hx : x < 8) (hy : y < 8) (h : ¬ S.1 1 = 1) : aF 8 S (nI x) (nI y) c = -9999003 ∧ tF 8 S (nI x) (nI y) = S := by
  show cod 3 2 (f_X7_dam (mkR S) (nI x) (nI y)) = _ ∧ actS S (f_X7_dam (mkR S) (nI x) (nI y)).2 = S
  rw [u_f_X7_dam]
  dsimp only
  rw [ref_e, ref_e, ref_e, if_neg (xy_in hx hy), if_pos (uw_iff.mpr h)]
  exact ⟨cod_r (by decide), act_no (by decide)⟩
theorem a_flO {S : aT} {a b c : Int32} (h : S.1 1 = 1 → ¬ f_X7_canStep (mkR S) 2 = 0) : aF 9 S a b c = -9999003 ∧ tF 9 S a b = S := by
  show cod 2 9 (f_X7_flood (mkR S)) = _ ∧ actS S (f_X7_flood (mkR S)).2 = S
  rw [u_f_X7_flood]
  dsimp only
  rw [ref_e, ref_e]
  by_cases c : S.1 1 = 1
  · rw [if_neg (fun q => uw_iff.mp q c), if_neg (h c)]
    exact ⟨cod_r (by decide), act_no (by decide)⟩
  · rw [if_pos (uw_iff.mpr c)]
    exact ⟨cod_r (by decide), act_no (by decide)⟩
theorem a_ltX {S : aT} {x y c : Int32} (h : f_X7_isSetting x y = 0) : aF 10 S x y c = -9999002 ∧ tF 10 S x y = S := by
  show cod 1 9 (f_X7_set (mkR S) x y) = _ ∧ actS S (f_X7_set (mkR S) x y).2 = S
  rw [u_f_X7_set]
  dsimp only
  rw [ref_e, ref_e, if_pos h]
  exact ⟨cod_r (by decide), act_no (by decide)⟩
theorem a_ziX {S : aT} {x : Int64} {m : Int32} (h : ¬ m.toInt ≤ 200) : aZ S x m = -9999002 := by
  show cod 1 9 (f_X7_simulate (mkR S) x m) = _
  rw [u_f_X7_simulate]
  dsimp only
  rw [ref_e, ref_e, if_pos (Classical.byContradiction (fun q => h ((in1_small (n := 200) (by decide)).mp q).2))]
  exact cod_r (by decide)

