/-! game, undo, save, restore -/
theorem ok_game {M R : bM} {x1 : Int64} (hs : sS M R) : okP (f_X6_game M x1) (f_X7_game R x1) := by
  rw [u_f_X6_game, u_f_X7_game]
  dsimp only
  obtain ⟨b1, b2, b3⟩ := sS_rem (sS_ref (v := 0) hs)
  have b00 : f_X7_remember (up2 R 0 0 0) 0 0 = 0 := by rw [b3 0 (by decide)]; exact ref_00
  generalize f_X7_remember (up2 R 0 0 0) = N at *
  generalize f_X1_remember M 3 = L at *
  obtain ⟨a1, a2, a3, a4, a5⟩ := id b1
  obtain ⟨k1, k2, k3⟩ := sG_new (k := 2) (s := x1) a1.1
  have g1 := gR_gameOn (k := 2) (x := x1) a1.2.1
  have g2 := gD_gameOn (R := N) (k := 2) (s := x1)
  have f1 := fun (a : Nat) (q : a < 3 ∨ 3 + 10 ≤ a) => fr_X0_beginGame L 3 x1 a q
  have f2 := fun (a : Nat) (q : a ≠ 2) => fr_X7_gameOn N 2 x1 a q
  generalize f_X0_beginGame L 3 x1 = A at *
  generalize f_X7_gameOn N 2 x1 = B at *
  have f20 := f2 0 (by decide)
  exact ⟨by rw [f20]; exact b00, k2.trans k1.symm, sS_act (fun a q1 q2 => f1 a (by omega)) (fun a q1 q2 q3 q4 q5 => f2 a q2) (by rw [f20]) (by rw [f20]) ⟨k3, g1, g2⟩ b1⟩
theorem ok_undo {M R : bM} (hs : sS M R) : okF 2 9 (f_X6_undo M) (f_X7_undo R) := by
  rw [u_f_X6_undo, u_f_X7_undo]
  dsimp only
  rw [ref_e, ref_e]
  obtain ⟨a1, a2, ⟨x, n, hx, hn, e1, e2, e3, e4⟩, a4, a5⟩ := id hs
  rw [e2, e3]
  by_cases c : n = 0
  · subst c
    rw [if_neg (show ¬ (0 : Int32) < nI 0 by decide), if_pos (show nI 0 = 0 from rfl)]
    exact ⟨ref_00 (R := R), Or.inr (Or.inl rfl), fun q => absurd q (show ¬ (2 : Nat) = 0 by decide), sS_ref hs⟩
  · have e06 : up2 R 0 0 0 0 6 = nI n := by rw [up2_at, if_neg (by decide)]; exact e3
    have en1 : nI n - 1 = nI (n - 1) := by rw [show (1 : Int32) = nI 1 from rfl, pk_sub (by omega)]
    rw [if_pos (show (0 : Int32) < nI n from (nI_ltI (a := 0) (b := n) (by decide) (by omega)).mpr (by omega)), if_neg (show ¬ nI n = 0 from fun q => c (nI_inj (a := n) (b := 0) (by omega) (by decide) q)), e06, en1]
    have e06' : up2 (up2 R 0 0 0) 0 6 (nI (n - 1)) 0 6 = nI (n - 1) := by rw [up2_at, if_pos rfl]
    rw [e06', idx404, u_f_X1_takeBack]
    have ex : ((M 30 1 + 14) - 1) - (((M 30 1) + 14) - 1) / 14 * 14 = nI ((x + 13) % 14) := by
      rw [e1, show (14 : Int32) = nI 14 from rfl, nI_add, show (1 : Int32) = nI 1 from rfl, pk_sub (by omega), pk_rem (by omega) (by decide) (by decide), show x + 14 - 1 = x + 13 by omega]
    rw [ex]
    dsimp only
    rw [stateAt_nI (by omega), e2]
    rw [if_neg (show ¬ nI n ≤ 0 from nI_ge (a := 0) (b := n) (by omega) (by omega))]
    have hst := e4 (n - 1) (by omega)
    rw [show (x + 14 - n + (n - 1)) % 14 = (x + 13) % 14 by omega] at hst
    have fr := fun k (hk : k < 3 ∨ 3 + 10 ≤ k) => fr_X0_copyFrom M 3 (32 + 10 * ((x + 13) % 14)) k hk
    have hc := goodS_copy (g := 3) (g1 := 32 + 10 * ((x + 13) % 14)) (by omega) hst
    generalize f_X0_copyFrom M 3 (32 + 10 * ((x + 13) % 14)) = C at *
    have e302 : up2 C 30 1 (nI ((x + 13) % 14)) 30 2 = nI n := by rw [up2_at, if_neg (show ¬ (2 : Nat) = 1 by decide), fr 30 (by omega), e2]
    rw [e302, en1]
    have cs := fun j => cs_at (M := up2 (up2 R 0 0 0) 0 6 (nI (n - 1))) (k1 := 4) (n1 := 5656) (k3 := 2) (n3 := 404) (a := 404 * (n - 1)) (b := 0) (by decide) (by omega) (by decide) j
    have fR := fun k (hk : k ≠ 2) => fr_X7_copyState (up2 (up2 R 0 0 0) 0 6 (nI (n - 1))) 4 5656 (nI (404 * (n - 1))) 2 404 0 k hk
    rw [show (nI 0 : Int32) = 0 from rfl] at cs
    generalize f_X7_copyState (up2 (up2 R 0 0 0) 0 6 (nI (n - 1))) 4 5656 (nI (404 * (n - 1))) 2 404 0 = T at *
    have r0 : T 0 = up2 (up2 R 0 0 0) 0 6 (nI (n - 1)) 0 := fR 0 (by decide)
    have t00 : T 0 0 = 0 := by rw [r0, up2_at, if_neg (show ¬ (0 : Nat) = 6 by decide)]; exact ref_00
    have t06 : T 0 6 = nI (n - 1) := by rw [r0, up2_at, if_pos rfl]
    have t02 : T 0 2 = R 0 2 := by rw [r0, up2_at, if_neg (show ¬ (2 : Nat) = 6 by decide), up2_at, if_neg (show ¬ (2 : Nat) = 0 by decide)]
    have rr : ∀ a, a ≠ 0 → a ≠ 2 → T a = R a := fun a q q2 => (fR a q2).trans ((up2_row q).trans (up2_row q))
    have hrow : ∀ a, a ≠ 30 → up2 (up2 C 30 1 (nI ((x + 13) % 14))) 30 2 (nI (n - 1)) a = C a := fun a q => (up2_row q).trans (up2_row q)
    have hF1 : up2 (up2 C 30 1 (nI ((x + 13) % 14))) 30 2 (nI (n - 1)) 30 1 = nI ((x + 13) % 14) := by rw [up2_at, if_neg (by decide), up2_at, if_pos rfl]
    have hF2 : up2 (up2 C 30 1 (nI ((x + 13) % 14))) 30 2 (nI (n - 1)) 30 2 = nI (n - 1) := by rw [up2_at, if_pos rfl]
    generalize up2 (up2 C 30 1 (nI ((x + 13) % 14))) 30 2 (nI (n - 1)) = F at *
    suffices hS : sS F T from ⟨t00, Or.inl rfl, fun _ => hF2.trans t06.symm, hS⟩
    refine ⟨?_, ?_, ⟨(x + 13) % 14, n - 1, by omega, by omega, hF1, hF2, t06, fun i hi => ?_⟩, ?_, fun i hi => by rw [hrow 24 (by decide), fr 24 (by omega)]; exact a5 i hi⟩
    · refine goodS_fr (M := C) (fun a q1 q2 => hrow a (by omega)) rfl (goodS_ext (fun j hj => ?_) hc)
      rw [cs j, if_pos (by omega), up2_row (show (4 : Nat) ≠ 0 by decide), up2_row (show (4 : Nat) ≠ 0 by decide), Nat.sub_zero]
    · exact txS2_fr ((hrow 1 (by decide)).trans (fr 1 (by omega))) ((hrow 2 (by decide)).trans (fr 2 (by omega))) t02 (rr 1 (by decide) (by decide)) a2
    · have := e4 i (by omega)
      rw [show (x + 14 - n + i) % 14 = ((x + 13) % 14 + 14 - (n - 1) + i) % 14 by omega] at this
      exact goodS_fr (fun a q1 q2 => (hrow a (by omega)).trans (fr a (by omega))) (by rw [rr 4 (by decide) (by decide)]) this
    · exact slS_fr (fun a q1 q2 => (hrow a (by omega)).trans (fr a (by omega))) (rr 5 (by decide) (by decide)) (rr 6 (by decide) (by decide)) a4
/-! save and restore -/
theorem slotOf_nI {M : bM} {s : Nat} (hs : s < 2) : f_X6_slotOf M (nI s) = 172 + 11 * s := by
  rw [u_f_X6_slotOf]
  rcases (by omega : s = 0 ∨ s = 1) with rfl | rfl
  · rfl
  · rw [if_neg (by decide)]
theorem save_1 {M R : bM} {s : Nat} (hs2 : s < 2) (hs : sS M R) :
    sS (up2 (f_X0_copyFrom M (172 + 11 * s + 1) 3) (172 + 11 * s) 1 1) (up2 (f_X7_copyState R 2 404 0 5 808 (nI (404 * s))) 6 s 1) ∧ up2 (f_X0_copyFrom M (172 + 11 * s + 1) 3) (172 + 11 * s) 1 1 3 6 = up2 (f_X7_copyState R 2 404 0 5 808 (nI (404 * s))) 6 s 1 2 3 ∧ up2 (f_X7_copyState R 2 404 0 5 808 (nI (404 * s))) 6 s 1 0 = R 0 := by
  obtain ⟨a1, a2, a3, a4, a5⟩ := id hs
  have fr := fun k (hk : k < 172 + 11 * s + 1 ∨ 172 + 11 * s + 1 + 10 ≤ k) => fr_X0_copyFrom M (172 + 11 * s + 1) 3 k hk
  have hc := goodS_copy (g := 172 + 11 * s + 1) (g1 := 3) (by omega) a1
  generalize f_X0_copyFrom M (172 + 11 * s + 1) 3 = C at *
  have cs := fun j => cs_at (M := R) (k1 := 2) (n1 := 404) (k3 := 5) (n3 := 808) (a := 0) (b := 404 * s) (by decide) (by decide) (by omega) j
  have fR := fun k (hk : k ≠ 5) => fr_X7_copyState R 2 404 0 5 808 (nI (404 * s)) k hk
  rw [show (nI 0 : Int32) = 0 from rfl] at cs
  generalize f_X7_copyState R 2 404 0 5 808 (nI (404 * s)) = T at *
  have hrow : ∀ a, a ≠ 172 + 11 * s → up2 C (172 + 11 * s) 1 1 a = C a := fun a q => up2_row q
  have h01 : up2 C (172 + 11 * s) 1 1 (172 + 11 * s) 1 = 1 := by rw [up2_at, if_pos rfl]
  generalize up2 C (172 + 11 * s) 1 1 = F at *
  have rr : ∀ a, a ≠ 5 → a ≠ 6 → up2 T 6 s 1 a = R a := fun a q q2 => (up2_row q2).trans (fR a q)
  have r5 : up2 T 6 s 1 5 = T 5 := up2_row (by decide)
  have r6 : ∀ j, up2 T 6 s 1 6 j = if j = s then 1 else R 6 j := fun j => by rw [up2_at, fR 6 (by decide)]
  generalize up2 T 6 s 1 = U at *
  have r0 := rr 0 (by decide) (by decide)
  have r2 := rr 2 (by decide) (by decide)
  have hM : ∀ a, ¬ (172 + 11 * s ≤ a ∧ a < 172 + 11 * s + 11) → F a = M a := fun a q => (hrow a (by omega)).trans (fr a (by omega))
  have hg : goodS F 3 (U 2) := goodS_fr (fun a q1 q2 => hM a (by omega)) r2 a1
  refine ⟨⟨hg, txS2_fr (hM 1 (by omega)) (hM 2 (by omega)) (by rw [r0]) (rr 1 (by decide) (by decide)) a2, hiS_fr (fun a q1 q2 => hM a (by omega)) (by rw [r0]) (rr 4 (by decide) (by decide)) a3, fun i hi => ?_, fun i hi => by rw [hM 24 (by omega)]; exact a5 i hi⟩, ?_, r0⟩
  · rw [r6]
    by_cases e : i = s
    · rw [if_pos e, e]
      refine ⟨h01, Or.inr rfl, fun _ => ?_⟩
      refine goodS_ext (r := R 2) (fun j hj => ?_) (goodS_fr (fun a q1 q2 => hrow a (by omega)) rfl (by rw [show 173 + 11 * s = 172 + 11 * s + 1 by omega]; exact hc))
      rw [r5, cs, if_pos (by omega), Nat.zero_add, show 404 * s + j - 404 * s = j by omega]
    · obtain ⟨b1, b2, b3⟩ := a4 i hi
      rw [if_neg e]
      refine ⟨by rw [hM _ (by omega)]; exact b1, b2, fun q => goodS_ext (fun j hj => ?_) (goodS_fr (fun a q1 q2 => hM a (by omega)) rfl (b3 q))⟩
      rw [r5, cs, if_neg (by omega)]
  · rw [r2, hM 3 (by omega), ← gv_3 M 3]
    exact (a1.1.1.1 3 (by decide) (by decide)).symm
theorem ok_save {M R : bM} {x1 : Int32} (hs : sS M R) : okF 3 9 (f_X6_save M x1) (f_X7_save R x1) := by
  rw [u_f_X6_save, u_f_X7_save]
  dsimp only
  rw [ref_e, ref_e]
  have i1 := in_small (x := x1) (n := 1) (hi := 1) (by decide) (by decide)
  have hs' := sS_ref (v := 0) hs
  by_cases hp : vp_in x1 2
  · obtain ⟨s, hs2, rfl⟩ := vp_in_of hp (by decide)
    obtain ⟨g1, g2, g3⟩ := save_1 hs2 hs'
    have g00 : up2 (f_X7_copyState (up2 R 0 0 0) 2 404 0 5 808 (nI (404 * s))) 6 s 1 0 0 = 0 := by rw [g3]; exact ref_00
    rw [if_neg (i1.mpr hp), slotOf_nI hs2, idx404, nI_clamp (by omega)]
    generalize up2 (f_X7_copyState (up2 R 0 0 0) 2 404 0 5 808 (nI (404 * s))) 6 s 1 = B at *
    generalize up2 (f_X0_copyFrom M (172 + 11 * s + 1) 3) (172 + 11 * s) 1 1 = A at *
    rcases (by omega : s = 0 ∨ s = 1) with rfl | rfl
    · rw [if_pos (show nI 0 = 0 from rfl)]
      exact ⟨g00, Or.inl rfl, fun _ => g2, g1⟩
    · rw [if_neg (show ¬ nI 1 = 0 by decide), if_pos (show nI 1 = 1 from rfl)]
      exact ⟨g00, Or.inl rfl, fun _ => g2, g1⟩
  · rw [if_pos (show f_X7_in x1.toInt64 0 1 = 0 from Classical.byContradiction (fun z => hp (i1.mp z)))]
    have hn : ∀ i : Nat, i < 2 → ¬ x1 = nI i := fun i hi e => hp (by rw [e]; exact vp_in_nI hi (by decide))
    rw [if_neg (show ¬ x1 = 0 from hn 0 (by decide)), if_neg (show ¬ x1 = 1 from hn 1 (by decide))]
    exact ⟨ref_00 (R := R), Or.inr (Or.inl rfl), fun q => absurd q (show ¬ (3 : Nat) = 0 by decide), sS_ref hs⟩
theorem restG {M R : bM} {s : Nat} (hs2 : s < 2) (hs : sS M R) (hu : ¬ R 6 s = 0) :
    sS (f_X1_forgetAll (f_X0_copyFrom M 3 (172 + 11 * s + 1))) (up2 (f_X7_copyState R 5 808 (nI (404 * s)) 2 404 0) 0 6 0) ∧ f_X1_forgetAll (f_X0_copyFrom M 3 (172 + 11 * s + 1)) 3 6 = up2 (f_X7_copyState R 5 808 (nI (404 * s)) 2 404 0) 0 6 0 2 3 ∧ up2 (f_X7_copyState R 5 808 (nI (404 * s)) 2 404 0) 0 6 0 0 0 = R 0 0 := by
  obtain ⟨a1, a2, ⟨x, n, hx, hn, e1, e2, e3, e4⟩, a4, a5⟩ := id hs
  have hst := (a4 s hs2).2.2 hu
  rw [show 173 + 11 * s = 172 + 11 * s + 1 by omega] at hst
  have fr := fun k (hk : k < 3 ∨ 3 + 10 ≤ k) => fr_X0_copyFrom M 3 (172 + 11 * s + 1) k hk
  have hc := goodS_copy (g := 3) (g1 := 172 + 11 * s + 1) (by omega) hst
  rw [u_f_X1_forgetAll]
  dsimp only
  generalize f_X0_copyFrom M 3 (172 + 11 * s + 1) = C at *
  have cs := fun j => cs_at (M := R) (k1 := 5) (n1 := 808) (k3 := 2) (n3 := 404) (a := 404 * s) (b := 0) (by decide) (by omega) (by decide) j
  have fR := fun k (hk : k ≠ 2) => fr_X7_copyState R 5 808 (nI (404 * s)) 2 404 0 k hk
  rw [show (nI 0 : Int32) = 0 from rfl] at cs
  generalize f_X7_copyState R 5 808 (nI (404 * s)) 2 404 0 = T at *
  have hrow : ∀ a, a ≠ 30 → up2 C 30 2 0 a = C a := fun a q => up2_row q
  have h1 : up2 C 30 2 0 30 1 = nI x := by rw [up2_at, if_neg (show ¬ (1 : Nat) = 2 by decide), fr 30 (by omega), e1]
  have h2 : up2 C 30 2 0 30 2 = nI 0 := by rw [up2_at, if_pos rfl]; rfl
  generalize up2 C 30 2 0 = F at *
  have rr : ∀ a, a ≠ 0 → a ≠ 2 → up2 T 0 6 0 a = R a := fun a q q2 => (up2_row q).trans (fR a q2)
  have r2 : up2 T 0 6 0 2 = T 2 := up2_row (by decide)
  have r0 : ∀ j, up2 T 0 6 0 0 j = if j = 6 then 0 else R 0 j := fun j => by rw [up2_at, fR 0 (by decide)]
  generalize up2 T 0 6 0 = U at *
  have hg : goodS F 3 (U 2) := by
    rw [r2]
    refine goodS_fr (M := C) (fun a q1 q2 => hrow a (by omega)) rfl (goodS_ext (fun j hj => ?_) hc)
    rw [cs, if_pos (by omega), Nat.sub_zero]
  have hM : ∀ a, ¬ (3 ≤ a ∧ a < 13) → a ≠ 30 → F a = M a := fun a q q2 => (hrow a q2).trans (fr a (by omega))
  refine ⟨⟨hg, txS2_fr (hM 1 (by omega) (by decide)) (hM 2 (by omega) (by decide)) (by rw [r0, if_neg (by decide)]) (rr 1 (by decide) (by decide)) a2, ⟨x, 0, hx, by decide, h1, h2, by rw [r0, if_pos rfl]; rfl, fun i hi => absurd hi (Nat.not_lt_zero i)⟩, slS_fr (fun a q1 q2 => hM a (by omega) (by omega)) (rr 5 (by decide) (by decide)) (rr 6 (by decide) (by decide)) a4, fun i hi => by rw [hM 24 (by omega) (by decide)]; exact a5 i hi⟩, ?_, by rw [r0, if_neg (by decide)]⟩
  rw [← gv_3 F 3]
  exact (hg.1.1.1 3 (by decide) (by decide)).symm
theorem ok_restore {M R : bM} {x1 : Int32} (hs : sS M R) : okF 3 2 (f_X6_restore M x1) (f_X7_restore R x1) := by
  rw [u_f_X6_restore, u_f_X7_restore]
  dsimp only
  rw [ref_e, ref_e, ref_e]
  have i1 := in_small (x := x1) (n := 1) (hi := 1) (by decide) (by decide)
  have hs' := sS_ref (v := 0) hs
  by_cases hp : vp_in x1 2
  · obtain ⟨s, hs2, rfl⟩ := vp_in_of hp (by decide)
    rw [if_neg (i1.mpr hp), slotOf_nI hs2, idx404, nI_clamp (by omega), (hs.2.2.2.1 s hs2).1]
    have g := fun hu => restG hs2 hs' (by rw [up2_row (show (6 : Nat) ≠ 0 by decide)]; exact hu)
    generalize up2 (f_X7_copyState (up2 R 0 0 0) 5 808 (nI (404 * s)) 2 404 0) 0 6 0 = B at *
    generalize f_X1_forgetAll (f_X0_copyFrom M 3 (172 + 11 * s + 1)) = A at *
    have all : okF 3 2 (if R 6 s = 0 then (2, 0, M) else (0, A 3 6, A)) (if R 6 s = 0 then (0, up2 R 0 0 2) else (B 2 3, B)) := by
      by_cases hu : R 6 s = 0
      · rw [if_pos hu, if_pos hu]
        exact ⟨ref_00 (R := R), Or.inr (Or.inr rfl), fun q => absurd q (show ¬ (2 : Nat) = 0 by decide), sS_ref hs⟩
      · rw [if_neg hu, if_neg hu]
        obtain ⟨g1, g2, g3⟩ := g hu
        exact ⟨by rw [show (B 2 3, B).2 0 0 = B 0 0 from rfl, g3]; exact ref_00, Or.inl rfl, fun _ => g2, g1⟩
    rcases (by omega : s = 0 ∨ s = 1) with rfl | rfl
    · rw [if_pos (show nI 0 = 0 from rfl)]
      exact all
    · rw [if_neg (show ¬ nI 1 = 0 by decide), if_pos (show nI 1 = 1 from rfl)]
      exact all
  · rw [if_pos (show f_X7_in x1.toInt64 0 1 = 0 from Classical.byContradiction (fun z => hp (i1.mp z)))]
    have hn : ∀ i : Nat, i < 2 → ¬ x1 = nI i := fun i hi e => hp (by rw [e]; exact vp_in_nI hi (by decide))
    rw [if_neg (show ¬ x1 = 0 from hn 0 (by decide)), if_neg (show ¬ x1 = 1 from hn 1 (by decide))]
    exact ⟨ref_00 (R := R), Or.inr (Or.inl rfl), fun q => absurd q (show ¬ (3 : Nat) = 0 by decide), sS_ref hs⟩
/-! cellOf -/
theorem content_eq {M R : bM} {g k c : Nat} (hs : goodS M g (R k)) (hc : c < 64) : f_X0_contentOf M g (nI c) = if f_X7_isDam R k (nI c) = 0 then R k (212 + c) else 4 := by
  have hd := isDam_iff (M := R) (k := k) hc
  have hm : R k (212 + c) = mkI (M (g + 4) c) (M (g + 8) c) := by rw [hs.1.1.1 (212 + c) (by omega) (by omega), gv_mk hc]
  obtain ⟨b0, b1⟩ := hs.1.2.1 c hc
  rw [u_f_X0_contentOf, hasDam_nI hc, holds_nI hc, holds_nI hc, sG_dam hs.1 hc, hm, show g + 1 + 3 = g + 4 by omega, show g + 5 + 3 = g + 8 by omega]
  dsimp only
  by_cases d : R k (148 + c) = -1
  · rw [if_pos d, if_pos rfl, if_pos (hd.mpr d)]
    rcases b0 with e0 | e0 <;> rcases b1 with e1 | e1 <;> rw [e0, e1] <;> decide
  · rw [if_neg d, if_neg (by decide), if_neg (fun q => d (hd.mp q))]
theorem ok_cellOf {M R : bM} {x1 x2 x3 : Int32} (hs : sS M R) : okF 3 1 (f_X6_cellOf M x1 x2 x3) (f_X7_cellOf R x1 x2 x3) := by
  rw [u_f_X6_cellOf, u_f_X7_cellOf]
  dsimp only
  rw [ref_e, ref_e, ref_e, cellAt_eq]
  have i2 := in_small (x := x3) (n := 3) (hi := 3) (by decide) (by decide)
  by_cases c1 : f_X7_isCell x1 x2 = 0
  · rw [if_pos c1, if_pos rfl, if_pos c1]
    exact ⟨ref_00 (R := R), Or.inr (Or.inl rfl), fun q => absurd q (show ¬ (3 : Nat) = 0 by decide), sS_ref hs⟩
  · obtain ⟨c, hc, e⟩ := cell_nI c1
    rw [if_neg c1, e, if_neg (nI_ne_m1 (by omega)), if_neg c1]
    have hs' := sS_ref (v := 0) hs
    obtain ⟨a1, _⟩ := id hs'
    have fin : ∀ a b : Int32, a = b → okF 3 1 (0, a, M) (b, up2 R 0 0 0) := fun a b e => ⟨ref_00 (R := R), Or.inl rfl, fun _ => e, hs'⟩
    have hcon := content_eq (k := 2) a1 hc
    have hst : f_X0_stoodAt M 3 (nI c) = up2 R 0 0 0 2 (148 + c) := by
      rw [u_f_X0_stoodAt, fits_nI hc, if_neg (by decide), nI_clamp (by omega)]
      exact sG_dam (k := 2) a1.1 hc
    have hc0 : f_X2_costOf M 4 (nI c) = f_X7_cost (up2 R 0 0 0) 2 0 (nI c) := by
      rw [costOf_nI hc, show f_X7_cost (up2 R 0 0 0) 2 0 (nI c) = up2 R 0 0 0 2 (20 + 64 * 0 + c) from cost_at (p := 0) (by decide) hc, a1.1.1.1 (20 + 64 * 0 + c) (by omega) (by omega), show 20 + 64 * 0 + c = 20 + c by omega, gv_c0 hc]
    have hc1 : f_X2_costOf M 8 (nI c) = f_X7_cost (up2 R 0 0 0) 2 1 (nI c) := by
      rw [costOf_nI hc, show f_X7_cost (up2 R 0 0 0) 2 1 (nI c) = up2 R 0 0 0 2 (20 + 64 * 1 + c) from cost_at (p := 1) (by decide) hc, a1.1.1.1 (20 + 64 * 1 + c) (by omega) (by omega), show 20 + 64 * 1 + c = 84 + c by omega, gv_c1 hc]
    by_cases hx : vp_in x3 4
    · rw [if_neg (i2.mpr hx), idxK 148 (by omega), idxK 212 (by omega)]
      obtain ⟨i, hi, rfl⟩ := vp_in_of hx (by decide)
      rcases (by omega : i = 0 ∨ i = 1 ∨ i = 2 ∨ i = 3) with rfl | rfl | rfl | rfl
      · rw [if_pos (show nI 0 = 0 from rfl), if_neg (show ¬ (2 : Int32) ≤ nI 0 by decide)]
        exact fin _ _ hc0
      · rw [if_neg (show ¬ nI 1 = 0 by decide), if_pos (show nI 1 = 1 from rfl), if_neg (show ¬ (2 : Int32) ≤ nI 1 by decide)]
        exact fin _ _ hc1
      · rw [if_neg (show ¬ nI 2 = 0 by decide), if_neg (show ¬ nI 2 = 1 by decide), if_pos (show nI 2 = 2 from rfl), if_pos (show (2 : Int32) ≤ nI 2 by decide), if_neg (show ¬ nI 2 = 3 by decide)]
        rw [hcon]
        by_cases d : f_X7_isDam (up2 R 0 0 0) 2 (nI c) = 0
        · rw [if_pos d, if_pos d]; exact fin _ _ rfl
        · rw [if_neg d, if_neg d]; exact fin _ _ rfl
      · rw [if_neg (show ¬ nI 3 = 0 by decide), if_neg (show ¬ nI 3 = 1 by decide), if_neg (show ¬ nI 3 = 2 by decide), if_pos (show nI 3 = 3 from rfl), if_pos (show (2 : Int32) ≤ nI 3 by decide), if_pos (show nI 3 = 3 from rfl)]
        exact fin _ _ hst
    · rw [if_pos (show f_X7_in x3.toInt64 0 3 = 0 from Classical.byContradiction (fun z => hx (i2.mp z)))]
      have hn : ∀ i : Nat, i < 4 → ¬ x3 = nI i := fun i hi e => hx (by rw [e]; exact vp_in_nI hi (by decide))
      rw [if_neg (show ¬ x3 = 0 from hn 0 (by decide)), if_neg (show ¬ x3 = 1 from hn 1 (by decide)), if_neg (show ¬ x3 = 2 from hn 2 (by decide)), if_neg (show ¬ x3 = 3 from hn 3 (by decide))]
      exact ⟨ref_00 (R := R), Or.inr (Or.inr rfl), fun q => absurd q (show ¬ (1 : Nat) = 0 by decide), sS_ref hs⟩
