/-! the text: clearText, append -/
theorem ch_all : ∀ i : Fin 256, vp_nar .char ((nI i.val).toUInt32 % 65536).toInt32 = nI i.val ∧ narrow .char (.int (nI i.val)) = .int (nI i.val) := by decide +kernel
theorem ok_clear {M R : bM} (hs : sS M R) : okP (f_X6_clearText M) (f_X7_clearText R) := by
  rw [u_f_X6_clearText, u_f_X7_clearText, u_f_X4_empty]
  dsimp only
  obtain ⟨a1, ⟨hch, z, hz, e1, e2, e3⟩, a3, a4, a5⟩ := id hs
  have r0 : ∀ j, up2 (up2 R 0 0 0) 0 2 0 0 j = if j = 2 then 0 else if j = 0 then 0 else R 0 j := fun j => by rw [up2_at, up2_at]
  have rr : ∀ a, a ≠ 0 → up2 (up2 R 0 0 0) 0 2 0 a = R a := fun a q => (up2_row q).trans (up2_row q)
  have hM : ∀ a, a ≠ 1 → up2 M 1 1 0 a = M a := fun a q => up2_row q
  have h11 : up2 M 1 1 0 1 1 = nI 0 := by rw [up2_at, if_pos rfl]; rfl
  have hS : sS (up2 M 1 1 0) (up2 (up2 R 0 0 0) 0 2 0) := by
    generalize up2 M 1 1 0 = F at *
    generalize up2 (up2 R 0 0 0) 0 2 0 = U at *
    exact ⟨goodS_fr (fun a q1 q2 => hM a (by omega)) (rr 2 (by decide)) a1, ⟨fun j hj => by rw [hM 2 (by decide)]; exact hch j hj, 0, by decide, h11, by rw [r0, if_pos rfl]; rfl, fun i hi => absurd hi (Nat.not_lt_zero i)⟩, hiS_fr (fun a q1 q2 => hM a (by omega)) (by rw [r0, if_neg (by decide), if_neg (by decide)]) (rr 4 (by decide)) a3, slS_fr (fun a q1 q2 => hM a (by omega)) (rr 5 (by decide)) (rr 6 (by decide)) a4, fun i hi => by rw [hM 24 (by decide)]; exact a5 i hi⟩
  have q0 : up2 (up2 R 0 0 0) 0 2 0 0 0 = 0 := by rw [r0, if_neg (by decide), if_pos rfl]
  have q1 : M 1 1 = up2 R 0 0 0 0 2 := by rw [e1, up2_at, if_neg (by decide), e2]
  exact ⟨q0, q1, hS⟩
theorem ok_append {M R : bM} {x1 : Int32} (hs : sS M R) : okF 1 2 (f_X6_append M x1) (f_X7_append R x1) := by
  rw [u_f_X6_append, u_f_X7_append, u_f_X4_isFull]
  dsimp only
  rw [ref_e, ref_e, ref_e]
  have i1 := in_small (x := x1) (n := 255) (hi := 255) (by decide) (by decide)
  obtain ⟨a1, ⟨hch, z, hz, e1, e2, e3⟩, a3, a4, a5⟩ := id hs
  have h255 : vp_in x1 256 ↔ ¬ x1 < 0 ∧ x1 ≤ 255 := by
    rw [vp_in_iff, Int32.lt_iff_toInt_lt, Int32.le_iff_toInt_le, show (255 : Int32).toInt = 255 by decide, show (0 : Int32).toInt = 0 by decide]
    omega
  by_cases hp : vp_in x1 256
  · rw [if_neg (h255.mp hp).1, if_pos (h255.mp hp).2, if_neg (i1.mpr hp), e1, e2]
    by_cases c : z = 120
    · rw [if_neg (show ¬ nI z < 120 from fun q => by have := (nI_ltI (a := z) (b := 120) (by omega) (by decide)).mp q; omega), if_neg (by decide), if_pos (show nI z = 120 from by rw [c]; rfl)]
      exact ⟨ref_00 (R := R), Or.inr (Or.inr rfl), fun q => absurd q (show ¬ (2 : Nat) = 0 by decide), sS_ref hs⟩
    · rw [if_pos (show nI z < 120 from (nI_ltI (a := z) (b := 120) (by omega) (by decide)).mpr (by omega)), if_pos rfl, if_neg (show ¬ nI z = 120 from fun q => c (nI_inj (a := z) (b := 120) (by omega) (by decide) q)), u_f_X4_add, e1]
      dsimp only
      obtain ⟨v, hv, rfl⟩ := vp_in_of hp (by decide)
      obtain ⟨v1, v2⟩ := ch_all ⟨v, hv⟩
      dsimp only at v1 v2
      rw [if_neg (show ¬ nI z < 0 from nI_pos (by omega)), if_neg (show ¬ (120 : Int32) ≤ nI z from nI_ge (a := z) (b := 120) (by omega) (by decide)), v1, nI_clamp (by omega), show up2 R 0 0 0 0 2 = nI z from by rw [up2_at, if_neg (by decide)]; exact e2, nI_clamp (by omega), show up2 M 2 z (nI v) 1 1 = nI z from by rw [up2_row (by decide)]; exact e1, nI_1, show up2 (up2 R 0 0 0) 1 z (nI v) 0 2 = nI z from by rw [up2_row (show (0 : Nat) ≠ 1 by decide), up2_at, if_neg (by decide)]; exact e2, nI_1]
      have r0 : ∀ j, up2 (up2 (up2 R 0 0 0) 1 z (nI v)) 0 2 (nI (z + 1)) 0 j = if j = 2 then nI (z + 1) else if j = 0 then 0 else R 0 j := fun j => by rw [up2_at, up2_row (show (0 : Nat) ≠ 1 by decide), up2_at]
      have r1 : ∀ j, up2 (up2 (up2 R 0 0 0) 1 z (nI v)) 0 2 (nI (z + 1)) 1 j = if j = z then nI v else R 1 j := fun j => by rw [up2_row (show (1 : Nat) ≠ 0 by decide), up2_at, up2_row (show (1 : Nat) ≠ 0 by decide)]
      have rr : ∀ a, a ≠ 0 → a ≠ 1 → up2 (up2 (up2 R 0 0 0) 1 z (nI v)) 0 2 (nI (z + 1)) a = R a := fun a q q2 => (up2_row q).trans ((up2_row q2).trans (up2_row q))
      have hM : ∀ a, a ≠ 1 → a ≠ 2 → up2 (up2 M 2 z (nI v)) 1 1 (nI (z + 1)) a = M a := fun a q q2 => (up2_row q).trans (up2_row q2)
      have h2 : ∀ j, up2 (up2 M 2 z (nI v)) 1 1 (nI (z + 1)) 2 j = if j = z then nI v else M 2 j := fun j => by rw [up2_row (show (2 : Nat) ≠ 1 by decide), up2_at]
      have h11 : up2 (up2 M 2 z (nI v)) 1 1 (nI (z + 1)) 1 1 = nI (z + 1) := by rw [up2_at, if_pos rfl]
      generalize up2 (up2 M 2 z (nI v)) 1 1 (nI (z + 1)) = F at *
      generalize up2 (up2 (up2 R 0 0 0) 1 z (nI v)) 0 2 (nI (z + 1)) = U at *
      refine ⟨by show U 0 0 = _; rw [r0, if_neg (by decide), if_pos rfl]; rfl, Or.inl rfl, fun _ => by show F 1 1 = U 0 2; rw [h11, r0, if_pos rfl], ?_⟩
      suffices hS : sS F U from hS
      refine ⟨goodS_fr (fun a q1 q2 => hM a (by omega) (by omega)) (rr 2 (by decide) (by decide)) a1, ⟨fun j hj => ?_, z + 1, by omega, h11, by rw [r0, if_pos rfl], fun i hi => ?_⟩, hiS_fr (fun a q1 q2 => hM a (by omega) (by omega)) (by rw [r0, if_neg (by decide), if_neg (by decide)]) (rr 4 (by decide) (by decide)) a3, slS_fr (fun a q1 q2 => hM a (by omega) (by omega)) (rr 5 (by decide) (by decide)) (rr 6 (by decide) (by decide)) a4, fun i hi => by rw [hM 24 (by decide) (by decide)]; exact a5 i hi⟩
      · rw [h2]
        by_cases e : j = z
        · rw [if_pos e]; exact v2
        · rw [if_neg e]; exact hch j hj
      · rw [h2, r1]
        by_cases e : i = z
        · rw [if_pos e, if_pos e]; exact ⟨rfl, hp⟩
        · rw [if_neg e, if_neg e]; exact e3 i (by omega)
  · rw [if_pos (show f_X7_in x1.toInt64 0 255 = 0 from Classical.byContradiction (fun q => hp (i1.mp q)))]
    have fin : okF 1 2 (1, 0, M) (0, up2 R 0 0 1) := ⟨ref_00 (R := R), Or.inr (Or.inl rfl), fun q => absurd q (show ¬ (1 : Nat) = 0 by decide), sS_ref hs⟩
    by_cases c1 : x1 < 0
    · rw [if_pos c1]; exact fin
    · rw [if_neg c1, if_neg (fun q => hp (h255.mpr ⟨c1, q⟩))]; exact fin
