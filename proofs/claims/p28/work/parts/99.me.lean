/-! WHEN THE RIVERS HAVE MET, AND ONLY THEN, meetsIn IS 0 -/
theorem me84 {x1 : Int32} {i : Nat} : ∀ (n k : Nat) (M : bM), ((lp_X7_meetsIn_84 x1 i n k M).1 = true → (lp_X7_meetsIn_84 x1 i n k M).2.1 = nI i + 1) ∧ (lp_X7_meetsIn_84 x1 i n k M).2.2 0 = M 0 := by
  intro n
  induction n with
  | zero => intro k M; rw [u0_lp_X7_meetsIn_84]; exact ⟨fun h => Bool.noConfusion h, rfl⟩
  | succ n ih =>
    intro k M
    rw [u1_lp_X7_meetsIn_84]
    dsimp only
    repeat' split
    all_goals first
      | exact ih _ _
      | exact ⟨(ih _ _).1, (ih _ _).2.trans (up2_row (by decide))⟩
      | exact ⟨fun _ => rfl, rfl⟩
theorem me76 {x1 : Int32} : ∀ (n i : Nat) (M : bM), ((lp_X7_meetsIn_76 x1 n i M).1 = true → ∃ q, q < i + n ∧ (lp_X7_meetsIn_76 x1 n i M).2.1 = nI q + 1) ∧ (lp_X7_meetsIn_76 x1 n i M).2.2 0 = M 0 := by
  intro n
  induction n with
  | zero => intro i M; rw [u0_lp_X7_meetsIn_76]; exact ⟨fun h => Bool.noConfusion h, rfl⟩
  | succ n ih =>
    intro i M
    have h84 := me84 (x1 := x1) (i := i) 192 0 M
    rw [u1_lp_X7_meetsIn_76]
    dsimp only
    generalize lp_X7_meetsIn_84 x1 i 192 0 M = Z at *
    by_cases c : Z.1 = true
    · rw [if_pos c]
      exact ⟨fun _ => ⟨i, by omega, h84.1 c⟩, h84.2⟩
    · rw [if_neg c]
      obtain ⟨a, b⟩ := ih (i + 1) Z.2.2
      refine ⟨fun h => ?_, b.trans h84.2⟩
      obtain ⟨q, hq, e⟩ := a h
      exact ⟨q, by omega, e⟩
theorem me38 {x1 : Int32} : ∀ (n i : Nat) (M : bM), lp_X7_meetsIn_38 x1 n i M 0 = M 0 := by
  intro n
  induction n with
  | zero => intro i M; rw [u0_lp_X7_meetsIn_38]
  | succ n ih =>
    intro i M
    rw [u1_lp_X7_meetsIn_38]
    dsimp only
    split
    · exact (ih _ _).trans (up2_row (by decide))
    · exact (ih _ _).trans (up2_row (by decide))
theorem me_of {P : Nat} {S : aT} (hP : P < 2) : S.1 1 = 2 ↔ aF 15 S (nI P) 0 0 = 0 := by
  have h76 := me76 (x1 := nI P) 64 0 (lp_X7_meetsIn_38 (nI P) 64 0 (up2 (mkR S) 0 0 0))
  have h38 := me38 (x1 := nI P) 64 0 (up2 (mkR S) 0 0 0)
  rw [h38] at h76
  rw [aF_15, u_f_X7_meetsIn]
  dsimp only
  rw [ref_e, ref_e, if_neg (pl_in hP), m2]
  generalize lp_X7_meetsIn_76 (nI P) 64 0 (lp_X7_meetsIn_38 (nI P) 64 0 (up2 (mkR S) 0 0 0)) = Z at *
  have h0 : Z.2.2 0 0 = 0 := by rw [h76.2]; exact ref_00
  by_cases h : S.1 1 = 2
  · rw [if_pos h]
    exact ⟨fun _ => cod_00 ref_00, fun _ => h⟩
  · rw [if_neg h]
    refine ⟨fun z => absurd z h, fun z => ?_⟩
    by_cases c : Z.1 = true
    · rw [if_pos c] at z
      obtain ⟨q, hq, e⟩ := h76.1 c
      have z := (cod_00 h0).symm.trans z
      rw [e, nI_1] at z
      exact absurd (nI_inj (a := q + 1) (b := 0) (by omega) (by decide) z) (by omega)
    · rw [if_neg c] at z
      exact absurd ((cod_00 h0).symm.trans z) (by decide)
