/-! ways do not mind the edges into their start; what a step leaves of the row -/
theorem pth_into {e e' : Nat → Nat → Prop} {w : Nat → Nat} {s : Nat} {D : Nat → Option Nat} (h : wayD e w s D) (he : ∀ b c, c ≠ s → e b c → e' b c) : ∀ n c v, pth e w s n c v → D c = some v → ∃ m, pth e' w s m c v := by
  intro n
  induction n with
  | zero => intro c v hp _; exact ⟨0, hp⟩
  | succ n ih =>
    intro c v hp hD
    by_cases q : c = s
    · have h0 : v = 0 := Option.some.inj (hD.symm.trans (by rw [q]; exact h.1))
      exact ⟨0, q, h0⟩
    · obtain ⟨b, u, h1, h2, h3, h4⟩ := wayD_pred h hD hp
      obtain ⟨m, hm⟩ := ih b u h1 h2
      exact ⟨m + 1, b, u, hm, he b c q h3, h4⟩
theorem wayD_into {e e' : Nat → Nat → Prop} {w : Nat → Nat} {s : Nat} {D : Nat → Option Nat} (he : ∀ b c, c ≠ s → (e b c ↔ e' b c)) (h : wayD e w s D) : wayD e' w s D := by
  refine ⟨h.1, fun c v hD => ?_, fun b c u hb hb2 => ?_⟩
  · obtain ⟨n, hp⟩ := h.2.1 c v hD
    exact pth_into h (fun b c q => (he b c q).mp) n c v hp hD
  · by_cases q : c = s
    · exact ⟨0, by rw [q]; exact h.1, Nat.zero_le _⟩
    · exact h.2.2 b c u hb ((he b c q).mpr hb2)
theorem stepR_148 {r : Nat → Int32} {p c q d : Nat} {b : Bool} (hp : p < 2) (hc : c < 64) (hq : q ≤ 61) (hd : d < 64) : stepR r p c q b (148 + d) = ageI (r (148 + d)) (r 8) := by
  have t : ∀ f : Nat → Int32, teR f (148 + d) = ageI (f (148 + d)) (f 8) := fun f => by
    unfold teR
    rw [if_neg (by omega), if_neg (by omega), if_neg (by omega), if_pos (by omega)]
  unfold stepR
  cases b with
  | true =>
    rw [if_pos rfl, t, meetR_ne (by omega) (by omega) (by omega) (by omega) (by omega) (by omega) (by omega) (by omega) (by omega), meetR_ne (by omega) (by omega) (by omega) (by omega) (by omega) (by omega) (by omega) (by omega) (by omega), flowsR_ne (by omega) (by omega) (by omega), flowsR_ne (by omega) (by omega) (by omega)]
  | false =>
    rw [if_neg (by decide), t, paysR_ne (by omega) (by omega), paysR_ne (by omega) (by omega), flowsR_ne (by omega) (by omega) (by omega), flowsR_ne (by omega) (by omega) (by omega)]
theorem stepR_ne {r : Nat → Int32} {p c q j : Nat} {b : Bool} (hp : p < 2) (hc : c < 64) (hq : q ≤ 61) (hj : (20 ≤ j ∧ j < 148) ∨ (212 ≤ j ∧ j < 276 ∧ j ≠ 212 + c)) : stepR r p c q b j = r j := by
  unfold stepR
  cases b with
  | true =>
    rw [if_pos rfl, teR_ne (by omega) (by omega), meetR_ne (by omega) (by omega) (by omega) (by omega) (by omega) (by omega) (by omega) (by omega) (by omega), flowsR_ne (by omega) (by omega) (by omega)]
  | false =>
    rw [if_neg (by decide), teR_ne (by omega) (by omega), paysR_ne (by omega) (by omega), flowsR_ne (by omega) (by omega) (by omega)]
theorem age40 {v : Nat} (hv : v ≤ 39) : ageI (nI v) 40 = if v = 39 then -1 else nI (v + 1) := by
  unfold ageI
  rw [if_neg (nI_ne_m1 (by omega)), nI_1]
  by_cases q : v = 39
  · subst q
    rw [if_neg (show ¬ nI (39 + 1) < 40 by decide), if_pos rfl]
  · rw [if_neg q, if_pos (show nI (v + 1) < 40 from (nI_ltI (a := v + 1) (b := 40) (by omega) (by decide)).mpr (by omega))]
theorem age_none {l : Int32} : ageI (-1) l = -1 := by
  unfold ageI
  rw [if_pos rfl]
