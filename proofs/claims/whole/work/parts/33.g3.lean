/-! TEXT: commands keep the row good and go on in the text -/
abbrev txS (M : bM) (s z : Nat) : Prop := M 0 11 = nI s ∧ M 0 2 = nI z ∧ s ≤ z ∧ z ≤ 120
abbrev sm0 (M N : bM) : Prop := N 0 11 = M 0 11 ∧ N 0 2 = M 0 2
theorem sm0_row {M N : bM} (h : N 0 = M 0) : sm0 M N := by
  unfold sm0
  rw [h]
  exact ⟨rfl, rfl⟩
theorem sm0_tr {M N P : bM} (h : sm0 M N) (h2 : sm0 N P) : sm0 M P := ⟨h2.1.trans h.1, h2.2.trans h.2⟩
theorem sm0_tx {M N : bM} {s z : Nat} (h : sm0 M N) (t : txS M s z) : txS N s z := ⟨h.1.trans t.1, h.2.trans t.2.1, t.2.2⟩
theorem txS_R {M : bM} {s z : Nat} (t : txS M s z) : txR M := ⟨s, z, t⟩
theorem sm0_12 {M : bM} {v : Int32} : sm0 M (up2 M 0 12 v) := ⟨by rw [up2_at, if_neg (by decide)], by rw [up2_at, if_neg (by decide)]⟩
theorem done_sm {M : bM} {x : Int32} : sm0 M (f_X7_done M x).2 := by
  rw [u_f_X7_done]
  dsimp only
  by_cases h : x = 0
  · rw [if_pos h]; exact sm0_12
  · rw [if_neg h]; exact sm0_12
theorem done_row {M : bM} {x : Int32} {k : Nat} (hk : 0 ≠ k) : (f_X7_done M x).2 k = M k := fr_X7_done M x k (Ne.symm hk)
theorem nlt_le {M : bM} {s z : Nat} (t : txS M s z) : (¬ M 0 2 ≤ M 0 11) ↔ s < z := by
  obtain ⟨e1, e2, h1, h2⟩ := t
  rw [e1, e2]
  constructor
  · intro q
    rcases Nat.lt_or_ge s z with g | g
    · exact g
    · exact absurd (nI_le g (by omega)) q
  · intro q; exact nI_ge q (by omega)
theorem tx_next {M : bM} {s z : Nat} (t : txS M s z) (h : s < z) : txS (up2 M 0 11 (M 0 11 + 1)) (s + 1) z := by
  refine ⟨?_, ?_, by omega, t.2.2.2⟩
  · rw [up2_at, if_pos rfl, t.1]; exact nI_add s 1
  · rw [up2_at, if_neg (by decide)]; exact t.2.1
theorem fig_if {s z : Nat} {c : Prop} [Decidable c] {a b : Int32 × bM} (h1 : c → ∃ s', s ≤ s' ∧ txS a.2 s' z) (h2 : ¬ c → ∃ s', s ≤ s' ∧ txS b.2 s' z) : ∃ s', s ≤ s' ∧ txS (if c then a else b).2 s' z := by
  by_cases h : c
  · rw [if_pos h]; exact h1 h
  · rw [if_neg h]; exact h2 h
theorem figures_S {M : bM} {a d lo hi : Int32} {s z : Nat} (t : txS M s z) : ∃ s', s ≤ s' ∧ txS (f_X7_figures M a d lo hi).2 s' z := by
  have k0 : ∃ s', s ≤ s' ∧ txS M s' z := ⟨s, Nat.le_refl _, t⟩
  have k1 : (¬ M 0 2 ≤ M 0 11) → ∃ s', s ≤ s' ∧ txS (up2 M 0 11 (M 0 11 + 1)) s' z := fun c => ⟨s + 1, Nat.le_succ _, tx_next t ((nlt_le t).mp c)⟩
  have k2 : (¬ M 0 2 ≤ M 0 11) → (¬ (up2 M 0 11 (M 0 11 + 1)) 0 2 ≤ (up2 M 0 11 (M 0 11 + 1)) 0 11) → ∃ s', s ≤ s' ∧ txS (up2 (up2 M 0 11 (M 0 11 + 1)) 0 11 ((up2 M 0 11 (M 0 11 + 1)) 0 11 + 1)) s' z := fun c c' => by
    have t1 := tx_next t ((nlt_le t).mp c)
    exact ⟨s + 2, by omega, tx_next t1 ((nlt_le t1).mp c')⟩
  rw [u_f_X7_figures]
  dsimp only
  repeat' (refine fig_if (fun _ => ?_) (fun _ => ?_))
  all_goals first | exact k0 | exact k1 (by assumption) | exact k2 (by assumption) (by assumption)
theorem gR_keep {M N : bM} {k : Nat} (e : N k = M k) (h : gR (M k)) : gR (N k) := by rw [e]; exact h
theorem readStep_ok {M : bM} {k : Nat} {d : Int32} (h0 : 0 ≠ k) (h : gR (M k)) : gR ((f_X7_readStep M k d).2 k) ∧ sm0 M (f_X7_readStep M k d).2 := by
  rw [u_f_X7_readStep]
  dsimp only
  have kd : ∀ x, gR ((f_X7_done M x).2 k) ∧ sm0 M (f_X7_done M x).2 := fun x => ⟨gR_keep (done_row h0) h, done_sm⟩
  by_cases c1 : f_X7_isUnderWay M k = 0
  · rw [if_pos c1]; exact kd 0
  rw [if_neg c1]
  by_cases c2 : f_X7_reason M k d = 0
  · rw [if_pos c2]
    have hs := gR_stepOn (d := d) h (uw_of c1)
    have hz : sm0 M (f_X7_stepOn M k d).2 := sm0_row (fr_X7_stepOn M k d 0 h0)
    by_cases c3 : (f_X7_stepOn M k d).1 = 0
    · rw [if_pos c3]; exact ⟨gR_keep (done_row (M := (f_X7_stepOn M k d).2) (x := 1) h0) hs, sm0_tr hz done_sm⟩
    · rw [if_neg c3]; exact ⟨gR_keep (done_row (M := (f_X7_stepOn M k d).2) (x := 0) h0) hs, sm0_tr hz done_sm⟩
  · rw [if_neg c2]; exact kd 0
theorem best_under {M : bM} {k : Nat} (h : ¬ (f_X7_bestOf M k).1 = -1) : M k 1 = 1 := by
  rcases Classical.em (M k 1 = 1) with q | q
  · exact q
  · exfalso
    apply h
    have c : f_X7_isUnderWay M k = 0 := by rw [u_f_X7_isUnderWay, if_neg q]
    rw [u_f_X7_bestOf, u1_lp_X7_bestOf_7]
    dsimp only
    rw [if_pos c]
theorem readBest_ok {M : bM} {k : Nat} (h0 : 0 ≠ k) (h7 : 7 ≠ k) (h : gR (M k)) : gR ((f_X7_readBest M k).2 k) ∧ sm0 M (f_X7_readBest M k).2 := by
  rw [u_f_X7_readBest]
  dsimp only
  have hk := fr_X7_bestOf M k k (Ne.symm h7)
  have hz := fr_X7_bestOf M k 0 (by decide)
  have hg := gR_keep hk h
  have hu := best_under (M := M) (k := k)
  generalize f_X7_bestOf M k = Z at *
  by_cases c1 : Z.1 = -1
  · rw [if_pos c1]; exact ⟨hg, sm0_row hz⟩
  · rw [if_neg c1]
    exact ⟨gR_stepOn hg (by rw [hk]; exact hu c1), sm0_tr (sm0_row hz) (sm0_row (fr_X7_stepOn _ k _ 0 h0))⟩
theorem readDam_ok {M : bM} {k s z : Nat} (h0 : 0 ≠ k) (h7 : 7 ≠ k) (h : gR (M k)) (t : txS M s z) : gR ((f_X7_readDam M k).2 k) ∧ ∃ s', s ≤ s' ∧ txS (f_X7_readDam M k).2 s' z := by
  rw [u_f_X7_readDam]
  dsimp only
  obtain ⟨s1, l1, t1⟩ := figures_S (a := 0) (d := 1) (lo := 0) (hi := 7) t
  have e1 := fr_X7_figures M 0 1 0 7 k (Ne.symm h0)
  have hin : ∀ A, ¬ (f_X7_figures A (f_X7_figures M 0 1 0 7).1 1 0 7).1 = -1 → vp_in ((8 : Int32) * (f_X7_figures A (f_X7_figures M 0 1 0 7).1 1 0 7).1 + (f_X7_figures M 0 1 0 7).1) 64 := by
    intro A q
    obtain ⟨q1, q2⟩ := figures_1 (n := 8) (by decide) (by decide) q
    obtain ⟨_, q3⟩ := figures_1 (n := 8) (by decide) (by decide) q1
    exact cell64 q3 q2
  generalize f_X7_figures M 0 1 0 7 = A at *
  obtain ⟨s2, l2, t2⟩ := figures_S (a := A.1) (d := 1) (lo := 0) (hi := 7) t1
  have e2 := fr_X7_figures A.2 A.1 1 0 7 k (Ne.symm h0)
  have hin' := hin A.2
  generalize f_X7_figures A.2 A.1 1 0 7 = B at *
  have hB : gR (B.2 k) := gR_keep (e2.trans e1) h
  have fin : ∀ (N : bM) (r : Int32), gR (N k) → sm0 B.2 N → gR ((if (f_X7_done N r).1 = 0 then ((0 : Int32), (f_X7_done N r).2) else (1, (f_X7_done N r).2)).2 k) ∧ ∃ s', s ≤ s' ∧ txS (if (f_X7_done N r).1 = 0 then ((0 : Int32), (f_X7_done N r).2) else (1, (f_X7_done N r).2)).2 s' z := by
    intro N r hN hsm
    rw [done_1, if_neg (by decide)]
    exact ⟨gR_keep (done_row h0) hN, s2, by omega, sm0_tx (sm0_tr hsm done_sm) t2⟩
  by_cases c1 : B.1 = -1
  · rw [if_pos c1]; exact ⟨hB, s2, by omega, t2⟩
  rw [if_neg c1]
  by_cases c2 : f_X7_isUnderWay B.2 k = 0
  · rw [if_pos c2]; exact fin _ _ hB ⟨rfl, rfl⟩
  rw [if_neg c2]
  obtain ⟨c, hc, ec⟩ := vp_in_of (hin' c1) (by decide)
  rw [ec]
  have d1 := (damReason_row (M := B.2) (k := k) (c := c) (Ne.symm h7) hc).1
  have d0 := fr_X7_damReason B.2 k (nI c) 0 h0 (by decide)
  generalize f_X7_damReason B.2 k (nI c) = C at *
  by_cases c3 : C.1 = 0
  · rw [if_pos c3]
    have g1 := gR_damOn (M := C.2) (k := k) (c := c) (Ne.symm h7) hc (gR_keep d1 hB) (by rw [d1]; exact uw_of c2)
    have g0 := fr_X7_damOn C.2 k (nI c) 0 h0 (by decide)
    generalize f_X7_damOn C.2 k (nI c) = F at *
    by_cases c4 : F.1 = 0
    · rw [if_pos c4]; exact fin _ _ g1 (sm0_tr (sm0_row d0) (sm0_row g0))
    · rw [if_neg c4]; exact fin _ _ g1 (sm0_tr (sm0_row d0) (sm0_row g0))
  · rw [if_neg c3]; exact fin _ _ (gR_keep d1 hB) (sm0_row d0)
theorem readCommand_ok {M : bM} {k s z : Nat} (h0 : 0 ≠ k) (h7 : 7 ≠ k) (h : gR (M k)) (t : txS M s z) (hs : s < z) : gR ((f_X7_readCommand M k).2 k) ∧ ((f_X7_readCommand M k).1 = 0 → ∃ s', s ≤ s' ∧ txS (f_X7_readCommand M k).2 s' z) ∧ (¬ (f_X7_readCommand M k).1 = 0 → ∃ s', s < s' ∧ txS (f_X7_readCommand M k).2 s' z) := by
  rw [u_f_X7_readCommand]
  dsimp only
  generalize M 1 (M 0 11).toNatClampNeg = x
  have t1 := tx_next t hs
  have e1 : up2 M 0 11 (M 0 11 + 1) k = M k := up2_row (Ne.symm h0)
  have hlast : ∀ j, j ≠ 11 → up2 (up2 M 0 11 (M 0 11 + 1)) 0 11 (up2 M 0 11 (M 0 11 + 1) 0 11 - 1) 0 j = M 0 j := fun j q => by rw [up2_at, if_neg q, up2_at, if_neg q]
  have hl11 : up2 (up2 M 0 11 (M 0 11 + 1)) 0 11 (up2 M 0 11 (M 0 11 + 1) 0 11 - 1) 0 11 = M 0 11 := by
    rw [up2_at, if_pos rfl, t1.1, t.1, show (1 : Int32) = nI 1 from rfl, pk_sub (by omega)]; rfl
  have hlk : up2 (up2 M 0 11 (M 0 11 + 1)) 0 11 (up2 M 0 11 (M 0 11 + 1) 0 11 - 1) k = M k := (up2_row (Ne.symm h0)).trans e1
  generalize up2 (up2 M 0 11 (M 0 11 + 1)) 0 11 (up2 M 0 11 (M 0 11 + 1) 0 11 - 1) = L at *
  generalize up2 M 0 11 (M 0 11 + 1) = A at *
  have hA : gR (A k) := gR_keep e1 h
  have pack : ∀ (r : Int32) (N : bM), gR (N k) → (∃ s', s < s' ∧ txS N s' z) → gR (((r, N) : Int32 × bM).2 k) ∧ (((r, N) : Int32 × bM).1 = 0 → ∃ s', s ≤ s' ∧ txS ((r, N) : Int32 × bM).2 s' z) ∧ (¬ ((r, N) : Int32 × bM).1 = 0 → ∃ s', s < s' ∧ txS ((r, N) : Int32 × bM).2 s' z) := by
    intro r N g1 g2
    obtain ⟨s', q1, q2⟩ := g2
    exact ⟨g1, fun _ => ⟨s', by omega, q2⟩, fun _ => ⟨s', q1, q2⟩⟩
  have packA : ∀ (r : Int32) (N : bM), gR (N k) → sm0 A N → gR (((r, N) : Int32 × bM).2 k) ∧ (((r, N) : Int32 × bM).1 = 0 → ∃ s', s ≤ s' ∧ txS ((r, N) : Int32 × bM).2 s' z) ∧ (¬ ((r, N) : Int32 × bM).1 = 0 → ∃ s', s < s' ∧ txS ((r, N) : Int32 × bM).2 s' z) := fun r N g1 g2 => pack r N g1 ⟨s + 1, by omega, sm0_tx g2 t1⟩
  have fin : ∀ (B N : bM) (r : Int32), (∃ s', s < s' ∧ txS B s' z) → gR (N k) → sm0 B N → gR ((if (f_X7_done N r).1 = 0 then ((0 : Int32), (f_X7_done N r).2) else (1, (f_X7_done N r).2)).2 k) ∧ ((if (f_X7_done N r).1 = 0 then ((0 : Int32), (f_X7_done N r).2) else (1, (f_X7_done N r).2)).1 = 0 → ∃ s', s ≤ s' ∧ txS (if (f_X7_done N r).1 = 0 then ((0 : Int32), (f_X7_done N r).2) else (1, (f_X7_done N r).2)).2 s' z) ∧ (¬ (if (f_X7_done N r).1 = 0 then ((0 : Int32), (f_X7_done N r).2) else (1, (f_X7_done N r).2)).1 = 0 → ∃ s', s < s' ∧ txS (if (f_X7_done N r).1 = 0 then ((0 : Int32), (f_X7_done N r).2) else (1, (f_X7_done N r).2)).2 s' z) := by
    intro B N r hb hN hsm
    obtain ⟨s', q1, q2⟩ := hb
    rw [done_1, if_neg (by decide)]
    exact pack _ _ (gR_keep (done_row h0) hN) ⟨s', q1, sm0_tx (sm0_tr hsm done_sm) q2⟩
  by_cases c1 : x = 98
  · rw [if_pos c1]; exact packA _ _ (readBest_ok h0 h7 hA).1 (readBest_ok h0 h7 hA).2
  rw [if_neg c1]
  by_cases c2 : x = 100
  · rw [if_pos c2]
    obtain ⟨g1, s', q1, q2⟩ := readDam_ok h0 h7 hA t1
    exact pack _ _ g1 ⟨s', by omega, q2⟩
  rw [if_neg c2]
  by_cases c3 : x = 101
  · rw [if_pos c3]; exact packA _ _ (readStep_ok h0 hA).1 (readStep_ok h0 hA).2
  rw [if_neg c3]
  by_cases c4 : x = 102
  · rw [if_pos c4]
    have kd : ∀ r, gR ((f_X7_done A r).2 k) ∧ sm0 A (f_X7_done A r).2 := fun r => ⟨gR_keep (done_row h0) hA, done_sm⟩
    by_cases d1 : f_X7_isUnderWay A k = 0
    · rw [if_pos d1]; exact packA _ _ (kd 0).1 (kd 0).2
    rw [if_neg d1]
    by_cases d2 : f_X7_canStep A k = 0
    · rw [if_pos d2]
      have g1 := gR_floodOn hA (uw_of d1)
      have g0 := fr_X7_floodOn A k 0 h0
      generalize f_X7_floodOn A k = F at *
      have kf : ∀ r, gR ((f_X7_done F.2 r).2 k) ∧ sm0 A (f_X7_done F.2 r).2 := fun r => ⟨gR_keep (done_row h0) g1, sm0_tr (sm0_row g0) done_sm⟩
      by_cases d3 : F.1 < 0
      · rw [if_pos d3]; exact packA _ _ (kf 0).1 (kf 0).2
      · rw [if_neg d3]; exact packA _ _ (kf 1).1 (kf 1).2
    · rw [if_neg d2]; exact packA _ _ (kd 0).1 (kd 0).2
  rw [if_neg c4]
  by_cases c5 : x = 110
  · rw [if_pos c5]
    obtain ⟨s1, l1, t2⟩ := figures_S (a := 0) (d := 2) (lo := 0) (hi := 99) t1
    have e2 := fr_X7_figures A 0 2 0 99 k (Ne.symm h0)
    generalize f_X7_figures A 0 2 0 99 = B at *
    have hB : gR (B.2 k) := gR_keep e2 hA
    by_cases d1 : B.1 = -1
    · rw [if_pos d1]; exact pack _ _ hB ⟨s1, by omega, t2⟩
    rw [if_neg d1]
    have g1 := gR_gameOn (x := B.1.toInt64) hB
    have g0 := fr_X7_gameOn B.2 k B.1.toInt64 0 h0
    generalize f_X7_gameOn B.2 k B.1.toInt64 = F at *
    by_cases d2 : F.1 ≤ 0
    · rw [if_pos d2]; exact fin B.2 _ _ ⟨s1, by omega, t2⟩ g1 (sm0_row g0)
    · rw [if_neg d2]; exact fin B.2 _ _ ⟨s1, by omega, t2⟩ g1 (sm0_row g0)
  rw [if_neg c5]
  by_cases c6 : x = 115
  · rw [if_pos c6]; exact packA _ _ (readStep_ok h0 hA).1 (readStep_ok h0 hA).2
  rw [if_neg c6]
  by_cases c7 : x = 118
  · rw [if_pos c7]
    obtain ⟨s1, l1, t2⟩ := figures_S (a := 0) (d := 1) (lo := 0) (hi := 1) t1
    have e2 := fr_X7_figures A 0 1 0 1 k (Ne.symm h0)
    generalize f_X7_figures A 0 1 0 1 = B at *
    obtain ⟨s2, l2, t3⟩ := figures_S (a := B.1) (d := 2) (lo := 1) (hi := 40) t2
    have e3 := fr_X7_figures B.2 B.1 2 1 40 k (Ne.symm h0)
    generalize f_X7_figures B.2 B.1 2 1 40 = C at *
    have hC : gR (C.2 k) := gR_keep (e3.trans e2) hA
    by_cases d1 : C.1 = -1
    · rw [if_pos d1]; exact pack _ _ hC ⟨s2, by omega, t3⟩
    rw [if_neg d1]
    by_cases d2 : f_X7_isSetting B.1 C.1 = 0
    · rw [if_pos d2]; exact fin C.2 _ _ ⟨s2, by omega, t3⟩ hC ⟨rfl, rfl⟩
    rw [if_neg d2]
    have g1 := gR_change hC d2
    have g0 := fr_X7_change C.2 k B.1 C.1 0 h0
    generalize f_X7_change C.2 k B.1 C.1 = F at *
    by_cases d3 : F.1 < 0
    · rw [if_pos d3]; exact fin C.2 _ _ ⟨s2, by omega, t3⟩ g1 (sm0_row g0)
    · rw [if_neg d3]; exact fin C.2 _ _ ⟨s2, by omega, t3⟩ g1 (sm0_row g0)
  rw [if_neg c7]
  by_cases c8 : x = 119
  · rw [if_pos c8]; exact packA _ _ (readStep_ok h0 hA).1 (readStep_ok h0 hA).2
  rw [if_neg c8]
  exact ⟨gR_keep hlk h, fun _ => ⟨s, Nat.le_refl _, ⟨hl11.trans t.1, (hlast 2 (by decide)).trans t.2.1, t.2.2⟩⟩, fun q => absurd rfl q⟩
