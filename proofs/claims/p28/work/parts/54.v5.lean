/-! A DAM'S REASON: shut in on both sides, and the dam built on both sides -/
theorem openB_ok {g w : Nat} (hg : g + 10 ≤ 23) (hw : w + 4 ≤ 23) : ∀ (n i : Nat) (M : bM), i + n = 64 → (∀ a, a ≠ 25 → lp_X5_openBesides_2 g w n i M a = M a) ∧ ∀ c, (c < i → lp_X5_openBesides_2 g w n i M 25 c = M 25 c) ∧ (i ≤ c → c < 64 → (lp_X5_openBesides_2 g w n i M 25 c = 0 ∨ lp_X5_openBesides_2 g w n i M 25 c = 1) ∧ (¬ lp_X5_openBesides_2 g w n i M 25 c = 0 ↔ (M (g + 9) c = -1 ∧ M (w + 3) c = 0))) := by
  intro n
  induction n with
  | zero => intro i M hi; rw [u0_lp_X5_openBesides_2]; exact ⟨fun _ _ => rfl, fun c => ⟨fun _ => rfl, fun h1 h2 => by omega⟩⟩
  | succ n ih =>
    intro i M hi
    rw [u1_lp_X5_openBesides_2]
    dsimp only
    have key : ∀ v : Int32, (v = 0 ∨ v = 1) → (¬ v = 0 ↔ (M (g + 9) i = -1 ∧ M (w + 3) i = 0)) → (∀ a, a ≠ 25 → lp_X5_openBesides_2 g w n (i + 1) (up2 M 25 i v) a = M a) ∧ ∀ c, (c < i → lp_X5_openBesides_2 g w n (i + 1) (up2 M 25 i v) 25 c = M 25 c) ∧ (i ≤ c → c < 64 → (lp_X5_openBesides_2 g w n (i + 1) (up2 M 25 i v) 25 c = 0 ∨ lp_X5_openBesides_2 g w n (i + 1) (up2 M 25 i v) 25 c = 1) ∧ (¬ lp_X5_openBesides_2 g w n (i + 1) (up2 M 25 i v) 25 c = 0 ↔ (M (g + 9) c = -1 ∧ M (w + 3) c = 0))) := by
      intro v hv hv2
      obtain ⟨h1, h2⟩ := ih (i + 1) (up2 M 25 i v) (by omega)
      refine ⟨fun a ha => (h1 a ha).trans (up2_row ha), fun c => ⟨fun hc => ?_, fun hc hc2 => ?_⟩⟩
      · rw [(h2 c).1 (by omega), up2_at, if_neg (by omega)]
      · by_cases e : c = i
        · rw [(h2 c).1 (by omega), up2_at, if_pos e, e]; exact ⟨hv, hv2⟩
        · have := (h2 c).2 (by omega) hc2
          rw [up2_row (show g + 9 ≠ 25 by omega), up2_row (show w + 3 ≠ 25 by omega)] at this
          exact this
    by_cases c1 : M (g + 9) i = -1
    · rw [if_pos c1]
      by_cases c2 : M (w + 3) i = 0
      · rw [if_pos c2]; exact key 1 (Or.inr rfl) ⟨fun _ => ⟨c1, c2⟩, fun _ => by decide⟩
      · rw [if_neg c2]; exact key 0 (Or.inl rfl) ⟨fun z => absurd rfl z, fun z => absurd z.2 c2⟩
    · rw [if_neg c1]; exact key 0 (Or.inl rfl) ⟨fun z => absurd rfl z, fun z => absurd z.1 c1⟩
theorem openB {M : bM} {g w : Nat} (hg : g + 10 ≤ 23) (hw : w + 4 ≤ 23) : (∀ a, a ≠ 25 → f_X5_openBesides M g w a = M a) ∧ ∀ c, c < 64 → (¬ f_X5_openBesides M g w 25 c = 0 ↔ (M (g + 9) c = -1 ∧ M (w + 3) c = 0)) := by
  rw [u_f_X5_openBesides]
  obtain ⟨h1, h2⟩ := openB_ok hg hw 64 0 M rfl
  exact ⟨h1, fun c hc => ((h2 c).2 (Nat.zero_le _) hc).2⟩
theorem headX_c {M N : bM} {w : Nat} (h1 : N w = M w) (h2 : N (w + 2) = M (w + 2)) : f_X2_head N w = f_X2_head M w := by rw [u_f_X2_head, u_f_X2_head, h1, h2]
theorem holds_c {M N : bM} {w : Nat} {x : Int32} (h : N (w + 3) = M (w + 3)) : f_X2_holds N w x = f_X2_holds M w x := by rw [u_f_X2_holds, u_f_X2_holds, h]
theorem shut_loop {w : Nat} {M : bM} : ∀ (n i : Nat), i + n = 64 → (lp_X5_isShutIn_49 w M n i).2.1 = 0 ∧ ((lp_X5_isShutIn_49 w M n i).1 = true ↔ ∃ c, i ≤ c ∧ c < 64 ∧ ¬ M 26 c = -1 ∧ (56 ≤ c ∨ ¬ f_X2_holds M w (nI c) = 0)) := by
  intro n
  induction n with
  | zero => intro i hi; rw [u0_lp_X5_isShutIn_49]; exact ⟨rfl, ⟨fun h => absurd h (by decide), fun ⟨c, h1, h2, _⟩ => by omega⟩⟩
  | succ n ih =>
    intro i hi
    rw [u1_lp_X5_isShutIn_49]
    dsimp only
    obtain ⟨g1, g2⟩ := ih (i + 1) (by omega)
    have keep : (M 26 i = -1 ∨ ¬ (56 ≤ i ∨ ¬ f_X2_holds M w (nI i) = 0)) → (lp_X5_isShutIn_49 w M n (i + 1)).2.1 = 0 ∧ ((lp_X5_isShutIn_49 w M n (i + 1)).1 = true ↔ ∃ c, i ≤ c ∧ c < 64 ∧ ¬ M 26 c = -1 ∧ (56 ≤ c ∨ ¬ f_X2_holds M w (nI c) = 0)) := by
      intro hno
      refine ⟨g1, g2.trans ⟨fun ⟨c, h1, h2⟩ => ⟨c, by omega, h2⟩, fun ⟨c, h1, h2, h3, h4⟩ => ?_⟩⟩
      by_cases e : c = i
      · rw [e] at h3 h4
        rcases hno with z | z
        · exact absurd z h3
        · exact absurd h4 z
      · exact ⟨c, by omega, h2, h3, h4⟩
    by_cases c1 : M 26 i = -1
    · rw [if_pos c1]; exact keep (Or.inl c1)
    · rw [if_neg c1]
      by_cases c2 : nI i / 8 = 7
      · rw [if_pos c2]
        exact ⟨rfl, ⟨fun _ => ⟨i, Nat.le_refl _, by omega, c1, Or.inl ((div8 (by omega)).mp c2)⟩, fun _ => rfl⟩⟩
      · rw [if_neg c2]
        by_cases c3 : f_X2_holds M w (nI i) = 0
        · rw [if_pos c3]; exact keep (Or.inr (fun z => z.elim (fun q => c2 ((div8 (by omega)).mpr q)) (fun q => q c3)))
        · rw [if_neg c3]
          exact ⟨rfl, ⟨fun _ => ⟨i, Nat.le_refl _, by omega, c1, Or.inr c3⟩, fun _ => rfl⟩⟩
/-- the class's search with a dam in the cell: c is open where the row with the dam says so -/
theorem shut_ok {P : Prop} {M : bM} {g p s dam : Nat} {r : Nat → Int32} (hg : g + 10 ≤ 23) (hp : p < 2) (hd : dam < 64) (hs : s < 64) (hb : besR M) (hsg : sG P M g r) (hh : f_X2_head M (g + 1 + 4 * p) = nI s) :
    (∀ a, a ≠ 25 → a ≠ 26 → a ≠ 28 → a ≠ 29 → (f_X5_isShutIn M g (nI p) (nI dam)).2 a = M a) ∧ ((f_X5_isShutIn M g (nI p) (nI dam)).1 = 0 ∨ (f_X5_isShutIn M g (nI p) (nI dam)).1 = 1) ∧ ((f_X5_isShutIn M g (nI p) (nI dam)).1 = 0 ↔ ∃ c, c < 64 ∧ rch (opR (upd r (148 + dam) 0) p) s c ∧ goR (upd r (148 + dam) 0) p c) := by
  have hw : g + 1 + 4 * p + 4 ≤ 23 := by omega
  obtain ⟨o1, o2⟩ := openB (M := M) hg hw
  rw [u_f_X5_isShutIn]
  dsimp only
  rw [sub1 hp, side_nI hp, side_nI (p := 1 - p) (by omega), fits_nI hd, if_neg (by decide), nI_clamp (by omega)]
  generalize hO : f_X5_openBesides M g (g + 1 + 4 * p) = O at *
  have hrow : ∀ a, a ≠ 25 → up2 O 25 dam 0 a = M a := fun a h => (up2_row h).trans (o1 a h)
  rw [headX_c (hrow (g + 1 + 4 * p) (by omega)) (hrow (g + 1 + 4 * p + 2) (by omega)), hh]
  obtain ⟨s1, s2⟩ := spread_ok (M := up2 O 25 dam 0) hs (fun i hi => by rw [hrow 24 (by decide)]; exact hb i hi)
  have hrv : ∀ q c, q < 2 → c < 64 → (M (g + 1 + 4 * q + 3) c = 0 ↔ rvR (upd r (148 + dam) 0) q c = 0) := by
    intro q c hq hc
    have h1 : rvR (upd r (148 + dam) 0) q c = rvR r q c := by
      rw [rvR, rvR, u_f_X7_isRiver, u_f_X7_isRiver, idxK 212 (by omega), show upd r (148 + dam) 0 (212 + c) = r (212 + c) from by unfold upd; rw [if_neg (by omega)]]
    have h2 := sG_holds (R := fun _ => r) (k := 0) hsg hq hc
    rw [h1, rvR, ← h2, holds_nI hc]
    by_cases z : M (g + 1 + 4 * q + 3) c = 0
    · rw [if_pos z]; exact ⟨fun _ => rfl, fun _ => z⟩
    · rw [if_neg z]; exact ⟨fun y => absurd y z, fun y => absurd y (by decide)⟩
  have hop : ∀ c, c < 64 → (¬ up2 O 25 dam 0 25 c = 0 ↔ opR (upd r (148 + dam) 0) p c) := by
    intro c hc
    rw [up2_at]
    have hdm := sG_dam (R := fun _ => r) (k := 0) hsg hc
    by_cases e : c = dam
    · rw [if_pos e]
      refine ⟨fun z => absurd rfl z, fun z => ?_⟩
      have := z.1
      unfold upd at this
      rw [if_pos (by omega)] at this
      exact absurd this (by decide)
    · rw [if_neg e, o2 c hc, hrv p c hp hc, hdm]
      have : upd r (148 + dam) 0 (148 + c) = r (148 + c) := by unfold upd; rw [if_neg (by omega)]
      exact ⟨fun z => ⟨this.trans z.1, z.2⟩, fun z => ⟨this.symm.trans z.1, z.2⟩⟩
  rw [edg_eq hop] at s1
  generalize f_X5_spreadFrom (up2 O 25 dam 0) (nI s) = F at *
  have hF : ∀ a, a ≠ 25 → a ≠ 26 → a ≠ 28 → a ≠ 29 → F a = M a := fun a h1 h2 h3 h4 => (s2 a h2 h3 h4).trans (hrow a h1)
  obtain ⟨l1, l2⟩ := shut_loop (w := g + 1 + 4 * (1 - p)) (M := F) 64 0 rfl
  have hiff : (lp_X5_isShutIn_49 (g + 1 + 4 * (1 - p)) F 64 0).1 = true ↔ ∃ c, c < 64 ∧ rch (opR (upd r (148 + dam) 0) p) s c ∧ goR (upd r (148 + dam) 0) p c := by
    rw [l2]
    have hgo : ∀ c, c < 64 → ((56 ≤ c ∨ ¬ f_X2_holds F (g + 1 + 4 * (1 - p)) (nI c) = 0) ↔ goR (upd r (148 + dam) 0) p c) := by
      intro c hc
      have h1 : f_X2_holds F (g + 1 + 4 * (1 - p)) (nI c) = 0 ↔ rvR (upd r (148 + dam) 0) (1 - p) c = 0 := by
        rw [← hrv (1 - p) c (by omega) hc, holds_nI hc, hF _ (by omega) (by omega) (by omega) (by omega)]
        by_cases z : M (g + 1 + 4 * (1 - p) + 3) c = 0
        · rw [if_pos z]; exact ⟨fun _ => z, fun _ => rfl⟩
        · rw [if_neg z]; exact ⟨fun y => absurd y (by decide), fun y => absurd y z⟩
      exact ⟨fun z => z.elim Or.inl (fun y => Or.inr (fun q => y (h1.mpr q))), fun z => z.elim Or.inl (fun y => Or.inr (fun q => y (h1.mp q)))⟩
    exact ⟨fun ⟨c, _, h2, h3, h4⟩ => ⟨c, h2, (rch_tab s1 h2).mpr h3, (hgo c h2).mp h4⟩, fun ⟨c, h2, h3, h4⟩ => ⟨c, Nat.zero_le _, h2, (rch_tab s1 h2).mp h3, (hgo c h2).mpr h4⟩⟩
  by_cases c1 : (lp_X5_isShutIn_49 (g + 1 + 4 * (1 - p)) F 64 0).1 = true
  · rw [if_pos c1]
    dsimp only
    rw [l1]
    exact ⟨hF, Or.inl rfl, ⟨fun _ => hiff.mp c1, fun _ => rfl⟩⟩
  · rw [if_neg c1]
    exact ⟨hF, Or.inr rfl, ⟨fun q => absurd q (show ¬ (1 : Int32) = 0 by decide), fun q => absurd (hiff.mpr q) c1⟩⟩
/-! what is built: three dams at most for each player -/
abbrev gD (r : Nat → Int32) : Prop := vp_in (r 11) 4 ∧ vp_in (r 16) 4
theorem rv_upd {r : Nat → Int32} {c q x : Nat} {v : Int32} (hc : c < 64) (hx : x < 64) : rvR (upd r (148 + c) v) q x = rvR r q x := by
  rw [rvR, rvR, u_f_X7_isRiver, u_f_X7_isRiver, idxK 212 (by omega), show upd r (148 + c) v (212 + x) = r (212 + x) from by unfold upd; rw [if_neg (by omega)]]
theorem head_dam {R : bM} {k p a c : Nat} {v : Int32} (hp : p < 2) (hc : c < 64) (ha : R k (14 + 5 * p) = nI (a + 1)) (ha62 : a < 64) : f_X7_head (up2 R k (148 + c) v) k (nI p) = R k (276 + 64 * p + a) := by
  rw [head_at hp (by rw [up2_at, if_neg (by omega)]; exact ha) ha62, up2_at, if_neg (by omega)]
theorem phI_4 {r : Nat → Int32} (hg : gR r) (h1 : r 1 = 1) : r 4 = -1 := by
  obtain ⟨m, hm, a, b, x, y, ⟨⟨n3, n2, n1, n4⟩, _⟩, _⟩ := hg
  rw [n1] at h1
  unfold phI at h1
  by_cases q : r 4 = -1
  · exact q
  · rw [if_neg q] at h1; exact absurd h1 (by decide)
/-- heads of a game under way: not on the other's river -/
theorem heads_free {M R : bM} {P : Prop} {g k c : Nat} {v : Int32} (hs : sG P M g (R k)) (hg : gR (R k)) (h4 : R k 4 = -1) (hc : c < 64) : ∀ p, p < 2 → ∃ s, s < 64 ∧ f_X2_head M (g + 1 + 4 * p) = nI s ∧ f_X7_head R k (nI p) = nI s ∧ f_X7_head (up2 R k (148 + c) v) k (nI p) = nI s ∧ rvR (R k) (1 - p) s = 0 := by
  obtain ⟨h0, h1', g0, g1, e0, e1, f0, f1⟩ := heads hs hg
  obtain ⟨m, hm, a, b, x, y, ⟨_, ⟨n14, n19, na, nb'⟩, _⟩, _, ⟨_, ⟨ha, va, ha64, ea, hva, hva2⟩, ⟨hb, vb, hb64, eb, hvb, hvb2⟩⟩, l⟩ := hg
  intro p hp
  rcases (by omega : p = 0 ∨ p = 1) with rfl | rfl
  · have q1 : f_X7_head R k (nI 0) = nI ha := (head_at (M := R) (k := k) (p := 0) (a := a) (by decide) n14 (by omega)).trans ea
    refine ⟨ha, ha64, ?_, q1, (head_dam (p := 0) (a := a) (by decide) hc n14 (by omega)).trans ea, ?_⟩
    · rw [show g + 1 + 4 * 0 = g + 1 by omega, e0, ← f0]; exact q1
    · have := l h4 ha va ha64 hva
      exact (river_iff (M := fun _ => R k) (k := 0) (p := 1) (by decide) ha64 hva).mpr (by omega)
  · have q1 : f_X7_head R k (nI 1) = nI hb := (head_at (M := R) (k := k) (p := 1) (a := b) (by decide) n19 (by omega)).trans eb
    refine ⟨hb, hb64, ?_, q1, (head_dam (p := 1) (a := b) (by decide) hc n19 (by omega)).trans eb, ?_⟩
    · rw [show g + 1 + 4 * 1 = g + 5 by omega, e1, ← f1]; exact q1
    · have := l h4 hb vb hb64 hvb
      exact (river_iff (M := fun _ => R k) (k := 0) (p := 0) (by decide) hb64 hvb).mpr (by omega)
theorem content_0 {P : Prop} {M R : bM} {g k c : Nat} (hs : sG P M g (R k)) (hc : c < 64) : f_X0_contentOf M g (nI c) = 0 ↔ bareR (R k) c := by
  obtain ⟨v, ⟨hv, hv4⟩, b0, b1⟩ := sG_mark hs hc
  rw [u_f_X0_contentOf, hasDam_nI hc, holds_nI hc, holds_nI hc, sG_dam hs hc]
  dsimp only
  have hz : R k (212 + c) = 0 ↔ v = 0 := ⟨fun q => nI_inj (by omega) (by decide) (hv.symm.trans (q.trans (show (0 : Int32) = nI 0 from rfl))), fun q => by rw [hv, q]; rfl⟩
  by_cases d : R k (148 + c) = -1
  · rw [if_pos d, if_pos rfl]
    by_cases z0 : M (g + 1 + 3) c = 0
    · rw [if_pos z0, if_pos rfl]
      by_cases z1 : M (g + 5 + 3) c = 0
      · rw [if_pos z1, if_pos rfl]
        have := b0.mp z0; have := b1.mp z1
        exact ⟨fun _ => ⟨d, hz.mpr (by omega)⟩, fun _ => rfl⟩
      · rw [if_neg z1, if_neg (by decide)]
        refine ⟨fun q => absurd q (by decide), fun q => ?_⟩
        have h0 := hz.mp q.2
        exact absurd (b1.mpr (by omega)) z1
    · rw [if_neg z0, if_neg (by decide)]
      have hn : ¬ bareR (R k) c := fun q => by
        have h0 := hz.mp q.2
        exact absurd (b0.mpr (by omega)) z0
      refine ⟨fun q => ?_, fun q => absurd q hn⟩
      split at q <;> exact absurd q (by decide)
  · rw [if_neg d, if_neg (by decide)]
    exact ⟨fun q => absurd q (by decide), fun q => absurd q.1 d⟩
/-- the reason against a dam is one, and the row stays -/
theorem sG_damReason {P : Prop} {M R : bM} {g k c : Nat} (hk : k ≠ 7) (hg23 : g + 10 ≤ 23) (hb : besR M) (hs : sG P M g (R k)) (hg : gR (R k)) (hD : gD (R k)) (h1 : R k 1 = 1) (hc : c < 64) :
    (f_X0_reasonAgainstDam M g (nI c)).1 = (f_X7_damReason R k (nI c)).1 ∧ ∀ a, a ≠ 25 → a ≠ 26 → a ≠ 28 → a ≠ 29 → (f_X0_reasonAgainstDam M g (nI c)).2 a = M a := by
  have hco := content_0 hs hc
  have hba := isBare_iff (M := R) (k := k) hc
  have hf := fun p hp => heads_free (v := 0) hs hg (phI_4 hg h1) hc p hp
  rw [u_f_X0_reasonAgainstDam, u_f_X7_damReason]
  dsimp only
  by_cases b : bareR (R k) c
  · rw [if_pos (hco.mpr b), if_neg (fun z => hba.mp z b)]
    obtain ⟨p, h, hp, hh, e2, eS, eH, eR⟩ := target hs hg
    rw [eS, e2, show f_X7_of R k (nI p) 1 = R k (10 + 5 * p + 1) from of_at (w := 1) hp (by decide)]
    have h5 : M (g + 1 + 4 * p) 5 = R k (10 + 5 * p + 1) := by
      rcases (by omega : p = 0 ∨ p = 1) with rfl | rfl
      · rw [show g + 1 + 4 * 0 = g + 1 by omega, ← gv_11 M g]; exact (hs.1.1 11 (by omega) (by omega)).symm
      · rw [show g + 1 + 4 * 1 = g + 5 by omega, ← gv_16 M g]; exact (hs.1.1 16 (by omega) (by omega)).symm
    have hin : ∃ n, n < 4 ∧ R k (10 + 5 * p + 1) = nI n := by
      rcases (by omega : p = 0 ∨ p = 1) with rfl | rfl
      · exact vp_in_of hD.1 (by decide)
      · exact vp_in_of hD.2 (by decide)
    obtain ⟨n, hn, en⟩ := hin
    rw [h5, en]
    by_cases c3 : n < 3
    · rw [if_pos (show nI n < 3 from (nI_ltI (a := n) (b := 3) (by omega) (by decide)).mpr c3), if_neg (show ¬ nI n = 3 from fun q => by have := nI_inj (a := n) (b := 3) (by omega) (by decide) q; omega)]
      obtain ⟨s0, a0, a1, a2, a3, a4⟩ := hf 0 (by decide)
      obtain ⟨s1, b0, b1, b2, b3, b4⟩ := hf 1 (by decide)
      obtain ⟨x1, x2, x3⟩ := shut_ok (p := 0) hg23 (by decide) hc a0 hb hs a1
      rw [show (nI 0 : Int32) = 0 from rfl] at x1 x2 x3
      generalize hZ : f_X5_isShutIn M g 0 (nI c) = Z at *
      have hs2 : sG P Z.2 g (R k) := sG_row (fun x q1 q2 => x1 x (by omega) (by omega) (by omega) (by omega)) hs
      have hh2 : f_X2_head Z.2 (g + 1 + 4 * 1) = nI s1 := by rw [headX_c (x1 _ (by omega) (by omega) (by omega) (by omega)) (x1 _ (by omega) (by omega) (by omega) (by omega))]; exact b1
      obtain ⟨y1, y2, y3⟩ := shut_ok (p := 1) hg23 (by decide) hc b0 (fun i hi => by rw [x1 24 (by decide) (by decide) (by decide) (by decide)]; exact hb i hi) hs2 hh2
      have er : up2 R k (148 + c) 0 k = upd (R k) (148 + c) 0 := up2_upd
      rw [idxK 148 (by omega)]
      obtain ⟨w1, w2, w3⟩ := isOpen_ok (M := up2 R k (148 + c) 0) (p := 0) hk (by decide) a0 a3 (by rw [er, rv_upd hc a0]; exact a4)
      rw [show (nI 0 : Int32) = 0 from rfl] at w1 w2 w3
      rw [er] at w3
      generalize hO : f_X7_isOpen (up2 R k (148 + c) 0) k 0 = O at *
      have er2 : O.2 k = upd (R k) (148 + c) 0 := (w1 k hk).trans er
      obtain ⟨v1, v2, v3⟩ := isOpen_ok (M := O.2) (p := 1) hk (by decide) b0 ((head7_c (w1 k hk)).trans b3) (by rw [er2, rv_upd hc b0]; exact b4)
      rw [er2] at v3
      rw [show (nI 1 : Int32) = 1 from rfl] at y1 y2 y3 v1 v2 v3
      have k1 : Z.1 = 0 ↔ ¬ O.1 = 0 := x3.trans w3.symm
      have k2 : (f_X5_isShutIn Z.2 g 1 (nI c)).1 = 0 ↔ ¬ (f_X7_isOpen O.2 k 1).1 = 0 := y3.trans v3.symm
      by_cases d1 : Z.1 = 0
      · rw [if_pos d1, if_neg (k1.mp d1)]
        by_cases d2 : (f_X5_isShutIn Z.2 g 1 (nI c)).1 = 0
        · rw [if_pos d2, if_neg (k2.mp d2)]
          exact ⟨rfl, fun a q1 q2 q3 q4 => (y1 a q1 q2 q3 q4).trans (x1 a q1 q2 q3 q4)⟩
        · rw [if_neg d2, if_pos (Classical.byContradiction (fun z => d2 (k2.mpr z)))]
          exact ⟨rfl, fun a q1 q2 q3 q4 => (y1 a q1 q2 q3 q4).trans (x1 a q1 q2 q3 q4)⟩
      · rw [if_neg d1, if_pos (Classical.byContradiction (fun z => d1 (k1.mpr z)))]
        exact ⟨rfl, x1⟩
    · rw [if_neg (show ¬ nI n < 3 from fun q => c3 ((nI_ltI (a := n) (b := 3) (by omega) (by decide)).mp q)), if_pos (show nI n = 3 from by rw [show n = 3 by omega]; rfl)]
      exact ⟨rfl, fun _ _ _ _ _ => rfl⟩
  · rw [if_neg (fun z => b (hco.mp z)), if_pos (hba.mpr b)]
    exact ⟨rfl, fun _ _ _ _ _ => rfl⟩
/-! THE DAM on both sides -/
theorem damReason_03 {R : bM} {k : Nat} {x : Int32} : (f_X7_damReason R k x).1 = 0 ∨ (f_X7_damReason R k x).1 = 1 ∨ (f_X7_damReason R k x).1 = 2 ∨ (f_X7_damReason R k x).1 = 3 := by
  rw [u_f_X7_damReason]
  dsimp only
  split
  · exact Or.inr (Or.inl rfl)
  · split
    · exact Or.inr (Or.inr (Or.inl rfl))
    · split
      · exact Or.inr (Or.inr (Or.inr rfl))
      · split
        · exact Or.inr (Or.inr (Or.inr rfl))
        · exact Or.inl rfl
theorem damReason_le {R : bM} {k : Nat} {x : Int32} : (f_X7_damReason R k x).1 ≤ 0 ↔ (f_X7_damReason R k x).1 = 0 := by
  rcases damReason_03 (R := R) (k := k) (x := x) with h | h | h | h <;> rw [h] <;> decide
/-- what damOn lays when it builds -/
theorem dam_row {R Z : bM} {k c p : Nat} (hp : p < 2) (hz : Z k = R k) (e2 : R k 2 = nI p) : f_X7_add (up2 Z k (148 + c) 0) k (up2 Z k (148 + c) 0 k 2) 1 1 k = upd (upd (R k) (148 + c) 0) (10 + 5 * p + 1) (R k (10 + 5 * p + 1) + 1) := by
  rw [show up2 Z k (148 + c) 0 k 2 = nI p from by rw [up2_at, if_neg (by omega), hz]; exact e2, show f_X7_add (up2 Z k (148 + c) 0) k (nI p) 1 1 = up2 (up2 Z k (148 + c) 0) k (10 + 5 * p + 1) (up2 Z k (148 + c) 0 k (10 + 5 * p + 1) + 1) from add_at (w := 1) hp (by decide), up2_upd, up2_upd, hz, show upd (R k) (148 + c) 0 (10 + 5 * p + 1) = R k (10 + 5 * p + 1) from by unfold upd; rw [if_neg (by omega)]]
theorem build_ok {P : Prop} {M R Z : bM} {g k c : Nat} (hs : sG P M g (R k)) (hg : gR (R k)) (hc : c < 64) (hz : Z k = R k) :
    sG P (f_X0_buildDam M g (nI c)) g (f_X7_turnEnds (f_X7_add (up2 Z k (148 + c) 0) k (up2 Z k (148 + c) 0 k 2) 1 1) k k) := by
  obtain ⟨m, a, b, h0, h1, hm, n3, n2, _⟩ := gR_nums hg
  obtain ⟨p, h, hp, hh, e2, eS, eH, eR⟩ := target hs hg
  rw [u_f_X0_buildDam, fits_nI hc]
  dsimp only
  rw [if_neg (by decide), nI_clamp (by omega)]
  have s1 : sG P (up2 M (g + 9) c 0) g (upd (R k) (148 + c) 0) := sG_w hs (gw_dam hc) (by omega) (by omega) (by omega) (by omega) (by omega) (by omega) (by omega)
  have eS' : f_X0_sideOf (up2 M (g + 9) c 0) g (up2 M (g + 9) c 0 g 7) = g + 1 + 4 * p := by
    rw [up2_row (show g ≠ g + 9 by omega), sG_turn hs, e2]; exact side_nI hp
  rw [eS']
  have s2 : sG P (up2 (up2 M (g + 9) c 0) (g + 1 + 4 * p) 5 (up2 M (g + 9) c 0 (g + 1 + 4 * p) 5 + 1)) g (upd (upd (R k) (148 + c) 0) (10 + 5 * p + 1) (R k (10 + 5 * p + 1) + 1)) := by
    rw [up2_row (show g + 1 + 4 * p ≠ g + 9 by omega)]
    rcases (by omega : p = 0 ∨ p = 1) with rfl | rfl
    · rw [show g + 1 + 4 * 0 = g + 1 by omega, show M (g + 1) 5 = R k 11 from by rw [← gv_11 M g]; exact (hs.1.1 11 (by omega) (by omega)).symm]
      exact sG_w s1 gw_b0 (by omega) (by omega) (by omega) (by omega) (by omega) (by omega) (by omega)
    · rw [show g + 1 + 4 * 1 = g + 5 by omega, show M (g + 5) 5 = R k 16 from by rw [← gv_16 M g]; exact (hs.1.1 16 (by omega) (by omega)).symm]
      exact sG_w s1 gw_b1 (by omega) (by omega) (by omega) (by omega) (by omega) (by omega) (by omega)
  rw [← dam_row hp hz e2] at s2
  refine sG_te s2 (m := m) ?_ hm
  rw [dam_row hp hz e2]
  unfold upd
  rw [if_neg (by omega), if_neg (by omega)]; exact n3
/-- a dam that is tried -/
theorem sG_tryDam {P : Prop} {M R : bM} {g k c : Nat} (q : P) (hk : k ≠ 7) (hg23 : g + 10 ≤ 23) (hb : besR M) (hs : sG P M g (R k)) (hg : gR (R k)) (hD : gD (R k)) (h1 : R k 1 = 1) (hc : c < 64) :
    (f_X0_tryDam M g (nI c)).1 = (f_X7_damOn R k (nI c)).1 ∧ sG P (f_X0_tryDam M g (nI c)).2 g ((f_X7_damOn R k (nI c)).2 k) := by
  obtain ⟨r1, r2⟩ := sG_damReason hk hg23 hb hs hg hD h1 hc
  obtain ⟨hrow, _⟩ := damReason_row (M := R) hk hc
  have hle := damReason_le (R := R) (k := k) (x := nI c)
  rw [u_f_X0_tryDam, u_f_X7_damOn]
  dsimp only
  rw [r1]
  have hs' : sG P (f_X0_reasonAgainstDam M g (nI c)).2 g (R k) := sG_row (fun x q1 q2 => r2 x (by omega) (by omega) (by omega) (by omega)) hs
  generalize f_X0_reasonAgainstDam M g (nI c) = A at *
  generalize f_X7_damReason R k (nI c) = Z at *
  by_cases c1 : Z.1 = 0
  · rw [if_pos c1, if_pos (hle.mpr c1), idxK 148 (by omega)]
    exact ⟨c1, build_ok hs' hg hc hrow⟩
  · rw [if_neg c1, if_neg (fun z => c1 (hle.mp z))]
    refine ⟨rfl, ?_⟩
    dsimp only
    rw [up2_upd, hrow]
    exact sG_refuse q hs'
/-- a dam where it is possible -/
theorem sG_dip {P : Prop} {M R : bM} {g k c : Nat} (hk : k ≠ 7) (hg23 : g + 10 ≤ 23) (hb : besR M) (hs : sG P M g (R k)) (hg : gR (R k)) (hD : gD (R k)) (hc : c < 64) :
    (R k 1 = 1 ∧ (f_X7_damReason R k (nI c)).1 = 0 → (f_X0_damIfPossible M g (nI c)).1 = 1 ∧ (f_X7_damOn R k (nI c)).1 = 0 ∧ sG P (f_X0_damIfPossible M g (nI c)).2 g ((f_X7_damOn R k (nI c)).2 k)) ∧
    (¬ (R k 1 = 1 ∧ (f_X7_damReason R k (nI c)).1 = 0) → (f_X0_damIfPossible M g (nI c)).1 = 0 ∧ sG P (f_X0_damIfPossible M g (nI c)).2 g (R k)) := by
  have ho := sG_over hs
  have hle := damReason_le (R := R) (k := k) (x := nI c)
  obtain ⟨hrow, _⟩ := damReason_row (M := R) hk hc
  rw [u_f_X0_damIfPossible, fits_nI hc, if_neg (by decide)]
  dsimp only
  by_cases h1 : R k 1 = 1
  · obtain ⟨r1, r2⟩ := sG_damReason hk hg23 hb hs hg hD h1 hc
    rw [if_pos (ho.mpr h1), r1, u_f_X7_damOn]
    dsimp only
    have hs' : sG P (f_X0_reasonAgainstDam M g (nI c)).2 g (R k) := sG_row (fun x q1 q2 => r2 x (by omega) (by omega) (by omega) (by omega)) hs
    generalize f_X0_reasonAgainstDam M g (nI c) = A at *
    generalize f_X7_damReason R k (nI c) = Z at *
    by_cases c1 : Z.1 = 0
    · rw [if_pos c1, if_pos (hle.mpr c1), idxK 148 (by omega)]
      exact ⟨fun _ => ⟨rfl, rfl, build_ok hs' hg hc hrow⟩, fun z => absurd ⟨h1, c1⟩ z⟩
    · rw [if_neg c1]
      exact ⟨fun z => absurd z.2 c1, fun _ => ⟨rfl, hs'⟩⟩
  · rw [if_neg (fun z => h1 (ho.mp z))]
    exact ⟨fun z => absurd z.1 h1, fun _ => ⟨rfl, hs⟩⟩
/-! built dams stay three at most -/
theorem gD_eq {r r' : Nat → Int32} (h : gD r) (h1 : r' 11 = r 11) (h2 : r' 16 = r 16) : gD r' := ⟨by rw [h1]; exact h.1, by rw [h2]; exact h.2⟩
theorem teR_ne {r : Nat → Int32} {j : Nat} (h1 : 3 < j) (h2 : ¬ (148 ≤ j ∧ j < 212)) : teR r j = r j := by
  unfold teR
  rw [if_neg (show ¬ j = 1 by omega), if_neg (show ¬ j = 2 by omega), if_neg (show ¬ j = 3 by omega), if_neg h2]
theorem gD_te {R : bM} {k : Nat} (h : gD (R k)) : gD (f_X7_turnEnds R k k) := by
  rw [te_row]; exact gD_eq h (teR_ne (by decide) (by decide)) (teR_ne (by decide) (by decide))
theorem gD_damOn {R : bM} {k c : Nat} (hk : k ≠ 7) (hc : c < 64) (hg : gR (R k)) (h : gD (R k)) : gD ((f_X7_damOn R k (nI c)).2 k) := by
  obtain ⟨hrow, _⟩ := damReason_row (M := R) hk hc
  obtain ⟨m, a, b, h0, h1, hm, n3, n2, _⟩ := gR_nums hg
  have hp : m % 2 < 2 := Nat.mod_lt m (by decide)
  have h3 : (f_X7_damReason R k (nI c)).1 = 0 → ¬ R k (10 + 5 * (m % 2) + 1) = 3 := by
    intro q z
    rw [u_f_X7_damReason, n2, show f_X7_of R k (nI (m % 2)) 1 = R k (10 + 5 * (m % 2) + 1) from of_at (w := 1) hp (by decide)] at q
    dsimp only at q
    by_cases c1 : f_X7_isBare R k (nI c) = 0
    · rw [if_pos c1] at q; exact absurd q (show ¬ (1 : Int32) = 0 by decide)
    · rw [if_neg c1, if_pos z] at q; exact absurd q (show ¬ (2 : Int32) = 0 by decide)
  have hle := damReason_le (R := R) (k := k) (x := nI c)
  rw [u_f_X7_damOn]
  dsimp only
  generalize f_X7_damReason R k (nI c) = Z at *
  by_cases c1 : Z.1 ≤ 0
  · rw [if_pos c1, idxK 148 (by omega)]
    refine gD_te ?_
    rw [dam_row hp hrow n2]
    have hx : ∀ j, j ≠ 148 + c → ∀ i, j ≠ i → ∀ v, upd (upd (R k) (148 + c) 0) i v j = R k j := fun j q1 i q2 v => by
      unfold upd; rw [if_neg q2, if_neg q1]
    have h3' := h3 (hle.mp c1)
    have hin : ∀ x : Int32, vp_in x 4 → ¬ x = 3 → vp_in (x + 1) 4 := by
      intro x q z
      obtain ⟨n, hn, rfl⟩ := vp_in_of q (by decide)
      rw [nI_1]
      exact vp_in_nI (by have : n ≠ 3 := fun e => z (by rw [e]; rfl); omega) (by decide)
    rcases (by omega : m % 2 = 0 ∨ m % 2 = 1) with e | e <;> rw [e] at h3' ⊢
    · refine ⟨?_, by rw [hx 16 (by omega) _ (by omega)]; exact h.2⟩
      rw [show upd (upd (R k) (148 + c) 0) (10 + 5 * 0 + 1) (R k (10 + 5 * 0 + 1) + 1) 11 = R k 11 + 1 from by unfold upd; rw [if_pos (by decide)]]
      exact hin _ h.1 h3'
    · refine ⟨by rw [hx 11 (by omega) _ (by omega)]; exact h.1, ?_⟩
      rw [show upd (upd (R k) (148 + c) 0) (10 + 5 * 1 + 1) (R k (10 + 5 * 1 + 1) + 1) 16 = R k 16 + 1 from by unfold upd; rw [if_pos (by decide)]]
      exact hin _ h.2 h3'
  · rw [if_neg c1]
    dsimp only
    rw [up2_upd, hrow]
    exact gD_eq h (by unfold upd; rw [if_neg (by decide)]) (by unfold upd; rw [if_neg (by decide)])
