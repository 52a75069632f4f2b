/-! WHAT BUILDS ASKS -/
theorem dmr {R : bM} {k c p : Nat} (hc : c < 64) (hp : p < 2) (e2 : R k 2 = nI p) : ((f_X7_damReason R k (nI c)).1 = 1 ↔ ¬ bareR (R k) c) ∧ ((f_X7_damReason R k (nI c)).1 = 2 → R k (11 + 5 * p) = 3) := by
  have hi := isBare_iff (M := R) (k := k) hc
  have hof : f_X7_of R k (nI p) 1 = R k (10 + 5 * p + 1) := of_at (w := 1) hp (by decide)
  rw [u_f_X7_damReason]
  dsimp only
  rw [e2, hof, show 10 + 5 * p + 1 = 11 + 5 * p by omega]
  by_cases c1 : f_X7_isBare R k (nI c) = 0
  · rw [if_pos c1]
    exact ⟨⟨fun _ => hi.mp c1, fun _ => rfl⟩, fun z => absurd z (show ¬ (1 : Int32) = 2 by decide)⟩
  rw [if_neg c1]
  have hb : ¬ ¬ bareR (R k) c := fun q => c1 (hi.mpr q)
  by_cases c2 : R k (11 + 5 * p) = 3
  · rw [if_pos c2]
    exact ⟨⟨fun z => absurd z (show ¬ (2 : Int32) = 1 by decide), fun z => absurd z hb⟩, fun _ => c2⟩
  rw [if_neg c2]
  have no (v : Int32) (h1 : ¬ v = 1) (h2 : ¬ v = 2) : (v = 1 ↔ ¬ bareR (R k) c) ∧ (v = 2 → R k (11 + 5 * p) = 3) := ⟨⟨fun z => absurd z h1, fun z => absurd z hb⟩, fun z => absurd z h2⟩
  by_cases c3 : (f_X7_isOpen (up2 R k ((148 : Int32) + nI c).toNatClampNeg 0) k 0).1 = 0
  · rw [if_pos c3]; exact no 3 (by decide) (by decide)
  rw [if_neg c3]
  by_cases c4 : (f_X7_isOpen (f_X7_isOpen (up2 R k ((148 : Int32) + nI c).toNatClampNeg 0) k 0).2 k 1).1 = 0
  · rw [if_pos c4]; exact no 3 (by decide) (by decide)
  · rw [if_neg c4]; exact no 0 (by decide) (by decide)
theorem dmr_same {M : bM} {S : aT} {c : Nat} (hs : sS M (mkR S)) (h1 : S.1 1 = 1) (hc : c < 64) : (f_X7_damReason (f_X7_remember (up2 (mkR S) 0 0 0)) 2 (nI c)).1 = dsn S c := by
  obtain ⟨⟨s1, s2, s3⟩, _, _, _, hb⟩ := hs
  have r2 : f_X7_remember (up2 (mkR S) 0 0 0) 2 = mkR S 2 := rem_2
  have u2 : up2 (mkR S) 0 0 0 2 = mkR S 2 := up2_row (by decide)
  have a1 := (sG_damReason (M := M) (R := up2 (mkR S) 0 0 0) (g := 3) (k := 2) (c := c) (P := True) (by decide) (by decide) hb (by rw [u2]; exact s1) (by rw [u2]; exact s2) (by rw [u2]; exact s3) (by rw [u2]; exact h1) hc).1
  have a2 := (sG_damReason (M := M) (R := f_X7_remember (up2 (mkR S) 0 0 0)) (g := 3) (k := 2) (c := c) (P := True) (by decide) (by decide) hb (by rw [r2]; exact s1) (by rw [r2]; exact s2) (by rw [r2]; exact s3) (by rw [r2]; exact h1) hc).1
  exact a2.symm.trans a1
theorem not_thr : ∀ n : Fin 16, ¬ thr (nI n.val) := by decide +kernel
theorem tu_nxt {S : aT} {r : Nat → Int32} : tF 11 (nxt S r) 0 0 = cuS S 13 := rfl
theorem au_some {S : aT} {x : Nat → Int32} {L : List (Nat → Int32)} (h : S.2.1 = x :: L) (hl : L.length ≤ 14) : ¬ thr (aF 11 S 0 0 0) := by
  have h6 : mkR S 0 6 = nI (L.length + 1) := by rw [mkR_0, if_pos rfl, h]; rfl
  have e : aF 11 S 0 0 0 = nI L.length := by
    rw [aF_11, u_f_X7_undo]
    dsimp only
    rw [ref_e, ref_e, h6, if_neg (show ¬ nI (L.length + 1) = 0 from fun q => absurd (nI_inj (a := L.length + 1) (b := 0) (by omega) (by decide) q) (by omega))]
    have hk : ∀ (M : bM) (n : Nat) (y z : Int32) (i : Nat), f_X7_copyState M 4 n y 2 404 z 0 i = M 0 i := fun M n y z i => by rw [fr_X7_copyState M 4 n y 2 404 z 0 (by decide)]
    have e6 : up2 (up2 (mkR S) 0 0 0) 0 6 (up2 (mkR S) 0 0 0 0 6 - 1) 0 6 = nI L.length := by
      rw [up2_at, if_pos rfl, up2_at, if_neg (by decide), h6, show (1 : Int32) = nI 1 from rfl, pk_sub (by omega), Nat.add_sub_cancel]
    refine (cod_00 ?_).trans ?_
    · rw [hk, up2_at, if_neg (by decide)]
      exact ref_00
    · rw [hk]; exact e6
  rw [e]
  exact not_thr ⟨L.length, by omega⟩
theorem bdF_of {V x y P : Nat} {M : bM} {S : aT} (g : gI V S) (hs : sS M (mkR S)) (hP : P < 2) (e2 : S.1 2 = nI P) (h1 : S.1 1 = 1) (hx : x < 8) (hy : y < 8) : bdF S P (nI x) (nI y) := by
  have hc : 8 * y + x < 64 := by omega
  obtain ⟨d1, d2⟩ := a_da (c := 0) g.1 hx hy h1
  have r2 : remM S 2 = S.1 := rem_row
  obtain ⟨w1, w2⟩ := damOn_row (R := remM S) (k := 2) (by decide) hc hP (by rw [r2]; exact e2)
  have ds : (f_X7_damReason (remM S) 2 (nI (8 * y + x))).1 = dsn S (8 * y + x) := dmr_same hs h1 hc
  have h03 := damReason_03 (R := up2 (mkR S) 0 0 0) (k := 2) (x := nI (8 * y + x))
  have hd := dmr (R := up2 (mkR S) 0 0 0) (k := 2) (p := P) hc hP (by rw [m2]; exact e2)
  rw [m2] at hd
  have hw : aF 13 S (nI x) (nI y) 0 = dsn S (8 * y + x) := by rw [a_wd hx hy, if_pos h1]
  rw [ds] at w1 w2
  rw [r2] at w2
  rw [w1] at d1
  rw [w2] at d2
  have hm : aF 4 S (nI x) (nI y) 2 = 0 ↔ bareR S.1 (8 * y + x) := by
    rw [a_ce2 hx hy]
    by_cases q : S.1 (148 + (8 * y + x)) = -1
    · rw [if_pos q]; exact ⟨fun z => ⟨q, z⟩, fun z => z.2⟩
    · rw [if_neg q]; exact ⟨fun z => absurd z (by decide), fun z => absurd z.1 q⟩
  obtain ⟨l, l1, l2, l8⟩ := g.2.1.2.2.1
  have e6 : aF 6 S 0 0 0 = S.1 8 := a_se (p := 0) (by decide)
  have hl13 : (S.2.1.take 13).length ≤ 14 := by rw [List.length_take]; omega
  unfold bdF
  rw [hw, d1, d2, e6]
  have h03 : dsn S (8 * y + x) = 0 ∨ dsn S (8 * y + x) = 1 ∨ dsn S (8 * y + x) = 2 ∨ dsn S (8 * y + x) = 3 := h03
  have hd : (dsn S (8 * y + x) = 1 ↔ ¬ bareR S.1 (8 * y + x)) ∧ (dsn S (8 * y + x) = 2 → S.1 (11 + 5 * P) = 3) := hd
  generalize dsn S (8 * y + x) = w at *
  refine ⟨hd.1.trans (not_congr hm).symm, fun z => (a_pl3 hP).trans (hd.2 z), rfl, ?_, ?_, ?_, au_some (x := S.1) (L := S.2.1.take 13) rfl hl13, tu_nxt⟩
  · rw [a_pl3 hP, a_pl3 hP]
    show (if w = 0 then dmR S.1 P (8 * y + x) else upd S.1 6 (S.1 6 + 1)) (11 + 5 * P) = _
    by_cases q : w = 0
    · rw [if_pos q, if_pos q]
      unfold dmR
      rw [teR_ne (by omega) (by omega), show 11 + 5 * P = 10 + 5 * P + 1 by omega, upd_eq]
    · rw [if_neg q, if_neg q, upd_ne (by omega), Int32.add_zero]
  · rw [a_ab7, a_ab7]
    show (if w = 0 then dmR S.1 P (8 * y + x) else upd S.1 6 (S.1 6 + 1)) 6 = _
    by_cases q : w = 0
    · rw [if_pos q, if_pos q]
      unfold dmR
      rw [teR_ne (by omega) (by omega), upd_ne (by omega), upd_ne (by omega), Int32.add_zero]
    · rw [if_neg q, if_neg q, upd_eq]
  · intro z
    have q : w = 0 := by
      rcases h03 with e | e | e | e
      · exact e
      · exact absurd (by rw [e]; decide) z
      · exact absurd (by rw [e]; decide) z
      · exact absurd (by rw [e]; decide) z
    rw [a_ce3 hx hy]
    show (if w = 0 then dmR S.1 P (8 * y + x) else upd S.1 6 (S.1 6 + 1)) (148 + (8 * y + x)) = _
    rw [if_pos q]
    show teR _ (148 + (8 * y + x)) = _
    unfold teR
    rw [if_neg (by omega), if_neg (by omega), if_neg (by omega), if_pos (by omega), upd_ne (by omega), upd_eq, upd_ne (by omega), upd_ne (by omega), l8]
    unfold ageI
    rw [if_neg (show ¬ (0 : Int32) = -1 by decide)]
    by_cases e : l = 1
    · subst e
      rw [if_neg (show ¬ (0 : Int32) + 1 < nI 1 by decide), if_pos (show nI 1 = 1 from rfl)]
    · rw [if_pos (show (0 : Int32) + 1 < nI l from (nI_ltI (a := 1) (b := l) (by decide) (by omega)).mpr (by omega)), if_neg (show ¬ nI l = 1 from fun z => e (nI_inj (a := l) (b := 1) (by omega) (by decide) z))]
      rfl
