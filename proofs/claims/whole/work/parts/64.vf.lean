/-! THE TEXT: where it is wrong, on both sides -/
theorem no_tf {P : Prop} (h : true = false) : P := by cases h
theorem no_ft {P : Prop} (h : false = true) : P := by cases h
abbrev txA (R : bM) (t : Nat → Nat) (z : Nat) : Prop := z ≤ 120 ∧ R 0 2 = nI z ∧ ∀ i, i < z → R 1 i = nI (t i) ∧ t i < 256
abbrev txC (M : bM) (t : Nat → Nat) (z : Nat) : Prop := z ≤ 120 ∧ M 1 1 = nI z ∧ ∀ i, i < z → M 2 i = nI (t i) ∧ t i < 256
def nx (t : Nat → Nat) (z p lo hi : Nat) (k : Bool × Nat) : Bool × Nat := if p < z then (if lo ≤ t p ∧ t p ≤ hi then k else (true, p)) else (true, z)
def ckT (t : Nat → Nat) (z s : Nat) : Bool × Nat :=
  if t s = 98 then (false, s + 1) else if t s = 100 then nx t z (s + 1) 48 55 (nx t z (s + 2) 48 55 (false, s + 3)) else if t s = 101 then (false, s + 1) else if t s = 102 then (false, s + 1) else
  if t s = 110 then nx t z (s + 1) 48 57 (nx t z (s + 2) 48 57 (false, s + 3)) else if t s = 115 then (false, s + 1) else
  if t s = 118 then nx t z (s + 1) 48 49 (nx t z (s + 2) 48 52 (nx t z (s + 3) (if t (s + 2) = 48 then 49 else 48) (if t (s + 2) = 52 then 48 else 57) (false, s + 4))) else if t s = 119 then (false, s + 1) else (true, s)
theorem ck98 {t : Nat → Nat} {z s : Nat} (c : t s = 98) : ckT t z s = (false, s + 1) := by
  unfold ckT
  rw [if_pos c]
theorem ck100 {t : Nat → Nat} {z s : Nat} (c : t s = 100) : ckT t z s = nx t z (s + 1) 48 55 (nx t z (s + 2) 48 55 (false, s + 3)) := by
  unfold ckT
  rw [if_neg (show ¬ t s = 98 by omega), if_pos c]
theorem ck101 {t : Nat → Nat} {z s : Nat} (c : t s = 101) : ckT t z s = (false, s + 1) := by
  unfold ckT
  rw [if_neg (show ¬ t s = 98 by omega), if_neg (show ¬ t s = 100 by omega), if_pos c]
theorem ck102 {t : Nat → Nat} {z s : Nat} (c : t s = 102) : ckT t z s = (false, s + 1) := by
  unfold ckT
  rw [if_neg (show ¬ t s = 98 by omega), if_neg (show ¬ t s = 100 by omega), if_neg (show ¬ t s = 101 by omega), if_pos c]
theorem ck110 {t : Nat → Nat} {z s : Nat} (c : t s = 110) : ckT t z s = nx t z (s + 1) 48 57 (nx t z (s + 2) 48 57 (false, s + 3)) := by
  unfold ckT
  rw [if_neg (show ¬ t s = 98 by omega), if_neg (show ¬ t s = 100 by omega), if_neg (show ¬ t s = 101 by omega), if_neg (show ¬ t s = 102 by omega), if_pos c]
theorem ck115 {t : Nat → Nat} {z s : Nat} (c : t s = 115) : ckT t z s = (false, s + 1) := by
  unfold ckT
  rw [if_neg (show ¬ t s = 98 by omega), if_neg (show ¬ t s = 100 by omega), if_neg (show ¬ t s = 101 by omega), if_neg (show ¬ t s = 102 by omega), if_neg (show ¬ t s = 110 by omega), if_pos c]
theorem ck118 {t : Nat → Nat} {z s : Nat} (c : t s = 118) : ckT t z s = nx t z (s + 1) 48 49 (nx t z (s + 2) 48 52 (nx t z (s + 3) (if t (s + 2) = 48 then 49 else 48) (if t (s + 2) = 52 then 48 else 57) (false, s + 4))) := by
  unfold ckT
  rw [if_neg (show ¬ t s = 98 by omega), if_neg (show ¬ t s = 100 by omega), if_neg (show ¬ t s = 101 by omega), if_neg (show ¬ t s = 102 by omega), if_neg (show ¬ t s = 110 by omega), if_neg (show ¬ t s = 115 by omega), if_pos c]
theorem ck119 {t : Nat → Nat} {z s : Nat} (c : t s = 119) : ckT t z s = (false, s + 1) := by
  unfold ckT
  rw [if_neg (show ¬ t s = 98 by omega), if_neg (show ¬ t s = 100 by omega), if_neg (show ¬ t s = 101 by omega), if_neg (show ¬ t s = 102 by omega), if_neg (show ¬ t s = 110 by omega), if_neg (show ¬ t s = 115 by omega), if_neg (show ¬ t s = 118 by omega), if_pos c]
theorem nx_f {t : Nat → Nat} {z p lo hi : Nat} {k : Bool × Nat} (h : (nx t z p lo hi k).1 = false) : p < z ∧ lo ≤ t p ∧ t p ≤ hi ∧ nx t z p lo hi k = k := by
  unfold nx at h ⊢
  by_cases c : p < z
  · rw [if_pos c] at h ⊢
    by_cases d : lo ≤ t p ∧ t p ≤ hi
    · rw [if_pos d]; exact ⟨c, d.1, d.2, rfl⟩
    · rw [if_neg d] at h; exact no_tf h
  · rw [if_neg c] at h; exact no_tf h
theorem signAt_in {M : bM} {t : Nat → Nat} {z p : Nat} (h : txC M t z) (hp : p < z) : f_X4_signAt M (nI p) = nI (t p) := by
  obtain ⟨h1, h2, h3⟩ := h
  rw [u_f_X4_signAt, h2, if_neg (nI_pos (by omega)), if_neg (nI_ge hp (by omega)), if_neg (show ¬ (120 : Int32) ≤ nI p from nI_ge (a := p) (b := 120) (by omega) (by decide)), nI_clamp (by omega)]
  exact (h3 p hp).1
theorem signAt_out {M : bM} {t : Nat → Nat} {z p : Nat} (h : txC M t z) (hp : z ≤ p) (hp2 : p < 1000) : f_X4_signAt M (nI p) = 0 := by
  obtain ⟨h1, h2, h3⟩ := h
  rw [u_f_X4_signAt, h2, if_neg (nI_pos (by omega)), if_pos (nI_le hp (by omega))]
theorem dig_in {M : bM} {t : Nat → Nat} {z p : Nat} (h : txC M t z) (hp : p < z) : f_X4_digitAt M (nI p) = nI (t p) - 48 := by
  rw [u_f_X4_digitAt]
  dsimp only
  rw [signAt_in h hp]
theorem dig_v {v : Nat} (h : 48 ≤ v) : nI v - 48 = nI (v - 48) := by rw [show (48 : Int32) = nI 48 from rfl, pk_sub h]
theorem dig_neg {v : Nat} (h : v < 48) : nI v - 48 < 0 := by rw [show (48 : Int32) = nI 48 from rfl]; exact pk_sneg (by decide) h
/-- what isDigitAllowed says: the digit's own range, then the command's -/
theorem isDA {M : bM} {t : Nat → Nat} {z s o : Nat} (h : txC M t z) (hs : s < z) (ho : s + o < z) :
    f_X4_isDigitAllowed M (nI s) (nI o) = if t (s + o) < 48 then 0 else if 57 < t (s + o) then 0 else if t s = 100 then (if 55 < t (s + o) then 0 else 1) else if t s = 110 then 1 else if t s = 118 then f_X4_isDigitOfSetting (nI o) (nI (t (s + o) - 48)) (f_X4_digitAt M (nI (s + o) - 1)) else 0 := by
  have h256 := (h.2.2 (s + o) ho).2
  have hs256 := (h.2.2 s hs).2
  have hq : ∀ c : Nat, c < 256 → (nI (t s) = nI c ↔ t s = c) := fun c hc => nI_eq (by omega) (by omega)
  rw [u_f_X4_isDigitAllowed, nI_add, dig_in h ho, signAt_in h hs]
  dsimp only
  by_cases c1 : t (s + o) < 48
  · rw [if_pos c1, if_pos (dig_neg c1)]
  · rw [if_neg c1, dig_v (by omega), if_neg (nI_pos (by omega))]
    by_cases c2 : 57 < t (s + o)
    · rw [if_pos c2, if_neg (show ¬ nI (t (s + o) - 48) ≤ 9 from fun q => by have := (nI_leI (b := 9) (by omega) (by decide)).mp q; omega)]
    · rw [if_neg c2, if_pos (show nI (t (s + o) - 48) ≤ 9 from (nI_leI (b := 9) (by omega) (by decide)).mpr (by omega))]
      by_cases c3 : t s = 100
      · rw [if_pos c3, if_pos (show nI (t s) = 100 from (hq 100 (by decide)).mpr c3)]
        by_cases c4 : 55 < t (s + o)
        · rw [if_pos c4, if_pos (show (8 : Int32) ≤ nI (t (s + o) - 48) from (nI_leI (a := 8) (by decide) (by omega)).mpr (by omega))]
        · rw [if_neg c4, if_neg (show ¬ (8 : Int32) ≤ nI (t (s + o) - 48) from fun q => by have := (nI_leI (a := 8) (by decide) (by omega)).mp q; omega)]
      · rw [if_neg c3, if_neg (show ¬ nI (t s) = 100 from fun q => c3 ((hq 100 (by decide)).mp q))]
        by_cases c4 : t s = 110
        · rw [if_pos c4, if_pos (show nI (t s) = 110 from (hq 110 (by decide)).mpr c4)]
        · rw [if_neg c4, if_neg (show ¬ nI (t s) = 110 from fun q => c4 ((hq 110 (by decide)).mp q))]
          by_cases c5 : t s = 118
          · rw [if_pos c5, if_pos (show nI (t s) = 118 from (hq 118 (by decide)).mpr c5)]
          · rw [if_neg c5, if_neg (show ¬ nI (t s) = 118 from fun q => c5 ((hq 118 (by decide)).mp q))]
abbrev eqE (A : Bool × Int32 × Unit) (k : Bool × Nat) : Prop := A.1 = k.1 ∧ (k.1 = true → A.2.1 = nI k.2)
theorem nx_48 {M : bM} {t : Nat → Nat} {z s o lo hi n : Nat} {k : Bool × Nat} (h : txC M t z) (ho : o < 10) (hs : s < z)
    (hP : s + o < z → (f_X4_isDigitAllowed M (nI s) (nI o) = 0 ↔ ¬ (lo ≤ t (s + o) ∧ t (s + o) ≤ hi))) (hk : s + o < z → lo ≤ t (s + o) → t (s + o) ≤ hi → eqE (lp_X4_firstError_48 M (nI s) n (o + 1)) k) :
    eqE (lp_X4_firstError_48 M (nI s) (n + 1) o) (nx t z (s + o) lo hi k) := by
  have hz := h.1
  rw [u1_lp_X4_firstError_48, h.2.1, nI_add]
  unfold nx
  by_cases c : s + o < z
  · rw [if_pos c, if_pos ((nI_ltI (by omega) (by omega)).mpr c)]
    dsimp only
    by_cases d : lo ≤ t (s + o) ∧ t (s + o) ≤ hi
    · rw [if_pos d, if_neg (fun q => (hP c).mp q d)]
      exact hk c d.1 d.2
    · rw [if_neg d, if_pos ((hP c).mpr d)]
      exact ⟨rfl, fun _ => rfl⟩
  · rw [if_neg c, if_neg (fun q => c ((nI_ltI (by omega) (by omega)).mp q))]
    exact ⟨rfl, fun _ => rfl⟩
theorem dset1 {x y : Int32} : f_X4_isDigitOfSetting 1 x y = if 1 < x then 0 else 1 := by rw [u_f_X4_isDigitOfSetting, if_pos rfl]
theorem dset2 {x y : Int32} : f_X4_isDigitOfSetting 2 x y = if 4 < x then 0 else 1 := by rw [u_f_X4_isDigitOfSetting, if_neg (by decide), if_pos rfl]
theorem dset3 {x y : Int32} : f_X4_isDigitOfSetting 3 x y = if y = 0 then (if x ≤ 0 then 0 else 1) else if y < 4 then 1 else if x = 0 then 1 else 0 := by rw [u_f_X4_isDigitOfSetting, if_neg (by decide), if_neg (by decide)]
theorem if01 {c P : Prop} [Decidable c] (h : c ↔ P) : (if c then (0 : Int32) else 1) = 0 ↔ P := by
  by_cases d : c
  · rw [if_pos d]; exact ⟨fun _ => h.mp d, fun _ => rfl⟩
  · rw [if_neg d]; exact ⟨fun q => absurd q (by decide), fun q => absurd (h.mpr q) d⟩
theorem cls_48 {M : bM} {t : Nat → Nat} {z s : Nat} (h : txC M t z) (hs : s < z) :
    (t s = 100 → eqE (lp_X4_firstError_48 M (nI s) 2 1) (nx t z (s + 1) 48 55 (nx t z (s + 2) 48 55 (false, s + 3)))) ∧
    (t s = 110 → eqE (lp_X4_firstError_48 M (nI s) 2 1) (nx t z (s + 1) 48 57 (nx t z (s + 2) 48 57 (false, s + 3)))) ∧
    (t s = 118 → eqE (lp_X4_firstError_48 M (nI s) 3 1) (nx t z (s + 1) 48 49 (nx t z (s + 2) 48 52 (nx t z (s + 3) (if t (s + 2) = 48 then 49 else 48) (if t (s + 2) = 52 then 48 else 57) (false, s + 4))))) := by
  have hz := h.1
  have last : ∀ o p, eqE (lp_X4_firstError_48 M (nI s) 0 o) (false, p) := fun o p => by rw [u0_lp_X4_firstError_48]; exact ⟨rfl, fun q => no_ft q⟩
  refine ⟨fun c => ?_, fun c => ?_, fun c => ?_⟩
  · have hP : ∀ o, s + o < z → (f_X4_isDigitAllowed M (nI s) (nI o) = 0 ↔ ¬ (48 ≤ t (s + o) ∧ t (s + o) ≤ 55)) := fun o ho => by
      rw [isDA h hs ho, if_pos c]
      split
      · exact ⟨fun _ => by omega, fun _ => rfl⟩
      · split
        · exact ⟨fun _ => by omega, fun _ => rfl⟩
        · exact if01 (by omega)
    exact nx_48 h (by decide) hs (hP 1) (fun _ _ _ => nx_48 h (by decide) hs (hP 2) (fun _ _ _ => last 3 _))
  · have hP : ∀ o, s + o < z → (f_X4_isDigitAllowed M (nI s) (nI o) = 0 ↔ ¬ (48 ≤ t (s + o) ∧ t (s + o) ≤ 57)) := fun o ho => by
      rw [isDA h hs ho, if_neg (show ¬ t s = 100 by omega), if_pos c]
      split
      · exact ⟨fun _ => by omega, fun _ => rfl⟩
      · split
        · exact ⟨fun _ => by omega, fun _ => rfl⟩
        · exact ⟨fun q => absurd q (by decide), fun q => absurd q (by omega)⟩
    exact nx_48 h (by decide) hs (hP 1) (fun _ _ _ => nx_48 h (by decide) hs (hP 2) (fun _ _ _ => last 3 _))
  · have hA : ∀ o, s + o < z → f_X4_isDigitAllowed M (nI s) (nI o) = if t (s + o) < 48 then 0 else if 57 < t (s + o) then 0 else f_X4_isDigitOfSetting (nI o) (nI (t (s + o) - 48)) (f_X4_digitAt M (nI (s + o) - 1)) := fun o ho => by
      rw [isDA h hs ho, if_neg (show ¬ t s = 100 by omega), if_neg (show ¬ t s = 110 by omega), if_pos c]
    have hP1 : s + 1 < z → (f_X4_isDigitAllowed M (nI s) (nI 1) = 0 ↔ ¬ (48 ≤ t (s + 1) ∧ t (s + 1) ≤ 49)) := fun ho => by
      have h256 := (h.2.2 (s + 1) ho).2
      rw [hA 1 ho, show (nI 1 : Int32) = 1 from rfl, dset1]
      split
      · exact ⟨fun _ => by omega, fun _ => rfl⟩
      · split
        · exact ⟨fun _ => by omega, fun _ => rfl⟩
        · exact if01 ⟨fun q => by have := (nI_ltI (a := 1) (by decide) (by omega)).mp q; omega, fun q => (nI_ltI (a := 1) (by decide) (by omega)).mpr (by omega)⟩
    have hP2 : s + 2 < z → (f_X4_isDigitAllowed M (nI s) (nI 2) = 0 ↔ ¬ (48 ≤ t (s + 2) ∧ t (s + 2) ≤ 52)) := fun ho => by
      have h256 := (h.2.2 (s + 2) ho).2
      rw [hA 2 ho, show (nI 2 : Int32) = 2 from rfl, dset2]
      split
      · exact ⟨fun _ => by omega, fun _ => rfl⟩
      · split
        · exact ⟨fun _ => by omega, fun _ => rfl⟩
        · exact if01 ⟨fun q => by have := (nI_ltI (a := 4) (by decide) (by omega)).mp q; omega, fun q => (nI_ltI (a := 4) (by decide) (by omega)).mpr (by omega)⟩
    have hP3 : s + 2 < z → 48 ≤ t (s + 2) → t (s + 2) ≤ 52 → s + 3 < z → (f_X4_isDigitAllowed M (nI s) (nI 3) = 0 ↔ ¬ ((if t (s + 2) = 48 then 49 else 48) ≤ t (s + 3) ∧ t (s + 3) ≤ (if t (s + 2) = 52 then 48 else 57))) := fun h2 l2 u2 ho => by
      have h256 := (h.2.2 (s + 3) ho).2
      rw [hA 3 ho, show (nI 3 : Int32) = 3 from rfl, dset3, show nI (s + 3) - 1 = nI (s + 2) from nI_pred (s + 2), dig_in h h2, dig_v l2]
      have q0 : nI (t (s + 2) - 48) = 0 ↔ t (s + 2) = 48 := by
        rw [nI_z (by omega)]; omega
      have q4 : nI (t (s + 2) - 48) < 4 ↔ t (s + 2) < 52 := by
        rw [show (4 : Int32) = nI 4 from rfl, nI_ltI (by omega) (by decide)]; omega
      have x0 : nI (t (s + 3) - 48) = 0 ↔ t (s + 3) ≤ 48 := by
        rw [nI_z (by omega)]; omega
      have x1 : nI (t (s + 3) - 48) ≤ 0 ↔ t (s + 3) ≤ 48 := by
        rw [show (0 : Int32) = nI 0 from rfl, nI_leI (by omega) (by decide)]; omega
      by_cases e1 : t (s + 2) = 48
      · rw [if_pos e1, if_neg (show ¬ t (s + 2) = 52 by omega), if_pos (q0.mpr e1)]
        split
        · exact ⟨fun _ => by omega, fun _ => rfl⟩
        · split
          · exact ⟨fun _ => by omega, fun _ => rfl⟩
          · exact if01 (by rw [x1]; omega)
      · rw [if_neg e1, if_neg (fun q => e1 (q0.mp q))]
        by_cases e2 : t (s + 2) = 52
        · rw [if_pos e2, if_neg (show ¬ nI (t (s + 2) - 48) < 4 from fun q => by have := q4.mp q; omega)]
          split
          · exact ⟨fun _ => by omega, fun _ => rfl⟩
          · split
            · exact ⟨fun _ => by omega, fun _ => rfl⟩
            · by_cases e3 : t (s + 3) ≤ 48
              · rw [if_pos (x0.mpr e3)]; exact ⟨fun q => absurd q (by decide), fun q => absurd q (by omega)⟩
              · rw [if_neg (fun q => e3 (x0.mp q))]; exact ⟨fun _ => by omega, fun _ => rfl⟩
        · rw [if_neg e2, if_pos (q4.mpr (by omega))]
          split
          · exact ⟨fun _ => by omega, fun _ => rfl⟩
          · split
            · exact ⟨fun _ => by omega, fun _ => rfl⟩
            · exact ⟨fun q => absurd q (by decide), fun q => absurd q (by omega)⟩
    exact nx_48 h (by decide) hs hP1 (fun _ _ _ => nx_48 h (by decide) hs hP2 (fun a1 a2 a3 => nx_48 h (by decide) hs (hP3 a1 a2 a3) (fun _ _ _ => last 4 _)))
/-- the size of a command whose sign is right, and where the next one begins -/
theorem ck_size {t : Nat → Nat} {z s : Nat} (hs : s < z) (ht : t s < 256) (h : (ckT t z s).1 = false) : nI s + f_X4_sizeOf (nI (t s)) = nI (ckT t z s).2 ∧ s < (ckT t z s).2 ∧ (ckT t z s).2 ≤ z := by
  have hq : ∀ c : Nat, c < 256 → (nI (t s) = nI c ↔ t s = c) := fun c hc => nI_eq (by omega) (by omega)
  rw [u_f_X4_sizeOf]
  unfold ckT at h ⊢
  by_cases c1 : t s = 98
  · rw [if_pos c1, if_pos (show nI (t s) = 98 from (hq 98 (by decide)).mpr c1)]
    exact ⟨nI_1 s, by show s < s + 1; omega, by show s + 1 ≤ z; omega⟩
  rw [if_neg c1] at h ⊢
  rw [if_neg (show ¬ nI (t s) = 98 from fun q => c1 ((hq 98 (by decide)).mp q))]
  by_cases c2 : t s = 100
  · rw [if_pos c2] at h ⊢
    rw [if_pos (show nI (t s) = 100 from (hq 100 (by decide)).mpr c2)]
    obtain ⟨a1, a2, a3, a4⟩ := nx_f h
    rw [a4] at h ⊢
    obtain ⟨b1, b2, b3, b4⟩ := nx_f h
    rw [b4]
    exact ⟨nI_add s 3, by show s < s + 3; omega, by show s + 3 ≤ z; omega⟩
  rw [if_neg c2] at h ⊢
  rw [if_neg (show ¬ nI (t s) = 100 from fun q => c2 ((hq 100 (by decide)).mp q))]
  by_cases c3 : t s = 101
  · rw [if_pos c3, if_pos (show nI (t s) = 101 from (hq 101 (by decide)).mpr c3)]
    exact ⟨nI_1 s, by show s < s + 1; omega, by show s + 1 ≤ z; omega⟩
  rw [if_neg c3] at h ⊢
  rw [if_neg (show ¬ nI (t s) = 101 from fun q => c3 ((hq 101 (by decide)).mp q))]
  by_cases c4 : t s = 102
  · rw [if_pos c4, if_pos (show nI (t s) = 102 from (hq 102 (by decide)).mpr c4)]
    exact ⟨nI_1 s, by show s < s + 1; omega, by show s + 1 ≤ z; omega⟩
  rw [if_neg c4] at h ⊢
  rw [if_neg (show ¬ nI (t s) = 102 from fun q => c4 ((hq 102 (by decide)).mp q))]
  by_cases c5 : t s = 110
  · rw [if_pos c5] at h ⊢
    rw [if_pos (show nI (t s) = 110 from (hq 110 (by decide)).mpr c5)]
    obtain ⟨a1, a2, a3, a4⟩ := nx_f h
    rw [a4] at h ⊢
    obtain ⟨b1, b2, b3, b4⟩ := nx_f h
    rw [b4]
    exact ⟨nI_add s 3, by show s < s + 3; omega, by show s + 3 ≤ z; omega⟩
  rw [if_neg c5] at h ⊢
  rw [if_neg (show ¬ nI (t s) = 110 from fun q => c5 ((hq 110 (by decide)).mp q))]
  by_cases c6 : t s = 115
  · rw [if_pos c6, if_pos (show nI (t s) = 115 from (hq 115 (by decide)).mpr c6)]
    exact ⟨nI_1 s, by show s < s + 1; omega, by show s + 1 ≤ z; omega⟩
  rw [if_neg c6] at h ⊢
  rw [if_neg (show ¬ nI (t s) = 115 from fun q => c6 ((hq 115 (by decide)).mp q))]
  by_cases c7 : t s = 118
  · rw [if_pos c7] at h ⊢
    rw [if_pos (show nI (t s) = 118 from (hq 118 (by decide)).mpr c7)]
    obtain ⟨a1, a2, a3, a4⟩ := nx_f h
    rw [a4] at h ⊢
    obtain ⟨b1, b2, b3, b4⟩ := nx_f h
    rw [b4] at h ⊢
    obtain ⟨d1, d2, d3, d4⟩ := nx_f h
    rw [d4]
    exact ⟨nI_add s 4, by show s < s + 4; omega, by show s + 4 ≤ z; omega⟩
  rw [if_neg c7] at h ⊢
  rw [if_neg (show ¬ nI (t s) = 118 from fun q => c7 ((hq 118 (by decide)).mp q))]
  by_cases c8 : t s = 119
  · rw [if_pos c8, if_pos (show nI (t s) = 119 from (hq 119 (by decide)).mpr c8)]
    exact ⟨nI_1 s, by show s < s + 1; omega, by show s + 1 ≤ z; omega⟩
  rw [if_neg c8] at h
  exact no_tf h
theorem sz_in {t : Nat → Nat} {z s : Nat} (ht : t s < 256) : (f_X4_sizeOf (nI (t s)) = 0 → ckT t z s = (true, s)) ∧ (¬ f_X4_sizeOf (nI (t s)) = 0 →
    (t s = 100 ∧ f_X4_sizeOf (nI (t s)) = nI 3) ∨ (t s = 110 ∧ f_X4_sizeOf (nI (t s)) = nI 3) ∨ (t s = 118 ∧ f_X4_sizeOf (nI (t s)) = nI 4) ∨ (ckT t z s = (false, s + 1) ∧ f_X4_sizeOf (nI (t s)) = nI 1)) := by
  have hq : ∀ c : Nat, c < 256 → (nI (t s) = nI c ↔ t s = c) := fun c hc => nI_eq (by omega) (by omega)
  have q1 := hq 98 (by decide)
  have q2 := hq 100 (by decide)
  have q3 := hq 101 (by decide)
  have q4 := hq 102 (by decide)
  have q5 := hq 110 (by decide)
  have q6 := hq 115 (by decide)
  have q7 := hq 118 (by decide)
  have q8 := hq 119 (by decide)
  rw [u_f_X4_sizeOf]
  unfold ckT
  by_cases c1 : t s = 98
  · rw [if_pos c1, if_pos (show nI (t s) = 98 from q1.mpr c1)]
    exact ⟨fun q => absurd q (by decide), fun _ => Or.inr (Or.inr (Or.inr ⟨rfl, rfl⟩))⟩
  rw [if_neg c1, if_neg (show ¬ nI (t s) = 98 from fun q => c1 (q1.mp q))]
  by_cases c2 : t s = 100
  · rw [if_pos c2, if_pos (show nI (t s) = 100 from q2.mpr c2)]
    exact ⟨fun q => absurd q (by decide), fun _ => Or.inl ⟨c2, rfl⟩⟩
  rw [if_neg c2, if_neg (show ¬ nI (t s) = 100 from fun q => c2 (q2.mp q))]
  by_cases c3 : t s = 101
  · rw [if_pos c3, if_pos (show nI (t s) = 101 from q3.mpr c3)]
    exact ⟨fun q => absurd q (by decide), fun _ => Or.inr (Or.inr (Or.inr ⟨rfl, rfl⟩))⟩
  rw [if_neg c3, if_neg (show ¬ nI (t s) = 101 from fun q => c3 (q3.mp q))]
  by_cases c4 : t s = 102
  · rw [if_pos c4, if_pos (show nI (t s) = 102 from q4.mpr c4)]
    exact ⟨fun q => absurd q (by decide), fun _ => Or.inr (Or.inr (Or.inr ⟨rfl, rfl⟩))⟩
  rw [if_neg c4, if_neg (show ¬ nI (t s) = 102 from fun q => c4 (q4.mp q))]
  by_cases c5 : t s = 110
  · rw [if_pos c5, if_pos (show nI (t s) = 110 from q5.mpr c5)]
    exact ⟨fun q => absurd q (by decide), fun _ => Or.inr (Or.inl ⟨c5, rfl⟩)⟩
  rw [if_neg c5, if_neg (show ¬ nI (t s) = 110 from fun q => c5 (q5.mp q))]
  by_cases c6 : t s = 115
  · rw [if_pos c6, if_pos (show nI (t s) = 115 from q6.mpr c6)]
    exact ⟨fun q => absurd q (by decide), fun _ => Or.inr (Or.inr (Or.inr ⟨rfl, rfl⟩))⟩
  rw [if_neg c6, if_neg (show ¬ nI (t s) = 115 from fun q => c6 (q6.mp q))]
  by_cases c7 : t s = 118
  · rw [if_pos c7, if_pos (show nI (t s) = 118 from q7.mpr c7)]
    exact ⟨fun q => absurd q (by decide), fun _ => Or.inr (Or.inr (Or.inl ⟨c7, rfl⟩))⟩
  rw [if_neg c7, if_neg (show ¬ nI (t s) = 118 from fun q => c7 (q7.mp q))]
  by_cases c8 : t s = 119
  · rw [if_pos c8, if_pos (show nI (t s) = 119 from q8.mpr c8)]
    exact ⟨fun q => absurd q (by decide), fun _ => Or.inr (Or.inr (Or.inr ⟨rfl, rfl⟩))⟩
  rw [if_neg c8, if_neg (show ¬ nI (t s) = 119 from fun q => c8 (q8.mp q))]
  exact ⟨fun _ => rfl, fun q => absurd rfl q⟩
/-- one command of the class's search for the first error -/
theorem cls_ck {M : bM} {t : Nat → Nat} {z s n i : Nat} (h : txC M t z) (hs : s < z) :
    lp_X4_firstError_16 M (n + 1) i (nI s) = if (ckT t z s).1 = true then (true, nI (ckT t z s).2, nI s) else lp_X4_firstError_16 M n (i + 1) (nI (ckT t z s).2) := by
  have hz := h.1
  have ht := (h.2.2 s hs).2
  rw [u1_lp_X4_firstError_16, h.2.1, if_neg (nI_ge hs (by omega)), signAt_in h hs]
  dsimp only
  obtain ⟨s1, s2⟩ := sz_in (z := z) ht
  obtain ⟨e1, e2, e3⟩ := cls_48 h hs
  have hsz := ck_size hs ht
  have main : ∀ A : Bool × Int32 × Unit, eqE A (ckT t z s) → (if A.1 = true then (true, A.2.1, nI s) else lp_X4_firstError_16 M n (i + 1) (nI s + f_X4_sizeOf (nI (t s)))) = if (ckT t z s).1 = true then (true, nI (ckT t z s).2, nI s) else lp_X4_firstError_16 M n (i + 1) (nI (ckT t z s).2) := fun A hA => by
    by_cases c : (ckT t z s).1 = true
    · rw [if_pos c, if_pos (hA.1.trans c), hA.2 c]
    · rw [if_neg c, if_neg (fun q => c (hA.1.symm.trans q)), (hsz (by simpa using c)).1]
  by_cases c0 : f_X4_sizeOf (nI (t s)) = 0
  · rw [if_pos c0, s1 c0]
    rfl
  · rw [if_neg c0]
    rcases s2 c0 with ⟨c, e⟩ | ⟨c, e⟩ | ⟨c, e⟩ | ⟨c, e⟩
    · rw [show (f_X4_sizeOf (nI (t s))).toNatClampNeg - 1 = 2 by rw [e]; decide]
      refine main _ ?_
      rw [ck100 c]
      exact e1 c
    · rw [show (f_X4_sizeOf (nI (t s))).toNatClampNeg - 1 = 2 by rw [e]; decide]
      refine main _ ?_
      rw [ck110 c]
      exact e2 c
    · rw [show (f_X4_sizeOf (nI (t s))).toNatClampNeg - 1 = 3 by rw [e]; decide]
      refine main _ ?_
      rw [ck118 c]
      exact e3 c
    · rw [show (f_X4_sizeOf (nI (t s))).toNatClampNeg - 1 = 0 by rw [e]; decide]
      refine main _ ?_
      rw [u0_lp_X4_firstError_48, c]
      exact ⟨rfl, fun q => no_ft q⟩
