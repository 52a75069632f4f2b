/-! THE CLASS'S SEARCHES: cells open, steps counted (the waiting row) -/
theorem idx3 {c j : Nat} (hc : c < 64) (hj : j < 3) : ((nI c * 3) + nI j).toNatClampNeg = 3 * c + j := by
  rw [show (3 : Int32) = nI 3 from rfl, pk_mul, nI_add, nI_clamp (by omega)]
  omega
theorem fits_nbI {c j : Nat} : f_X6_fits (nbI c j) = 0 ↔ ¬ nb c j < 64 := by
  unfold nbI
  by_cases h : nb c j < 64
  · rw [if_pos h, fits_nI h]; exact ⟨fun q => absurd q (by decide), fun q => absurd h q⟩
  · rw [if_neg h]; exact ⟨fun _ => h, fun _ => by decide⟩
abbrev besR (M : bM) : Prop := ∀ i, i < 192 → M 24 i = nbI (i / 3) (i % 3)
theorem bes_at {M : bM} (h : besR M) {c j : Nat} (hc : c < 64) (hj : j < 3) : M 24 (3 * c + j) = nbI c j := by
  rw [h _ (by omega), show (3 * c + j) / 3 = c by omega, show (3 * c + j) % 3 = j by omega]
def toC (f : Nat → Int32) (c : Nat) : Option Nat := if c < 64 ∧ ¬ f c = -1 then some (f c).toNatClampNeg else none
theorem toC_none {f : Nat → Int32} {c : Nat} (hc : c < 64) : toC f c = none ↔ f c = -1 := by
  unfold toC
  by_cases h : f c = -1
  · rw [if_neg (fun q => q.2 h)]; exact ⟨fun _ => h, fun _ => rfl⟩
  · rw [if_pos ⟨hc, h⟩]; exact ⟨fun q => absurd q (by simp), fun q => absurd q h⟩
theorem toC_at {f : Nat → Int32} {c v : Nat} (hc : c < 64) (hv : v < 2 ^ 31) (h : f c = nI v) : toC f c = some v := by
  unfold toC
  rw [if_pos ⟨hc, by rw [h]; exact nI_ne_m1 hv⟩, h, nI_clamp hv]
theorem beginC_ok {x : Int32} : ∀ (n i : Nat) (M : bM), i + n = 64 → (∀ a, a ≠ 26 → a ≠ 29 → lp_X5_beginFrom_2 x n i M a = M a) ∧ (∀ c, (c < i → lp_X5_beginFrom_2 x n i M 26 c = M 26 c ∧ lp_X5_beginFrom_2 x n i M 29 c = M 29 c) ∧ (i ≤ c → c < 64 → lp_X5_beginFrom_2 x n i M 26 c = (if nI c = x then 0 else -1) ∧ lp_X5_beginFrom_2 x n i M 29 c = 0)) := by
  intro n
  induction n with
  | zero =>
    intro i M hi
    rw [u0_lp_X5_beginFrom_2]
    exact ⟨fun _ _ _ => rfl, fun c => ⟨fun _ => ⟨rfl, rfl⟩, fun h1 h2 => by omega⟩⟩
  | succ n ih =>
    intro i M hi
    rw [u1_lp_X5_beginFrom_2]
    dsimp only
    have key : ∀ v : Int32, v = (if nI i = x then 0 else -1) → (∀ a, a ≠ 26 → a ≠ 29 → lp_X5_beginFrom_2 x n (i + 1) (up2 (up2 M 26 i v) 29 i 0) a = M a) ∧ (∀ c, (c < i → lp_X5_beginFrom_2 x n (i + 1) (up2 (up2 M 26 i v) 29 i 0) 26 c = M 26 c ∧ lp_X5_beginFrom_2 x n (i + 1) (up2 (up2 M 26 i v) 29 i 0) 29 c = M 29 c) ∧ (i ≤ c → c < 64 → lp_X5_beginFrom_2 x n (i + 1) (up2 (up2 M 26 i v) 29 i 0) 26 c = (if nI c = x then 0 else -1) ∧ lp_X5_beginFrom_2 x n (i + 1) (up2 (up2 M 26 i v) 29 i 0) 29 c = 0)) := by
      intro v hv
      have e26 : ∀ c, up2 (up2 M 26 i v) 29 i 0 26 c = if c = i then v else M 26 c := fun c => by rw [up2_row (by decide), up2_at]
      have e29 : ∀ c, up2 (up2 M 26 i v) 29 i 0 29 c = if c = i then 0 else M 29 c := fun c => by rw [up2_at, up2_row (by decide)]
      obtain ⟨h1, h2⟩ := ih (i + 1) (up2 (up2 M 26 i v) 29 i 0) (by omega)
      refine ⟨fun a ha hb => (h1 a ha hb).trans ((up2_row hb).trans (up2_row ha)), fun c => ⟨fun hc => ?_, fun hc hc2 => ?_⟩⟩
      · obtain ⟨h3, h4⟩ := (h2 c).1 (by omega)
        rw [h3, h4, e26, e29, if_neg (by omega), if_neg (by omega)]; exact ⟨rfl, rfl⟩
      · by_cases e : c = i
        · subst e
          obtain ⟨h3, h4⟩ := (h2 c).1 (by omega)
          rw [h3, h4, e26, e29, if_pos rfl, if_pos rfl]; exact ⟨hv, rfl⟩
        · exact (h2 c).2 (by omega) hc2
    by_cases c1 : nI i = x
    · rw [if_pos c1]; exact key 0 (by rw [if_pos c1])
    · rw [if_neg c1]; exact key (-1) (by rw [if_neg c1])
theorem beginC {M : bM} {x : Int32} : (∀ a, a ≠ 26 → a ≠ 29 → f_X5_beginFrom M x a = M a) ∧ ∀ c, c < 64 → f_X5_beginFrom M x 26 c = (if nI c = x then 0 else -1) ∧ f_X5_beginFrom M x 29 c = 0 := by
  rw [u_f_X5_beginFrom]
  exact ⟨(beginC_ok (x := x) 64 0 M rfl).1, fun c hc => ((beginC_ok (x := x) 64 0 M rfl).2 c).2 (Nat.zero_le _) hc⟩
abbrev seen (f : Nat → Int32) : Nat → Bool := fun c => decide (¬ f c = -1)
/-- the waiting row: n cells, their steps go up by one at most; those before place t / 3 are done -/
structure bfsI (op : Nat → Prop) (s : Nat) (M : bM) (t n : Nat) (q d : Nat → Nat) : Prop where
  n0 : 0 < n
  cn : cnt (seen (M 26)) 64 = n
  at_ : ∀ i, i < n → q i < 64 ∧ M 28 i = nI (q i) ∧ M 26 (q i) = nI (d i) ∧ d i ≤ i
  all : ∀ c, c < 64 → ¬ M 26 c = -1 → ∃ i, i < n ∧ q i = c
  mono : ∀ i j, i ≤ j → j < n → d i ≤ d j
  near : ∀ k, t / 3 ≤ k → k < n → ∀ i, i < n → d i ≤ d k + 1
  done : ∀ i j, j < 3 → 3 * i + j < t → i < n → nb (q i) j < 64 → op (nb (q i) j) → ∃ v, M 26 (nb (q i) j) = nI v ∧ v ≤ d i + 1
  snd : ∀ i, i < n → ∃ m, pth (edg op) (fun _ => 1) s m (q i) (d i)
  beg : M 26 s = 0
theorem cnt_one {p : Nat → Bool} {n s : Nat} (hs : s < n) (hp : p s = true) (h : ∀ i, i < n → i ≠ s → ¬ p i = true) : cnt p n = 1 := by
  induction n with
  | zero => omega
  | succ n ih =>
    show cnt p n + (if p n = true then 1 else 0) = 1
    by_cases e : s = n
    · subst e
      have : cnt p s = 0 := by
        have hz : ∀ m, m ≤ s → cnt p m = 0 := by
          intro m
          induction m with
          | zero => intro _; rfl
          | succ m ihm =>
            intro hm
            show cnt p m + (if p m = true then 1 else 0) = 0
            rw [ihm (by omega), if_neg (h m (by omega) (by omega))]
        exact hz s (Nat.le_refl _)
      rw [this, if_pos hp]
    · rw [ih (by omega) (fun i hi he => h i (by omega) he), if_neg (h n (by omega) (by omega))]
theorem cnt_plus {p q : Nat → Bool} {n k : Nat} (hk : k < n) (hp : ¬ p k = true) (hq : q k = true) (h : ∀ i, i < n → i ≠ k → p i = q i) : cnt q n = cnt p n + 1 := by
  induction n with
  | zero => omega
  | succ n ih =>
    show cnt q n + (if q n = true then 1 else 0) = cnt p n + (if p n = true then 1 else 0) + 1
    by_cases e : k = n
    · subst e
      have h1 : cnt q k = cnt p k := Nat.le_antisymm (cnt_mono (fun i hi hh => by rw [h i (by omega) (by omega)]; exact hh)) (cnt_mono (fun i hi hh => by rw [← h i (by omega) (by omega)]; exact hh))
      rw [if_pos hq, if_neg hp, h1]
    · have h1 := ih (by omega) (fun i hi he => h i (by omega) he)
      rw [h n (by omega) (by omega), h1]; omega
theorem bfs_next {op : Nat → Prop} {s : Nat} {M : bM} {k j n : Nat} {q d : Nat → Nat} (h : bfsI op s M (3 * k + j) n q d) (hk : k < n) (hj : j < 3)
    (hr : nb (q k) j < 64 → op (nb (q k) j) → ∃ v, M 26 (nb (q k) j) = nI v ∧ v ≤ d k + 1) : bfsI op s M (3 * k + (j + 1)) n q d := by
  refine ⟨h.n0, h.cn, h.at_, h.all, h.mono, fun k' h1 h2 => h.near k' (by omega) h2, fun i j' h1 h2 h3 h4 h5 => ?_, h.snd, h.beg⟩
  by_cases e : i = k ∧ j' = j
  · obtain ⟨rfl, rfl⟩ := e; exact hr h4 h5
  · exact h.done i j' h1 (by omega) h3 h4 h5
theorem bfs_add {op : Nat → Prop} {s : Nat} {M : bM} {k j n : Nat} {q d : Nat → Nat} (h : bfsI op s M (3 * k + j) n q d) (hk : k < n) (hj : j < 3) (hs : s < 64)
    (hn : nb (q k) j < 64) (ho : op (nb (q k) j)) (hf : M 26 (nb (q k) j) = -1) :
    n < 64 ∧ bfsI op s (up2 (up2 M 26 (nb (q k) j) (nI (d k + 1))) 28 n (nI (nb (q k) j))) (3 * k + (j + 1)) (n + 1) (fun i => if i = n then nb (q k) j else q i) (fun i => if i = n then d k + 1 else d i) := by
  have hlt : n < 64 := by
    have h1 := cnt_le (seen (M 26)) 64
    rw [h.cn] at h1
    rcases Nat.lt_or_ge n 64 with h2 | h2
    · exact h2
    · have h3 := cnt_all (p := seen (M 26)) (n := 64) (by rw [h.cn]; omega) _ hn
      exact absurd hf (of_decide_eq_true h3)
  obtain ⟨hqk, _, hdk, hdk2⟩ := h.at_ k hk
  generalize hx : nb (q k) j = x at *
  have e26 : ∀ c, up2 (up2 M 26 x (nI (d k + 1))) 28 n (nI x) 26 c = if c = x then nI (d k + 1) else M 26 c := fun c => by rw [up2_row (by decide), up2_at]
  have e28 : ∀ c, up2 (up2 M 26 x (nI (d k + 1))) 28 n (nI x) 28 c = if c = n then nI x else M 28 c := fun c => by rw [up2_at, up2_row (by decide)]
  have hqx : ∀ i, i < n → q i ≠ x := by
    intro i hi e
    obtain ⟨_, _, h3, h4⟩ := h.at_ i hi
    rw [e, hf] at h3
    exact nI_ne_m1 (by omega) h3.symm
  have hsx : s ≠ x := by
    intro e
    have := h.beg
    rw [e, hf] at this
    exact absurd this (by decide)
  refine ⟨hlt, ⟨by omega, ?_, ?_, ?_, ?_, ?_, ?_, ?_, ?_⟩⟩
  · refine Eq.trans ?_ (congrArg (· + 1) h.cn)
    refine cnt_plus (k := x) hn (fun q => (of_decide_eq_true q : ¬ M 26 x = -1) hf) ?_ (fun i hi he => ?_)
    · refine decide_eq_true ?_
      rw [e26, if_pos rfl]; exact nI_ne_m1 (by omega)
    · show decide _ = decide _
      rw [e26, if_neg he]
  · intro i hi
    by_cases e : i = n
    · subst e
      rw [if_pos rfl, if_pos rfl, e28, e26, if_pos rfl, if_pos rfl]
      exact ⟨hn, rfl, rfl, by omega⟩
    · obtain ⟨h1, h2, h3, h4⟩ := h.at_ i (by omega)
      rw [if_neg e, if_neg e, e28, e26, if_neg e, if_neg (hqx i (by omega))]
      exact ⟨h1, h2, h3, h4⟩
  · intro c hc hh
    rw [e26] at hh
    by_cases e : c = x
    · exact ⟨n, by omega, by rw [if_pos rfl, e]⟩
    · rw [if_neg e] at hh
      obtain ⟨i, hi, h2⟩ := h.all c hc hh
      exact ⟨i, by omega, by rw [if_neg (by omega)]; exact h2⟩
  · intro a b hab hb
    by_cases e : b = n
    · rw [if_pos e]
      by_cases e2 : a = n
      · rw [if_pos e2]; exact Nat.le_refl _
      · rw [if_neg e2]; exact h.near k (by omega) hk a (by omega)
    · rw [if_neg e, if_neg (by omega)]
      exact h.mono a b hab (by omega)
  · intro k' h1 h2 i hi
    have hkk : k ≤ k' := by omega
    by_cases e : k' = n
    · rw [if_pos e]
      by_cases e2 : i = n
      · rw [if_pos e2]; omega
      · rw [if_neg e2]; have := h.near k (by omega) hk i (by omega); omega
    · have h3 := h.mono k k' hkk (by omega)
      rw [if_neg e]
      by_cases e2 : i = n
      · rw [if_pos e2]; omega
      · rw [if_neg e2]; exact h.near k' (by omega) (by omega) i (by omega)
  · intro i j' h1 h2 h3 h4 h5
    have hin : i ≠ n := by omega
    rw [if_neg hin] at h4 h5
    rw [if_neg hin, if_neg hin, e26]
    by_cases e : i = k ∧ j' = j
    · obtain ⟨rfl, rfl⟩ := e
      rw [hx, if_pos rfl]
      exact ⟨_, rfl, Nat.le_refl _⟩
    · obtain ⟨v, h6, h7⟩ := h.done i j' h1 (by omega) (by omega) h4 h5
      rw [if_neg (fun q => by rw [q, hf] at h6; obtain ⟨_, _, _, h9⟩ := h.at_ i (by omega); exact nI_ne_m1 (by omega) h6.symm)]
      exact ⟨v, h6, h7⟩
  · intro i hi
    by_cases e : i = n
    · rw [if_pos e, if_pos e]
      obtain ⟨m, hm⟩ := h.snd k hk
      exact ⟨m + 1, q k, d k, hm, ⟨hn, ho, j, hj, hx⟩, rfl⟩
    · rw [if_neg e, if_neg e]; exact h.snd i (by omega)
  · rw [e26, if_neg hsx]; exact h.beg
/-- one cell's three neighbours -/
theorem spread3 {op : Nat → Prop} {s k : Nat} (hs : s < 64) : ∀ (m j n : Nat) (M : bM) (q d : Nat → Nat), j + m = 3 → bfsI op s M (3 * k + j) n q d → k < n → besR M → (∀ c, c < 64 → (op c ↔ ¬ M 25 c = 0)) →
    ∃ n' q' d', (lp_X5_spreadFrom_38 (nI (q k)) m j (nI n) M).1 = nI n' ∧ n ≤ n' ∧ bfsI op s (lp_X5_spreadFrom_38 (nI (q k)) m j (nI n) M).2 (3 * (k + 1)) n' q' d' ∧ (∀ a, a ≠ 26 → a ≠ 28 → (lp_X5_spreadFrom_38 (nI (q k)) m j (nI n) M).2 a = M a) := by
  intro m
  induction m with
  | zero =>
    intro j n M q d hj h hk hb ho
    rw [u0_lp_X5_spreadFrom_38]
    dsimp only
    rw [fits_nI (h.at_ k hk).1, if_neg (by decide)]
    refine ⟨n, q, d, rfl, Nat.le_refl _, ?_, fun _ _ _ => rfl⟩
    rw [show 3 * (k + 1) = 3 * k + j by omega]
    exact h
  | succ m ih =>
    intro j n M q d hj h hk hb ho
    obtain ⟨hq, _, hd, hd2⟩ := h.at_ k hk
    have hn64 : n ≤ 64 := by have := cnt_le (seen (M 26)) 64; rw [h.cn] at this; exact this
    rw [u1_lp_X5_spreadFrom_38]
    dsimp only
    rw [fits_nI hq, if_neg (by decide), idx3 hq (by omega), bes_at hb hq (by omega)]
    have keep : bfsI op s M (3 * k + (j + 1)) n q d → ∃ n' q' d', (lp_X5_spreadFrom_38 (nI (q k)) m (j + 1) (nI n) M).1 = nI n' ∧ n ≤ n' ∧ bfsI op s (lp_X5_spreadFrom_38 (nI (q k)) m (j + 1) (nI n) M).2 (3 * (k + 1)) n' q' d' ∧ (∀ a, a ≠ 26 → a ≠ 28 → (lp_X5_spreadFrom_38 (nI (q k)) m (j + 1) (nI n) M).2 a = M a) := fun h' => ih (j + 1) n M q d (by omega) h' hk hb ho
    by_cases c1 : nb (q k) j < 64
    · rw [if_neg (fun z => fits_nbI.mp z c1)]
      rw [show nbI (q k) j = nI (nb (q k) j) from by unfold nbI; rw [if_pos c1], nI_clamp (by omega)]
      by_cases c2 : M 25 (nb (q k) j) = 0
      · rw [if_pos c2]
        exact keep (bfs_next h hk (by omega) (fun _ z => absurd c2 ((ho _ c1).mp z)))
      · rw [if_neg c2]
        by_cases c3 : M 26 (nb (q k) j) = -1
        · rw [if_pos c3]
          obtain ⟨h64, h'⟩ := bfs_add h hk (by omega) hs c1 ((ho _ c1).mpr c2) c3
          rw [if_neg (show ¬ (64 : Int32) ≤ nI n from nI_ge (a := n) (b := 64) h64 (by decide)), nI_clamp (by omega), nI_clamp (by omega), hd, nI_1, nI_1]
          have hqk : (if k = n then nb (q k) j else q k) = q k := if_neg (by omega)
          obtain ⟨n', q', d', g1, g2, g3, g4⟩ := ih (j + 1) (n + 1) _ _ _ (by omega) h' (by omega) (fun i hi => by rw [up2_row (by decide), up2_row (by decide)]; exact hb i hi) (fun c hc => by rw [up2_row (by decide), up2_row (by decide)]; exact ho c hc)
          rw [hqk] at g1 g3 g4
          exact ⟨n', q', d', g1, by omega, g3, fun a ha ha' => (g4 a ha ha').trans ((up2_row ha').trans (up2_row ha))⟩
        · rw [if_neg c3]
          refine keep (bfs_next h hk (by omega) (fun _ _ => ?_))
          obtain ⟨i, hi, e⟩ := h.all _ c1 c3
          exact ⟨d i, by rw [← e]; exact (h.at_ i hi).2.2.1, h.near k (by omega) hk i hi⟩
    · rw [if_pos (fits_nbI.mpr c1)]
      exact keep (bfs_next h hk (by omega) (fun z _ => absurd z c1))
theorem spreadQ {op : Nat → Prop} {s : Nat} (hs : s < 64) : ∀ (m k n : Nat) (M : bM) (q d : Nat → Nat), k + m = 64 → bfsI op s M (3 * k) n q d → besR M → (∀ c, c < 64 → (op c ↔ ¬ M 25 c = 0)) →
    ∃ k' n' q' d', n' ≤ k' ∧ bfsI op s (lp_X5_spreadFrom_16 m k (nI n) M).2 (3 * k') n' q' d' ∧ (∀ a, a ≠ 26 → a ≠ 28 → (lp_X5_spreadFrom_16 m k (nI n) M).2 a = M a) := by
  intro m
  induction m with
  | zero =>
    intro k n M q d hk h hb ho
    have hn64 : n ≤ 64 := by have := cnt_le (seen (M 26)) 64; rw [h.cn] at this; exact this
    rw [u0_lp_X5_spreadFrom_16, if_pos (nI_le (by omega) (by omega))]
    exact ⟨k, n, q, d, by omega, h, fun _ _ _ => rfl⟩
  | succ m ih =>
    intro k n M q d hk h hb ho
    have hn64 : n ≤ 64 := by have := cnt_le (seen (M 26)) 64; rw [h.cn] at this; exact this
    rw [u1_lp_X5_spreadFrom_16]
    dsimp only
    by_cases c1 : n ≤ k
    · rw [if_pos (nI_le c1 (by omega))]
      exact ⟨k, n, q, d, c1, h, fun _ _ _ => rfl⟩
    · rw [if_neg (nI_ge (by omega) (by omega)), (h.at_ k (by omega)).2.1]
      obtain ⟨n', q', d', g1, g2, g3, g4⟩ := spread3 (k := k) hs 3 0 n M q d rfl (by rw [Nat.add_zero]; exact h) (by omega) hb ho
      rw [g1]
      obtain ⟨k2, n2, q2, d2, f1, f2, f3⟩ := ih (k + 1) n' _ q' d' (by omega) g3 (fun i hi => by rw [g4 24 (by decide) (by decide)]; exact hb i hi) (fun c hc => by rw [g4 25 (by decide) (by decide)]; exact ho c hc)
      exact ⟨k2, n2, q2, d2, f1, f2, fun a ha ha' => (f3 a ha ha').trans (g4 a ha ha')⟩
theorem bfs_way {op : Nat → Prop} {s : Nat} {M : bM} {k n : Nat} {q d : Nat → Nat} (hs : s < 64) (h : bfsI op s M (3 * k) n q d) (hk : n ≤ k) : wayD (edg op) (fun _ => 1) s (toC (M 26)) := by
  have hn64 : n ≤ 64 := by have := cnt_le (seen (M 26)) 64; rw [h.cn] at this; exact this
  have hq : ∀ c v, toC (M 26) c = some v → ∃ i, i < n ∧ q i = c ∧ d i = v := by
    intro c v hv
    have hc : c < 64 ∧ ¬ M 26 c = -1 := Classical.byContradiction (fun z => by unfold toC at hv; rw [if_neg z] at hv; exact absurd hv (by simp))
    obtain ⟨i, hi, e⟩ := h.all c hc.1 hc.2
    obtain ⟨h1, _, h3, h4⟩ := h.at_ i hi
    rw [e] at h3
    rw [toC_at hc.1 (by omega) h3] at hv
    exact ⟨i, hi, e, Option.some.inj hv⟩
  refine ⟨toC_at hs (v := 0) (by decide) h.beg, fun c v hv => ?_, fun b c u hu he => ?_⟩
  · obtain ⟨i, hi, e1, e2⟩ := hq c v hv
    have := h.snd i hi
    rw [e1, e2] at this
    exact this
  · obtain ⟨i, hi, e1, e2⟩ := hq b u hu
    obtain ⟨h1, h2, j, hj, h3⟩ := he
    subst h3
    rw [← e1] at h1 h2 ⊢
    obtain ⟨v, h4, h5⟩ := h.done i j hj (by omega) hi h1 h2
    have := (h.at_ i hi).2.2.2
    exact ⟨v, toC_at h1 (by omega) h4, by dsimp only; omega⟩
/-- the steps from s over open cells -/
theorem spread_ok {M : bM} {s : Nat} (hs : s < 64) (hb : besR M) : wayD (edg (fun c => ¬ M 25 c = 0)) (fun _ => 1) s (toC (f_X5_spreadFrom M (nI s) 26)) ∧ (∀ a, a ≠ 26 → a ≠ 28 → a ≠ 29 → f_X5_spreadFrom M (nI s) a = M a) := by
  obtain ⟨b1, b2⟩ := beginC (M := M) (x := nI s)
  rw [u_f_X5_spreadFrom]
  dsimp only
  have e26 : ∀ c, c < 64 → up2 (f_X5_beginFrom M (nI s)) 28 0 (nI s) 26 c = if c = s then 0 else -1 := by
    intro c hc
    rw [up2_row (by decide), (b2 c hc).1]
    by_cases e : c = s
    · rw [if_pos e, if_pos (by rw [e])]
    · rw [if_neg e, if_neg (fun z => e (nI_inj (by omega) (by omega) z))]
  have h0 : bfsI (fun c => ¬ M 25 c = 0) s (up2 (f_X5_beginFrom M (nI s)) 28 0 (nI s)) (3 * 0) 1 (fun _ => s) (fun _ => 0) := by
    refine ⟨by decide, ?_, ?_, ?_, fun _ _ _ _ => Nat.le_refl _, fun _ _ _ _ _ => Nat.zero_le _, fun i j _ h => by omega, fun _ _ => ⟨0, rfl, rfl⟩, ?_⟩
    · refine cnt_one hs (decide_eq_true ?_) (fun i hi he => ?_)
      · rw [e26 s hs, if_pos rfl]; decide
      · intro z
        have := of_decide_eq_true z
        rw [e26 i hi, if_neg he] at this
        exact this rfl
    · intro i hi
      refine ⟨hs, ?_, ?_, Nat.zero_le _⟩
      · rw [show i = 0 by omega, up2_at, if_pos rfl]
      · rw [e26 s hs, if_pos rfl]; rfl
    · intro c hc hh
      rw [e26 c hc] at hh
      by_cases e : c = s
      · exact ⟨0, by decide, e.symm⟩
      · rw [if_neg e] at hh; exact absurd rfl hh
    · rw [e26 s hs, if_pos rfl]
  have r1 : ∀ a, a ≠ 26 → a ≠ 28 → a ≠ 29 → up2 (f_X5_beginFrom M (nI s)) 28 0 (nI s) a = M a := fun a h1 h2 h3 => (up2_row h2).trans (b1 a h1 h3)
  obtain ⟨k', n', q', d', g1, g2, g3⟩ := spreadQ hs 64 0 1 _ _ _ rfl h0 (fun i hi => by rw [r1 24 (by decide) (by decide) (by decide)]; exact hb i hi) (fun c _ => by rw [r1 25 (by decide) (by decide) (by decide)])
  exact ⟨bfs_way hs g2 g1, fun a h1 h2 h3 => (g3 a h1 h2).trans (r1 a h1 h2 h3)⟩
