/-! THE CLASS'S SEARCHES: cells open, steps counted (the waiting row) -/
theorem idx3 {c j : Nat} (hc : c < 64) (hj : j < 3) : ((nI c * 3) + nI j).toNatClampNeg = 3 * c + j := by
  rw [show (3 : Int32) = nI 3 from rfl, pk_mul, nI_add, nI_clamp (by omega)]
  omega
theorem fits_nbI {c j : Nat} : f_X6_fits (nbI c j) = 0 ↔ ¬ nb c j < 64 := by
  unfold nbI
  by_cases h : nb c j < 64
  · rw [if_pos h, fits_nI h]; exact ⟨fun q => absurd q (by decide), fun q => absurd h q⟩
  · rw [if_neg h]; exact ⟨fun _ => h, fun _ => by decide⟩
abbrev besR (M : bM) : Prop := ∀ i, i < 192 → M 24 i = nbI (i / 3) (i % 3)
theorem bes_at {M : bM} (h : besR M) {c j : Nat} (hc : c < 64) (hj : j < 3) : M 24 (3 * c + j) = nbI c j := by
  rw [h _ (by omega), show (3 * c + j) / 3 = c by omega, show (3 * c + j) % 3 = j by omega]
def toC (f : Nat → Int32) (c : Nat) : Option Nat := if c < 64 ∧ ¬ f c = -1 then some (f c).toNatClampNeg else none
theorem toC_none {f : Nat → Int32} {c : Nat} (hc : c < 64) : toC f c = none ↔ f c = -1 := by
  unfold toC
  by_cases h : f c = -1
  · rw [if_neg (fun q => q.2 h)]; exact ⟨fun _ => h, fun _ => rfl⟩
  · rw [if_pos ⟨hc, h⟩]; exact ⟨fun q => absurd q (by simp), fun q => absurd q h⟩
theorem toC_at {f : Nat → Int32} {c v : Nat} (hc : c < 64) (hv : v < 2 ^ 31) (h : f c = nI v) : toC f c = some v := by
  unfold toC
  rw [if_pos ⟨hc, by rw [h]; exact nI_ne_m1 hv⟩, h, nI_clamp hv]
theorem beginC_ok {x : Int32} : ∀ (n i : Nat) (M : bM), i + n = 64 → (∀ a, a ≠ 26 → a ≠ 29 → lp_X5_beginFrom_2 x n i M a = M a) ∧ (∀ c, (c < i → lp_X5_beginFrom_2 x n i M 26 c = M 26 c ∧ lp_X5_beginFrom_2 x n i M 29 c = M 29 c) ∧ (i ≤ c → c < 64 → lp_X5_beginFrom_2 x n i M 26 c = (if nI c = x then 0 else -1) ∧ lp_X5_beginFrom_2 x n i M 29 c = 0)) := by
  intro n
  induction n with
  | zero =>
    intro i M hi
    rw [u0_lp_X5_beginFrom_2]
    exact ⟨fun _ _ _ => rfl, fun c => ⟨fun _ => ⟨rfl, rfl⟩, fun h1 h2 => by omega⟩⟩
  | succ n ih =>
    intro i M hi
    rw [u1_lp_X5_beginFrom_2]
    dsimp only
    have key : ∀ v : Int32, v = (if nI i = x then 0 else -1) → (∀ a, a ≠ 26 → a ≠ 29 → lp_X5_beginFrom_2 x n (i + 1) (up2 (up2 M 26 i v) 29 i 0) a = M a) ∧ (∀ c, (c < i → lp_X5_beginFrom_2 x n (i + 1) (up2 (up2 M 26 i v) 29 i 0) 26 c = M 26 c ∧ lp_X5_beginFrom_2 x n (i + 1) (up2 (up2 M 26 i v) 29 i 0) 29 c = M 29 c) ∧ (i ≤ c → c < 64 → lp_X5_beginFrom_2 x n (i + 1) (up2 (up2 M 26 i v) 29 i 0) 26 c = (if nI c = x then 0 else -1) ∧ lp_X5_beginFrom_2 x n (i + 1) (up2 (up2 M 26 i v) 29 i 0) 29 c = 0)) := by
      intro v hv
      have e26 : ∀ c, up2 (up2 M 26 i v) 29 i 0 26 c = if c = i then v else M 26 c := fun c => by rw [up2_row (by decide), up2_at]
      have e29 : ∀ c, up2 (up2 M 26 i v) 29 i 0 29 c = if c = i then 0 else M 29 c := fun c => by rw [up2_at, up2_row (by decide)]
      obtain ⟨h1, h2⟩ := ih (i + 1) (up2 (up2 M 26 i v) 29 i 0) (by omega)
      refine ⟨fun a ha hb => (h1 a ha hb).trans ((up2_row hb).trans (up2_row ha)), fun c => ⟨fun hc => ?_, fun hc hc2 => ?_⟩⟩
      · obtain ⟨h3, h4⟩ := (h2 c).1 (by omega)
        rw [h3, h4, e26, e29, if_neg (by omega), if_neg (by omega)]; exact ⟨rfl, rfl⟩
      · by_cases e : c = i
        · subst e
          obtain ⟨h3, h4⟩ := (h2 c).1 (by omega)
          rw [h3, h4, e26, e29, if_pos rfl, if_pos rfl]; exact ⟨hv, rfl⟩
        · exact (h2 c).2 (by omega) hc2
    by_cases c1 : nI i = x
    · rw [if_pos c1]; exact key 0 (by rw [if_pos c1])
    · rw [if_neg c1]; exact key (-1) (by rw [if_neg c1])
theorem beginC {M : bM} {x : Int32} : (∀ a, a ≠ 26 → a ≠ 29 → f_X5_beginFrom M x a = M a) ∧ ∀ c, c < 64 → f_X5_beginFrom M x 26 c = (if nI c = x then 0 else -1) ∧ f_X5_beginFrom M x 29 c = 0 := by
  rw [u_f_X5_beginFrom]
  exact ⟨(beginC_ok (x := x) 64 0 M rfl).1, fun c hc => ((beginC_ok (x := x) 64 0 M rfl).2 c).2 (Nat.zero_le _) hc⟩
abbrev seen (f : Nat → Int32) : Nat → Bool := fun c => decide (¬ f c = -1)
/-- the waiting row: n cells, their steps go up by one at most; those before place t / 3 are done -/
abbrev bfsI (op : Nat → Prop) (s : Nat) (M : bM) (t n : Nat) (q d : Nat → Nat) : Prop := (0 < n) ∧ (cnt (seen (M 26)) 64 = n) ∧ (∀ i, i < n → q i < 64 ∧ M 28 i = nI (q i) ∧ M 26 (q i) = nI (d i) ∧ d i ≤ i) ∧ (∀ c, c < 64 → ¬ M 26 c = -1 → ∃ i, i < n ∧ q i = c) ∧ (∀ i j, i ≤ j → j < n → d i ≤ d j) ∧ (∀ k, t / 3 ≤ k → k < n → ∀ i, i < n → d i ≤ d k + 1) ∧ (∀ i j, j < 3 → 3 * i + j < t → i < n → nb (q i) j < 64 → op (nb (q i) j) → ∃ v, M 26 (nb (q i) j) = nI v ∧ v ≤ d i + 1) ∧ (∀ i, i < n → ∃ m, pth (edg op) (fun _ => 1) s m (q i) (d i)) ∧ (M 26 s = 0)
theorem bfsI.mk {op : Nat → Prop} {s : Nat} {M : bM} {t n : Nat} {q d : Nat → Nat} (n0 : 0 < n) (cn : cnt (seen (M 26)) 64 = n) (at_ : ∀ i, i < n → q i < 64 ∧ M 28 i = nI (q i) ∧ M 26 (q i) = nI (d i) ∧ d i ≤ i) (all : ∀ c, c < 64 → ¬ M 26 c = -1 → ∃ i, i < n ∧ q i = c) (mono : ∀ i j, i ≤ j → j < n → d i ≤ d j) (near : ∀ k, t / 3 ≤ k → k < n → ∀ i, i < n → d i ≤ d k + 1)
    (done : ∀ i j, j < 3 → 3 * i + j < t → i < n → nb (q i) j < 64 → op (nb (q i) j) → ∃ v, M 26 (nb (q i) j) = nI v ∧ v ≤ d i + 1) (snd : ∀ i, i < n → ∃ m, pth (edg op) (fun _ => 1) s m (q i) (d i)) (beg : M 26 s = 0) : bfsI op s M t n q d := ⟨n0, cn, at_, all, mono, near, done, snd, beg⟩
theorem bfsI.n0 {op : Nat → Prop} {s : Nat} {M : bM} {t n : Nat} {q d : Nat → Nat} (h : bfsI op s M t n q d) : 0 < n := h.1
theorem bfsI.cn {op : Nat → Prop} {s : Nat} {M : bM} {t n : Nat} {q d : Nat → Nat} (h : bfsI op s M t n q d) : cnt (seen (M 26)) 64 = n := h.2.1
theorem bfsI.at_ {op : Nat → Prop} {s : Nat} {M : bM} {t n : Nat} {q d : Nat → Nat} (h : bfsI op s M t n q d) : ∀ i, i < n → q i < 64 ∧ M 28 i = nI (q i) ∧ M 26 (q i) = nI (d i) ∧ d i ≤ i := h.2.2.1
theorem bfsI.all {op : Nat → Prop} {s : Nat} {M : bM} {t n : Nat} {q d : Nat → Nat} (h : bfsI op s M t n q d) : ∀ c, c < 64 → ¬ M 26 c = -1 → ∃ i, i < n ∧ q i = c := h.2.2.2.1
theorem bfsI.mono {op : Nat → Prop} {s : Nat} {M : bM} {t n : Nat} {q d : Nat → Nat} (h : bfsI op s M t n q d) : ∀ i j, i ≤ j → j < n → d i ≤ d j := h.2.2.2.2.1
theorem bfsI.near {op : Nat → Prop} {s : Nat} {M : bM} {t n : Nat} {q d : Nat → Nat} (h : bfsI op s M t n q d) : ∀ k, t / 3 ≤ k → k < n → ∀ i, i < n → d i ≤ d k + 1 := h.2.2.2.2.2.1
theorem bfsI.done {op : Nat → Prop} {s : Nat} {M : bM} {t n : Nat} {q d : Nat → Nat} (h : bfsI op s M t n q d) : ∀ i j, j < 3 → 3 * i + j < t → i < n → nb (q i) j < 64 → op (nb (q i) j) → ∃ v, M 26 (nb (q i) j) = nI v ∧ v ≤ d i + 1 := h.2.2.2.2.2.2.1
theorem bfsI.snd {op : Nat → Prop} {s : Nat} {M : bM} {t n : Nat} {q d : Nat → Nat} (h : bfsI op s M t n q d) : ∀ i, i < n → ∃ m, pth (edg op) (fun _ => 1) s m (q i) (d i) := h.2.2.2.2.2.2.2.1
theorem bfsI.beg {op : Nat → Prop} {s : Nat} {M : bM} {t n : Nat} {q d : Nat → Nat} (h : bfsI op s M t n q d) : M 26 s = 0 := h.2.2.2.2.2.2.2.2
theorem cnt_one {p : Nat → Bool} {n s : Nat} (hs : s < n) (hp : p s = true) (h : ∀ i, i < n → i ≠ s → ¬ p i = true) : cnt p n = 1 := by
  induction n with
  | zero => omega
  | succ n ih =>
    show cnt p n + (if p n = true then 1 else 0) = 1
    by_cases e : s = n
    · subst e
      have : cnt p s = 0 := by
        have hz : ∀ m, m ≤ s → cnt p m = 0 := by
          intro m
          induction m with
          | zero => intro _; rfl
          | succ m ihm =>
            intro hm
            show cnt p m + (if p m = true then 1 else 0) = 0
            rw [ihm (by omega), if_neg (h m (by omega) (by omega))]
        exact hz s (Nat.le_refl _)
      rw [this, if_pos hp]
    · rw [ih (by omega) (fun i hi he => h i (by omega) he), if_neg (h n (by omega) (by omega))]
theorem cnt_plus {p q : Nat → Bool} {n k : Nat} (hk : k < n) (hp : ¬ p k = true) (hq : q k = true) (h : ∀ i, i < n → i ≠ k → p i = q i) : cnt q n = cnt p n + 1 := by
  induction n with
  | zero => omega
  | succ n ih =>
    show cnt q n + (if q n = true then 1 else 0) = cnt p n + (if p n = true then 1 else 0) + 1
    by_cases e : k = n
    · subst e
      have h1 : cnt q k = cnt p k := Nat.le_antisymm (cnt_mono (fun i hi hh => by rw [h i (by omega) (by omega)]; exact hh)) (cnt_mono (fun i hi hh => by rw [← h i (by omega) (by omega)]; exact hh))
      rw [if_pos hq, if_neg hp, h1]
    · have h1 := ih (by omega) (fun i hi he => h i (by omega) he)
      rw [h n (by omega) (by omega), h1]; omega
theorem bfs_next {op : Nat → Prop} {s : Nat} {M : bM} {k j n : Nat} {q d : Nat → Nat} (h : bfsI op s M (3 * k + j) n q d) (hk : k < n) (hj : j < 3)
    (hr : nb (q k) j < 64 → op (nb (q k) j) → ∃ v, M 26 (nb (q k) j) = nI v ∧ v ≤ d k + 1) : bfsI op s M (3 * k + (j + 1)) n q d := by
  refine ⟨h.n0, h.cn, h.at_, h.all, h.mono, fun k' h1 h2 => h.near k' (by omega) h2, fun i j' h1 h2 h3 h4 h5 => ?_, h.snd, h.beg⟩
  by_cases e : i = k ∧ j' = j
  · obtain ⟨rfl, rfl⟩ := e; exact hr h4 h5
  · exact h.done i j' h1 (by omega) h3 h4 h5
theorem bfs_add {op : Nat → Prop} {s : Nat} {M : bM} {k j n : Nat} {q d : Nat → Nat} (h : bfsI op s M (3 * k + j) n q d) (hk : k < n) (hj : j < 3) (hs : s < 64)
    (hn : nb (q k) j < 64) (ho : op (nb (q k) j)) (hf : M 26 (nb (q k) j) = -1) :
    n < 64 ∧ bfsI op s (up2 (up2 M 26 (nb (q k) j) (nI (d k + 1))) 28 n (nI (nb (q k) j))) (3 * k + (j + 1)) (n + 1) (fun i => if i = n then nb (q k) j else q i) (fun i => if i = n then d k + 1 else d i) := by
  have hlt : n < 64 := by
    have h1 := cnt_le (seen (M 26)) 64
    rw [h.cn] at h1
    rcases Nat.lt_or_ge n 64 with h2 | h2
    · exact h2
    · have h3 := cnt_all (p := seen (M 26)) (n := 64) (by rw [h.cn]; omega) _ hn
      exact absurd hf (of_decide_eq_true h3)
  obtain ⟨hqk, _, hdk, hdk2⟩ := h.at_ k hk
  generalize hx : nb (q k) j = x at *
  have e26 : ∀ c, up2 (up2 M 26 x (nI (d k + 1))) 28 n (nI x) 26 c = if c = x then nI (d k + 1) else M 26 c := fun c => by rw [up2_row (by decide), up2_at]
  have e28 : ∀ c, up2 (up2 M 26 x (nI (d k + 1))) 28 n (nI x) 28 c = if c = n then nI x else M 28 c := fun c => by rw [up2_at, up2_row (by decide)]
  have hqx : ∀ i, i < n → q i ≠ x := by
    intro i hi e
    obtain ⟨_, _, h3, h4⟩ := h.at_ i hi
    rw [e, hf] at h3
    exact nI_ne_m1 (by omega) h3.symm
  have hsx : s ≠ x := by
    intro e
    have := h.beg
    rw [e, hf] at this
    exact absurd this (by decide)
  refine ⟨hlt, bfsI.mk (by omega) ?_ ?_ ?_ ?_ ?_ ?_ ?_ ?_⟩
  · refine Eq.trans ?_ (congrArg (· + 1) h.cn)
    refine cnt_plus (k := x) hn (fun q => (of_decide_eq_true q : ¬ M 26 x = -1) hf) ?_ (fun i hi he => ?_)
    · refine decide_eq_true ?_
      rw [e26, if_pos rfl]; exact nI_ne_m1 (by omega)
    · show decide _ = decide _
      rw [e26, if_neg he]
  · intro i hi
    by_cases e : i = n
    · subst e
      rw [if_pos rfl, if_pos rfl, e28, e26, if_pos rfl, if_pos rfl]
      exact ⟨hn, rfl, rfl, by omega⟩
    · obtain ⟨h1, h2, h3, h4⟩ := h.at_ i (by omega)
      rw [if_neg e, if_neg e, e28, e26, if_neg e, if_neg (hqx i (by omega))]
      exact ⟨h1, h2, h3, h4⟩
  · intro c hc hh
    rw [e26] at hh
    by_cases e : c = x
    · exact ⟨n, by omega, by rw [if_pos rfl, e]⟩
    · rw [if_neg e] at hh
      obtain ⟨i, hi, h2⟩ := h.all c hc hh
      exact ⟨i, by omega, by rw [if_neg (by omega)]; exact h2⟩
  · intro a b hab hb
    by_cases e : b = n
    · rw [if_pos e]
      by_cases e2 : a = n
      · rw [if_pos e2]; exact Nat.le_refl _
      · rw [if_neg e2]; exact h.near k (by omega) hk a (by omega)
    · rw [if_neg e, if_neg (by omega)]
      exact h.mono a b hab (by omega)
  · intro k' h1 h2 i hi
    have hkk : k ≤ k' := by omega
    by_cases e : k' = n
    · rw [if_pos e]
      by_cases e2 : i = n
      · rw [if_pos e2]; omega
      · rw [if_neg e2]; have := h.near k (by omega) hk i (by omega); omega
    · have h3 := h.mono k k' hkk (by omega)
      rw [if_neg e]
      by_cases e2 : i = n
      · rw [if_pos e2]; omega
      · rw [if_neg e2]; exact h.near k' (by omega) (by omega) i (by omega)
  · intro i j' h1 h2 h3 h4 h5
    have hin : i ≠ n := by omega
    rw [if_neg hin] at h4 h5
    rw [if_neg hin, if_neg hin, e26]
    by_cases e : i = k ∧ j' = j
    · obtain ⟨rfl, rfl⟩ := e
      rw [hx, if_pos rfl]
      exact ⟨_, rfl, Nat.le_refl _⟩
    · obtain ⟨v, h6, h7⟩ := h.done i j' h1 (by omega) (by omega) h4 h5
      rw [if_neg (fun q => by rw [q, hf] at h6; obtain ⟨_, _, _, h9⟩ := h.at_ i (by omega); exact nI_ne_m1 (by omega) h6.symm)]
      exact ⟨v, h6, h7⟩
  · intro i hi
    by_cases e : i = n
    · rw [if_pos e, if_pos e]
      obtain ⟨m, hm⟩ := h.snd k hk
      exact ⟨m + 1, q k, d k, hm, ⟨hn, ho, j, hj, hx⟩, rfl⟩
    · rw [if_neg e, if_neg e]; exact h.snd i (by omega)
  · rw [e26, if_neg hsx]; exact h.beg
/-- one cell's three neighbours -/
theorem spread3 {op : Nat → Prop} {s k : Nat} (hs : s < 64) : ∀ (m j n : Nat) (M : bM) (q d : Nat → Nat), j + m = 3 → bfsI op s M (3 * k + j) n q d → k < n → besR M → (∀ c, c < 64 → (op c ↔ ¬ M 25 c = 0)) →
    ∃ n' q' d', (lp_X5_spreadFrom_38 (nI (q k)) m j (nI n) M).1 = nI n' ∧ n ≤ n' ∧ bfsI op s (lp_X5_spreadFrom_38 (nI (q k)) m j (nI n) M).2 (3 * (k + 1)) n' q' d' ∧ (∀ a, a ≠ 26 → a ≠ 28 → (lp_X5_spreadFrom_38 (nI (q k)) m j (nI n) M).2 a = M a) := by
  intro m
  induction m with
  | zero =>
    intro j n M q d hj h hk hb ho
    rw [u0_lp_X5_spreadFrom_38]
    dsimp only
    rw [fits_nI (h.at_ k hk).1, if_neg (by decide)]
    refine ⟨n, q, d, rfl, Nat.le_refl _, ?_, fun _ _ _ => rfl⟩
    rw [show 3 * (k + 1) = 3 * k + j by omega]
    exact h
  | succ m ih =>
    intro j n M q d hj h hk hb ho
    obtain ⟨hq, _, hd, hd2⟩ := h.at_ k hk
    have hn64 : n ≤ 64 := by have := cnt_le (seen (M 26)) 64; rw [h.cn] at this; exact this
    rw [u1_lp_X5_spreadFrom_38]
    dsimp only
    rw [fits_nI hq, if_neg (by decide), idx3 hq (by omega), bes_at hb hq (by omega)]
    have keep : bfsI op s M (3 * k + (j + 1)) n q d → ∃ n' q' d', (lp_X5_spreadFrom_38 (nI (q k)) m (j + 1) (nI n) M).1 = nI n' ∧ n ≤ n' ∧ bfsI op s (lp_X5_spreadFrom_38 (nI (q k)) m (j + 1) (nI n) M).2 (3 * (k + 1)) n' q' d' ∧ (∀ a, a ≠ 26 → a ≠ 28 → (lp_X5_spreadFrom_38 (nI (q k)) m (j + 1) (nI n) M).2 a = M a) := fun h' => ih (j + 1) n M q d (by omega) h' hk hb ho
    by_cases c1 : nb (q k) j < 64
    · rw [if_neg (fun z => fits_nbI.mp z c1)]
      rw [show nbI (q k) j = nI (nb (q k) j) from by unfold nbI; rw [if_pos c1], nI_clamp (by omega)]
      by_cases c2 : M 25 (nb (q k) j) = 0
      · rw [if_pos c2]
        exact keep (bfs_next h hk (by omega) (fun _ z => absurd c2 ((ho _ c1).mp z)))
      · rw [if_neg c2]
        by_cases c3 : M 26 (nb (q k) j) = -1
        · rw [if_pos c3]
          obtain ⟨h64, h'⟩ := bfs_add h hk (by omega) hs c1 ((ho _ c1).mpr c2) c3
          rw [if_neg (show ¬ (64 : Int32) ≤ nI n from nI_ge (a := n) (b := 64) h64 (by decide)), nI_clamp (by omega), nI_clamp (by omega), hd, nI_1, nI_1]
          have hqk : (if k = n then nb (q k) j else q k) = q k := if_neg (by omega)
          obtain ⟨n', q', d', g1, g2, g3, g4⟩ := ih (j + 1) (n + 1) _ _ _ (by omega) h' (by omega) (fun i hi => by rw [up2_row (by decide), up2_row (by decide)]; exact hb i hi) (fun c hc => by rw [up2_row (by decide), up2_row (by decide)]; exact ho c hc)
          rw [hqk] at g1 g3 g4
          exact ⟨n', q', d', g1, by omega, g3, fun a ha ha' => (g4 a ha ha').trans ((up2_row ha').trans (up2_row ha))⟩
        · rw [if_neg c3]
          refine keep (bfs_next h hk (by omega) (fun _ _ => ?_))
          obtain ⟨i, hi, e⟩ := h.all _ c1 c3
          exact ⟨d i, by rw [← e]; exact (h.at_ i hi).2.2.1, h.near k (by omega) hk i hi⟩
    · rw [if_pos (fits_nbI.mpr c1)]
      exact keep (bfs_next h hk (by omega) (fun z _ => absurd z c1))
theorem spreadQ {op : Nat → Prop} {s : Nat} (hs : s < 64) : ∀ (m k n : Nat) (M : bM) (q d : Nat → Nat), k + m = 64 → bfsI op s M (3 * k) n q d → besR M → (∀ c, c < 64 → (op c ↔ ¬ M 25 c = 0)) →
    ∃ k' n' q' d', n' ≤ k' ∧ bfsI op s (lp_X5_spreadFrom_16 m k (nI n) M).2 (3 * k') n' q' d' ∧ (∀ a, a ≠ 26 → a ≠ 28 → (lp_X5_spreadFrom_16 m k (nI n) M).2 a = M a) := by
  intro m
  induction m with
  | zero =>
    intro k n M q d hk h hb ho
    have hn64 : n ≤ 64 := by have := cnt_le (seen (M 26)) 64; rw [h.cn] at this; exact this
    rw [u0_lp_X5_spreadFrom_16, if_pos (nI_le (by omega) (by omega))]
    exact ⟨k, n, q, d, by omega, h, fun _ _ _ => rfl⟩
  | succ m ih =>
    intro k n M q d hk h hb ho
    have hn64 : n ≤ 64 := by have := cnt_le (seen (M 26)) 64; rw [h.cn] at this; exact this
    rw [u1_lp_X5_spreadFrom_16]
    dsimp only
    by_cases c1 : n ≤ k
    · rw [if_pos (nI_le c1 (by omega))]
      exact ⟨k, n, q, d, c1, h, fun _ _ _ => rfl⟩
    · rw [if_neg (nI_ge (by omega) (by omega)), (h.at_ k (by omega)).2.1]
      obtain ⟨n', q', d', g1, g2, g3, g4⟩ := spread3 (k := k) hs 3 0 n M q d rfl (by rw [Nat.add_zero]; exact h) (by omega) hb ho
      rw [g1]
      obtain ⟨k2, n2, q2, d2, f1, f2, f3⟩ := ih (k + 1) n' _ q' d' (by omega) g3 (fun i hi => by rw [g4 24 (by decide) (by decide)]; exact hb i hi) (fun c hc => by rw [g4 25 (by decide) (by decide)]; exact ho c hc)
      exact ⟨k2, n2, q2, d2, f1, f2, fun a ha ha' => (f3 a ha ha').trans (g4 a ha ha')⟩
theorem bfs_way {op : Nat → Prop} {s : Nat} {M : bM} {k n : Nat} {q d : Nat → Nat} (hs : s < 64) (h : bfsI op s M (3 * k) n q d) (hk : n ≤ k) : wayD (edg op) (fun _ => 1) s (toC (M 26)) := by
  have hn64 : n ≤ 64 := by have := cnt_le (seen (M 26)) 64; rw [h.cn] at this; exact this
  have hq : ∀ c v, toC (M 26) c = some v → ∃ i, i < n ∧ q i = c ∧ d i = v := by
    intro c v hv
    have hc : c < 64 ∧ ¬ M 26 c = -1 := Classical.byContradiction (fun z => by unfold toC at hv; rw [if_neg z] at hv; exact absurd hv (by simp))
    obtain ⟨i, hi, e⟩ := h.all c hc.1 hc.2
    obtain ⟨h1, _, h3, h4⟩ := h.at_ i hi
    rw [e] at h3
    rw [toC_at hc.1 (by omega) h3] at hv
    exact ⟨i, hi, e, Option.some.inj hv⟩
  refine ⟨toC_at hs (v := 0) (by decide) h.beg, fun c v hv => ?_, fun b c u hu he => ?_⟩
  · obtain ⟨i, hi, e1, e2⟩ := hq c v hv
    have := h.snd i hi
    rw [e1, e2] at this
    exact this
  · obtain ⟨i, hi, e1, e2⟩ := hq b u hu
    obtain ⟨h1, h2, j, hj, h3⟩ := he
    subst h3
    rw [← e1] at h1 h2 ⊢
    obtain ⟨v, h4, h5⟩ := h.done i j hj (by omega) hi h1 h2
    have := (h.at_ i hi).2.2.2
    exact ⟨v, toC_at h1 (by omega) h4, by dsimp only; omega⟩
theorem bfs_small {op : Nat → Prop} {s : Nat} {M : bM} {t n : Nat} {q d : Nat → Nat} (h : bfsI op s M t n q d) : ∀ c, c < 64 → ¬ M 26 c = -1 → ∃ v, v ≤ 64 ∧ M 26 c = nI v := by
  intro c hc hn
  have hn64 : n ≤ 64 := by have := cnt_le (seen (M 26)) 64; rw [h.cn] at this; exact this
  obtain ⟨i, hi, e⟩ := h.all c hc hn
  obtain ⟨_, _, h3, h4⟩ := h.at_ i hi
  rw [e] at h3
  exact ⟨d i, by omega, h3⟩
/-- the steps from s over open cells -/
theorem spread_all {M : bM} {s : Nat} (hs : s < 64) (hb : besR M) : wayD (edg (fun c => ¬ M 25 c = 0)) (fun _ => 1) s (toC (f_X5_spreadFrom M (nI s) 26)) ∧ (∀ a, a ≠ 26 → a ≠ 28 → a ≠ 29 → f_X5_spreadFrom M (nI s) a = M a) ∧ (∀ c, c < 64 → ¬ f_X5_spreadFrom M (nI s) 26 c = -1 → ∃ v, v ≤ 64 ∧ f_X5_spreadFrom M (nI s) 26 c = nI v) := by
  obtain ⟨b1, b2⟩ := beginC (M := M) (x := nI s)
  rw [u_f_X5_spreadFrom]
  dsimp only
  have e26 : ∀ c, c < 64 → up2 (f_X5_beginFrom M (nI s)) 28 0 (nI s) 26 c = if c = s then 0 else -1 := by
    intro c hc
    rw [up2_row (by decide), (b2 c hc).1]
    by_cases e : c = s
    · rw [if_pos e, if_pos (by rw [e])]
    · rw [if_neg e, if_neg (fun z => e (nI_inj (by omega) (by omega) z))]
  have h0 : bfsI (fun c => ¬ M 25 c = 0) s (up2 (f_X5_beginFrom M (nI s)) 28 0 (nI s)) (3 * 0) 1 (fun _ => s) (fun _ => 0) := by
    refine ⟨by decide, ?_, ?_, ?_, fun _ _ _ _ => Nat.le_refl _, fun _ _ _ _ _ => Nat.zero_le _, fun i j _ h => by omega, fun _ _ => ⟨0, rfl, rfl⟩, ?_⟩
    · refine cnt_one hs (decide_eq_true ?_) (fun i hi he => ?_)
      · rw [e26 s hs, if_pos rfl]; decide
      · intro z
        have := of_decide_eq_true z
        rw [e26 i hi, if_neg he] at this
        exact this rfl
    · intro i hi
      refine ⟨hs, ?_, ?_, Nat.zero_le _⟩
      · rw [show i = 0 by omega, up2_at, if_pos rfl]
      · rw [e26 s hs, if_pos rfl]; rfl
    · intro c hc hh
      rw [e26 c hc] at hh
      by_cases e : c = s
      · exact ⟨0, by decide, e.symm⟩
      · rw [if_neg e] at hh; exact absurd rfl hh
    · rw [e26 s hs, if_pos rfl]
  have r1 : ∀ a, a ≠ 26 → a ≠ 28 → a ≠ 29 → up2 (f_X5_beginFrom M (nI s)) 28 0 (nI s) a = M a := fun a h1 h2 h3 => (up2_row h2).trans (b1 a h1 h3)
  obtain ⟨k', n', q', d', g1, g2, g3⟩ := spreadQ hs 64 0 1 _ _ _ rfl h0 (fun i hi => by rw [r1 24 (by decide) (by decide) (by decide)]; exact hb i hi) (fun c _ => by rw [r1 25 (by decide) (by decide) (by decide)])
  exact ⟨bfs_way hs g2 g1, fun a h1 h2 h3 => (g3 a h1 h2).trans (r1 a h1 h2 h3), bfs_small g2⟩
theorem spread_ok {M : bM} {s : Nat} (hs : s < 64) (hb : besR M) : wayD (edg (fun c => ¬ M 25 c = 0)) (fun _ => 1) s (toC (f_X5_spreadFrom M (nI s) 26)) ∧ (∀ a, a ≠ 26 → a ≠ 28 → a ≠ 29 → f_X5_spreadFrom M (nI s) a = M a) := ⟨(spread_all hs hb).1, (spread_all hs hb).2.1⟩
/-! SHUT IN: the class's search and the reference's sweeps say the same -/
abbrev u1w : Nat → Nat := fun _ => 1
abbrev rch (op : Nat → Prop) (s c : Nat) : Prop := ∃ n v, pth (edg op) u1w s n c v
theorem edg_eq {op op' : Nat → Prop} (h : ∀ c, c < 64 → (op c ↔ op' c)) : edg op = edg op' := by
  funext b c
  exact propext ⟨fun ⟨h1, h2, h3⟩ => ⟨h1, (h c h1).mp h2, h3⟩, fun ⟨h1, h2, h3⟩ => ⟨h1, (h c h1).mpr h2, h3⟩⟩
theorem pth_unit {e : Nat → Nat → Prop} {s : Nat} : ∀ n c v, pth e u1w s n c v → v = n := by
  intro n
  induction n with
  | zero => intro c v h; exact h.2
  | succ n ih => intro c v h; obtain ⟨b, u, h1, _, h3⟩ := h; rw [h3, ih b u h1]
theorem pth_lt {op : Nat → Prop} {w : Nat → Nat} {s : Nat} (hs : s < 64) {n c v : Nat} (h : pth (edg op) w s n c v) : c < 64 := by
  cases n with
  | zero => rw [h.1]; exact hs
  | succ n => obtain ⟨b, u, _, h2, _⟩ := h; exact h2.1
theorem way_ex (op : Nat → Prop) {s : Nat} (hs : s < 64) : ∃ D, wayD (edg op) u1w s D := by
  have : ∀ c, Decidable (op c) := fun c => Classical.propDecidable _
  have h := (spread_ok (M := fun a i => if a = 24 then nbI (i / 3) (i % 3) else if a = 25 then (if op i then 1 else 0) else 0) hs (fun i hi => by dsimp only; rw [if_pos rfl])).1
  rw [edg_eq (op' := op) (fun c hc => by
    rw [if_neg (by decide), if_pos rfl]
    by_cases q : op c
    · rw [if_pos q]; exact ⟨fun _ => q, fun _ => by decide⟩
    · rw [if_neg q]; exact ⟨fun z => absurd rfl z, fun z => absurd z q⟩)] at h
  exact ⟨_, h⟩
theorem rch_short {op : Nat → Prop} {s c : Nat} (hs : s < 64) (h : rch op s c) : ∃ n v, n ≤ 64 ∧ pth (edg op) u1w s n c v := by
  obtain ⟨D, hD⟩ := way_ex op hs
  obtain ⟨n, v, hp⟩ := h
  obtain ⟨u, h1, _⟩ := wayD_le hD n c v hp
  obtain ⟨m, hm⟩ := hD.2.1 c u h1
  have h2 := (wayD_max hD (W := 1) (N := 64) (fun _ => Nat.le_refl _) hs (fun _ _ q => q.1) h1).2
  have h3 := pth_unit m c u hm
  exact ⟨m, u, by omega, hm⟩
theorem rch_tab {op : Nat → Prop} {s c : Nat} {f : Nat → Int32} (h : wayD (edg op) u1w s (toC f)) (hc : c < 64) : rch op s c ↔ ¬ f c = -1 := by
  constructor
  · rintro ⟨n, v, hp⟩ q
    obtain ⟨u, h1, _⟩ := wayD_le h n c v hp
    rw [(toC_none hc).mpr q] at h1
    exact absurd h1 (by simp)
  · intro q
    rcases hd : toC f c with _ | v
    · exact absurd ((toC_none hc).mp hd) q
    · obtain ⟨n, hp⟩ := h.2.1 c v hd
      exact ⟨n, v, hp⟩
abbrev rvR (r : Nat → Int32) (p c : Nat) : Int32 := f_X7_isRiver (fun _ => r) 0 (nI p) (nI c)
theorem rvR_eq {M : bM} {k p c : Nat} : f_X7_isRiver M k (nI p) (nI c) = rvR (M k) p c := by rw [u_f_X7_isRiver, rvR, u_f_X7_isRiver]
abbrev opR (r : Nat → Int32) (p c : Nat) : Prop := r (148 + c) = -1 ∧ rvR r p c = 0
abbrev goR (r : Nat → Int32) (p c : Nat) : Prop := 56 ≤ c ∨ ¬ rvR r (1 - p) c = 0
theorem div8 {c : Nat} (hc : c < 64) : nI c / 8 = 7 ↔ 56 ≤ c := by
  have h : ∀ i : Fin 64, nI i.val / 8 = 7 ↔ 56 ≤ i.val := by decide +kernel
  exact h ⟨c, hc⟩
theorem sub1 {p : Nat} (hp : p < 2) : (1 : Int32) - nI p = nI (1 - p) := by
  rcases (by omega : p = 0 ∨ p = 1) with rfl | rfl <;> rfl
theorem sweep_ok {k p s : Nat} {r : Nat → Int32} (hk : k ≠ 7) (hp : p < 2) : ∀ (n i : Nat) (x : Int32) (M : bM), i + n = 192 → M k = r → (x = 0 ∨ x = 1) → (∀ c, c < 64 → M 7 c = 1 → rch (opR r p) s c) → (¬ x = 0 → ∃ c, c < 64 ∧ rch (opR r p) s c ∧ goR r p c) →
    (∀ a, a ≠ 7 → (lp_X7_isOpen_68 k (nI p) n i x M).2 a = M a) ∧ ((lp_X7_isOpen_68 k (nI p) n i x M).1 = 0 ∨ (lp_X7_isOpen_68 k (nI p) n i x M).1 = 1) ∧ (∀ c, c < 64 → (lp_X7_isOpen_68 k (nI p) n i x M).2 7 c = 1 → rch (opR r p) s c) ∧
    (¬ (lp_X7_isOpen_68 k (nI p) n i x M).1 = 0 → ∃ c, c < 64 ∧ rch (opR r p) s c ∧ goR r p c) ∧
    ((lp_X7_isOpen_68 k (nI p) n i x M).1 = 0 → x = 0 ∧ (∀ c, M 7 c = 1 → (lp_X7_isOpen_68 k (nI p) n i x M).2 7 c = 1) ∧ (∀ c, c < 64 → (lp_X7_isOpen_68 k (nI p) n i x M).2 7 c = 1 → M 7 c = 1 ∨ ¬ goR r p c) ∧
      (∀ q, i ≤ q → q < 192 → M 7 (q / 3) = 1 → nb (q / 3) (q % 3) < 64 → opR r p (nb (q / 3) (q % 3)) → (lp_X7_isOpen_68 k (nI p) n i x M).2 7 (nb (q / 3) (q % 3)) = 1)) := by
  intro n
  induction n with
  | zero =>
    intro i x M hi hr hx hm hg
    rw [u0_lp_X7_isOpen_68]
    exact ⟨fun _ _ => rfl, hx, hm, hg, fun h => ⟨h, fun _ q => q, fun _ _ q => Or.inl q, fun q h1 h2 => by omega⟩⟩
  | succ n ih =>
    intro i x M hi hr hx hm hg
    rw [u1_lp_X7_isOpen_68, sf_sweep (by omega), div3c (by omega)]
    dsimp only
    have hb : i / 3 < 64 := by omega
    by_cases hx0 : x = 0
    · rw [if_pos hx0]
      have keep : (M 7 (i / 3) = 1 → nb (i / 3) (i % 3) < 64 → ¬ opR r p (nb (i / 3) (i % 3))) →
          (∀ a, a ≠ 7 → (lp_X7_isOpen_68 k (nI p) n (i + 1) x M).2 a = M a) ∧ ((lp_X7_isOpen_68 k (nI p) n (i + 1) x M).1 = 0 ∨ (lp_X7_isOpen_68 k (nI p) n (i + 1) x M).1 = 1) ∧ (∀ c, c < 64 → (lp_X7_isOpen_68 k (nI p) n (i + 1) x M).2 7 c = 1 → rch (opR r p) s c) ∧
          (¬ (lp_X7_isOpen_68 k (nI p) n (i + 1) x M).1 = 0 → ∃ c, c < 64 ∧ rch (opR r p) s c ∧ goR r p c) ∧
          ((lp_X7_isOpen_68 k (nI p) n (i + 1) x M).1 = 0 → x = 0 ∧ (∀ c, M 7 c = 1 → (lp_X7_isOpen_68 k (nI p) n (i + 1) x M).2 7 c = 1) ∧ (∀ c, c < 64 → (lp_X7_isOpen_68 k (nI p) n (i + 1) x M).2 7 c = 1 → M 7 c = 1 ∨ ¬ goR r p c) ∧
            (∀ q, i ≤ q → q < 192 → M 7 (q / 3) = 1 → nb (q / 3) (q % 3) < 64 → opR r p (nb (q / 3) (q % 3)) → (lp_X7_isOpen_68 k (nI p) n (i + 1) x M).2 7 (nb (q / 3) (q % 3)) = 1)) := by
        intro hno
        obtain ⟨g1, g2, g3, g4, g5⟩ := ih (i + 1) x M (by omega) hr hx hm hg
        refine ⟨g1, g2, g3, g4, fun h => ?_⟩
        obtain ⟨f1, f2, f3, f4⟩ := g5 h
        refine ⟨f1, f2, f3, fun q h1 h2 h3 h4 h5 => ?_⟩
        by_cases e : q = i
        · subst e; exact absurd h5 (hno h3 h4)
        · exact f4 q (by omega) h2 h3 h4 h5
      by_cases c1 : M 7 (i / 3) = 1
      · rw [if_pos c1]
        by_cases c2 : nbI (i / 3) (i % 3) = -1
        · rw [if_pos c2]; exact keep (fun _ z => absurd z (nbI_m1.mp c2))
        · rw [if_neg c2]
          obtain ⟨hn, hnI⟩ := nbI_pos c2
          rw [hnI]
          have hrv : f_X7_isRiver M k (nI p) (nI (nb (i / 3) (i % 3))) = rvR r p (nb (i / 3) (i % 3)) := by rw [rvR_eq, hr]
          by_cases c3 : f_X7_isDam M k (nI (nb (i / 3) (i % 3))) = 0
          · rw [if_pos c3, hrv]
            by_cases c4 : rvR r p (nb (i / 3) (i % 3)) = 0
            · rw [if_pos c4, nI_clamp (by omega), sub1 hp, rvR_eq (M := up2 M 7 (nb (i / 3) (i % 3)) 1), up2_row hk, hr]
              have hop : opR r p (nb (i / 3) (i % 3)) := ⟨by have := (isDam_iff hn).mp c3; rw [hr] at this; exact this, c4⟩
              have hrn : rch (opR r p) s (nb (i / 3) (i % 3)) := by
                obtain ⟨m, v, hpv⟩ := hm (i / 3) hb c1
                exact ⟨m + 1, _, i / 3, v, hpv, ⟨hn, hop, i % 3, by omega, rfl⟩, rfl⟩
              have hm' : ∀ c, c < 64 → up2 M 7 (nb (i / 3) (i % 3)) 1 7 c = 1 → rch (opR r p) s c := by
                intro c hc q
                rw [up2_at] at q
                by_cases e : c = nb (i / 3) (i % 3)
                · rw [e]; exact hrn
                · rw [if_neg e] at q; exact hm c hc q
              have step : ∀ y : Int32, (y = 0 ∨ y = 1) → (y = 0 ↔ ¬ goR r p (nb (i / 3) (i % 3))) →
                  (∀ a, a ≠ 7 → (lp_X7_isOpen_68 k (nI p) n (i + 1) y (up2 M 7 (nb (i / 3) (i % 3)) 1)).2 a = M a) ∧ ((lp_X7_isOpen_68 k (nI p) n (i + 1) y (up2 M 7 (nb (i / 3) (i % 3)) 1)).1 = 0 ∨ (lp_X7_isOpen_68 k (nI p) n (i + 1) y (up2 M 7 (nb (i / 3) (i % 3)) 1)).1 = 1) ∧ (∀ c, c < 64 → (lp_X7_isOpen_68 k (nI p) n (i + 1) y (up2 M 7 (nb (i / 3) (i % 3)) 1)).2 7 c = 1 → rch (opR r p) s c) ∧
                  (¬ (lp_X7_isOpen_68 k (nI p) n (i + 1) y (up2 M 7 (nb (i / 3) (i % 3)) 1)).1 = 0 → ∃ c, c < 64 ∧ rch (opR r p) s c ∧ goR r p c) ∧
                  ((lp_X7_isOpen_68 k (nI p) n (i + 1) y (up2 M 7 (nb (i / 3) (i % 3)) 1)).1 = 0 → x = 0 ∧ (∀ c, M 7 c = 1 → (lp_X7_isOpen_68 k (nI p) n (i + 1) y (up2 M 7 (nb (i / 3) (i % 3)) 1)).2 7 c = 1) ∧ (∀ c, c < 64 → (lp_X7_isOpen_68 k (nI p) n (i + 1) y (up2 M 7 (nb (i / 3) (i % 3)) 1)).2 7 c = 1 → M 7 c = 1 ∨ ¬ goR r p c) ∧
                    (∀ q, i ≤ q → q < 192 → M 7 (q / 3) = 1 → nb (q / 3) (q % 3) < 64 → opR r p (nb (q / 3) (q % 3)) → (lp_X7_isOpen_68 k (nI p) n (i + 1) y (up2 M 7 (nb (i / 3) (i % 3)) 1)).2 7 (nb (q / 3) (q % 3)) = 1)) := by
                intro y hy hyg
                obtain ⟨g1, g2, g3, g4, g5⟩ := ih (i + 1) y (up2 M 7 (nb (i / 3) (i % 3)) 1) (by omega) (by rw [up2_row hk]; exact hr) hy hm' (fun q => ⟨_, hn, hrn, Classical.byContradiction (fun z => q (hyg.mpr z))⟩)
                have hup : ∀ c, M 7 c = 1 → up2 M 7 (nb (i / 3) (i % 3)) 1 7 c = 1 := by
                  intro c q
                  rw [up2_at]
                  by_cases e : c = nb (i / 3) (i % 3)
                  · rw [if_pos e]
                  · rw [if_neg e]; exact q
                refine ⟨fun a ha => (g1 a ha).trans (up2_row ha), g2, g3, g4, fun h => ?_⟩
                obtain ⟨f1, f2, f3, f4⟩ := g5 h
                refine ⟨hx0, fun c q => f2 c (hup c q), fun c hc q => ?_, fun q h1 h2 h3 h4 h5 => ?_⟩
                · rcases f3 c hc q with z | z
                  · rw [up2_at] at z
                    by_cases e : c = nb (i / 3) (i % 3)
                    · rw [e]; exact Or.inr (hyg.mp f1)
                    · rw [if_neg e] at z; exact Or.inl z
                  · exact Or.inr z
                · by_cases e : q = i
                  · subst e
                    exact f2 _ (by rw [up2_at, if_pos rfl])
                  · exact f4 q (by omega) h2 (hup _ h3) h4 h5
              by_cases c5 : nI (nb (i / 3) (i % 3)) / 8 = 7
              · rw [if_pos c5]
                exact step 1 (Or.inr rfl) ⟨fun q => absurd q (by decide), fun q => absurd (Or.inl ((div8 hn).mp c5)) q⟩
              · rw [if_neg c5]
                by_cases c6 : rvR r (1 - p) (nb (i / 3) (i % 3)) = 0
                · rw [if_pos c6]
                  exact step 0 (Or.inl rfl) ⟨fun _ z => z.elim (fun q => c5 ((div8 hn).mpr q)) (fun q => q c6), fun _ => rfl⟩
                · rw [if_neg c6]
                  exact step 1 (Or.inr rfl) ⟨fun q => absurd q (by decide), fun q => absurd (Or.inr c6) q⟩
            · rw [if_neg c4]; exact keep (fun _ _ z => c4 z.2)
          · rw [if_neg c3]
            exact keep (fun _ _ z => c3 ((isDam_iff hn).mpr (by rw [hr]; exact z.1)))
      · rw [if_neg c1]; exact keep (fun z => absurd z c1)
    · rw [if_neg hx0]
      exact ⟨fun _ _ => rfl, hx, hm, hg, fun h => absurd h hx0⟩
theorem sweeps_ok {k p s : Nat} {r : Nat → Int32} (hk : k ≠ 7) (hp : p < 2) (hs : s < 64) : ∀ (n i : Nat) (x : Int32) (M : bM), i + n = 64 → M k = r → (x = 0 ∨ x = 1) → (∀ c, c < 64 → M 7 c = 1 → rch (opR r p) s c) → (¬ x = 0 → ∃ c, c < 64 ∧ rch (opR r p) s c ∧ goR r p c) →
    (x = 0 → ∀ m c v, m ≤ i → pth (edg (opR r p)) u1w s m c v → M 7 c = 1) → (x = 0 → ∀ c, c < 64 → M 7 c = 1 → ¬ goR r p c) →
    (∀ a, a ≠ 7 → (lp_X7_isOpen_54 k (nI p) n i x M).2 a = M a) ∧ ((lp_X7_isOpen_54 k (nI p) n i x M).1 = 0 ∨ (lp_X7_isOpen_54 k (nI p) n i x M).1 = 1) ∧ (¬ (lp_X7_isOpen_54 k (nI p) n i x M).1 = 0 ↔ ∃ c, c < 64 ∧ rch (opR r p) s c ∧ goR r p c) := by
  intro n
  induction n with
  | zero =>
    intro i x M hi hr hx hm hg ha hb
    rw [u0_lp_X7_isOpen_54]
    refine ⟨fun _ _ => rfl, hx, ⟨hg, fun ⟨c, h1, h2, h3⟩ q => ?_⟩⟩
    obtain ⟨m, v, h4, h5⟩ := rch_short hs h2
    exact hb q c h1 (ha q m c v (by omega) h5) h3
  | succ n ih =>
    intro i x M hi hr hx hm hg ha hb
    rw [u1_lp_X7_isOpen_54]
    by_cases hx0 : x = 0
    · rw [if_pos hx0]
      dsimp only
      obtain ⟨g1, g2, g3, g4, g5⟩ := sweep_ok (s := s) hk hp 192 0 x M rfl hr hx hm hg
      generalize lp_X7_isOpen_68 k (nI p) 192 0 x M = Z at *
      obtain ⟨f1, f2, f3⟩ := ih (i + 1) Z.1 Z.2 (by omega) ((g1 k hk).trans hr) g2 g3 g4 (fun h m c v hm' hpv => by
        obtain ⟨_, e2, _, e4⟩ := g5 h
        by_cases em : m ≤ i
        · exact e2 c (ha hx0 m c v em hpv)
        · rw [show m = i + 1 by omega] at hpv
          obtain ⟨b, u, h1, ⟨h2, h3, j, hj, h4⟩, _⟩ := hpv
          have hb64 := pth_lt hs h1
          have hq := e4 (3 * b + j) (Nat.zero_le _) (by omega)
          rw [show (3 * b + j) / 3 = b by omega, show (3 * b + j) % 3 = j by omega, h4] at hq
          exact hq (ha hx0 i b u (Nat.le_refl _) h1) h2 h3) (fun h c hc q => by
        obtain ⟨_, _, e3, _⟩ := g5 h
        rcases e3 c hc q with z | z
        · exact hb hx0 c hc z
        · exact z)
      exact ⟨fun a h => (f1 a h).trans (g1 a h), f2, f3⟩
    · rw [if_neg hx0]
      exact ⟨fun _ _ => rfl, hx, ⟨hg, fun _ => hx0⟩⟩
theorem zero7 : ∀ (n i : Nat) (M : bM), i + n = 64 → (∀ a, a ≠ 7 → lp_X7_isOpen_2 n i M a = M a) ∧ ∀ c, (c < i → lp_X7_isOpen_2 n i M 7 c = M 7 c) ∧ (i ≤ c → c < 64 → lp_X7_isOpen_2 n i M 7 c = 0) := by
  intro n
  induction n with
  | zero => intro i M hi; rw [u0_lp_X7_isOpen_2]; exact ⟨fun _ _ => rfl, fun c => ⟨fun _ => rfl, fun h1 h2 => by omega⟩⟩
  | succ n ih =>
    intro i M hi
    rw [u1_lp_X7_isOpen_2]
    dsimp only
    obtain ⟨h1, h2⟩ := ih (i + 1) (up2 M 7 i 0) (by omega)
    refine ⟨fun a ha => (h1 a ha).trans (up2_row ha), fun c => ⟨fun hc => ?_, fun hc hc2 => ?_⟩⟩
    · rw [(h2 c).1 (by omega), up2_at, if_neg (by omega)]
    · by_cases e : c = i
      · rw [(h2 c).1 (by omega), up2_at, if_pos e]
      · exact (h2 c).2 (by omega) hc2
theorem head7_c {M N : bM} {k : Nat} {p : Int32} (h : N k = M k) : f_X7_head N k p = f_X7_head M k p := by rw [u_f_X7_head, u_f_X7_head, u_f_X7_of, u_f_X7_of, h]
theorem isOpen_ok {M : bM} {k p s : Nat} (hk : k ≠ 7) (hp : p < 2) (hs : s < 64) (hh : f_X7_head M k (nI p) = nI s) (ho : rvR (M k) (1 - p) s = 0) :
    (∀ a, a ≠ 7 → (f_X7_isOpen M k (nI p)).2 a = M a) ∧ ((f_X7_isOpen M k (nI p)).1 = 0 ∨ (f_X7_isOpen M k (nI p)).1 = 1) ∧ (¬ (f_X7_isOpen M k (nI p)).1 = 0 ↔ ∃ c, c < 64 ∧ rch (opR (M k) p) s c ∧ goR (M k) p c) := by
  obtain ⟨z1, z2⟩ := zero7 64 0 M rfl
  rw [u_f_X7_isOpen]
  dsimp only
  rw [head7_c (z1 k hk), hh, nI_clamp (by omega), head7_c (show up2 (lp_X7_isOpen_2 64 0 M) 7 s 1 k = M k from (up2_row hk).trans (z1 k hk)), hh]
  have hrow : ∀ a, a ≠ 7 → up2 (lp_X7_isOpen_2 64 0 M) 7 s 1 a = M a := fun a h => (up2_row h).trans (z1 a h)
  have hmk : ∀ c, c < 64 → up2 (lp_X7_isOpen_2 64 0 M) 7 s 1 7 c = 1 → c = s := by
    intro c hc q
    rw [up2_at] at q
    by_cases e : c = s
    · exact e
    · rw [if_neg e, (z2 c).2 (Nat.zero_le _) hc] at q; exact absurd q (by decide)
  have key := fun (x : Int32) (hx : x = 0 ∨ x = 1) (hg : ¬ x = 0 → ∃ c, c < 64 ∧ rch (opR (M k) p) s c ∧ goR (M k) p c) (hz : x = 0 → ¬ goR (M k) p s) => sweeps_ok (s := s) (r := M k) hk hp hs 64 0 x (up2 (lp_X7_isOpen_2 64 0 M) 7 s 1) rfl (hrow k hk) hx (fun c hc q => by rw [hmk c hc q]; exact ⟨0, 0, rfl, rfl⟩) hg (fun _ m c v hm hpv => by
    rw [show m = 0 by omega] at hpv
    rw [hpv.1, up2_at, if_pos rfl]) (fun h c hc q => by rw [hmk c hc q]; exact hz h)
  by_cases c1 : nI s / 8 = 7
  · rw [if_pos c1]
    obtain ⟨f1, f2, f3⟩ := key 1 (Or.inr rfl) (fun _ => ⟨s, hs, ⟨0, 0, rfl, rfl⟩, Or.inl ((div8 hs).mp c1)⟩) (fun h => absurd h (by decide))
    exact ⟨fun a h => (f1 a h).trans (hrow a h), f2, f3⟩
  · rw [if_neg c1]
    obtain ⟨f1, f2, f3⟩ := key 0 (Or.inl rfl) (fun h => absurd rfl h) (fun _ z => z.elim (fun q => c1 ((div8 hs).mpr q)) (fun q => q ho))
    exact ⟨fun a h => (f1 a h).trans (hrow a h), f2, f3⟩
