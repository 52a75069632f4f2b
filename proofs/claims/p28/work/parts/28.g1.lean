/-! GRAPH: ways over cells, their costs; two tables of least costs are one -/
def cnt (p : Nat → Bool) : Nat → Nat
  | 0 => 0
  | n + 1 => cnt p n + (if p n = true then 1 else 0)
theorem cnt_le (p : Nat → Bool) (n : Nat) : cnt p n ≤ n := by
  induction n with
  | zero => exact Nat.le_refl _
  | succ n ih =>
    show cnt p n + _ ≤ n + 1
    split <;> omega
theorem cnt_mono {p q : Nat → Bool} {n : Nat} (h : ∀ i, i < n → p i = true → q i = true) : cnt p n ≤ cnt q n := by
  induction n with
  | zero => exact Nat.le_refl _
  | succ n ih =>
    have h1 := ih (fun i hi => h i (by omega))
    show cnt p n + (if p n = true then 1 else 0) ≤ cnt q n + (if q n = true then 1 else 0)
    by_cases h2 : p n = true
    · rw [if_pos h2, if_pos (h n (by omega) h2)]; omega
    · rw [if_neg h2]; omega
theorem cnt_lt {p q : Nat → Bool} {n k : Nat} (h : ∀ i, i < n → p i = true → q i = true) (hk : k < n) (hp : ¬ p k = true) (hq : q k = true) : cnt p n < cnt q n := by
  induction n with
  | zero => omega
  | succ n ih =>
    show cnt p n + (if p n = true then 1 else 0) < cnt q n + (if q n = true then 1 else 0)
    by_cases e : k = n
    · subst e
      have h1 := cnt_mono (p := p) (q := q) (n := k) (fun i hi => h i (by omega))
      rw [if_neg hp, if_pos hq]; omega
    · have h1 := ih (fun i hi => h i (by omega)) (by omega)
      by_cases h2 : p n = true
      · rw [if_pos h2, if_pos (h n (by omega) h2)]; omega
      · rw [if_neg h2]; omega
theorem cnt_all {p : Nat → Bool} {n : Nat} (h : cnt p n = n) : ∀ i, i < n → p i = true := by
  induction n with
  | zero => intro i hi; omega
  | succ n ih =>
    have h0 : cnt p n + (if p n = true then 1 else 0) = n + 1 := h
    have h1 := cnt_le p n
    by_cases h2 : p n = true
    · rw [if_pos h2] at h0
      intro i hi
      by_cases e : i = n
      · rw [e]; exact h2
      · exact ih (by omega) i (by omega)
    · rw [if_neg h2] at h0; omega
theorem cnt_zero {p : Nat → Bool} {n : Nat} (h : cnt p n = 0) : ∀ i, i < n → ¬ p i = true := by
  induction n with
  | zero => intro i hi; omega
  | succ n ih =>
    have h0 : cnt p n + (if p n = true then 1 else 0) = 0 := h
    intro i hi
    by_cases e : i = n
    · rw [e]; intro q; rw [if_pos q] at h0; omega
    · exact ih (by omega) i (by omega)
/-- a way of n steps from s to c that costs v -/
def pth (e : Nat → Nat → Prop) (w : Nat → Nat) (s : Nat) : Nat → Nat → Nat → Prop
  | 0, c, v => c = s ∧ v = 0
  | n + 1, c, v => ∃ b u, pth e w s n b u ∧ e b c ∧ v = u + w c
/-- D tells the least costs of ways from s -/
abbrev wayD (e : Nat → Nat → Prop) (w : Nat → Nat) (s : Nat) (D : Nat → Option Nat) : Prop :=
  D s = some 0 ∧ (∀ c v, D c = some v → ∃ n, pth e w s n c v) ∧ (∀ b c u, D b = some u → e b c → ∃ v, D c = some v ∧ v ≤ u + w c)
theorem wayD_le {e : Nat → Nat → Prop} {w : Nat → Nat} {s : Nat} {D : Nat → Option Nat} (h : wayD e w s D) : ∀ n c v, pth e w s n c v → ∃ u, D c = some u ∧ u ≤ v := by
  intro n
  induction n with
  | zero => intro c v hp; obtain ⟨rfl, rfl⟩ := hp; exact ⟨0, h.1, Nat.le_refl _⟩
  | succ n ih =>
    intro c v hp
    obtain ⟨b, u, h1, h2, rfl⟩ := hp
    obtain ⟨u', h3, h4⟩ := ih b u h1
    obtain ⟨v', h5, h6⟩ := h.2.2 b c u' h3 h2
    exact ⟨v', h5, by omega⟩
theorem wayD_eq {e : Nat → Nat → Prop} {w : Nat → Nat} {s : Nat} {D D' : Nat → Option Nat} (h : wayD e w s D) (h' : wayD e w s D') (c : Nat) : D c = D' c := by
  rcases hD : D c with _ | v
  · rcases hD' : D' c with _ | v'
    · rfl
    · obtain ⟨n, hp⟩ := h'.2.1 c v' hD'
      obtain ⟨u, h1, h2⟩ := wayD_le h n c v' hp
      rw [hD] at h1; exact absurd h1 (by simp)
  · obtain ⟨n, hp⟩ := h.2.1 c v hD
    obtain ⟨u, h1, h2⟩ := wayD_le h' n c v hp
    obtain ⟨n', hp'⟩ := h'.2.1 c u h1
    obtain ⟨u', h3, h4⟩ := wayD_le h n' c u hp'
    rw [hD] at h3
    have e1 : v = u' := Option.some.inj h3
    rw [h1, show u = v by omega]
/-- the last step of a least way -/
theorem wayD_pred {e : Nat → Nat → Prop} {w : Nat → Nat} {s : Nat} {D : Nat → Option Nat} (h : wayD e w s D) {n c v : Nat} (hD : D c = some v) (hp : pth e w s (n + 1) c v) : ∃ b u, pth e w s n b u ∧ D b = some u ∧ e b c ∧ v = u + w c := by
  obtain ⟨b, u, h1, h2, h3⟩ := hp
  obtain ⟨u', h4, h5⟩ := wayD_le h n b u h1
  obtain ⟨v', h6, h7⟩ := h.2.2 b c u' h4 h2
  rw [hD] at h6
  have e1 : v = v' := Option.some.inj h6
  exact ⟨b, u, h1, by rw [h4, show u' = u by omega], h2, h3⟩
abbrev ltD (D : Nat → Option Nat) (v : Nat) : Nat → Bool := fun x => match D x with
  | some u => decide (u < v)
  | none => false
theorem ltD_iff {D : Nat → Option Nat} {v x : Nat} : ltD D v x = true ↔ ∃ u, D x = some u ∧ u < v := by
  unfold ltD
  rcases hD : D x with _ | u
  · simp
  · simp
theorem wayD_bound {e : Nat → Nat → Prop} {w : Nat → Nat} {s W N : Nat} {D : Nat → Option Nat} (h : wayD e w s D) (hW : ∀ c, w c ≤ W) (hs : s < N) (he : ∀ b c, e b c → c < N) : ∀ n c v, pth e w s n c v → D c = some v → c < N ∧ v ≤ W * cnt (ltD D v) N := by
  intro n
  induction n with
  | zero => intro c v hp _; obtain ⟨rfl, rfl⟩ := hp; exact ⟨hs, Nat.zero_le _⟩
  | succ n ih =>
    intro c v hp hD
    obtain ⟨b, u, h1, h2, h3, h4⟩ := wayD_pred h hD hp
    obtain ⟨hb, hu⟩ := ih b u h1 h2
    refine ⟨he b c h3, ?_⟩
    have hw := hW c
    by_cases e0 : w c = 0
    · rw [e0, Nat.add_zero] at h4; rw [h4]; exact hu
    · have h5 : cnt (ltD D u) N < cnt (ltD D v) N := by
        refine cnt_lt (k := b) (fun i _ hi => ?_) hb ?_ ?_
        · obtain ⟨x, hx, hl⟩ := ltD_iff.mp hi
          exact ltD_iff.mpr ⟨x, hx, by omega⟩
        · intro q
          obtain ⟨x, hx, hl⟩ := ltD_iff.mp q
          rw [h2] at hx
          have := Option.some.inj hx
          omega
        · exact ltD_iff.mpr ⟨u, h2, by omega⟩
      have h6 : W * (cnt (ltD D u) N + 1) ≤ W * cnt (ltD D v) N := Nat.mul_le_mul_left _ h5
      rw [Nat.mul_add, Nat.mul_one] at h6
      omega
theorem wayD_max {e : Nat → Nat → Prop} {w : Nat → Nat} {s W N : Nat} {D : Nat → Option Nat} (h : wayD e w s D) (hW : ∀ c, w c ≤ W) (hs : s < N) (he : ∀ b c, e b c → c < N) {c v : Nat} (hD : D c = some v) : c < N ∧ v ≤ W * N := by
  obtain ⟨n, hp⟩ := h.2.1 c v hD
  obtain ⟨h1, h2⟩ := wayD_bound h hW hs he n c v hp hD
  exact ⟨h1, Nat.le_trans h2 (Nat.mul_le_mul_left _ (cnt_le _ _))⟩
/-- rounds: a table that is sound and, step by step, comes down to D -/
abbrev sndD (e : Nat → Nat → Prop) (w : Nat → Nat) (s : Nat) (O : Nat → Option Nat) : Prop := O s = some 0 ∧ ∀ c v, O c = some v → ∃ n, pth e w s n c v
abbrev neD (D O : Nat → Option Nat) : Nat → Bool := fun c => decide (¬ D c = O c)
theorem rnd_dec {e : Nat → Nat → Prop} {w : Nat → Nat} {s N : Nat} {D O O' : Nat → Option Nat} (h : wayD e w s D) (hs : sndD e w s O) (hs' : sndD e w s O') (he : ∀ b c, e b c → c < N) (hsN : s < N)
    (hm : ∀ c u, O c = some u → ∃ v, O' c = some v ∧ v ≤ u) (hr : ∀ b c u, O b = some u → e b c → ∃ v, O' c = some v ∧ v ≤ u + w c) {c : Nat} (hc : c < N) (hn : ¬ D c = O c) : cnt (neD D O') N < cnt (neD D O) N := by
  have hle : ∀ c v, O c = some v → ∃ u, D c = some u ∧ u ≤ v := fun c v q => by obtain ⟨n, hp⟩ := hs.2 c v q; exact wayD_le h n c v hp
  have hle' : ∀ c v, O' c = some v → ∃ u, D c = some u ∧ u ≤ v := fun c v q => by obtain ⟨n, hp⟩ := hs'.2 c v q; exact wayD_le h n c v hp
  -- what is right stays right
  have hk : ∀ c, D c = O c → D c = O' c := by
    intro c q
    rcases hD : D c with _ | v
    · rcases hO : O' c with _ | v'
      · rfl
      · obtain ⟨u, h1, _⟩ := hle' c v' hO
        rw [hD] at h1; exact absurd h1 (by simp)
    · rw [hD] at q
      obtain ⟨v', h1, h2⟩ := hm c v q.symm
      obtain ⟨u, h3, h4⟩ := hle' c v' h1
      rw [hD] at h3
      have := Option.some.inj h3
      rw [h1, show v' = v by omega]
  -- one cell becomes right
  have hone : ∀ n c v, pth e w s n c v → D c = some v → ¬ D c = O c → ∃ x, x < N ∧ ¬ D x = O x ∧ D x = O' x := by
    intro n
    induction n with
    | zero =>
      intro c v hp hD hq
      obtain ⟨rfl, rfl⟩ := hp
      exact absurd (hD.trans hs.1.symm) hq
    | succ n ih =>
      intro c v hp hD hq
      obtain ⟨b, u, h1, h2, h3, h4⟩ := wayD_pred h hD hp
      by_cases hb : D b = O b
      · refine ⟨c, he b c h3, hq, ?_⟩
        rw [h2] at hb
        obtain ⟨v', h5, h6⟩ := hr b c u hb.symm h3
        obtain ⟨u', h7, h8⟩ := hle' c v' h5
        rw [hD] at h7
        have := Option.some.inj h7
        rw [hD, h5, show v' = v by omega]
      · exact ih b u h1 h2 hb
  have hD : ∃ v, D c = some v := by
    rcases hD : D c with _ | v
    · rcases hO : O c with _ | v'
      · exact absurd (hD.trans hO.symm) hn
      · obtain ⟨u, h1, _⟩ := hle c v' hO
        rw [hD] at h1; exact absurd h1 (by simp)
    · exact ⟨v, rfl⟩
  obtain ⟨v, hD⟩ := hD
  obtain ⟨n, hp⟩ := h.2.1 c v hD
  obtain ⟨x, hx, h1, h2⟩ := hone n c v hp hD hn
  refine cnt_lt (k := x) (fun i _ hi => ?_) hx ?_ ?_
  · have h3 : ¬ D i = O' i := of_decide_eq_true hi
    exact decide_eq_true (fun q => h3 (hk i q))
  · intro q
    exact (of_decide_eq_true q : ¬ D x = O' x) h2
  · exact decide_eq_true h1
/-- where nothing changed it is D -/
theorem rnd_stop {e : Nat → Nat → Prop} {w : Nat → Nat} {s : Nat} {D O O' : Nat → Option Nat} (h : wayD e w s D) (hs : sndD e w s O) (heq : ∀ c, O' c = O c) (hr : ∀ b c u, O b = some u → e b c → ∃ v, O' c = some v ∧ v ≤ u + w c) (c : Nat) : O' c = D c := by
  rw [heq c]
  refine wayD_eq (D' := D) (⟨hs.1, hs.2, fun b c u q1 q2 => ?_⟩) h c
  obtain ⟨v, h1, h2⟩ := hr b c u q1 q2
  exact ⟨v, by rw [← heq c]; exact h1, h2⟩
/-- the cheapest cell first: settled cells S are right; the chosen one is right too -/
theorem dij_min {e : Nat → Nat → Prop} {w : Nat → Nat} {s : Nat} {D O : Nat → Option Nat} {S : Nat → Prop} (h : wayD e w s D) (hs : sndD e w s O) (hd : ∀ c, S c → O c = D c)
    (hr : ∀ b c u, S b → O b = some u → e b c → ∃ v, O c = some v ∧ v ≤ u + w c) : ∀ n c v, pth e w s n c v → D c = some v → ¬ S c → ∃ x u, ¬ S x ∧ O x = some u ∧ u ≤ v := by
  intro n
  induction n with
  | zero =>
    intro c v hp hD hS
    obtain ⟨rfl, rfl⟩ := hp
    exact ⟨c, 0, hS, hs.1, Nat.le_refl _⟩
  | succ n ih =>
    intro c v hp hD hS
    obtain ⟨b, u, h1, h2, h3, h4⟩ := wayD_pred h hD hp
    rcases Classical.em (S b) with hb | hb
    · obtain ⟨v', h5, h6⟩ := hr b c u hb ((hd b hb).trans h2) h3
      exact ⟨c, v', hS, h5, by omega⟩
    · obtain ⟨x, u', h5, h6, h7⟩ := ih b u h1 h2 hb
      exact ⟨x, u', h5, h6, by omega⟩
theorem dij_right {e : Nat → Nat → Prop} {w : Nat → Nat} {s : Nat} {D O : Nat → Option Nat} {S : Nat → Prop} (h : wayD e w s D) (hs : sndD e w s O) (hd : ∀ c, S c → O c = D c)
    (hr : ∀ b c u, S b → O b = some u → e b c → ∃ v, O c = some v ∧ v ≤ u + w c) {c v : Nat} (hS : ¬ S c) (hO : O c = some v) (hmin : ∀ x u, ¬ S x → O x = some u → v ≤ u) : D c = some v ∧ ∀ x u, ¬ S x → D x = some u → v ≤ u := by
  have hall : ∀ x u, ¬ S x → D x = some u → v ≤ u := by
    intro x u h1 h2
    obtain ⟨n, hp⟩ := h.2.1 x u h2
    obtain ⟨y, u', h3, h4, h5⟩ := dij_min h hs hd hr n x u hp h2 h1
    have := hmin y u' h3 h4
    omega
  obtain ⟨n, hp⟩ := hs.2 c v hO
  obtain ⟨u, h1, h2⟩ := wayD_le h n c v hp
  have := hall c u hS h1
  exact ⟨by rw [h1, show u = v by omega], hall⟩
theorem dij_none {e : Nat → Nat → Prop} {w : Nat → Nat} {s : Nat} {D O : Nat → Option Nat} {S : Nat → Prop} (h : wayD e w s D) (hs : sndD e w s O) (hd : ∀ c, S c → O c = D c)
    (hr : ∀ b c u, S b → O b = some u → e b c → ∃ v, O c = some v ∧ v ≤ u + w c) (hn : ∀ x, ¬ S x → O x = none) (x : Nat) (hx : ¬ S x) : D x = none := by
  rcases hD : D x with _ | v
  · rfl
  · obtain ⟨n, hp⟩ := h.2.1 x v hD
    obtain ⟨y, u, h1, h2, _⟩ := dij_min h hs hd hr n x v hp hD hx
    rw [hn y h1] at h2
    exact absurd h2 (by simp)
/-! CELLS: the cell beside another one, by numbers -/
def nb (c j : Nat) : Nat := if j = 0 then (if c < 56 then c + 8 else 64) else if j = 1 then (if c % 8 < 7 then c + 1 else 64) else (if 0 < c % 8 then c - 1 else 64)
def nbI (c j : Nat) : Int32 := if nb c j < 64 then nI (nb c j) else -1
theorem sf_all : ∀ (i : Fin 64) (j : Fin 3), f_X7_stepFrom (nI i.val) (nI j.val) = nbI i.val j.val := by decide +kernel
theorem cb_all : ∀ (i : Fin 64) (j : Fin 3), f_X6_cellBeside (nI i.val) (nI j.val) = nbI i.val j.val := by decide +kernel
theorem sf_nI {i j : Nat} (hi : i < 64) (hj : j < 3) : f_X7_stepFrom (nI i) (nI j) = nbI i j := sf_all ⟨i, hi⟩ ⟨j, hj⟩
theorem cb_nI {i j : Nat} (hi : i < 64) (hj : j < 3) : f_X6_cellBeside (nI i) (nI j) = nbI i j := cb_all ⟨i, hi⟩ ⟨j, hj⟩
theorem nI_inj {a b : Nat} (ha : a < 2 ^ 31) (hb : b < 2 ^ 31) (h : nI a = nI b) : a = b := by
  have := congrArg Int32.toNatClampNeg h
  rwa [nI_clamp ha, nI_clamp hb] at this
theorem nI_ne_m1 {a : Nat} (ha : a < 2 ^ 31) : ¬ nI a = -1 := by
  intro h
  have h1 := congrArg Int32.toInt h
  rw [nI_toInt ha] at h1
  have h2 : (-1 : Int32).toInt = -1 := by decide
  omega
theorem nbI_m1 {c j : Nat} : nbI c j = -1 ↔ ¬ nb c j < 64 := by
  unfold nbI
  by_cases h : nb c j < 64
  · rw [if_pos h]; exact ⟨fun q => absurd q (nI_ne_m1 (by omega)), fun q => absurd h q⟩
  · rw [if_neg h]; exact ⟨fun _ => h, fun _ => rfl⟩
theorem nbI_pos {c j : Nat} (h : ¬ nbI c j = -1) : nb c j < 64 ∧ nbI c j = nI (nb c j) := by
  have h1 : nb c j < 64 := Classical.byContradiction (fun q => h (nbI_m1.mpr q))
  exact ⟨h1, by unfold nbI; rw [if_pos h1]⟩
/-- the edges: cell c is beside b, and it may be entered -/
abbrev edg (op : Nat → Prop) (b c : Nat) : Prop := c < 64 ∧ op c ∧ ∃ j, j < 3 ∧ nb b j = c
theorem div3 {i : Nat} (h : i < 192) : nI i / 3 = nI (i / 3) := by rw [show (3 : Int32) = nI 3 from rfl, pk_div (by omega) (by decide) (by decide)]
theorem rem3 {i : Nat} (h : i < 192) : nI i - nI i / 3 * 3 = nI (i % 3) := by rw [show (3 : Int32) = nI 3 from rfl, pk_rem (by omega) (by decide) (by decide)]
theorem sf_sweep {i : Nat} (h : i < 192) : f_X7_stepFrom (nI i / 3) (nI i - nI i / 3 * 3) = nbI (i / 3) (i % 3) := by
  rw [rem3 h, div3 h]
  exact sf_nI (by omega) (by omega)
theorem div3c {i : Nat} (h : i < 192) : (nI i / 3).toNatClampNeg = i / 3 := by rw [div3 h, nI_clamp (by omega)]
theorem idxK (K : Nat) {i : Nat} (h : K + i < 2 ^ 31) : ((OfNat.ofNat K : Int32) + nI i).toNatClampNeg = K + i := idx_add K h
theorem idx20 {p i : Nat} (hp : p < 2) (h : i < 64) : (((20 : Int32) + ((64 : Int32) * nI p)) + nI i).toNatClampNeg = 20 + 64 * p + i := by
  rw [show (20 : Int32) = nI 20 from rfl, show (64 : Int32) = nI 64 from rfl, pk_mul, nI_add, nI_add, nI_clamp (by omega)]
theorem idx276 {p i : Nat} (hp : p < 2) (h : i < 64) : (((276 : Int32) + ((64 : Int32) * nI p)) + nI i).toNatClampNeg = 276 + 64 * p + i := by
  rw [show (276 : Int32) = nI 276 from rfl, show (64 : Int32) = nI 64 from rfl, pk_mul, nI_add, nI_add, nI_clamp (by omega)]
theorem idx10 {p i : Nat} (hp : p < 2) (h : i < 5) : (((10 : Int32) + ((5 : Int32) * nI p)) + nI i).toNatClampNeg = 10 + 5 * p + i := by
  rw [show (10 : Int32) = nI 10 from rfl, show (5 : Int32) = nI 5 from rfl, pk_mul, nI_add, nI_add, nI_clamp (by omega)]
/-- a sum of 64 and more numbers -/
def sumN (f : Nat → Nat) : Nat → Nat
  | 0 => 0
  | n + 1 => sumN f n + f n
theorem sumN_lt {f g : Nat → Nat} {n k : Nat} (h : ∀ i, i < n → f i ≤ g i) (hk : k < n) (h2 : f k < g k) : sumN f n < sumN g n := by
  have hle : ∀ m, m ≤ n → sumN f m ≤ sumN g m := by
    intro m
    induction m with
    | zero => intro _; exact Nat.le_refl _
    | succ m ih =>
      intro hm
      have := ih (by omega)
      have := h m (by omega)
      show sumN f m + f m ≤ sumN g m + g m
      omega
  have hlt : ∀ m, m ≤ n → k < m → sumN f m < sumN g m := by
    intro m
    induction m with
    | zero => intro _ _; omega
    | succ m ih =>
      intro hm hkm
      show sumN f m + f m < sumN g m + g m
      by_cases e : k = m
      · rw [← e]; have := hle k (by omega); omega
      · have := ih (by omega) (by omega)
        have := h m (by omega)
        omega
  exact hlt n (Nat.le_refl _) hk
theorem sumN_max {f : Nat → Nat} {n W : Nat} (h : ∀ i, i < n → f i ≤ W) : sumN f n ≤ W * n := by
  induction n with
  | zero => exact Nat.zero_le _
  | succ n ih =>
    have := ih (fun i hi => h i (by omega))
    have := h n (by omega)
    show sumN f n + f n ≤ W * (n + 1)
    rw [Nat.mul_add, Nat.mul_one]
    omega
/-! MEASURE: the reference's least costs end, and are the least costs -/
abbrev bareR (r : Nat → Int32) (c : Nat) : Prop := r (148 + c) = -1 ∧ r (212 + c) = 0
def wtR (r : Nat → Int32) (p c : Nat) : Nat := if c < 64 then (r (20 + 64 * p + c)).toNatClampNeg else 0
abbrev costR (r : Nat → Int32) : Prop := ∀ i, i < 128 → vp_in (r (20 + i)) 10
abbrev farOK (f : Nat → Int32) : Prop := ∀ c, c < 64 → ∃ v : Nat, f c = nI v ∧ v ≤ 99999
def toD (f : Nat → Int32) (c : Nat) : Option Nat := if c < 64 ∧ ¬ f c = 99999 then some (f c).toNatClampNeg else none
theorem wtR_9 {r : Nat → Int32} (h : costR r) {p : Nat} (hp : p < 2) (c : Nat) : wtR r p c ≤ 9 := by
  unfold wtR
  by_cases hc : c < 64
  · rw [if_pos hc]
    have := h (64 * p + c) (by omega)
    rw [show 20 + (64 * p + c) = 20 + 64 * p + c by omega] at this
    obtain ⟨j, hj, e⟩ := vp_in_of this (by decide)
    rw [e, nI_clamp (by omega)]; omega
  · rw [if_neg hc]; omega
theorem wtR_eq {r : Nat → Int32} (h : costR r) {p c : Nat} (hp : p < 2) (hc : c < 64) : r (20 + 64 * p + c) = nI (wtR r p c) := by
  unfold wtR
  rw [if_pos hc]
  have := h (64 * p + c) (by omega)
  rw [show 20 + (64 * p + c) = 20 + 64 * p + c by omega] at this
  obtain ⟨j, hj, e⟩ := vp_in_of this (by decide)
  rw [e, nI_clamp (by omega)]
theorem isBare_iff {M : bM} {k c : Nat} (hc : c < 64) : f_X7_isBare M k (nI c) = 0 ↔ ¬ bareR (M k) c := by
  rw [u_f_X7_isBare, u_f_X7_isDam]
  dsimp only
  rw [idxK 148 (by omega), idxK 212 (by omega)]
  by_cases h1 : M k (148 + c) = -1
  · rw [if_pos h1, if_pos rfl]
    by_cases h2 : M k (212 + c) = 0
    · rw [if_pos h2]; exact ⟨fun q => absurd q (by decide), fun q => absurd ⟨h1, h2⟩ q⟩
    · rw [if_neg h2]; exact ⟨fun _ q => h2 q.2, fun _ => rfl⟩
  · rw [if_neg h1, if_neg (by decide)]; exact ⟨fun _ q => h1 q.1, fun _ => rfl⟩
theorem cost_at {M : bM} {k p c : Nat} (hp : p < 2) (hc : c < 64) : f_X7_cost M k (nI p) (nI c) = M k (20 + 64 * p + c) := by
  rw [u_f_X7_cost, idx20 hp hc]
theorem toD_some {f : Nat → Int32} (h : farOK f) {c v : Nat} : toD f c = some v ↔ c < 64 ∧ f c = nI v ∧ v < 99999 := by
  unfold toD
  by_cases hc : c < 64
  · obtain ⟨x, hx, hl⟩ := h c hc
    by_cases h9 : f c = 99999
    · rw [if_neg (fun q => q.2 h9)]
      refine ⟨fun q => absurd q (by simp), fun q => ?_⟩
      have e1 : nI v = nI 99999 := q.2.1.symm.trans h9
      have := nI_inj (by omega) (by decide) e1
      omega
    · rw [if_pos ⟨hc, h9⟩, hx, nI_clamp (by omega)]
      have hne : x ≠ 99999 := fun q => h9 (by rw [hx, q]; rfl)
      constructor
      · intro q
        have := Option.some.inj q
        subst this
        exact ⟨hc, rfl, by omega⟩
      · intro q
        rw [nI_inj (by omega) (by omega) q.2.1]
  · rw [if_neg (fun q => hc q.1)]
    exact ⟨fun q => absurd q (by simp), fun q => absurd q.1 hc⟩
abbrev relR (r : Nat → Int32) (p : Nat) (f : Nat → Int32) (q : Nat) : Prop := ∀ u, f (q / 3) = nI u → u < 99999 → nb (q / 3) (q % 3) < 64 → bareR r (nb (q / 3) (q % 3)) → ∃ v, f (nb (q / 3) (q % 3)) = nI v ∧ v ≤ u + wtR r p (nb (q / 3) (q % 3))
abbrev sumF (f : Nat → Int32) : Nat := sumN (fun c => (f c).toNatClampNeg) 64
theorem pass_step {M : bM} {k p s u v b j : Nat} {r : Nat → Int32} (hk : k ≠ 7) (hp : p < 2) (hr : M k = r) (hc : costR r) (hf : farOK (M 7)) (hs : sndD (edg (bareR r)) (wtR r p) s (toD (M 7))) (hb : b < 64) (hj : j < 3) (hn : nb b j < 64) (hu : M 7 b = nI u) (hu9 : u < 99999)
    (hop : bareR r (nb b j)) (hv : M 7 (nb b j) = nI v) (hv99 : v ≤ 99999) (hlt : u + wtR r p (nb b j) < v) :
    farOK (up2 M 7 (nb b j) (nI (u + wtR r p (nb b j))) 7) ∧ sndD (edg (bareR r)) (wtR r p) s (toD (up2 M 7 (nb b j) (nI (u + wtR r p (nb b j))) 7)) ∧ sumF (up2 M 7 (nb b j) (nI (u + wtR r p (nb b j))) 7) < sumF (M 7) ∧ (∀ c, c < 64 → ((up2 M 7 (nb b j) (nI (u + wtR r p (nb b j))) 7) c).toNatClampNeg ≤ (M 7 c).toNatClampNeg) := by
  obtain ⟨v', hv', hv9⟩ := hf (nb b j) hn
  have hw := wtR_9 hc hp (nb b j)
  have e1 : v = v' := nI_inj (by omega) (by omega) (hv.symm.trans hv')
  generalize hx : u + wtR r p (nb b j) = x at *
  have hbs : toD (M 7) b = some u := (toD_some hf).mpr ⟨hb, hu, hu9⟩
  obtain ⟨n, hpth⟩ := hs.2 b u hbs
  have hpc : pth (edg (bareR r)) (wtR r p) s (n + 1) (nb b j) x := ⟨b, u, hpth, ⟨hn, hop, j, hj, rfl⟩, hx.symm⟩
  have hF : farOK (up2 M 7 (nb b j) (nI x) 7) := by
    intro c hc'
    rw [up2_same]
    unfold upd
    by_cases e : c = nb b j
    · rw [if_pos e]; exact ⟨x, rfl, by omega⟩
    · rw [if_neg e]; exact hf c hc'
  have hclv : (M 7 (nb b j)).toNatClampNeg = v' := by rw [hv', nI_clamp (by omega)]
  have hx' : x < v' := by omega
  have hle : ∀ c, c < 64 → ((up2 M 7 (nb b j) (nI x) 7) c).toNatClampNeg ≤ (M 7 c).toNatClampNeg := by
    intro c hc'
    rw [up2_same]
    unfold upd
    by_cases e : c = nb b j
    · rw [if_pos e, nI_clamp (by omega), e, hclv]; omega
    · rw [if_neg e]; exact Nat.le_refl _
  refine ⟨hF, ⟨?_, ?_⟩, ?_, hle⟩
  · -- the start
    have h0 := (toD_some hf).mp hs.1
    by_cases e : s = nb b j
    · rw [← e] at hv'
      have := nI_inj (by decide) (by omega) (h0.2.1.symm.trans hv')
      omega
    · refine (toD_some hF).mpr ⟨h0.1, ?_, by decide⟩
      rw [up2_same]; unfold upd; rw [if_neg e]; exact h0.2.1
  · intro c y hy
    obtain ⟨h1, h2, h3⟩ := (toD_some hF).mp hy
    rw [up2_same] at h2
    unfold upd at h2
    by_cases e : c = nb b j
    · rw [if_pos e] at h2
      have := nI_inj (by omega) (by omega) h2
      rw [e, ← this]
      exact ⟨n + 1, hpc⟩
    · rw [if_neg e] at h2
      exact hs.2 c y ((toD_some hf).mpr ⟨h1, h2, h3⟩)
  · refine sumN_lt hle hn ?_
    rw [up2_same]
    unfold upd
    rw [if_pos rfl, nI_clamp (by omega), hclv]
    exact hx'
theorem pass_ok {k p s : Nat} {r : Nat → Int32} (hk : k ≠ 7) (hp : p < 2) (hc : costR r) : ∀ (n i : Nat) (x : Int32) (M : bM), i + n = 192 → M k = r → farOK (M 7) → sndD (edg (bareR r)) (wtR r p) s (toD (M 7)) →
    (∀ a, a ≠ 7 → (lp_X7_measure_49 k (nI p) n i x M).2 a = M a) ∧ farOK ((lp_X7_measure_49 k (nI p) n i x M).2 7) ∧ sndD (edg (bareR r)) (wtR r p) s (toD ((lp_X7_measure_49 k (nI p) n i x M).2 7)) ∧
    ((lp_X7_measure_49 k (nI p) n i x M).1 = 0 → x = 0 ∧ (lp_X7_measure_49 k (nI p) n i x M).2 = M ∧ ∀ q, i ≤ q → q < 192 → relR r p (M 7) q) ∧
    (x = 0 → (lp_X7_measure_49 k (nI p) n i x M).1 = 0 ∨ sumF ((lp_X7_measure_49 k (nI p) n i x M).2 7) < sumF (M 7)) ∧
    sumF ((lp_X7_measure_49 k (nI p) n i x M).2 7) ≤ sumF (M 7) := by
  intro n
  induction n with
  | zero =>
    intro i x M hi hr hf hs
    rw [u0_lp_X7_measure_49]
    exact ⟨fun _ _ => rfl, hf, hs, fun h => ⟨h, rfl, fun q h1 h2 => by omega⟩, fun h => Or.inl h, Nat.le_refl _⟩
  | succ n ih =>
    intro i x M hi hr hf hs
    rw [u1_lp_X7_measure_49, sf_sweep (by omega), div3c (by omega)]
    dsimp only
    have hb : i / 3 < 64 := by omega
    have hj : i % 3 < 3 := by omega
    obtain ⟨u, hu, hu9⟩ := hf (i / 3) hb
    -- where nothing is to be done
    have keep : relR r p (M 7) i → (∀ a, a ≠ 7 → (lp_X7_measure_49 k (nI p) n (i + 1) x M).2 a = M a) ∧ farOK ((lp_X7_measure_49 k (nI p) n (i + 1) x M).2 7) ∧ sndD (edg (bareR r)) (wtR r p) s (toD ((lp_X7_measure_49 k (nI p) n (i + 1) x M).2 7)) ∧
      ((lp_X7_measure_49 k (nI p) n (i + 1) x M).1 = 0 → x = 0 ∧ (lp_X7_measure_49 k (nI p) n (i + 1) x M).2 = M ∧ ∀ q, i ≤ q → q < 192 → relR r p (M 7) q) ∧
      (x = 0 → (lp_X7_measure_49 k (nI p) n (i + 1) x M).1 = 0 ∨ sumF ((lp_X7_measure_49 k (nI p) n (i + 1) x M).2 7) < sumF (M 7)) ∧
      sumF ((lp_X7_measure_49 k (nI p) n (i + 1) x M).2 7) ≤ sumF (M 7) := by
      intro hq
      obtain ⟨h1, h2, h3, h4, h5, h6⟩ := ih (i + 1) x M (by omega) hr hf hs
      refine ⟨h1, h2, h3, fun h => ?_, h5, h6⟩
      obtain ⟨a1, a2, a3⟩ := h4 h
      refine ⟨a1, a2, fun q q1 q2 => ?_⟩
      by_cases e : q = i
      · rw [e]; exact hq
      · exact a3 q (by omega) q2
    by_cases c1 : (99999 : Int32) ≤ M 7 (i / 3)
    · rw [if_pos c1]
      refine keep (fun u' h1 h2 _ _ => ?_)
      rw [h1] at c1
      exact absurd c1 (nI_ge (a := u') (b := 99999) h2 (by decide))
    rw [if_neg c1]
    have hu9' : u < 99999 := by
      rcases Nat.lt_or_ge u 99999 with h | h
      · exact h
      · exfalso; apply c1; rw [hu]; exact nI_le (a := 99999) (by omega) (by omega)
    by_cases c2 : nbI (i / 3) (i % 3) = -1
    · rw [if_pos c2]
      exact keep (fun _ _ _ h3 _ => absurd h3 (nbI_m1.mp c2))
    rw [if_neg c2]
    obtain ⟨hn, hnI⟩ := nbI_pos c2
    rw [hnI]
    by_cases c3 : f_X7_isBare M k (nI (nb (i / 3) (i % 3))) = 0
    · rw [if_pos c3]
      have := (isBare_iff hn).mp c3
      rw [hr] at this
      exact keep (fun _ _ _ _ h4 => absurd h4 this)
    rw [if_neg c3]
    have hop : bareR r (nb (i / 3) (i % 3)) := Classical.byContradiction (fun q => c3 ((isBare_iff hn).mpr (by rw [hr]; exact q)))
    rw [cost_at hp hn, hr, wtR_eq hc hp hn, hu, nI_add, nI_clamp (by omega)]
    obtain ⟨v, hv, hv9⟩ := hf (nb (i / 3) (i % 3)) hn
    have hw := wtR_9 hc hp (nb (i / 3) (i % 3))
    rw [hv]
    by_cases c4 : nI v ≤ nI (u + wtR r p (nb (i / 3) (i % 3)))
    · rw [if_pos c4]
      refine keep (fun u' h1 h2 _ _ => ⟨v, hv, ?_⟩)
      have := nI_inj (by omega) (by omega) (h1.symm.trans hu)
      rw [this]
      exact (nI_leI (by omega) (by omega)).mp c4
    rw [if_neg c4]
    have hlt : u + wtR r p (nb (i / 3) (i % 3)) < v := by
      rcases Nat.lt_or_ge (u + wtR r p (nb (i / 3) (i % 3))) v with h | h
      · exact h
      · exact absurd ((nI_leI (by omega) (by omega)).mpr h) c4
    obtain ⟨g1, g2, g3, g4⟩ := pass_step hk hp hr hc hf hs hb hj hn hu hu9' hop hv hv9 hlt
    obtain ⟨h1, h2, h3, h4, h5, h6⟩ := ih (i + 1) 1 (up2 M 7 (nb (i / 3) (i % 3)) (nI (u + wtR r p (nb (i / 3) (i % 3))))) (by omega) (by rw [up2_row hk]; exact hr) g1 g2
    refine ⟨fun a ha => (h1 a ha).trans (up2_row ha), h2, h3, fun h => absurd (h4 h).1 (by decide), fun _ => Or.inr (by omega), by omega⟩
theorem rounds_ok {k p s : Nat} {r : Nat → Int32} (hk : k ≠ 7) (hp : p < 2) (hc : costR r) : ∀ (n i : Nat) (x : Int32) (M : bM), M k = r → farOK (M 7) → sndD (edg (bareR r)) (wtR r p) s (toD (M 7)) → ((x = 0 → ∀ q, q < 192 → relR r p (M 7) q)) → (x = 0 ∨ sumF (M 7) < n) →
    (lp_X7_measure_38 k (nI p) n i x M).1 = 0 ∧ (∀ a, a ≠ 7 → (lp_X7_measure_38 k (nI p) n i x M).2 a = M a) ∧ farOK ((lp_X7_measure_38 k (nI p) n i x M).2 7) ∧ sndD (edg (bareR r)) (wtR r p) s (toD ((lp_X7_measure_38 k (nI p) n i x M).2 7)) ∧ ∀ q, q < 192 → relR r p ((lp_X7_measure_38 k (nI p) n i x M).2 7) q := by
  intro n
  induction n with
  | zero =>
    intro i x M hr hf hs hx hn
    have hx0 : x = 0 := by rcases hn with h | h; exact h; omega
    rw [u0_lp_X7_measure_38, if_pos hx0]
    exact ⟨hx0, fun _ _ => rfl, hf, hs, hx hx0⟩
  | succ n ih =>
    intro i x M hr hf hs hx hn
    rw [u1_lp_X7_measure_38]
    by_cases hx0 : x = 0
    · rw [if_pos hx0]
      exact ⟨hx0, fun _ _ => rfl, hf, hs, hx hx0⟩
    · rw [if_neg hx0]
      dsimp only
      obtain ⟨h1, h2, h3, h4, h5, h6⟩ := pass_ok hk hp hc 192 0 0 M rfl hr hf hs
      have hM : sumF (M 7) < n + 1 := by rcases hn with h | h; exact absurd h hx0; exact h
      obtain ⟨g0, g1, g2, g3, g4⟩ := ih (i + 1) _ _ ((h1 k hk).trans hr) h2 h3 (fun q => by obtain ⟨_, a2, a3⟩ := h4 q; rw [a2]; exact fun q' hq => a3 q' (Nat.zero_le _) hq) (by
        rcases h5 rfl with h | h
        · exact Or.inl h
        · exact Or.inr (by omega))
      exact ⟨g0, fun a ha => (g1 a ha).trans (h1 a ha), g2, g3, g4⟩
theorem begin_ok {s : Nat} : ∀ (n i : Nat) (M : bM), i + n = 64 → (∀ a, a ≠ 7 → lp_X7_measure_3 (nI s) n i M a = M a) ∧ (∀ c, (c < i → lp_X7_measure_3 (nI s) n i M 7 c = M 7 c) ∧ (i ≤ c → c < 64 → lp_X7_measure_3 (nI s) n i M 7 c = if nI c = nI s then 0 else 99999)) := by
  intro n
  induction n with
  | zero =>
    intro i M hi
    rw [u0_lp_X7_measure_3]
    exact ⟨fun _ _ => rfl, fun c => ⟨fun _ => rfl, fun h1 h2 => by omega⟩⟩
  | succ n ih =>
    intro i M hi
    rw [u1_lp_X7_measure_3]
    dsimp only
    have key : ∀ v : Int32, v = (if nI i = nI s then 0 else 99999) → (∀ a, a ≠ 7 → lp_X7_measure_3 (nI s) n (i + 1) (up2 M 7 i v) a = M a) ∧ (∀ c, (c < i → lp_X7_measure_3 (nI s) n (i + 1) (up2 M 7 i v) 7 c = M 7 c) ∧ (i ≤ c → c < 64 → lp_X7_measure_3 (nI s) n (i + 1) (up2 M 7 i v) 7 c = if nI c = nI s then 0 else 99999)) := by
      intro v hv
      obtain ⟨h1, h2⟩ := ih (i + 1) (up2 M 7 i v) (by omega)
      refine ⟨fun a ha => (h1 a ha).trans (up2_row ha), fun c => ⟨fun hc => ?_, fun hc hc2 => ?_⟩⟩
      · rw [(h2 c).1 (by omega), up2_same]; unfold upd; rw [if_neg (by omega)]
      · by_cases e : c = i
        · subst e
          rw [(h2 c).1 (by omega), up2_same]; unfold upd; rw [if_pos rfl]; exact hv
        · exact (h2 c).2 (by omega) hc2
    by_cases c1 : nI i = nI s
    · rw [if_pos c1]; exact key 0 (by rw [if_pos c1])
    · rw [if_neg c1]; exact key 99999 (by rw [if_neg c1])
theorem begin_far {s : Nat} (hs : s < 64) (M : bM) : farOK (lp_X7_measure_3 (nI s) 64 0 M 7) ∧ toD (lp_X7_measure_3 (nI s) 64 0 M 7) s = some 0 ∧ ∀ c, c ≠ s → toD (lp_X7_measure_3 (nI s) 64 0 M 7) c = none := by
  have h := (begin_ok (s := s) 64 0 M rfl).2
  have hF : farOK (lp_X7_measure_3 (nI s) 64 0 M 7) := by
    intro c hc
    rw [(h c).2 (Nat.zero_le _) hc]
    split
    · exact ⟨0, rfl, by decide⟩
    · exact ⟨99999, rfl, by decide⟩
  refine ⟨hF, (toD_some hF).mpr ⟨hs, ?_, by decide⟩, fun c hc => ?_⟩
  · rw [(h s).2 (Nat.zero_le _) hs, if_pos rfl]; rfl
  · unfold toD
    by_cases h64 : c < 64
    · rw [if_neg]
      intro q
      apply q.2
      rw [(h c).2 (Nat.zero_le _) h64, if_neg]
      intro e
      exact hc (nI_inj (by omega) (by omega) e)
    · rw [if_neg (fun q => h64 q.1)]
/-- the end of measure, and what it has laid -/
theorem measure_ok {M : bM} {k p s : Nat} (hk : k ≠ 7) (hp : p < 2) (hs : s < 64) (hc : costR (M k)) :
    (lp_X7_measure_38 k (nI p) 6400000 0 1 (lp_X7_measure_3 (nI s) 64 0 M)).1 = 0 ∧ (∀ a, a ≠ 7 → f_X7_measure M k (nI p) (nI s) a = M a) ∧ farOK (f_X7_measure M k (nI p) (nI s) 7) ∧ wayD (edg (bareR (M k))) (wtR (M k) p) s (toD (f_X7_measure M k (nI p) (nI s) 7)) := by
  obtain ⟨b1, b2, b3⟩ := begin_far hs M
  have b0 := (begin_ok (s := s) 64 0 M rfl).1
  have hsnd : sndD (edg (bareR (M k))) (wtR (M k) p) s (toD (lp_X7_measure_3 (nI s) 64 0 M 7)) := by
    refine ⟨b2, fun c v hv => ?_⟩
    by_cases e : c = s
    · rw [e, b2] at hv
      have := Option.some.inj hv
      exact ⟨0, e, this.symm⟩
    · rw [b3 c e] at hv; exact absurd hv (by simp)
  have hsum : sumF (lp_X7_measure_3 (nI s) 64 0 M 7) < 6400000 := by
    have : sumF (lp_X7_measure_3 (nI s) 64 0 M 7) ≤ 99999 * 64 := sumN_max (fun i hi => by
      obtain ⟨v, hv, hl⟩ := b1 i hi
      rw [hv, nI_clamp (by omega)]; exact hl)
    omega
  obtain ⟨g0, g1, g2, g3, g4⟩ := rounds_ok (s := s) hk hp hc 6400000 0 1 (lp_X7_measure_3 (nI s) 64 0 M) (b0 k hk) b1 hsnd (fun h => absurd h (by decide)) (Or.inr hsum)
  have e : f_X7_measure M k (nI p) (nI s) = (lp_X7_measure_38 k (nI p) 6400000 0 1 (lp_X7_measure_3 (nI s) 64 0 M)).2 := by rw [u_f_X7_measure]
  rw [e]
  generalize hZ : lp_X7_measure_38 k (nI p) 6400000 0 1 (lp_X7_measure_3 (nI s) 64 0 M) = Z at *
  refine ⟨g0, fun a ha => (g1 a ha).trans (b0 a ha), g2, ?_⟩
  -- every way is as long as the table says, first below a bound
  have hcl : ∀ b c u, toD (Z.2 7) b = some u → u + 9 < 99999 → edg (bareR (M k)) b c → ∃ v, toD (Z.2 7) c = some v ∧ v ≤ u + wtR (M k) p c := by
    intro b c u hb hu hed
    obtain ⟨h1, h2, h3⟩ := (toD_some g2).mp hb
    obtain ⟨e1, e2, j, hj, e3⟩ := hed
    have hq := g4 (3 * b + j) (by omega)
    have d1 : (3 * b + j) / 3 = b := by omega
    have d2 : (3 * b + j) % 3 = j := by omega
    unfold relR at hq
    rw [d1, d2, e3] at hq
    obtain ⟨v, hv, hl⟩ := hq u h2 h3 e1 e2
    have := wtR_9 hc hp c
    exact ⟨v, (toD_some g2).mpr ⟨e1, hv, by omega⟩, hl⟩
  -- a table without the bound: what lies above it isn't reached
  have hle : ∀ n c v, pth (edg (bareR (M k))) (wtR (M k) p) s n c v → v + 9 < 99999 → ∃ u, toD (Z.2 7) c = some u ∧ u ≤ v := by
    intro n
    induction n with
    | zero => intro c v hpt _; obtain ⟨rfl, rfl⟩ := hpt; exact ⟨0, g3.1, Nat.le_refl _⟩
    | succ n ih =>
      intro c v hpt hv
      obtain ⟨b, u, h1, h2, rfl⟩ := hpt
      obtain ⟨u', h3, h4⟩ := ih b u h1 (by omega)
      obtain ⟨v', h5, h6⟩ := hcl b c u' h3 (by omega) h2
      exact ⟨v', h5, by omega⟩
  -- what the table tells below the bound is cheap
  have hlow : ∀ n c u, pth (edg (bareR (M k))) (wtR (M k) p) s n c u → toD (Z.2 7) c = some u → u + 9 < 99999 → u ≤ 9 * cnt (ltD (toD (Z.2 7)) u) 64 := by
    intro n
    induction n with
    | zero => intro c u hpt _ _; obtain ⟨rfl, rfl⟩ := hpt; exact Nat.zero_le _
    | succ n ih =>
      intro c u hpt hu hu9
      obtain ⟨b, x, h1, h2, h3⟩ := hpt
      have hw := wtR_9 hc hp c
      obtain ⟨y, hy, hyx⟩ := hle n b x h1 (by omega)
      have hb64 := ((toD_some g2).mp hy).1
      obtain ⟨v', h5, h6⟩ := hcl b c y hy (by omega) h2
      rw [hu] at h5
      have e5 := Option.some.inj h5
      have e6 : y = x := by omega
      have h7 := ih b x h1 (by rw [← e6]; exact hy) (by omega)
      by_cases e0 : wtR (M k) p c = 0
      · rw [show u = x by omega]; exact h7
      · have h8 : cnt (ltD (toD (Z.2 7)) x) 64 < cnt (ltD (toD (Z.2 7)) u) 64 := by
          refine cnt_lt (k := b) (fun i _ hi => ?_) hb64 ?_ ?_
          · obtain ⟨z, hz, hl⟩ := ltD_iff.mp hi
            exact ltD_iff.mpr ⟨z, hz, by omega⟩
          · intro q
            obtain ⟨z, hz, hl⟩ := ltD_iff.mp q
            rw [hy] at hz
            have := Option.some.inj hz
            omega
          · exact ltD_iff.mpr ⟨y, hy, by omega⟩
        omega
  have hall : ∀ n c v, pth (edg (bareR (M k))) (wtR (M k) p) s n c v → ∃ y, toD (Z.2 7) c = some y ∧ y ≤ 576 := by
    intro n
    induction n with
    | zero => intro c v hpt; obtain ⟨rfl, rfl⟩ := hpt; exact ⟨0, g3.1, by decide⟩
    | succ n ih =>
      intro c v hpt
      obtain ⟨b, x, h1, h2, h3⟩ := hpt
      obtain ⟨y, hy, hy9⟩ := ih b x h1
      have hw := wtR_9 hc hp c
      obtain ⟨v', h5, h6⟩ := hcl b c y hy (by omega) h2
      obtain ⟨n', hp'⟩ := g3.2 c v' h5
      have := hlow n' c v' hp' h5 (by omega)
      have h9 := cnt_le (ltD (toD (Z.2 7)) v') 64
      exact ⟨v', h5, by omega⟩
  refine ⟨g3.1, g3.2, fun b c u hb hed => ?_⟩
  obtain ⟨n, hpt⟩ := g3.2 b u hb
  obtain ⟨y, hy, hy9⟩ := hall n b u hpt
  rw [hb] at hy
  have := Option.some.inj hy
  exact hcl b c u hb (by omega) hed
