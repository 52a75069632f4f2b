/-! THE STATE'S INVARIANT, kept by every act -/
abbrev remM (S : aT) : bM := f_X7_remember (up2 (mkR S) 0 0 0)
theorem rem_row {S : aT} : remM S 2 = S.1 := rem_2.trans (mkR_2 S)
theorem rem_00 {S : aT} (hl : S.2.1.length ≤ 14) : remM S 0 0 = 0 := by
  show f_X7_remember (up2 (mkR S) 0 0 0) 0 0 = 0
  rw [(remR (R := up2 (mkR S) 0 0 0) hl (by rw [up2_at, if_neg (by decide)]; rfl)).2.1 0 (by decide)]
  exact ref_00
abbrev nxt (S : aT) (r : Nat → Int32) : aT := (r, (S.1 :: S.2.1).take 14, S.2.2)
theorem act_yes {S : aT} (hl : S.2.1.length ≤ 14) {T : bM} (h : T 0 = remM S 0) : actS S T = nxt S (T 2) := if_pos (by rw [h]; exact rem_00 hl)
theorem cod_yes {S : aT} (hl : S.2.1.length ≤ 14) {a b : Nat} {v : Int32} {T : bM} (h : T 0 = remM S 0) : cod a b (v, T) = v := cod_00 (by rw [h]; exact rem_00 hl)
theorem a_st {S : aT} {j : Nat} {b c : Int32} (hl : S.2.1.length ≤ 14) (hj : j < 3) (h1 : S.1 1 = 1) : aF 7 S (nI j) b c = (f_X7_stepOn (remM S) 2 (nI j)).1 ∧ tF 7 S (nI j) b = nxt S ((f_X7_stepOn (remM S) 2 (nI j)).2 2) := by
  show cod 1 2 (f_X7_step (mkR S) (nI j)) = (f_X7_stepOn (f_X7_remember (up2 (mkR S) 0 0 0)) 2 (nI j)).1 ∧ actS S (f_X7_step (mkR S) (nI j)).2 = nxt S ((f_X7_stepOn (f_X7_remember (up2 (mkR S) 0 0 0)) 2 (nI j)).2 2)
  rw [u_f_X7_step]
  dsimp only
  rw [ref_e, ref_e, ref_e, if_neg (di_in hj), if_neg (fun q => uw_iff.mp q h1)]
  have h := fr_X7_stepOn (f_X7_remember (up2 (mkR S) 0 0 0)) 2 (nI j) 0 (by decide)
  generalize f_X7_stepOn (f_X7_remember (up2 (mkR S) 0 0 0)) 2 (nI j) = T at *
  obtain ⟨v, T⟩ := T
  exact ⟨cod_yes hl h, act_yes hl h⟩
theorem a_da {S : aT} {x y : Nat} {c : Int32} (hl : S.2.1.length ≤ 14) (hx : x < 8) (hy : y < 8) (h1 : S.1 1 = 1) : aF 8 S (nI x) (nI y) c = (f_X7_damOn (remM S) 2 (nI (8 * y + x))).1 ∧ tF 8 S (nI x) (nI y) = nxt S ((f_X7_damOn (remM S) 2 (nI (8 * y + x))).2 2) := by
  show cod 3 2 (f_X7_dam (mkR S) (nI x) (nI y)) = (f_X7_damOn (f_X7_remember (up2 (mkR S) 0 0 0)) 2 (nI (8 * y + x))).1 ∧ actS S (f_X7_dam (mkR S) (nI x) (nI y)).2 = nxt S ((f_X7_damOn (f_X7_remember (up2 (mkR S) 0 0 0)) 2 (nI (8 * y + x))).2 2)
  rw [u_f_X7_dam]
  dsimp only
  rw [ref_e, ref_e, ref_e, if_neg (xy_in hx hy), if_neg (fun q => uw_iff.mp q h1), xy_c hx hy]
  have h := fr_X7_damOn (f_X7_remember (up2 (mkR S) 0 0 0)) 2 (nI (8 * y + x)) 0 (by decide) (by decide)
  generalize f_X7_damOn (f_X7_remember (up2 (mkR S) 0 0 0)) 2 (nI (8 * y + x)) = T at *
  obtain ⟨v, T⟩ := T
  exact ⟨cod_yes hl h, act_yes hl h⟩
theorem a_fl {S : aT} {a b c : Int32} (hl : S.2.1.length ≤ 14) (h1 : S.1 1 = 1) (hc : f_X7_canStep (mkR S) 2 = 0) : aF 9 S a b c = (f_X7_floodOn (f_X7_remember (up2 (mkR S) 0 0 0)) 2).1 ∧ tF 9 S a b = nxt S ((f_X7_floodOn (f_X7_remember (up2 (mkR S) 0 0 0)) 2).2 2) := by
  rw [aF_9, tF_9]
  rw [u_f_X7_flood]
  dsimp only
  rw [ref_e, ref_e, if_neg (fun q => uw_iff.mp q h1), if_pos hc]
  have h := fr_X7_floodOn (f_X7_remember (up2 (mkR S) 0 0 0)) 2 0 (by decide)
  generalize f_X7_floodOn (f_X7_remember (up2 (mkR S) 0 0 0)) 2 = T at *
  obtain ⟨v, T⟩ := T
  exact ⟨cod_yes hl h, act_yes hl h⟩
theorem a_lt {S : aT} {x y c : Int32} (hl : S.2.1.length ≤ 14) (h : ¬ f_X7_isSetting x y = 0) : aF 10 S x y c = (f_X7_change (remM S) 2 x y).1 ∧ tF 10 S x y = nxt S ((f_X7_change (remM S) 2 x y).2 2) := by
  show cod 1 9 (f_X7_set (mkR S) x y) = (f_X7_change (f_X7_remember (up2 (mkR S) 0 0 0)) 2 x y).1 ∧ actS S (f_X7_set (mkR S) x y).2 = nxt S ((f_X7_change (f_X7_remember (up2 (mkR S) 0 0 0)) 2 x y).2 2)
  rw [u_f_X7_set]
  dsimp only
  rw [ref_e, ref_e, if_neg h]
  have h := fr_X7_change (f_X7_remember (up2 (mkR S) 0 0 0)) 2 x y 0 (by decide)
  generalize f_X7_change (f_X7_remember (up2 (mkR S) 0 0 0)) 2 x y = T at *
  obtain ⟨v, T⟩ := T
  exact ⟨cod_yes hl h, act_yes hl h⟩
theorem g_go {S : aT} {x : Int64} (hl : S.2.1.length ≤ 14) : aG S x = (f_X7_gameOn (remM S) 2 x).1 ∧ gT S x = nxt S ((f_X7_gameOn (remM S) 2 x).2 2) := by
  show (f_X7_game (mkR S) x).1 = _ ∧ actS S (f_X7_game (mkR S) x).2 = _
  rw [u_f_X7_game]
  dsimp only
  exact ⟨rfl, act_yes hl (fr_X7_gameOn (remM S) 2 x 0 (by decide))⟩
theorem set_0 {v : Int32} (h : ¬ f_X7_isSetting 0 v = 0) : ∃ n, 1 ≤ n ∧ n ≤ 40 ∧ v = nI n := by
  have hv : vp_in v 41 := by
    rcases isSet_in h with ⟨_, q⟩ | ⟨q, _⟩
    · exact q
    · exact absurd q (by decide)
  obtain ⟨n, hn, e⟩ := vp_in_of hv (by decide)
  refine ⟨n, ?_, by omega, e⟩
  rcases (by omega : n = 0 ∨ 1 ≤ n) with z | z
  · exact absurd (show f_X7_isSetting 0 v = 0 by rw [e, z]; decide +kernel) h
  · exact z
/-- what holds of a row -/
def GG (V : Nat) (r : Nat → Int32) : Prop := gR r ∧ gD r ∧ gP V r
theorem GG_le {V W : Nat} {r : Nat → Int32} (h : V ≤ W) (g : GG V r) : GG W r := ⟨g.1, g.2.1, gP_le h g.2.2⟩
theorem GG_st {V k j : Nat} {R : bM} (hV : V + 81 < 2 ^ 30) (g : GG V (R k)) (h1 : R k 1 = 1) (hj : j < 3) : GG (V + 81) ((f_X7_stepOn R k (nI j)).2 k) := by
  refine ⟨gR_stepOn g.1 h1, gD_stepOn g.1 g.2.1, ?_⟩
  by_cases hr : f_X7_reason R k (nI j) = 0
  · exact gP_stepOn hV g.1 h1 hj hr g.2.2
  · rw [stepOn_no hr]
    show gP (V + 81) (up2 R k 6 (R k 6 + 1) k)
    rw [up2_upd]
    exact gP_le (Nat.le_add_right V 81) (gP_upd (by unfold impJ; omega) g.2.2)
theorem row_tu {r : Nat → Int32} (h : gR r) : ∃ p, p < 2 ∧ r 2 = nI p := by
  obtain ⟨m, _, _, _, _, _, _, n2, _⟩ := gR_nums h
  exact ⟨m % 2, Nat.mod_lt m (by decide), n2⟩
theorem GG_da {V k c : Nat} {R : bM} (hk : k ≠ 7) (hc : c < 64) (g : GG V (R k)) (h1 : R k 1 = 1) : GG V ((f_X7_damOn R k (nI c)).2 k) := by
  obtain ⟨p, hp, e2⟩ := row_tu g.1
  exact ⟨gR_damOn hk hc g.1 h1, gD_damOn hk hc g.1 g.2.1, gP_damOn hk hc hp e2 g.2.2⟩
theorem GG_fl {V k : Nat} {R : bM} (g : GG V (R k)) (h1 : R k 1 = 1) : GG (V + 81) ((f_X7_floodOn R k).2 k) := ⟨gR_floodOn g.1 h1, gD_floodOn g.1 g.2.1, gP_floodOn g.1 h1 g.2.2⟩
theorem GG_go {V k : Nat} {R : bM} {x : Int64} (g : GG V (R k)) : GG V ((f_X7_gameOn R k x).2 k) := by
  refine ⟨gR_gameOn g.1, gD_gameOn, ?_⟩
  rw [on_row.2]
  exact gP_new g.2.2
theorem GG_ch {V k : Nat} {R : bM} {x y : Int32} (g : GG V (R k)) (h : ¬ f_X7_isSetting x y = 0) : GG V ((f_X7_change R k x y).2 k) := by
  refine ⟨gR_change g.1 h, ?_, ?_⟩
  · rcases isSet_in h with ⟨rfl, hv⟩ | ⟨rfl, hv⟩
    · rw [show f_X7_change R k 0 y = f_X7_change R k (nI 0) y from rfl, (change_row (w := 0) (by decide)).2, up2_upd]
      exact gD_eq g.2.1 (upd_ne (by decide)) (upd_ne (by decide))
    · rw [show f_X7_change R k 1 y = f_X7_change R k (nI 1) y from rfl, (change_row (w := 1) (by decide)).2, up2_upd]
      exact gD_eq g.2.1 (upd_ne (by decide)) (upd_ne (by decide))
  · rcases isSet_in h with ⟨rfl, hv⟩ | ⟨rfl, hv⟩
    · obtain ⟨n, n1, n2, e⟩ := set_0 h
      rw [show f_X7_change R k 0 y = f_X7_change R k (nI 0) y from rfl, (change_row (w := 0) (by decide)).2, up2_upd, e]
      exact gP_set (by decide) (fun _ => ⟨n1, n2⟩) g.2.2
    · obtain ⟨n, n1, e⟩ := vp_in_of hv (by decide)
      rw [show f_X7_change R k 1 y = f_X7_change R k (nI 1) y from rfl, (change_row (w := 1) (by decide)).2, up2_upd, e]
      exact gP_set (by decide) (fun q => absurd q (by decide)) g.2.2
/-- what holds of a state -/
def gI (V : Nat) (S : aT) : Prop := S.2.1.length ≤ 14 ∧ GG V S.1 ∧ (∀ x, x ∈ S.2.1 → GG V x) ∧ ∀ s x, S.2.2 s = some x → GG V x
theorem gI_le {V W : Nat} {S : aT} (h : V ≤ W) (g : gI V S) : gI W S := ⟨g.1, GG_le h g.2.1, fun x q => GG_le h (g.2.2.1 x q), fun s x q => GG_le h (g.2.2.2 s x q)⟩
theorem gI_nxt {V W : Nat} {S : aT} {r : Nat → Int32} (h : V ≤ W) (g : gI V S) (hr : GG W r) : gI W (nxt S r) := by
  refine ⟨?_, hr, fun x q => ?_, fun s x q => GG_le h (g.2.2.2 s x q)⟩
  · show ((S.1 :: S.2.1).take 14).length ≤ 14
    rw [List.length_take]
    omega
  · rcases List.mem_cons.mp (List.mem_of_mem_take (show x ∈ (S.1 :: S.2.1).take 14 from q)) with e | e
    · rw [e]; exact GG_le h g.2.1
    · exact GG_le h (g.2.2.1 x e)
theorem GG_rem {V : Nat} {S : aT} (g : gI V S) : GG V (remM S 2) := by rw [rem_row]; exact g.2.1
theorem rem_1 {S : aT} (h : S.1 1 = 1) : remM S 2 1 = 1 := by rw [rem_row]; exact h
theorem gI_7 {V : Nat} {S : aT} {a b : Int32} (hV : V + 81 < 2 ^ 30) (g : gI V S) : gI (V + 81) (tF 7 S a b) := by
  by_cases h : vp_in a 3
  · obtain ⟨j, hj, e⟩ := vp_in_of h (by decide)
    rw [e]
    by_cases h1 : S.1 1 = 1
    · rw [(a_st (c := 0) g.1 hj h1).2]
      exact gI_nxt (Nat.le_add_right V 81) g (GG_st hV (GG_rem g) (rem_1 h1) hj)
    · rw [(a_stO (c := 0) hj h1).2]; exact gI_le (Nat.le_add_right V 81) g
  · rw [(a_stX (c := 0) h).2]; exact gI_le (Nat.le_add_right V 81) g
theorem gI_8 {V : Nat} {S : aT} {a b : Int32} (g : gI V S) : gI V (tF 8 S a b) := by
  by_cases h : vp_in a 8
  · by_cases h' : vp_in b 8
    · obtain ⟨x, hx, e⟩ := vp_in_of h (by decide)
      obtain ⟨y, hy, e'⟩ := vp_in_of h' (by decide)
      rw [e, e']
      by_cases h1 : S.1 1 = 1
      · rw [(a_da (c := 0) g.1 hx hy h1).2]
        exact gI_nxt (Nat.le_refl V) g (GG_da (by decide) (by omega) (GG_rem g) (rem_1 h1))
      · rw [(a_daO (c := 0) hx hy h1).2]; exact g
    · rw [(a_daX (c := 0) (Or.inr h')).2]; exact g
  · rw [(a_daX (c := 0) (Or.inl h)).2]; exact g
theorem gI_9 {V : Nat} {S : aT} {a b : Int32} (g : gI V S) : gI (V + 81) (tF 9 S a b) := by
  by_cases h : S.1 1 = 1 ∧ f_X7_canStep (mkR S) 2 = 0
  · rw [(a_fl (c := 0) g.1 h.1 h.2).2]
    exact gI_nxt (Nat.le_add_right V 81) g (GG_fl (R := (f_X7_remember (up2 (mkR S) 0 0 0))) (GG_rem g) (rem_1 h.1))
  · rw [(a_flO (c := 0) (fun q z => h ⟨q, z⟩)).2]; exact gI_le (Nat.le_add_right V 81) g
theorem gI_10 {V : Nat} {S : aT} {a b : Int32} (g : gI V S) : gI V (tF 10 S a b) := by
  by_cases h : f_X7_isSetting a b = 0
  · rw [(a_ltX (c := 0) h).2]; exact g
  · rw [(a_lt (c := 0) g.1 h).2]
    exact gI_nxt (Nat.le_refl V) g (GG_ch (GG_rem g) h)
theorem gI_g {V : Nat} {S : aT} {x : Int64} (g : gI V S) : gI V (gT S x) := by
  rw [(g_go g.1).2]
  exact gI_nxt (Nat.le_refl V) g (GG_go (GG_rem g))
theorem gI_11 {V : Nat} {S : aT} {a b : Int32} (g : gI V S) : gI V (tF 11 S a b) := by
  rw [tF_11]
  obtain ⟨r, L, K⟩ := S
  cases L with
  | nil => exact g
  | cons x L =>
    have hl : (x :: L).length ≤ 14 := g.1
    exact ⟨by show L.length ≤ 14; have : (x :: L).length = L.length + 1 := rfl; omega, g.2.2.1 x (List.mem_cons_self ..), fun y q => g.2.2.1 y (List.mem_cons_of_mem _ q), g.2.2.2⟩
theorem gI_16 {V : Nat} {S : aT} {a b : Int32} (g : gI V S) : gI V (tF 16 S a b) := by
  rw [tF_16]
  unfold saveS
  by_cases c : 0 ≤ a.toInt ∧ a.toInt < 2
  · rw [if_pos c]
    refine ⟨g.1, g.2.1, g.2.2.1, fun s x q => ?_⟩
    have q : (if s = a.toNatClampNeg then some S.1 else S.2.2 s) = some x := q
    by_cases e : s = a.toNatClampNeg
    · rw [if_pos e] at q
      rw [← Option.some.inj q]; exact g.2.1
    · rw [if_neg e] at q
      exact g.2.2.2 s x q
  · rw [if_neg c]; exact g
theorem gI_17 {V : Nat} {S : aT} {a b : Int32} (g : gI V S) : gI V (tF 17 S a b) := by
  rw [tF_17]
  unfold restS
  by_cases c : 0 ≤ a.toInt ∧ a.toInt < 2
  · rw [if_pos c]
    cases h : S.2.2 a.toNatClampNeg with
    | none => exact g
    | some r => exact ⟨Nat.zero_le 14, g.2.2.2 _ r h, fun x q => absurd q (List.not_mem_nil), g.2.2.2⟩
  · rw [if_neg c]; exact g
/-- fewer remembered rows -/
theorem gI_cu {V n : Nat} {S : aT} (g : gI V S) : gI V (cuS S n) := by
  refine ⟨?_, g.2.1, fun x q => g.2.2.1 x (List.mem_of_mem_take (show x ∈ S.2.1.take n from q)), g.2.2.2⟩
  show (S.2.1.take n).length ≤ 14
  rw [List.length_take]
  have := g.1
  omega
