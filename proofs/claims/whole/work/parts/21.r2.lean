abbrev wfR (M : bM) (k : Nat) : Prop := (M k 2 = 0 ∨ M k 2 = 1) ∧ vp_in (M k 14 - 1) 64 ∧ vp_in (M k 19 - 1) 64
theorem wf_ln {M : bM} {k : Nat} (h : wfR M k) : vp_in (M k 14 - 1) 64 ∧ vp_in (M k 19 - 1) 64 := h.2
theorem wf_tb {M : bM} {k : Nat} (h : wfR M k) : M k 2 = 0 ∨ M k 2 = 1 := h.1
theorem wf_up {M : bM} {k j : Nat} {v : Int32} (h1 : j ≠ 2) (h2 : j ≠ 14) (h3 : j ≠ 19) (h : wfR M k) : wfR (up2 M k j v) k := by
  unfold up2
  dsimp only [wfR]
  rw [if_neg (fun q => h1 q.2.symm), if_neg (fun q => h2 q.2.symm), if_neg (fun q => h3 q.2.symm)]
  exact h
theorem idx_addX (K : Nat) {x : Int32} {a : Nat} (h : vp_in x a) (h2 : K + a < 2 ^ 31) : K ≤ ((OfNat.ofNat K : Int32) + x).toNatClampNeg := by
  obtain ⟨i, hi, rfl⟩ := vp_in_of h (by omega)
  rw [idx_add K (by omega)]
  omega
theorem wf_upx {M : bM} {k : Nat} {v : Int32} (K : Nat) {x : Int32} (hx : vp_in x 64) (h1 : 19 < K) (h2 : K + 64 < 2 ^ 31) (h : wfR M k) : wfR (up2 M k ((OfNat.ofNat K : Int32) + x).toNatClampNeg v) k := by
  have := idx_addX K hx h2
  exact wf_up (by omega) (by omega) (by omega) h
theorem wf_row {M : bM} {k k' j : Nat} {v : Int32} (h1 : k' ≠ k) (h : wfR M k) : wfR (up2 M k' j v) k := by
  have e : up2 M k' j v k = M k := up2_row (Ne.symm h1)
  dsimp only [wfR]
  rw [e]
  exact h
theorem wf_eq {M N : bM} {k : Nat} (e : N k = M k) (h : wfR M k) : wfR N k := by
  dsimp only [wfR]
  rw [e]
  exact h
theorem len_of {M : bM} {k : Nat} {p : Int32} (hp : p = 0 ∨ p = 1) (h : vp_in (M k 14 - 1) 64 ∧ vp_in (M k 19 - 1) 64) : vp_in (f_X7_of M k p 4 - 1) 64 := by
  rcases hp with rfl | rfl
  · exact h.1
  · exact h.2
theorem cmp_neg (a b : Int64) : (lg_cmp a b < 0) ↔ a.toInt < b.toInt := by
  unfold lg_cmp
  have e : a = b ↔ a.toInt = b.toInt := ⟨fun h => by rw [h], fun h => Int64.toInt_inj.mp h⟩
  have g : a > b ↔ b.toInt < a.toInt := Int64.lt_iff_toInt_lt
  by_cases h1 : a > b
  · rw [if_pos h1]
    have := g.mp h1
    exact ⟨fun q => absurd q (by decide), fun q => by omega⟩
  · rw [if_neg h1]
    have h1' : ¬ b.toInt < a.toInt := fun q => h1 (g.mpr q)
    by_cases h2 : a = b
    · rw [if_pos h2]
      have := e.mp h2
      exact ⟨fun q => absurd q (by decide), fun q => by omega⟩
    · rw [if_neg h2]
      have h2' : ¬ a.toInt = b.toInt := fun q => h2 (e.mpr q)
      exact ⟨fun _ => by omega, fun _ => by decide⟩
theorem cmp_pos (a b : Int64) : (0 < lg_cmp a b) ↔ b.toInt < a.toInt := by
  unfold lg_cmp
  have e : a = b ↔ a.toInt = b.toInt := ⟨fun h => by rw [h], fun h => Int64.toInt_inj.mp h⟩
  have g : a > b ↔ b.toInt < a.toInt := Int64.lt_iff_toInt_lt
  by_cases h1 : a > b
  · rw [if_pos h1]
    exact ⟨fun _ => g.mp h1, fun _ => by decide⟩
  · rw [if_neg h1]
    have h1' : ¬ b.toInt < a.toInt := fun q => h1 (g.mpr q)
    by_cases h2 : a = b
    · rw [if_pos h2]
      exact ⟨fun q => absurd q (by decide), fun q => absurd q h1'⟩
    · rw [if_neg h2]
      exact ⟨fun q => absurd q (by decide), fun q => absurd q h1'⟩
theorem in_iff (a lo hi : Int64) : ¬ f_X7_in a lo hi = 0 ↔ lo.toInt ≤ a.toInt ∧ a.toInt ≤ hi.toInt := by
  rw [u_f_X7_in]
  by_cases h1 : lg_cmp a lo < 0
  · rw [if_pos h1]
    have := (cmp_neg _ _).mp h1
    exact ⟨fun q => absurd rfl q, fun q => by omega⟩
  · rw [if_neg h1]
    have h1' : ¬ a.toInt < lo.toInt := fun q => h1 ((cmp_neg _ _).mpr q)
    by_cases h2 : 0 < lg_cmp a hi
    · rw [if_pos h2]
      have := (cmp_pos _ _).mp h2
      exact ⟨fun q => absurd rfl q, fun q => by omega⟩
    · rw [if_neg h2]
      have h2' : ¬ hi.toInt < a.toInt := fun q => h2 ((cmp_pos _ _).mpr q)
      exact ⟨fun _ => by omega, fun _ => by decide⟩
theorem in8 {x : Int32} (h : ¬ f_X7_in x.toInt64 0 7 = 0) : vp_in x 8 := by
  have h1 := (in_iff _ _ _).mp h
  rw [Int32.toInt_toInt64] at h1
  have e0 : (0 : Int64).toInt = 0 := by decide
  have e7 : (7 : Int64).toInt = 7 := by decide
  rw [e0, e7] at h1
  exact vp_in_iff.mpr ⟨h1.1, by omega⟩
theorem isCell_in {x y : Int32} (h : ¬ f_X7_isCell x y = 0) : vp_in x 8 ∧ vp_in y 8 := by
  rw [u_f_X7_isCell] at h
  dsimp only at h
  by_cases h1 : f_X7_in x.toInt64 0 7 = 0
  · rw [if_pos h1] at h; exact absurd rfl h
  · rw [if_neg h1] at h
    by_cases h2 : f_X7_in y.toInt64 0 7 = 0
    · rw [if_pos h2] at h; exact absurd rfl h
    · exact ⟨in8 h1, in8 h2⟩
theorem cell_in {x y : Int32} (h : ¬ f_X7_isCell x y = 0) : vp_in ((8 : Int32) * y + x) 64 := by
  obtain ⟨hx, hy⟩ := isCell_in h
  obtain ⟨i, hi, rfl⟩ := vp_in_of hx (by decide)
  obtain ⟨j, hj, rfl⟩ := vp_in_of hy (by decide)
  rw [show (8 : Int32) = nI 8 from rfl, pk_mul, nI_add]
  exact vp_in_nI (by omega) (by decide)
theorem st_in {a b : Int32} (h : ¬ (if f_X7_isCell a b = 0 then (-1 : Int32) else (8 : Int32) * b + a) = -1) : vp_in (if f_X7_isCell a b = 0 then (-1 : Int32) else (8 : Int32) * b + a) 64 := by
  by_cases h1 : f_X7_isCell a b = 0
  · rw [if_pos h1] at h; exact absurd rfl h
  · rw [if_neg h1]; exact cell_in h1
theorem stepFrom_in {x y : Int32} (h : ¬ f_X7_stepFrom x y = -1) : vp_in (f_X7_stepFrom x y) 64 := by
  rw [u_f_X7_stepFrom] at h ⊢
  dsimp only at h ⊢
  by_cases h1 : y = 1
  · rw [if_pos h1] at h ⊢
    by_cases h2 : y = 0
    · rw [if_pos h2] at h ⊢; exact st_in h
    · rw [if_neg h2] at h ⊢; exact st_in h
  · rw [if_neg h1] at h ⊢
    by_cases h3 : y = 2
    · rw [if_pos h3] at h ⊢
      by_cases h2 : y = 0
      · rw [if_pos h2] at h ⊢; exact st_in h
      · rw [if_neg h2] at h ⊢; exact st_in h
    · rw [if_neg h3] at h ⊢
      by_cases h2 : y = 0
      · rw [if_pos h2] at h ⊢; exact st_in h
      · rw [if_neg h2] at h ⊢; exact st_in h
def f_X7_flows (M : bM) (k1 : Nat) (x2 : Int32) (x3 : Int32) : bM := (let r11 : Int32 := f_X7_of M k1 x2 4; (let M12 : bM := up2 M k1 (((276 : Int32) + ((64 : Int32) * x2)) + r11).toNatClampNeg x3; (let M13 : bM := f_X7_add M12 k1 x2 4 1; (let M14 : bM := up2 M13 k1 ((212 : Int32) + x3).toNatClampNeg ((M13 k1 ((212 : Int32) + x3).toNatClampNeg) ||| ((1 : Int32) <<< (x2 &&& 31))); M14))))
theorem u_f_X7_flows (M : bM) (k1 : Nat) (x2 : Int32) (x3 : Int32) : f_X7_flows M k1 x2 x3 = (let r11 : Int32 := f_X7_of M k1 x2 4; (let M12 : bM := up2 M k1 (((276 : Int32) + ((64 : Int32) * x2)) + r11).toNatClampNeg x3; (let M13 : bM := f_X7_add M12 k1 x2 4 1; (let M14 : bM := up2 M13 k1 ((212 : Int32) + x3).toNatClampNeg ((M13 k1 ((212 : Int32) + x3).toNatClampNeg) ||| ((1 : Int32) <<< (x2 &&& 31))); M14)))) := rfl
theorem p_X7_flows_e15 (M : bM) (k1 : Nat) (x2 : Int32) (x3 : Int32) (r11 : Int32) (hr11 : f_X7_of M k1 x2 4 = r11) (M12 : bM) (hM12 : up2 M k1 (((276 : Int32) + ((64 : Int32) * x2)) + r11).toNatClampNeg x3 = M12) (M13 : bM) (hM13 : f_X7_add M12 k1 x2 4 1 = M13) (M14 : bM) (hM14 : up2 M13 k1 ((212 : Int32) + x3).toNatClampNeg ((M13 k1 ((212 : Int32) + x3).toNatClampNeg) ||| ((1 : Int32) <<< (x2 &&& 31))) = M14) : f_X7_flows M k1 x2 x3 = M14 := by subst hM14 hM13 hM12 hr11; exact u_f_X7_flows M k1 x2 x3
set_option maxHeartbeats 4000000 in
set_option maxRecDepth 100000 in
theorem c_X7_flows (l : Launch) (D : va_G) (E : Nat → ClassId) (o : Nat) (M : bM) (k1 : Nat) (x2 : Int32) (x3 : Int32) (hk1 : LRR[k1]? = some (.inl (0, 404))) (hp : x2 = 0 ∨ x2 = 1) (hL : vp_in (f_X7_of M k1 x2 4) 64) (hc : vp_in x3 64) : Met l yX7_flows wsX7_flows (rmF 1) (bPc D E [.ref (o + k1), .int x2, .int x3] (fun H => bk D E LRR o M H)) (bQ (aV fun H => ∃ M1 : bM, M1 = f_X7_flows M k1 x2 x3 ∧ bk D E LRR o M1 H) (rB o)) 0 0 (rB o) := by
  refine Met.ofW (cc := cX7_flows) (maxL := 3) (ret := none) (by decide) rfl ?_
  intro p e s m args below meth c s₁ B hml hv
  obtain ⟨rfl, hB, hK⟩ := hv
  have hx := B.exec
  have hb := B.bytes
  have hr := B.returns
  have hts := atoms_spec (ws := wsX7_flows) B.pre
  have hown : s.vm.findClass RX7 = some m.cls := findClass_of_methodNamed B.named
  have hlocks := B.notSynchronized
  have hS : bS (rB o) s.heap s.heap [] := bS.rf
  have hl := lv_entry ([.ref (o + k1), .int x2, .int x3]) (n := 3) (Nat.le_of_ble_eq_true rfl)
  rw [lg_entry_eq]
  generalize (lg_sl ([.ref (o + k1), .int x2, .int x3]) ++ List.replicate (3 - (lg_sl ([.ref (o + k1), .int x2, .int x3])).length) Slot.unset).toArray = ls at hl ⊢
  have hl : lv_has ls 3 [(0, .ref (o + k1)), (1, .int x2), (2, .int x3)] := hl
  have hB : bk D E LRR o M s.heap := hB
  refine lv_aload_n hx hb dX7_flows_0 rfl (lv_at hl 0 rfl) ?_
  refine lv_sipush (v := 276) hx hb dX7_flows_1 (by decide) ?_
  refine lv_bipush (v := 64) hx hb dX7_flows_4 (by decide) ?_
  refine lv_iload_n hx hb dX7_flows_6 rfl (lv_at hl 1 rfl) ?_
  refine lv_imul hx hb dX7_flows_7 ?_
  refine lv_iadd hx hb dX7_flows_8 ?_
  refine lv_aload_n hx hb dX7_flows_9 rfl (lv_at hl 0 rfl) ?_
  refine lv_iload_n hx hb dX7_flows_10 rfl (lv_at hl 1 rfl) ?_
  refine lv_iconst (v := 4) hx hb dX7_flows_11 (by decide) ?_
  refine b_pI (b_runS (As := [.ref (o + k1), .int x2, .int 4]) (rest := [.int ((276 : Int32) + ((64 : Int32) * x2)), .ref (o + k1)]) ⟨hx, hb, hml, hown, hts⟩ (c_X7_of l D E o M k1 x2 4 hk1 hp (vp_in_nI (n := 4) (by decide) (by decide))) (va_cwS 3 hts gX7_flows_X7_of rfl rfl rfl (by decide +kernel) ⟨Nat.le_of_ble_eq_true rfl, Nat.le_of_ble_eq_true rfl⟩) hK hB rfl hl rfl (Nat.le_of_ble_eq_true rfl) dX7_flows_12 ⟨Nat.zero_le _, Nat.zero_le _⟩) hS (fun r11 hr11 locs hS => ?_)
  refine lv_iadd hx hb dX7_flows_15 ?_
  refine lv_iload_n hx hb dX7_flows_16 rfl (lv_at hl 2 rfl) ?_
  refine b_iast hx hb hK.1 hB hS k1 (rB_of hk1) hk1 (in_crs hp (by rw [hr11]; exact hL)) dX7_flows_17 (fun M12 hM12 H locs hB _ hS => ?_)
  refine lv_aload_n hx hb dX7_flows_18 rfl (lv_at hl 0 rfl) ?_
  refine lv_iload_n hx hb dX7_flows_19 rfl (lv_at hl 1 rfl) ?_
  refine lv_iconst (v := 4) hx hb dX7_flows_20 (by decide) ?_
  refine lv_iconst (v := 1) hx hb dX7_flows_21 (by decide) ?_
  refine b_mV (b_runS (As := [.ref (o + k1), .int x2, .int 4, .int 1]) (rest := []) ⟨hx, hb, hml, hown, hts⟩ (c_X7_add l D E o M12 k1 x2 4 1 hk1 hp (vp_in_nI (n := 4) (by decide) (by decide))) (va_cwS 4 hts gX7_flows_X7_add rfl rfl rfl (by decide +kernel) ⟨Nat.le_of_ble_eq_true rfl, Nat.le_of_ble_eq_true rfl⟩) hK hB rfl hl rfl (Nat.le_of_ble_eq_true rfl) dX7_flows_22 ⟨Nat.zero_le _, Nat.zero_le _⟩) hS (fun q h => h) (fun M13 hM13 H locs hB _ hS => ?_)
  refine lv_aload_n hx hb dX7_flows_25 rfl (lv_at hl 0 rfl) ?_
  refine lv_sipush (v := 212) hx hb dX7_flows_26 (by decide) ?_
  refine lv_iload_n hx hb dX7_flows_29 rfl (lv_at hl 2 rfl) ?_
  refine lv_iadd hx hb dX7_flows_30 ?_
  refine lv_dup2_11 hx hb dX7_flows_31 rfl rfl ?_
  refine b_iald hx hb hK.1 hB k1 hk1 (in_addX 212 hc (by decide) (by decide)) dX7_flows_32 ?_
  refine lv_iconst (v := 1) hx hb dX7_flows_33 (by decide) ?_
  refine lv_iload_n hx hb dX7_flows_34 rfl (lv_at hl 1 rfl) ?_
  refine lv_ishl hx hb dX7_flows_35 ?_
  refine lv_ior hx hb dX7_flows_36 ?_
  refine b_iast hx hb hK.1 hB hS k1 (rB_of hk1) hk1 (in_addX 212 hc (by decide) (by decide)) dX7_flows_37 (fun M14 hM14 H locs hB _ hS => ?_)
  have e15 := p_X7_flows_e15 M k1 x2 x3 r11 hr11.symm M12 hM12.symm M13 hM13.symm M14 hM14.symm
  exact b_vret hx hb hr hlocks hS ⟨rfl, _, e15.symm, hB⟩ dX7_flows_38

def f_X7_pays (M : bM) (k1 : Nat) (x2 : Int32) (x3 : Int32) : bM := (let M11 : bM := f_X7_add M k1 x2 0 x3; (let M12 : bM := f_X7_add M11 k1 x2 3 x3; M12))
theorem u_f_X7_pays (M : bM) (k1 : Nat) (x2 : Int32) (x3 : Int32) : f_X7_pays M k1 x2 x3 = (let M11 : bM := f_X7_add M k1 x2 0 x3; (let M12 : bM := f_X7_add M11 k1 x2 3 x3; M12)) := rfl
theorem p_X7_pays_e13 (M : bM) (k1 : Nat) (x2 : Int32) (x3 : Int32) (M11 : bM) (hM11 : f_X7_add M k1 x2 0 x3 = M11) (M12 : bM) (hM12 : f_X7_add M11 k1 x2 3 x3 = M12) : f_X7_pays M k1 x2 x3 = M12 := by subst hM12 hM11; exact u_f_X7_pays M k1 x2 x3
set_option maxHeartbeats 4000000 in
set_option maxRecDepth 100000 in
theorem c_X7_pays (l : Launch) (D : va_G) (E : Nat → ClassId) (o : Nat) (M : bM) (k1 : Nat) (x2 : Int32) (x3 : Int32) (hk1 : LRR[k1]? = some (.inl (0, 404))) (hp : x2 = 0 ∨ x2 = 1) : Met l yX7_pays wsX7_pays (rmF 1) (bPc D E [.ref (o + k1), .int x2, .int x3] (fun H => bk D E LRR o M H)) (bQ (aV fun H => ∃ M1 : bM, M1 = f_X7_pays M k1 x2 x3 ∧ bk D E LRR o M1 H) (rB o)) 0 0 (rB o) := by
  refine Met.ofW (cc := cX7_pays) (maxL := 3) (ret := none) (by decide) rfl ?_
  intro p e s m args below meth c s₁ B hml hv
  obtain ⟨rfl, hB, hK⟩ := hv
  have hx := B.exec
  have hb := B.bytes
  have hr := B.returns
  have hts := atoms_spec (ws := wsX7_pays) B.pre
  have hown : s.vm.findClass RX7 = some m.cls := findClass_of_methodNamed B.named
  have hlocks := B.notSynchronized
  have hS : bS (rB o) s.heap s.heap [] := bS.rf
  have hl := lv_entry ([.ref (o + k1), .int x2, .int x3]) (n := 3) (Nat.le_of_ble_eq_true rfl)
  rw [lg_entry_eq]
  generalize (lg_sl ([.ref (o + k1), .int x2, .int x3]) ++ List.replicate (3 - (lg_sl ([.ref (o + k1), .int x2, .int x3])).length) Slot.unset).toArray = ls at hl ⊢
  have hl : lv_has ls 3 [(0, .ref (o + k1)), (1, .int x2), (2, .int x3)] := hl
  have hB : bk D E LRR o M s.heap := hB
  refine lv_aload_n hx hb dX7_pays_0 rfl (lv_at hl 0 rfl) ?_
  refine lv_iload_n hx hb dX7_pays_1 rfl (lv_at hl 1 rfl) ?_
  refine lv_iconst (v := 0) hx hb dX7_pays_2 (by decide) ?_
  refine lv_iload_n hx hb dX7_pays_3 rfl (lv_at hl 2 rfl) ?_
  refine b_mV (b_runS (As := [.ref (o + k1), .int x2, .int 0, .int x3]) (rest := []) ⟨hx, hb, hml, hown, hts⟩ (c_X7_add l D E o M k1 x2 0 x3 hk1 hp (vp_in_nI (n := 0) (by decide) (by decide))) (va_cwS 4 hts gX7_pays_X7_add rfl rfl rfl (by decide +kernel) ⟨Nat.le_of_ble_eq_true rfl, Nat.le_of_ble_eq_true rfl⟩) hK hB rfl hl rfl (Nat.le_of_ble_eq_true rfl) dX7_pays_4 ⟨Nat.zero_le _, Nat.zero_le _⟩) hS (fun q h => h) (fun M11 hM11 H locs hB _ hS => ?_)
  refine lv_aload_n hx hb dX7_pays_7 rfl (lv_at hl 0 rfl) ?_
  refine lv_iload_n hx hb dX7_pays_8 rfl (lv_at hl 1 rfl) ?_
  refine lv_iconst (v := 3) hx hb dX7_pays_9 (by decide) ?_
  refine lv_iload_n hx hb dX7_pays_10 rfl (lv_at hl 2 rfl) ?_
  refine b_mV (b_runS (As := [.ref (o + k1), .int x2, .int 3, .int x3]) (rest := []) ⟨hx, hb, hml, hown, hts⟩ (c_X7_add l D E o M11 k1 x2 3 x3 hk1 hp (vp_in_nI (n := 3) (by decide) (by decide))) (va_cwS 4 hts gX7_pays_X7_add rfl rfl rfl (by decide +kernel) ⟨Nat.le_of_ble_eq_true rfl, Nat.le_of_ble_eq_true rfl⟩) hK hB rfl hl rfl (Nat.le_of_ble_eq_true rfl) dX7_pays_11 ⟨Nat.zero_le _, Nat.zero_le _⟩) hS (fun q h => h) (fun M12 hM12 H locs hB _ hS => ?_)
  have e13 := p_X7_pays_e13 M k1 x2 x3 M11 hM11.symm M12 hM12.symm
  exact b_vret hx hb hr hlocks hS ⟨rfl, _, e13.symm, hB⟩ dX7_pays_14

def lp_X7_turnEnds_9 (k1 : Nat) : Nat → Nat → bM → (bM)
  | 0, i12, M13 => M13
  | n12 + 1, i12, M13 => (let r17 : Int32 := f_X7_isDam M13 k1 (nI i12); (if r17 = 0 then lp_X7_turnEnds_9 k1 n12 (i12 + 1) M13 else (let M20 : bM := up2 M13 k1 (148 + i12) ((M13 k1 (148 + i12)) + 1); (if (M20 k1 (148 + i12)) < (M20 k1 8) then (let M22 : bM := up2 M20 k1 (148 + i12) (M20 k1 (148 + i12)); lp_X7_turnEnds_9 k1 n12 (i12 + 1) M22) else (let M24 : bM := up2 M20 k1 (148 + i12) (-1); lp_X7_turnEnds_9 k1 n12 (i12 + 1) M24)))))
theorem u0_lp_X7_turnEnds_9 (k1 : Nat) (i12 : Nat) (M13 : bM) : lp_X7_turnEnds_9 k1 0 i12 M13 = M13 := rfl
theorem u1_lp_X7_turnEnds_9 (k1 : Nat) (n12 i12 : Nat) (M13 : bM) : lp_X7_turnEnds_9 k1 (n12 + 1) i12 M13 = (let r17 : Int32 := f_X7_isDam M13 k1 (nI i12); (if r17 = 0 then lp_X7_turnEnds_9 k1 n12 (i12 + 1) M13 else (let M20 : bM := up2 M13 k1 (148 + i12) ((M13 k1 (148 + i12)) + 1); (if (M20 k1 (148 + i12)) < (M20 k1 8) then (let M22 : bM := up2 M20 k1 (148 + i12) (M20 k1 (148 + i12)); lp_X7_turnEnds_9 k1 n12 (i12 + 1) M22) else (let M24 : bM := up2 M20 k1 (148 + i12) (-1); lp_X7_turnEnds_9 k1 n12 (i12 + 1) M24))))) := rfl
def f_X7_turnEnds (M : bM) (k1 : Nat) : bM := (let M11 : bM := up2 M k1 3 ((M k1 3) + 1); (let M26 : bM := (lp_X7_turnEnds_9 k1 64 0 M11); (let M27 : bM := up2 M26 k1 2 ((1 : Int32) - (M26 k1 2)); (let r28 : Int32 := f_X7_isUnderWay M27 k1; (if r28 = 0 then (let M30 : bM := up2 M27 k1 1 (M27 k1 1); M30) else (if (M27 k1 3) = 80 then (let M35 : bM := up2 M27 k1 1 3; M35) else (let M33 : bM := up2 M27 k1 1 (M27 k1 1); M33)))))))
theorem u_f_X7_turnEnds (M : bM) (k1 : Nat) : f_X7_turnEnds M k1 = (let M11 : bM := up2 M k1 3 ((M k1 3) + 1); (let M26 : bM := (lp_X7_turnEnds_9 k1 64 0 M11); (let M27 : bM := up2 M26 k1 2 ((1 : Int32) - (M26 k1 2)); (let r28 : Int32 := f_X7_isUnderWay M27 k1; (if r28 = 0 then (let M30 : bM := up2 M27 k1 1 (M27 k1 1); M30) else (if (M27 k1 3) = 80 then (let M35 : bM := up2 M27 k1 1 3; M35) else (let M33 : bM := up2 M27 k1 1 (M27 k1 1); M33))))))) := rfl
theorem p_X7_turnEnds_e15 (M : bM) (k1 : Nat) (M11 : bM) (M13 : bM) (i12 : Nat)  : lp_X7_turnEnds_9 k1 0 i12 M13 = M13 := by exact u0_lp_X7_turnEnds_9 k1 i12 M13
theorem p_X7_turnEnds_e19 (M : bM) (k1 : Nat) (M11 : bM) (M13 : bM) (i12 : Nat) (n12 : Nat) (r17 : Int32) (hr17 : f_X7_isDam M13 k1 (nI i12) = r17) (c18 : r17 = 0) : lp_X7_turnEnds_9 k1 (n12 + 1) i12 M13 = lp_X7_turnEnds_9 k1 n12 (i12 + 1) M13 := by subst hr17; exact Eq.trans (u1_lp_X7_turnEnds_9 k1 n12 i12 M13) (if_pos c18)
theorem p_X7_turnEnds_e23 (M : bM) (k1 : Nat) (M11 : bM) (M13 : bM) (i12 : Nat) (n12 : Nat) (r17 : Int32) (hr17 : f_X7_isDam M13 k1 (nI i12) = r17) (c18 : ¬ r17 = 0) (M20 : bM) (hM20 : up2 M13 k1 (148 + i12) ((M13 k1 (148 + i12)) + 1) = M20) (c21 : (M20 k1 (148 + i12)) < (M20 k1 8)) (M22 : bM) (hM22 : up2 M20 k1 (148 + i12) (M20 k1 (148 + i12)) = M22) : lp_X7_turnEnds_9 k1 (n12 + 1) i12 M13 = lp_X7_turnEnds_9 k1 n12 (i12 + 1) M22 := by subst hM22 hM20 hr17; exact Eq.trans (u1_lp_X7_turnEnds_9 k1 n12 i12 M13) (Eq.trans (if_neg c18) (if_pos c21))
theorem p_X7_turnEnds_e25 (M : bM) (k1 : Nat) (M11 : bM) (M13 : bM) (i12 : Nat) (n12 : Nat) (r17 : Int32) (hr17 : f_X7_isDam M13 k1 (nI i12) = r17) (c18 : ¬ r17 = 0) (M20 : bM) (hM20 : up2 M13 k1 (148 + i12) ((M13 k1 (148 + i12)) + 1) = M20) (c21 : ¬ (M20 k1 (148 + i12)) < (M20 k1 8)) (M24 : bM) (hM24 : up2 M20 k1 (148 + i12) (-1) = M24) : lp_X7_turnEnds_9 k1 (n12 + 1) i12 M13 = lp_X7_turnEnds_9 k1 n12 (i12 + 1) M24 := by subst hM24 hM20 hr17; exact Eq.trans (u1_lp_X7_turnEnds_9 k1 n12 i12 M13) (Eq.trans (if_neg c18) (if_neg c21))
theorem p_X7_turnEnds_e31 (M : bM) (k1 : Nat) (M11 : bM) (hM11 : up2 M k1 3 ((M k1 3) + 1) = M11) (M26 : bM) (hM26 : (lp_X7_turnEnds_9 k1 64 0 M11) = M26) (M27 : bM) (hM27 : up2 M26 k1 2 ((1 : Int32) - (M26 k1 2)) = M27) (r28 : Int32) (hr28 : f_X7_isUnderWay M27 k1 = r28) (c29 : r28 = 0) (M30 : bM) (hM30 : up2 M27 k1 1 (M27 k1 1) = M30) : f_X7_turnEnds M k1 = M30 := by subst hM30 hr28 hM27 hM26 hM11; exact Eq.trans (u_f_X7_turnEnds M k1) (if_pos c29)
theorem p_X7_turnEnds_e34 (M : bM) (k1 : Nat) (M11 : bM) (hM11 : up2 M k1 3 ((M k1 3) + 1) = M11) (M26 : bM) (hM26 : (lp_X7_turnEnds_9 k1 64 0 M11) = M26) (M27 : bM) (hM27 : up2 M26 k1 2 ((1 : Int32) - (M26 k1 2)) = M27) (r28 : Int32) (hr28 : f_X7_isUnderWay M27 k1 = r28) (c29 : ¬ r28 = 0) (c32 : ¬ (M27 k1 3) = 80) (M33 : bM) (hM33 : up2 M27 k1 1 (M27 k1 1) = M33) : f_X7_turnEnds M k1 = M33 := by subst hM33 hr28 hM27 hM26 hM11; exact Eq.trans (u_f_X7_turnEnds M k1) (Eq.trans (if_neg c29) (if_neg c32))
theorem p_X7_turnEnds_e36 (M : bM) (k1 : Nat) (M11 : bM) (hM11 : up2 M k1 3 ((M k1 3) + 1) = M11) (M26 : bM) (hM26 : (lp_X7_turnEnds_9 k1 64 0 M11) = M26) (M27 : bM) (hM27 : up2 M26 k1 2 ((1 : Int32) - (M26 k1 2)) = M27) (r28 : Int32) (hr28 : f_X7_isUnderWay M27 k1 = r28) (c29 : ¬ r28 = 0) (c32 : (M27 k1 3) = 80) (M35 : bM) (hM35 : up2 M27 k1 1 3 = M35) : f_X7_turnEnds M k1 = M35 := by subst hM35 hr28 hM27 hM26 hM11; exact Eq.trans (u_f_X7_turnEnds M k1) (Eq.trans (if_neg c29) (if_pos c32))
set_option maxHeartbeats 4000000 in
set_option maxRecDepth 100000 in
theorem c_X7_turnEnds (l : Launch) (D : va_G) (E : Nat → ClassId) (o : Nat) (M : bM) (k1 : Nat) (hk1 : LRR[k1]? = some (.inl (0, 404))) : Met l yX7_turnEnds wsX7_turnEnds (rmF 1) (bPc D E [.ref (o + k1)] (fun H => bk D E LRR o M H)) (bQ (aV fun H => ∃ M1 : bM, M1 = f_X7_turnEnds M k1 ∧ bk D E LRR o M1 H) (rB o)) 0 0 (rB o) := by
  refine Met.ofW (cc := cX7_turnEnds) (maxL := 2) (ret := none) (by decide) rfl ?_
  intro p e s m args below meth c s₁ B hml hv
  obtain ⟨rfl, hB, hK⟩ := hv
  have hx := B.exec
  have hb := B.bytes
  have hr := B.returns
  have hts := atoms_spec (ws := wsX7_turnEnds) B.pre
  have hown : s.vm.findClass RX7 = some m.cls := findClass_of_methodNamed B.named
  have hlocks := B.notSynchronized
  have hS : bS (rB o) s.heap s.heap [] := bS.rf
  have hl := lv_entry ([.ref (o + k1)]) (n := 2) (Nat.le_of_ble_eq_true rfl)
  rw [lg_entry_eq]
  generalize (lg_sl ([.ref (o + k1)]) ++ List.replicate (2 - (lg_sl ([.ref (o + k1)])).length) Slot.unset).toArray = ls at hl ⊢
  have hl : lv_has ls 2 [(0, .ref (o + k1))] := hl
  have hB : bk D E LRR o M s.heap := hB
  refine lv_aload_n hx hb dX7_turnEnds_0 rfl (lv_at hl 0 rfl) ?_
  refine lv_iconst (v := 3) hx hb dX7_turnEnds_1 (by decide) ?_
  refine lv_dup2_11 hx hb dX7_turnEnds_2 rfl rfl ?_
  refine b_iald hx hb hK.1 hB k1 hk1 (vp_in_nI (n := 3) (by decide) (by decide)) dX7_turnEnds_3 ?_
  refine lv_const (y := M k1 3) (by rfl) ?_
  refine lv_iconst (v := 1) hx hb dX7_turnEnds_4 (by decide) ?_
  refine lv_iadd hx hb dX7_turnEnds_5 ?_
  refine b_iast hx hb hK.1 hB hS k1 (rB_of hk1) hk1 (vp_in_nI (n := 3) (by decide) (by decide)) dX7_turnEnds_6 (fun M11 hM11 H locs hB _ hS => ?_)
  rw [show (3 : Int32).toNatClampNeg = 3 from rfl] at hM11
  refine lv_iconst (v := 0) hx hb dX7_turnEnds_7 (by decide) ?_
  refine lv_istore_n (lv' := [(1, .int 0), (0, .ref (o + k1))]) hx hb dX7_turnEnds_8 rfl hl (by decide) rfl (fun ls hl => ?_)
  have lp12 : ∀ (n12 i12 : Nat) (M13 : bM), i12 + n12 = 64 → ∀ (H : Heap) (locs : List Loc), bk D E LRR o M13 H → bS (rB o) s.heap H locs → ∀ ls : Array Slot, lv_has ls 2 [(1, .int (nI i12)), (0, .ref (o + k1))] → (∀ (H : Heap) (locs : List Loc), bk D E LRR o (lp_X7_turnEnds_9 k1 n12 i12 M13) H → bS (rB o) s.heap H locs → ∀ ls : Array Slot, lv_has ls 2 [(0, .ref (o + k1))] → W p l e (headSpec wsX7_turnEnds (rmF 1)).room s m ([.ref (o + k1)] : List Value).toArray below meth c H locs 0 0 (MQ below (bQ (aV fun H => ∃ M1 : bM, M1 = f_X7_turnEnds M k1 ∧ bk D E LRR o M1 H) (rB o)) ([.ref (o + k1)] : List Value).toArray s 0 0 (rB o)) (F0 m 72 ls [])) → W p l e (headSpec wsX7_turnEnds (rmF 1)).room s m ([.ref (o + k1)] : List Value).toArray below meth c H locs 0 0 (MQ below (bQ (aV fun H => ∃ M1 : bM, M1 = f_X7_turnEnds M k1 ∧ bk D E LRR o M1 H) (rB o)) ([.ref (o + k1)] : List Value).toArray s 0 0 (rB o)) (F0 m 9 ls []) := by
    intro n12
    induction n12 with
    | zero =>
      intro i12 M13 hi12 H locs hB hS ls hl hexit12
      have hz12 : i12 = 64 := by omega
      refine lv_iload_n hx hb dX7_turnEnds_9 rfl (lv_at hl 0 rfl) ?_
      refine lv_bipush (v := 64) hx hb dX7_turnEnds_10 (by decide) ?_
      refine lv_icmp_ge (tgt := 72) hx hb dX7_turnEnds_12 (by decide) (fun c14 => ?_) (fun c14 => absurd (by rw [hz12]; exact Int32.le_refl _) c14)
      have e15 := p_X7_turnEnds_e15 M k1 M11 M13 i12 
      rw [e15] at hexit12
      exact hexit12 _ _  hB hS ls (lv_sub hl [1] rfl)
    | succ n12 ih12 =>
      intro i12 M13 hi12 H locs hB hS ls hl hexit12
      refine lv_iload_n hx hb dX7_turnEnds_9 rfl (lv_at hl 0 rfl) ?_
      refine lv_bipush (v := 64) hx hb dX7_turnEnds_10 (by decide) ?_
      refine lv_icmp_ge (tgt := 72) hx hb dX7_turnEnds_12 (by decide) (fun c16 => absurd c16 (nI_ge (a := i12) (b := 64) (by omega) (by decide))) (fun c16 => ?_)
      refine lv_aload_n hx hb dX7_turnEnds_15 rfl (lv_at hl 1 rfl) ?_
      refine lv_iload_n hx hb dX7_turnEnds_16 rfl (lv_at hl 0 rfl) ?_
      refine b_pI (b_runS (As := [.ref (o + k1), .int (nI i12)]) (rest := []) ⟨hx, hb, hml, hown, hts⟩ (c_X7_isDam l D E o M13 k1 (nI i12) hk1 (vp_in_nI (by omega) (by decide))) (va_cwS 2 hts gX7_turnEnds_X7_isDam rfl rfl rfl (by decide +kernel) ⟨Nat.le_of_ble_eq_true rfl, Nat.le_of_ble_eq_true rfl⟩) hK hB rfl hl rfl (Nat.le_of_ble_eq_true rfl) dX7_turnEnds_17 ⟨Nat.zero_le _, Nat.zero_le _⟩) hS (fun r17 hr17 locs hS => ?_)
      refine lv_if_eq (tgt := 66) hx hb dX7_turnEnds_20 (by decide) (fun c18 => ?_) (fun c18 => ?_)
      · refine lv_iinc (v := nI (i12 + 1)) (lv' := [(1, .int (nI (i12 + 1))), (0, .ref (o + k1))]) hx hb dX7_turnEnds_66 hl (k := 0) rfl (nI_1 i12) (by decide) rfl (fun ls hl => ?_)
        refine lv_goto (tgt := 9) hx hb dX7_turnEnds_69 (by decide) ?_
        have e19 := p_X7_turnEnds_e19 M k1 M11 M13 i12 n12 r17 hr17.symm c18
        rw [e19] at hexit12
        exact ih12 (i12 + 1) M13 (by omega) _ _ hB hS ls (lv_sub hl [0, 1] rfl) hexit12
      · refine lv_aload_n hx hb dX7_turnEnds_23 rfl (lv_at hl 1 rfl) ?_
        refine lv_sipush (v := 148) hx hb dX7_turnEnds_24 (by decide) ?_
        refine lv_iload_n hx hb dX7_turnEnds_27 rfl (lv_at hl 0 rfl) ?_
        refine lv_iadd hx hb dX7_turnEnds_28 ?_
        refine lv_dup2_11 hx hb dX7_turnEnds_29 rfl rfl ?_
        refine b_iald hx hb hK.1 hB k1 hk1 (in_addN 148 (by omega) (by decide)) dX7_turnEnds_30 ?_
        rw [idx_add 148 (i := i12) (by omega)]
        refine lv_iconst (v := 1) hx hb dX7_turnEnds_31 (by decide) ?_
        refine lv_iadd hx hb dX7_turnEnds_32 ?_
        refine b_iast hx hb hK.1 hB hS k1 (rB_of hk1) hk1 (in_addN 148 (by omega) (by decide)) dX7_turnEnds_33 (fun M20 hM20 H locs hB _ hS => ?_)
        rw [idx_add 148 (i := i12) (by omega)] at hM20
        refine lv_aload_n hx hb dX7_turnEnds_34 rfl (lv_at hl 1 rfl) ?_
        refine lv_sipush (v := 148) hx hb dX7_turnEnds_35 (by decide) ?_
        refine lv_iload_n hx hb dX7_turnEnds_38 rfl (lv_at hl 0 rfl) ?_
        refine lv_iadd hx hb dX7_turnEnds_39 ?_
        refine lv_aload_n hx hb dX7_turnEnds_40 rfl (lv_at hl 1 rfl) ?_
        refine lv_sipush (v := 148) hx hb dX7_turnEnds_41 (by decide) ?_
        refine lv_iload_n hx hb dX7_turnEnds_44 rfl (lv_at hl 0 rfl) ?_
        refine lv_iadd hx hb dX7_turnEnds_45 ?_
        refine b_iald hx hb hK.1 hB k1 hk1 (in_addN 148 (by omega) (by decide)) dX7_turnEnds_46 ?_
        rw [idx_add 148 (i := i12) (by omega)]
        refine lv_aload_n hx hb dX7_turnEnds_47 rfl (lv_at hl 1 rfl) ?_
        refine lv_bipush (v := 8) hx hb dX7_turnEnds_48 (by decide) ?_
        refine b_iald hx hb hK.1 hB k1 hk1 (vp_in_nI (n := 8) (by decide) (by decide)) dX7_turnEnds_50 ?_
        refine lv_const (y := M20 k1 8) (by rfl) ?_
        refine lv_icmp_lt (tgt := 58) hx hb dX7_turnEnds_51 (by decide) (fun c21 => ?_) (fun c21 => ?_)
        · refine lv_aload_n hx hb dX7_turnEnds_58 rfl (lv_at hl 1 rfl) ?_
          refine lv_sipush (v := 148) hx hb dX7_turnEnds_59 (by decide) ?_
          refine lv_iload_n hx hb dX7_turnEnds_62 rfl (lv_at hl 0 rfl) ?_
          refine lv_iadd hx hb dX7_turnEnds_63 ?_
          refine b_iald hx hb hK.1 hB k1 hk1 (in_addN 148 (by omega) (by decide)) dX7_turnEnds_64 ?_
          rw [idx_add 148 (i := i12) (by omega)]
          refine b_iast hx hb hK.1 hB hS k1 (rB_of hk1) hk1 (in_addN 148 (by omega) (by decide)) dX7_turnEnds_65 (fun M22 hM22 H locs hB _ hS => ?_)
          rw [idx_add 148 (i := i12) (by omega)] at hM22
          refine lv_iinc (v := nI (i12 + 1)) (lv' := [(1, .int (nI (i12 + 1))), (0, .ref (o + k1))]) hx hb dX7_turnEnds_66 hl (k := 0) rfl (nI_1 i12) (by decide) rfl (fun ls hl => ?_)
          refine lv_goto (tgt := 9) hx hb dX7_turnEnds_69 (by decide) ?_
          have e23 := p_X7_turnEnds_e23 M k1 M11 M13 i12 n12 r17 hr17.symm c18 M20 hM20.symm c21 M22 hM22.symm
          rw [e23] at hexit12
          exact ih12 (i12 + 1) M22 (by omega) _ _ hB hS ls (lv_sub hl [0, 1] rfl) hexit12
        · refine lv_iconst (v := (-1)) hx hb dX7_turnEnds_54 (by decide) ?_
          refine lv_goto (tgt := 65) hx hb dX7_turnEnds_55 (by decide) ?_
          refine b_iast hx hb hK.1 hB hS k1 (rB_of hk1) hk1 (in_addN 148 (by omega) (by decide)) dX7_turnEnds_65 (fun M24 hM24 H locs hB _ hS => ?_)
          rw [idx_add 148 (i := i12) (by omega)] at hM24
          refine lv_iinc (v := nI (i12 + 1)) (lv' := [(1, .int (nI (i12 + 1))), (0, .ref (o + k1))]) hx hb dX7_turnEnds_66 hl (k := 0) rfl (nI_1 i12) (by decide) rfl (fun ls hl => ?_)
          refine lv_goto (tgt := 9) hx hb dX7_turnEnds_69 (by decide) ?_
          have e25 := p_X7_turnEnds_e25 M k1 M11 M13 i12 n12 r17 hr17.symm c18 M20 hM20.symm c21 M24 hM24.symm
          rw [e25] at hexit12
          exact ih12 (i12 + 1) M24 (by omega) _ _ hB hS ls (lv_sub hl [0, 1] rfl) hexit12
  refine lp12 64 0 M11 (by omega) _ _ hB hS ls (lv_sub hl [0, 1] rfl) ?_
  intro H locs hB hS ls hl
  obtain ⟨M26, hM26⟩ : ∃ y : bM, y = (lp_X7_turnEnds_9 k1 64 0 M11) := ⟨_, rfl⟩
  rw [← hM26] at hB
  have hl : lv_has ls 2 [(0, .ref (o + k1))] := hl
  refine lv_aload_n hx hb dX7_turnEnds_72 rfl (lv_at hl 0 rfl) ?_
  refine lv_iconst (v := 2) hx hb dX7_turnEnds_73 (by decide) ?_
  refine lv_iconst (v := 1) hx hb dX7_turnEnds_74 (by decide) ?_
  refine lv_aload_n hx hb dX7_turnEnds_75 rfl (lv_at hl 0 rfl) ?_
  refine lv_iconst (v := 2) hx hb dX7_turnEnds_76 (by decide) ?_
  refine b_iald hx hb hK.1 hB k1 hk1 (vp_in_nI (n := 2) (by decide) (by decide)) dX7_turnEnds_77 ?_
  refine lv_const (y := M26 k1 2) (by rfl) ?_
  refine lv_isub hx hb dX7_turnEnds_78 ?_
  refine b_iast hx hb hK.1 hB hS k1 (rB_of hk1) hk1 (vp_in_nI (n := 2) (by decide) (by decide)) dX7_turnEnds_79 (fun M27 hM27 H locs hB _ hS => ?_)
  rw [show (2 : Int32).toNatClampNeg = 2 from rfl] at hM27
  refine lv_aload_n hx hb dX7_turnEnds_80 rfl (lv_at hl 0 rfl) ?_
  refine lv_iconst (v := 1) hx hb dX7_turnEnds_81 (by decide) ?_
  refine lv_aload_n hx hb dX7_turnEnds_82 rfl (lv_at hl 0 rfl) ?_
  refine b_pI (b_runS (As := [.ref (o + k1)]) (rest := [.int 1, .ref (o + k1)]) ⟨hx, hb, hml, hown, hts⟩ (c_X7_isUnderWay l D E o M27 k1 hk1) (va_cwS 1 hts gX7_turnEnds_X7_isUnderWay rfl rfl rfl (by decide +kernel) ⟨Nat.le_of_ble_eq_true rfl, Nat.le_of_ble_eq_true rfl⟩) hK hB rfl hl rfl (Nat.le_of_ble_eq_true rfl) dX7_turnEnds_83 ⟨Nat.zero_le _, Nat.zero_le _⟩) hS (fun r28 hr28 locs hS => ?_)
  refine lv_if_eq (tgt := 101) hx hb dX7_turnEnds_86 (by decide) (fun c29 => ?_) (fun c29 => ?_)
  · refine lv_aload_n hx hb dX7_turnEnds_101 rfl (lv_at hl 0 rfl) ?_
    refine lv_iconst (v := 1) hx hb dX7_turnEnds_102 (by decide) ?_
    refine b_iald hx hb hK.1 hB k1 hk1 (vp_in_nI (n := 1) (by decide) (by decide)) dX7_turnEnds_103 ?_
    refine lv_const (y := M27 k1 1) (by rfl) ?_
    refine b_iast hx hb hK.1 hB hS k1 (rB_of hk1) hk1 (vp_in_nI (n := 1) (by decide) (by decide)) dX7_turnEnds_104 (fun M30 hM30 H locs hB _ hS => ?_)
    rw [show (1 : Int32).toNatClampNeg = 1 from rfl] at hM30
    have e31 := p_X7_turnEnds_e31 M k1 M11 hM11.symm M26 hM26.symm M27 hM27.symm r28 hr28.symm c29 M30 hM30.symm
    exact b_vret hx hb hr hlocks hS ⟨rfl, _, e31.symm, hB⟩ dX7_turnEnds_105
  · refine lv_aload_n hx hb dX7_turnEnds_89 rfl (lv_at hl 0 rfl) ?_
    refine lv_iconst (v := 3) hx hb dX7_turnEnds_90 (by decide) ?_
    refine b_iald hx hb hK.1 hB k1 hk1 (vp_in_nI (n := 3) (by decide) (by decide)) dX7_turnEnds_91 ?_
    refine lv_const (y := M27 k1 3) (by rfl) ?_
    refine lv_bipush (v := 80) hx hb dX7_turnEnds_92 (by decide) ?_
    refine lv_icmp_ne (tgt := 101) hx hb dX7_turnEnds_94 (by decide) (fun c32 => ?_) (fun c32 => ?_)
    · refine lv_aload_n hx hb dX7_turnEnds_101 rfl (lv_at hl 0 rfl) ?_
      refine lv_iconst (v := 1) hx hb dX7_turnEnds_102 (by decide) ?_
      refine b_iald hx hb hK.1 hB k1 hk1 (vp_in_nI (n := 1) (by decide) (by decide)) dX7_turnEnds_103 ?_
      refine lv_const (y := M27 k1 1) (by rfl) ?_
      refine b_iast hx hb hK.1 hB hS k1 (rB_of hk1) hk1 (vp_in_nI (n := 1) (by decide) (by decide)) dX7_turnEnds_104 (fun M33 hM33 H locs hB _ hS => ?_)
      rw [show (1 : Int32).toNatClampNeg = 1 from rfl] at hM33
      have e34 := p_X7_turnEnds_e34 M k1 M11 hM11.symm M26 hM26.symm M27 hM27.symm r28 hr28.symm c29 c32 M33 hM33.symm
      exact b_vret hx hb hr hlocks hS ⟨rfl, _, e34.symm, hB⟩ dX7_turnEnds_105
    · refine lv_iconst (v := 3) hx hb dX7_turnEnds_97 (by decide) ?_
      refine lv_goto (tgt := 104) hx hb dX7_turnEnds_98 (by decide) ?_
      refine b_iast hx hb hK.1 hB hS k1 (rB_of hk1) hk1 (vp_in_nI (n := 1) (by decide) (by decide)) dX7_turnEnds_104 (fun M35 hM35 H locs hB _ hS => ?_)
      rw [show (1 : Int32).toNatClampNeg = 1 from rfl] at hM35
      have e36 := p_X7_turnEnds_e36 M k1 M11 hM11.symm M26 hM26.symm M27 hM27.symm r28 hr28.symm c29 c32 M35 hM35.symm
      exact b_vret hx hb hr hlocks hS ⟨rfl, _, e36.symm, hB⟩ dX7_turnEnds_105

def f_X7_meet (M : bM) (k1 : Nat) (x2 : Int32) : bM := (let r12 : Int32 := f_X7_cost M k1 0 x2; (let M13 : bM := f_X7_pays M k1 0 ((M k1 9) * r12); (let r15 : Int32 := f_X7_cost M13 k1 1 x2; (let M16 : bM := f_X7_pays M13 k1 1 ((M13 k1 9) * r15); (let M18 : bM := up2 M16 k1 1 2; (let M19 : bM := up2 M18 k1 4 x2; (let r20 : Int32 := f_X7_of M19 k1 0 0; (let r21 : Int32 := f_X7_of M19 k1 1 0; (let x22 : Int32 := (r20 - r21); (if 0 ≤ x22 then (if x22 ≤ 0 then (let M25 : bM := up2 M19 k1 5 (-1); (if x22 = 0 then M25 else (let M28 : bM := f_X7_add M25 k1 (M25 k1 5) 2 1; M28))) else (let M30 : bM := up2 M19 k1 5 1; (if x22 = 0 then M30 else (let M33 : bM := f_X7_add M30 k1 (M30 k1 5) 2 1; M33)))) else (let M35 : bM := up2 M19 k1 5 0; (if x22 = 0 then M35 else (let M38 : bM := f_X7_add M35 k1 (M35 k1 5) 2 1; M38)))))))))))))
theorem u_f_X7_meet (M : bM) (k1 : Nat) (x2 : Int32) : f_X7_meet M k1 x2 = (let r12 : Int32 := f_X7_cost M k1 0 x2; (let M13 : bM := f_X7_pays M k1 0 ((M k1 9) * r12); (let r15 : Int32 := f_X7_cost M13 k1 1 x2; (let M16 : bM := f_X7_pays M13 k1 1 ((M13 k1 9) * r15); (let M18 : bM := up2 M16 k1 1 2; (let M19 : bM := up2 M18 k1 4 x2; (let r20 : Int32 := f_X7_of M19 k1 0 0; (let r21 : Int32 := f_X7_of M19 k1 1 0; (let x22 : Int32 := (r20 - r21); (if 0 ≤ x22 then (if x22 ≤ 0 then (let M25 : bM := up2 M19 k1 5 (-1); (if x22 = 0 then M25 else (let M28 : bM := f_X7_add M25 k1 (M25 k1 5) 2 1; M28))) else (let M30 : bM := up2 M19 k1 5 1; (if x22 = 0 then M30 else (let M33 : bM := f_X7_add M30 k1 (M30 k1 5) 2 1; M33)))) else (let M35 : bM := up2 M19 k1 5 0; (if x22 = 0 then M35 else (let M38 : bM := f_X7_add M35 k1 (M35 k1 5) 2 1; M38))))))))))))) := rfl
theorem p_X7_meet_e27 (M : bM) (k1 : Nat) (x2 : Int32) (r12 : Int32) (hr12 : f_X7_cost M k1 0 x2 = r12) (M13 : bM) (hM13 : f_X7_pays M k1 0 ((M k1 9) * r12) = M13) (r15 : Int32) (hr15 : f_X7_cost M13 k1 1 x2 = r15) (M16 : bM) (hM16 : f_X7_pays M13 k1 1 ((M13 k1 9) * r15) = M16) (M18 : bM) (hM18 : up2 M16 k1 1 2 = M18) (M19 : bM) (hM19 : up2 M18 k1 4 x2 = M19) (r20 : Int32) (hr20 : f_X7_of M19 k1 0 0 = r20) (r21 : Int32) (hr21 : f_X7_of M19 k1 1 0 = r21) (x22 : Int32) (hx22 : (r20 - r21) = x22) (c23 : 0 ≤ x22) (c24 : x22 ≤ 0) (M25 : bM) (hM25 : up2 M19 k1 5 (-1) = M25) (c26 : x22 = 0) : f_X7_meet M k1 x2 = M25 := by subst hM25 hx22 hr21 hr20 hM19 hM18 hM16 hr15 hM13 hr12; exact Eq.trans (u_f_X7_meet M k1 x2) (Eq.trans (if_pos c23) (Eq.trans (if_pos c24) (if_pos c26)))
theorem p_X7_meet_e29 (M : bM) (k1 : Nat) (x2 : Int32) (r12 : Int32) (hr12 : f_X7_cost M k1 0 x2 = r12) (M13 : bM) (hM13 : f_X7_pays M k1 0 ((M k1 9) * r12) = M13) (r15 : Int32) (hr15 : f_X7_cost M13 k1 1 x2 = r15) (M16 : bM) (hM16 : f_X7_pays M13 k1 1 ((M13 k1 9) * r15) = M16) (M18 : bM) (hM18 : up2 M16 k1 1 2 = M18) (M19 : bM) (hM19 : up2 M18 k1 4 x2 = M19) (r20 : Int32) (hr20 : f_X7_of M19 k1 0 0 = r20) (r21 : Int32) (hr21 : f_X7_of M19 k1 1 0 = r21) (x22 : Int32) (hx22 : (r20 - r21) = x22) (c23 : 0 ≤ x22) (c24 : x22 ≤ 0) (M25 : bM) (hM25 : up2 M19 k1 5 (-1) = M25) (c26 : ¬ x22 = 0) (M28 : bM) (hM28 : f_X7_add M25 k1 (M25 k1 5) 2 1 = M28) : f_X7_meet M k1 x2 = M28 := by subst hM28 hM25 hx22 hr21 hr20 hM19 hM18 hM16 hr15 hM13 hr12; exact Eq.trans (u_f_X7_meet M k1 x2) (Eq.trans (if_pos c23) (Eq.trans (if_pos c24) (if_neg c26)))
theorem p_X7_meet_e32 (M : bM) (k1 : Nat) (x2 : Int32) (r12 : Int32) (hr12 : f_X7_cost M k1 0 x2 = r12) (M13 : bM) (hM13 : f_X7_pays M k1 0 ((M k1 9) * r12) = M13) (r15 : Int32) (hr15 : f_X7_cost M13 k1 1 x2 = r15) (M16 : bM) (hM16 : f_X7_pays M13 k1 1 ((M13 k1 9) * r15) = M16) (M18 : bM) (hM18 : up2 M16 k1 1 2 = M18) (M19 : bM) (hM19 : up2 M18 k1 4 x2 = M19) (r20 : Int32) (hr20 : f_X7_of M19 k1 0 0 = r20) (r21 : Int32) (hr21 : f_X7_of M19 k1 1 0 = r21) (x22 : Int32) (hx22 : (r20 - r21) = x22) (c23 : 0 ≤ x22) (c24 : ¬ x22 ≤ 0) (M30 : bM) (hM30 : up2 M19 k1 5 1 = M30) (c31 : x22 = 0) : f_X7_meet M k1 x2 = M30 := by subst hM30 hx22 hr21 hr20 hM19 hM18 hM16 hr15 hM13 hr12; exact Eq.trans (u_f_X7_meet M k1 x2) (Eq.trans (if_pos c23) (Eq.trans (if_neg c24) (if_pos c31)))
theorem p_X7_meet_e34 (M : bM) (k1 : Nat) (x2 : Int32) (r12 : Int32) (hr12 : f_X7_cost M k1 0 x2 = r12) (M13 : bM) (hM13 : f_X7_pays M k1 0 ((M k1 9) * r12) = M13) (r15 : Int32) (hr15 : f_X7_cost M13 k1 1 x2 = r15) (M16 : bM) (hM16 : f_X7_pays M13 k1 1 ((M13 k1 9) * r15) = M16) (M18 : bM) (hM18 : up2 M16 k1 1 2 = M18) (M19 : bM) (hM19 : up2 M18 k1 4 x2 = M19) (r20 : Int32) (hr20 : f_X7_of M19 k1 0 0 = r20) (r21 : Int32) (hr21 : f_X7_of M19 k1 1 0 = r21) (x22 : Int32) (hx22 : (r20 - r21) = x22) (c23 : 0 ≤ x22) (c24 : ¬ x22 ≤ 0) (M30 : bM) (hM30 : up2 M19 k1 5 1 = M30) (c31 : ¬ x22 = 0) (M33 : bM) (hM33 : f_X7_add M30 k1 (M30 k1 5) 2 1 = M33) : f_X7_meet M k1 x2 = M33 := by subst hM33 hM30 hx22 hr21 hr20 hM19 hM18 hM16 hr15 hM13 hr12; exact Eq.trans (u_f_X7_meet M k1 x2) (Eq.trans (if_pos c23) (Eq.trans (if_neg c24) (if_neg c31)))
theorem p_X7_meet_e37 (M : bM) (k1 : Nat) (x2 : Int32) (r12 : Int32) (hr12 : f_X7_cost M k1 0 x2 = r12) (M13 : bM) (hM13 : f_X7_pays M k1 0 ((M k1 9) * r12) = M13) (r15 : Int32) (hr15 : f_X7_cost M13 k1 1 x2 = r15) (M16 : bM) (hM16 : f_X7_pays M13 k1 1 ((M13 k1 9) * r15) = M16) (M18 : bM) (hM18 : up2 M16 k1 1 2 = M18) (M19 : bM) (hM19 : up2 M18 k1 4 x2 = M19) (r20 : Int32) (hr20 : f_X7_of M19 k1 0 0 = r20) (r21 : Int32) (hr21 : f_X7_of M19 k1 1 0 = r21) (x22 : Int32) (hx22 : (r20 - r21) = x22) (c23 : ¬ 0 ≤ x22) (M35 : bM) (hM35 : up2 M19 k1 5 0 = M35) (c36 : x22 = 0) : f_X7_meet M k1 x2 = M35 := by subst hM35 hx22 hr21 hr20 hM19 hM18 hM16 hr15 hM13 hr12; exact Eq.trans (u_f_X7_meet M k1 x2) (Eq.trans (if_neg c23) (if_pos c36))
theorem p_X7_meet_e39 (M : bM) (k1 : Nat) (x2 : Int32) (r12 : Int32) (hr12 : f_X7_cost M k1 0 x2 = r12) (M13 : bM) (hM13 : f_X7_pays M k1 0 ((M k1 9) * r12) = M13) (r15 : Int32) (hr15 : f_X7_cost M13 k1 1 x2 = r15) (M16 : bM) (hM16 : f_X7_pays M13 k1 1 ((M13 k1 9) * r15) = M16) (M18 : bM) (hM18 : up2 M16 k1 1 2 = M18) (M19 : bM) (hM19 : up2 M18 k1 4 x2 = M19) (r20 : Int32) (hr20 : f_X7_of M19 k1 0 0 = r20) (r21 : Int32) (hr21 : f_X7_of M19 k1 1 0 = r21) (x22 : Int32) (hx22 : (r20 - r21) = x22) (c23 : ¬ 0 ≤ x22) (M35 : bM) (hM35 : up2 M19 k1 5 0 = M35) (c36 : ¬ x22 = 0) (M38 : bM) (hM38 : f_X7_add M35 k1 (M35 k1 5) 2 1 = M38) : f_X7_meet M k1 x2 = M38 := by subst hM38 hM35 hx22 hr21 hr20 hM19 hM18 hM16 hr15 hM13 hr12; exact Eq.trans (u_f_X7_meet M k1 x2) (Eq.trans (if_neg c23) (if_neg c36))
set_option maxHeartbeats 4000000 in
set_option maxRecDepth 100000 in
theorem c_X7_meet (l : Launch) (D : va_G) (E : Nat → ClassId) (o : Nat) (M : bM) (k1 : Nat) (x2 : Int32) (hk1 : LRR[k1]? = some (.inl (0, 404))) (hc : vp_in x2 64) : Met l yX7_meet wsX7_meet (rmF 2) (bPc D E [.ref (o + k1), .int x2] (fun H => bk D E LRR o M H)) (bQ (aV fun H => ∃ M1 : bM, M1 = f_X7_meet M k1 x2 ∧ bk D E LRR o M1 H) (rB o)) 0 0 (rB o) := by
  refine Met.ofW (cc := cX7_meet) (maxL := 3) (ret := none) (by decide) rfl ?_
  intro p e s m args below meth c s₁ B hml hv
  obtain ⟨rfl, hB, hK⟩ := hv
  have hx := B.exec
  have hb := B.bytes
  have hr := B.returns
  have hts := atoms_spec (ws := wsX7_meet) B.pre
  have hown : s.vm.findClass RX7 = some m.cls := findClass_of_methodNamed B.named
  have hlocks := B.notSynchronized
  have hS : bS (rB o) s.heap s.heap [] := bS.rf
  have hl := lv_entry ([.ref (o + k1), .int x2]) (n := 3) (Nat.le_of_ble_eq_true rfl)
  rw [lg_entry_eq]
  generalize (lg_sl ([.ref (o + k1), .int x2]) ++ List.replicate (3 - (lg_sl ([.ref (o + k1), .int x2])).length) Slot.unset).toArray = ls at hl ⊢
  have hl : lv_has ls 3 [(0, .ref (o + k1)), (1, .int x2)] := hl
  have hB : bk D E LRR o M s.heap := hB
  refine lv_iconst (v := 0) hx hb dX7_meet_0 (by decide) ?_
  refine lv_istore_n (lv' := [(2, .int 0), (0, .ref (o + k1)), (1, .int x2)]) hx hb dX7_meet_1 rfl hl (by decide) rfl (fun ls hl => ?_)
  refine lv_iload_n hx hb dX7_meet_2 rfl (lv_at hl 0 rfl) ?_
  refine lv_iconst (v := 2) hx hb dX7_meet_3 (by decide) ?_
  refine lv_icmp_ge (tgt := 29) hx hb dX7_meet_4 (by decide) (fun c11 => absurd c11 (by decide)) (fun c11 => ?_)
  refine lv_aload_n hx hb dX7_meet_7 rfl (lv_at hl 1 rfl) ?_
  refine lv_iload_n hx hb dX7_meet_8 rfl (lv_at hl 0 rfl) ?_
  refine lv_aload_n hx hb dX7_meet_9 rfl (lv_at hl 1 rfl) ?_
  refine lv_bipush (v := 9) hx hb dX7_meet_10 (by decide) ?_
  refine b_iald hx hb hK.1 hB k1 hk1 (vp_in_nI (n := 9) (by decide) (by decide)) dX7_meet_12 ?_
  refine lv_const (y := M k1 9) (by rfl) ?_
  refine lv_aload_n hx hb dX7_meet_13 rfl (lv_at hl 1 rfl) ?_
  refine lv_iload_n hx hb dX7_meet_14 rfl (lv_at hl 0 rfl) ?_
  refine lv_iload_n hx hb dX7_meet_15 rfl (lv_at hl 2 rfl) ?_
  refine b_pI (b_runS (As := [.ref (o + k1), .int 0, .int x2]) (rest := [.int (M k1 9), .int 0, .ref (o + k1)]) ⟨hx, hb, hml, hown, hts⟩ (c_X7_cost l D E o M k1 0 x2 hk1 (Or.inl rfl) hc) (va_cwS 3 hts gX7_meet_X7_cost rfl rfl rfl (by decide +kernel) ⟨Nat.le_of_ble_eq_true rfl, Nat.le_of_ble_eq_true rfl⟩) hK hB rfl hl rfl (Nat.le_of_ble_eq_true rfl) dX7_meet_16 ⟨Nat.zero_le _, Nat.zero_le _⟩) hS (fun r12 hr12 locs hS => ?_)
  refine lv_imul hx hb dX7_meet_19 ?_
  refine b_mV (b_runS (As := [.ref (o + k1), .int 0, .int ((M k1 9) * r12)]) (rest := []) ⟨hx, hb, hml, hown, hts⟩ (c_X7_pays l D E o M k1 0 ((M k1 9) * r12) hk1 (Or.inl rfl)) (va_cwS 3 hts gX7_meet_X7_pays rfl rfl rfl (by decide +kernel) ⟨Nat.le_of_ble_eq_true rfl, Nat.le_of_ble_eq_true rfl⟩) hK hB rfl hl rfl (Nat.le_of_ble_eq_true rfl) dX7_meet_20 ⟨Nat.zero_le _, Nat.zero_le _⟩) hS (fun q h => h) (fun M13 hM13 H locs hB _ hS => ?_)
  refine lv_iinc (v := 1) (lv' := [(2, .int 1), (0, .ref (o + k1)), (1, .int x2)]) hx hb dX7_meet_23 hl (k := 0) rfl (by decide) (by decide) rfl (fun ls hl => ?_)
  refine lv_goto (tgt := 2) hx hb dX7_meet_26 (by decide) ?_
  refine lv_iload_n hx hb dX7_meet_2 rfl (lv_at hl 0 rfl) ?_
  refine lv_iconst (v := 2) hx hb dX7_meet_3 (by decide) ?_
  refine lv_icmp_ge (tgt := 29) hx hb dX7_meet_4 (by decide) (fun c14 => absurd c14 (by decide)) (fun c14 => ?_)
  refine lv_aload_n hx hb dX7_meet_7 rfl (lv_at hl 1 rfl) ?_
  refine lv_iload_n hx hb dX7_meet_8 rfl (lv_at hl 0 rfl) ?_
  refine lv_aload_n hx hb dX7_meet_9 rfl (lv_at hl 1 rfl) ?_
  refine lv_bipush (v := 9) hx hb dX7_meet_10 (by decide) ?_
  refine b_iald hx hb hK.1 hB k1 hk1 (vp_in_nI (n := 9) (by decide) (by decide)) dX7_meet_12 ?_
  refine lv_const (y := M13 k1 9) (by rfl) ?_
  refine lv_aload_n hx hb dX7_meet_13 rfl (lv_at hl 1 rfl) ?_
  refine lv_iload_n hx hb dX7_meet_14 rfl (lv_at hl 0 rfl) ?_
  refine lv_iload_n hx hb dX7_meet_15 rfl (lv_at hl 2 rfl) ?_
  refine b_pI (b_runS (As := [.ref (o + k1), .int 1, .int x2]) (rest := [.int (M13 k1 9), .int 1, .ref (o + k1)]) ⟨hx, hb, hml, hown, hts⟩ (c_X7_cost l D E o M13 k1 1 x2 hk1 (Or.inr rfl) hc) (va_cwS 3 hts gX7_meet_X7_cost rfl rfl rfl (by decide +kernel) ⟨Nat.le_of_ble_eq_true rfl, Nat.le_of_ble_eq_true rfl⟩) hK hB rfl hl rfl (Nat.le_of_ble_eq_true rfl) dX7_meet_16 ⟨Nat.zero_le _, Nat.zero_le _⟩) hS (fun r15 hr15 locs hS => ?_)
  refine lv_imul hx hb dX7_meet_19 ?_
  refine b_mV (b_runS (As := [.ref (o + k1), .int 1, .int ((M13 k1 9) * r15)]) (rest := []) ⟨hx, hb, hml, hown, hts⟩ (c_X7_pays l D E o M13 k1 1 ((M13 k1 9) * r15) hk1 (Or.inr rfl)) (va_cwS 3 hts gX7_meet_X7_pays rfl rfl rfl (by decide +kernel) ⟨Nat.le_of_ble_eq_true rfl, Nat.le_of_ble_eq_true rfl⟩) hK hB rfl hl rfl (Nat.le_of_ble_eq_true rfl) dX7_meet_20 ⟨Nat.zero_le _, Nat.zero_le _⟩) hS (fun q h => h) (fun M16 hM16 H locs hB _ hS => ?_)
  refine lv_iinc (v := 2) (lv' := [(2, .int 2), (0, .ref (o + k1)), (1, .int x2)]) hx hb dX7_meet_23 hl (k := 0) rfl (by decide) (by decide) rfl (fun ls hl => ?_)
  refine lv_goto (tgt := 2) hx hb dX7_meet_26 (by decide) ?_
  refine lv_iload_n hx hb dX7_meet_2 rfl (lv_at hl 0 rfl) ?_
  refine lv_iconst (v := 2) hx hb dX7_meet_3 (by decide) ?_
  refine lv_icmp_ge (tgt := 29) hx hb dX7_meet_4 (by decide) (fun c17 => ?_) (fun c17 => absurd (by decide) c17)
  refine lv_aload_n hx hb dX7_meet_29 rfl (lv_at hl 1 rfl) ?_
  refine lv_iconst (v := 1) hx hb dX7_meet_30 (by decide) ?_
  refine lv_iconst (v := 2) hx hb dX7_meet_31 (by decide) ?_
  refine b_iast hx hb hK.1 hB hS k1 (rB_of hk1) hk1 (vp_in_nI (n := 1) (by decide) (by decide)) dX7_meet_32 (fun M18 hM18 H locs hB _ hS => ?_)
  rw [show (1 : Int32).toNatClampNeg = 1 from rfl] at hM18
  refine lv_aload_n hx hb dX7_meet_33 rfl (lv_at hl 1 rfl) ?_
  refine lv_iconst (v := 4) hx hb dX7_meet_34 (by decide) ?_
  refine lv_iload_n hx hb dX7_meet_35 rfl (lv_at hl 2 rfl) ?_
  refine b_iast hx hb hK.1 hB hS k1 (rB_of hk1) hk1 (vp_in_nI (n := 4) (by decide) (by decide)) dX7_meet_36 (fun M19 hM19 H locs hB _ hS => ?_)
  rw [show (4 : Int32).toNatClampNeg = 4 from rfl] at hM19
  refine lv_aload_n hx hb dX7_meet_37 rfl (lv_at hl 1 rfl) ?_
  refine lv_iconst (v := 0) hx hb dX7_meet_38 (by decide) ?_
  refine lv_iconst (v := 0) hx hb dX7_meet_39 (by decide) ?_
  refine b_pI (b_runS (As := [.ref (o + k1), .int 0, .int 0]) (rest := []) ⟨hx, hb, hml, hown, hts⟩ (c_X7_of l D E o M19 k1 0 0 hk1 (Or.inl rfl) (vp_in_nI (n := 0) (by decide) (by decide))) (va_cwS 3 hts gX7_meet_X7_of rfl rfl rfl (by decide +kernel) ⟨Nat.le_of_ble_eq_true rfl, Nat.le_of_ble_eq_true rfl⟩) hK hB rfl hl rfl (Nat.le_of_ble_eq_true rfl) dX7_meet_40 ⟨Nat.zero_le _, Nat.zero_le _⟩) hS (fun r20 hr20 locs hS => ?_)
  refine lv_aload_n hx hb dX7_meet_43 rfl (lv_at hl 1 rfl) ?_
  refine lv_iconst (v := 1) hx hb dX7_meet_44 (by decide) ?_
  refine lv_iconst (v := 0) hx hb dX7_meet_45 (by decide) ?_
  refine b_pI (b_runS (As := [.ref (o + k1), .int 1, .int 0]) (rest := [.int r20]) ⟨hx, hb, hml, hown, hts⟩ (c_X7_of l D E o M19 k1 1 0 hk1 (Or.inr rfl) (vp_in_nI (n := 0) (by decide) (by decide))) (va_cwS 3 hts gX7_meet_X7_of rfl rfl rfl (by decide +kernel) ⟨Nat.le_of_ble_eq_true rfl, Nat.le_of_ble_eq_true rfl⟩) hK hB rfl hl rfl (Nat.le_of_ble_eq_true rfl) dX7_meet_46 ⟨Nat.zero_le _, Nat.zero_le _⟩) hS (fun r21 hr21 locs hS => ?_)
  refine lv_isub hx hb dX7_meet_49 ?_
  refine lv_topi (fun x22 hx22 => ?_)
  refine lv_istore_n (lv' := [(2, .int x22), (0, .ref (o + k1)), (1, .int x2)]) hx hb dX7_meet_50 rfl hl (by decide) rfl (fun ls hl => ?_)
  refine lv_aload_n hx hb dX7_meet_51 rfl (lv_at hl 1 rfl) ?_
  refine lv_iconst (v := 5) hx hb dX7_meet_52 (by decide) ?_
  refine lv_iload_n hx hb dX7_meet_53 rfl (lv_at hl 0 rfl) ?_
  refine lv_if_ge (tgt := 61) hx hb dX7_meet_54 (by decide) (fun c23 => ?_) (fun c23 => ?_)
  · refine lv_iload_n hx hb dX7_meet_61 rfl (lv_at hl 0 rfl) ?_
    refine lv_if_le (tgt := 69) hx hb dX7_meet_62 (by decide) (fun c24 => ?_) (fun c24 => ?_)
    · refine lv_iconst (v := (-1)) hx hb dX7_meet_69 (by decide) ?_
      refine b_iast hx hb hK.1 hB hS k1 (rB_of hk1) hk1 (vp_in_nI (n := 5) (by decide) (by decide)) dX7_meet_70 (fun M25 hM25 H locs hB _ hS => ?_)
      rw [show (5 : Int32).toNatClampNeg = 5 from rfl] at hM25
      refine lv_iload_n hx hb dX7_meet_71 rfl (lv_at hl 0 rfl) ?_
      refine lv_if_eq (tgt := 84) hx hb dX7_meet_72 (by decide) (fun c26 => ?_) (fun c26 => ?_)
      · have e27 := p_X7_meet_e27 M k1 x2 r12 hr12.symm M13 hM13.symm r15 hr15.symm M16 hM16.symm M18 hM18.symm M19 hM19.symm r20 hr20.symm r21 hr21.symm x22 hx22.symm c23 c24 M25 hM25.symm c26
        exact b_vret hx hb hr hlocks hS ⟨rfl, _, e27.symm, hB⟩ dX7_meet_84
      · refine lv_aload_n hx hb dX7_meet_75 rfl (lv_at hl 1 rfl) ?_
        refine lv_aload_n hx hb dX7_meet_76 rfl (lv_at hl 1 rfl) ?_
        refine lv_iconst (v := 5) hx hb dX7_meet_77 (by decide) ?_
        refine b_iald hx hb hK.1 hB k1 hk1 (vp_in_nI (n := 5) (by decide) (by decide)) dX7_meet_78 ?_
        refine lv_const (y := M25 k1 5) (by rfl) ?_
        refine lv_iconst (v := 2) hx hb dX7_meet_79 (by decide) ?_
        refine lv_iconst (v := 1) hx hb dX7_meet_80 (by decide) ?_
        refine b_mV (b_runS (As := [.ref (o + k1), .int (M25 k1 5), .int 2, .int 1]) (rest := []) ⟨hx, hb, hml, hown, hts⟩ (c_X7_add l D E o M25 k1 (M25 k1 5) 2 1 hk1 (absurd (Int32.le_antisymm c24 c23) c26) (vp_in_nI (n := 2) (by decide) (by decide))) (va_cwS 4 hts gX7_meet_X7_add rfl rfl rfl (by decide +kernel) ⟨Nat.le_of_ble_eq_true rfl, Nat.le_of_ble_eq_true rfl⟩) hK hB rfl hl rfl (Nat.le_of_ble_eq_true rfl) dX7_meet_81 ⟨Nat.zero_le _, Nat.zero_le _⟩) hS (fun q h => h) (fun M28 hM28 H locs hB _ hS => ?_)
        have e29 := p_X7_meet_e29 M k1 x2 r12 hr12.symm M13 hM13.symm r15 hr15.symm M16 hM16.symm M18 hM18.symm M19 hM19.symm r20 hr20.symm r21 hr21.symm x22 hx22.symm c23 c24 M25 hM25.symm c26 M28 hM28.symm
        exact b_vret hx hb hr hlocks hS ⟨rfl, _, e29.symm, hB⟩ dX7_meet_84
    · refine lv_iconst (v := 1) hx hb dX7_meet_65 (by decide) ?_
      refine lv_goto (tgt := 70) hx hb dX7_meet_66 (by decide) ?_
      refine b_iast hx hb hK.1 hB hS k1 (rB_of hk1) hk1 (vp_in_nI (n := 5) (by decide) (by decide)) dX7_meet_70 (fun M30 hM30 H locs hB _ hS => ?_)
      rw [show (5 : Int32).toNatClampNeg = 5 from rfl] at hM30
      refine lv_iload_n hx hb dX7_meet_71 rfl (lv_at hl 0 rfl) ?_
      refine lv_if_eq (tgt := 84) hx hb dX7_meet_72 (by decide) (fun c31 => ?_) (fun c31 => ?_)
      · have e32 := p_X7_meet_e32 M k1 x2 r12 hr12.symm M13 hM13.symm r15 hr15.symm M16 hM16.symm M18 hM18.symm M19 hM19.symm r20 hr20.symm r21 hr21.symm x22 hx22.symm c23 c24 M30 hM30.symm c31
        exact b_vret hx hb hr hlocks hS ⟨rfl, _, e32.symm, hB⟩ dX7_meet_84
      · refine lv_aload_n hx hb dX7_meet_75 rfl (lv_at hl 1 rfl) ?_
        refine lv_aload_n hx hb dX7_meet_76 rfl (lv_at hl 1 rfl) ?_
        refine lv_iconst (v := 5) hx hb dX7_meet_77 (by decide) ?_
        refine b_iald hx hb hK.1 hB k1 hk1 (vp_in_nI (n := 5) (by decide) (by decide)) dX7_meet_78 ?_
        refine lv_const (y := M30 k1 5) (by rfl) ?_
        refine lv_iconst (v := 2) hx hb dX7_meet_79 (by decide) ?_
        refine lv_iconst (v := 1) hx hb dX7_meet_80 (by decide) ?_
        refine b_mV (b_runS (As := [.ref (o + k1), .int (M30 k1 5), .int 2, .int 1]) (rest := []) ⟨hx, hb, hml, hown, hts⟩ (c_X7_add l D E o M30 k1 (M30 k1 5) 2 1 hk1 (by rw [hM30]; exact Or.inr (by simp [up2])) (vp_in_nI (n := 2) (by decide) (by decide))) (va_cwS 4 hts gX7_meet_X7_add rfl rfl rfl (by decide +kernel) ⟨Nat.le_of_ble_eq_true rfl, Nat.le_of_ble_eq_true rfl⟩) hK hB rfl hl rfl (Nat.le_of_ble_eq_true rfl) dX7_meet_81 ⟨Nat.zero_le _, Nat.zero_le _⟩) hS (fun q h => h) (fun M33 hM33 H locs hB _ hS => ?_)
        have e34 := p_X7_meet_e34 M k1 x2 r12 hr12.symm M13 hM13.symm r15 hr15.symm M16 hM16.symm M18 hM18.symm M19 hM19.symm r20 hr20.symm r21 hr21.symm x22 hx22.symm c23 c24 M30 hM30.symm c31 M33 hM33.symm
        exact b_vret hx hb hr hlocks hS ⟨rfl, _, e34.symm, hB⟩ dX7_meet_84
  · refine lv_iconst (v := 0) hx hb dX7_meet_57 (by decide) ?_
    refine lv_goto (tgt := 70) hx hb dX7_meet_58 (by decide) ?_
    refine b_iast hx hb hK.1 hB hS k1 (rB_of hk1) hk1 (vp_in_nI (n := 5) (by decide) (by decide)) dX7_meet_70 (fun M35 hM35 H locs hB _ hS => ?_)
    rw [show (5 : Int32).toNatClampNeg = 5 from rfl] at hM35
    refine lv_iload_n hx hb dX7_meet_71 rfl (lv_at hl 0 rfl) ?_
    refine lv_if_eq (tgt := 84) hx hb dX7_meet_72 (by decide) (fun c36 => ?_) (fun c36 => ?_)
    · have e37 := p_X7_meet_e37 M k1 x2 r12 hr12.symm M13 hM13.symm r15 hr15.symm M16 hM16.symm M18 hM18.symm M19 hM19.symm r20 hr20.symm r21 hr21.symm x22 hx22.symm c23 M35 hM35.symm c36
      exact b_vret hx hb hr hlocks hS ⟨rfl, _, e37.symm, hB⟩ dX7_meet_84
    · refine lv_aload_n hx hb dX7_meet_75 rfl (lv_at hl 1 rfl) ?_
      refine lv_aload_n hx hb dX7_meet_76 rfl (lv_at hl 1 rfl) ?_
      refine lv_iconst (v := 5) hx hb dX7_meet_77 (by decide) ?_
      refine b_iald hx hb hK.1 hB k1 hk1 (vp_in_nI (n := 5) (by decide) (by decide)) dX7_meet_78 ?_
      refine lv_const (y := M35 k1 5) (by rfl) ?_
      refine lv_iconst (v := 2) hx hb dX7_meet_79 (by decide) ?_
      refine lv_iconst (v := 1) hx hb dX7_meet_80 (by decide) ?_
      refine b_mV (b_runS (As := [.ref (o + k1), .int (M35 k1 5), .int 2, .int 1]) (rest := []) ⟨hx, hb, hml, hown, hts⟩ (c_X7_add l D E o M35 k1 (M35 k1 5) 2 1 hk1 (by rw [hM35]; exact Or.inl (by simp [up2])) (vp_in_nI (n := 2) (by decide) (by decide))) (va_cwS 4 hts gX7_meet_X7_add rfl rfl rfl (by decide +kernel) ⟨Nat.le_of_ble_eq_true rfl, Nat.le_of_ble_eq_true rfl⟩) hK hB rfl hl rfl (Nat.le_of_ble_eq_true rfl) dX7_meet_81 ⟨Nat.zero_le _, Nat.zero_le _⟩) hS (fun q h => h) (fun M38 hM38 H locs hB _ hS => ?_)
      have e39 := p_X7_meet_e39 M k1 x2 r12 hr12.symm M13 hM13.symm r15 hr15.symm M16 hM16.symm M18 hM18.symm M19 hM19.symm r20 hr20.symm r21 hr21.symm x22 hx22.symm c23 M35 hM35.symm c36 M38 hM38.symm
      exact b_vret hx hb hr hlocks hS ⟨rfl, _, e39.symm, hB⟩ dX7_meet_84
