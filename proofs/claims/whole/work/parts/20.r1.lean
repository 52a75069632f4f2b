theorem idx_add (K : Nat) {i : Nat} (h : K + i < 2 ^ 31) : ((OfNat.ofNat K : Int32) + nI i).toNatClampNeg = K + i := by
  rw [show (OfNat.ofNat K : Int32) = nI K from rfl, nI_add, nI_clamp h]
theorem in_addN (K : Nat) {i n : Nat} (h : K + i < n) (hn : n < 2 ^ 31) : vp_in ((OfNat.ofNat K : Int32) + nI i) n := by
  rw [show (OfNat.ofNat K : Int32) = nI K from rfl, nI_add]
  exact vp_in_nI h hn
theorem in_addX (K : Nat) {x : Int32} {a n : Nat} (h : vp_in x a) (h2 : K + a ≤ n) (hn : n < 2 ^ 31) : vp_in ((OfNat.ofNat K : Int32) + x) n := by
  obtain ⟨i, hi, rfl⟩ := vp_in_of h (by omega)
  exact in_addN K (by omega) hn
theorem pb_flip {x : Int32} (h : x = 0 ∨ x = 1) : 1 - x = 0 ∨ 1 - x = 1 := by rcases h with rfl | rfl <;> decide
theorem pb_nI {i : Nat} (h : i < 2) : nI i = 0 ∨ nI i = 1 := by rcases (by omega : i = 0 ∨ i = 1) with rfl | rfl <;> decide
theorem in_pl {p w : Int32} (hp : p = 0 ∨ p = 1) (hw : vp_in w 5) : vp_in ((10 + (5 * p)) + w) 404 := by
  rcases hp with rfl | rfl
  · exact in_addX 10 hw (by decide) (by decide)
  · exact in_addX 15 hw (by decide) (by decide)
theorem in_cost {p c : Int32} (hp : p = 0 ∨ p = 1) (hc : vp_in c 64) : vp_in ((20 + (64 * p)) + c) 404 := by
  rcases hp with rfl | rfl
  · exact in_addX 20 hc (by decide) (by decide)
  · exact in_addX 84 hc (by decide) (by decide)
theorem in_crs {p c : Int32} (hp : p = 0 ∨ p = 1) (hc : vp_in c 64) : vp_in ((276 + (64 * p)) + c) 404 := by
  rcases hp with rfl | rfl
  · exact in_addX 276 hc (by decide) (by decide)
  · exact in_addX 340 hc (by decide) (by decide)
theorem in_hd {p c : Int32} (hp : p = 0 ∨ p = 1) (hc : vp_in (c - 1) 64) : vp_in (((276 + (64 * p)) + c) - 1) 404 := by
  have e : ((276 + (64 * p)) + c) - 1 = (276 + (64 * p)) + (c - 1) := by
    rw [Int32.sub_eq_add_neg, Int32.sub_eq_add_neg, Int32.add_assoc]
  rw [e]
  exact in_crs hp hc
theorem in_div3 {i : Nat} (h : i < 192) : vp_in (nI i / 3) 64 := by
  rw [show (3 : Int32) = nI 3 from rfl, pk_div (by omega) (by decide) (by decide)]
  exact vp_in_nI (by omega) (by decide)
def f_X7_thrown (M : bM) : Int32 := (M 0 0)
theorem u_f_X7_thrown (M : bM) : f_X7_thrown M = (M 0 0) := rfl
theorem p_X7_thrown_e11 (M : bM)  : f_X7_thrown M = (M 0 0) := by exact u_f_X7_thrown M
set_option maxHeartbeats 4000000 in
set_option maxRecDepth 100000 in
theorem c_X7_thrown (l : Launch) (D : va_G) (E : Nat → ClassId) (o : Nat) (M : bM)  : Met l yX7_thrown wsX7_thrown (rmF 0) (bPc D E [.ref (o + 0)] (fun H => bk D E LRR o M H)) (bQ (aI fun r _ => r = f_X7_thrown M) bNo) 0 0 bNo := by
  refine Met.ofW (cc := cX7_thrown) (maxL := 1) (ret := (some .int)) (by decide) rfl ?_
  intro p e s m args below meth c s₁ B hml hv
  obtain ⟨rfl, hB, hK⟩ := hv
  have hx := B.exec
  have hb := B.bytes
  have hr := B.returns
  have hts := atoms_spec (ws := wsX7_thrown) B.pre
  have hown : s.vm.findClass RX7 = some m.cls := findClass_of_methodNamed B.named
  have hlocks := B.notSynchronized
  have hS : bS bNo s.heap s.heap [] := bS.rf
  have hl := lv_entry ([.ref (o + 0)]) (n := 1) (Nat.le_of_ble_eq_true rfl)
  rw [lg_entry_eq]
  generalize (lg_sl ([.ref (o + 0)]) ++ List.replicate (1 - (lg_sl ([.ref (o + 0)])).length) Slot.unset).toArray = ls at hl ⊢
  have hl : lv_has ls 1 [(0, .ref (o + 0))] := hl
  have hB : bk D E LRR o M s.heap := hB
  have hinX7 : ∀ w ∈ wsX70, w ∈ wsX7_thrown := by decide +kernel
  refine lv_aload_n hx hb dX7_thrown_0 rfl (lv_at hl 0 rfl) ?_
  refine b_get (D := D) (E := E) (L := LRR) (o := o) (M := M) (v := .int (M 0 0)) (C := RX7) (T := TX7) (N := 13) hx hb hts hinX7 hown hK.1 hB 0 lay_m0 rfl 0 (by decide) (hts (.fieldLink RX7 39 "RiverMeetingModel" "refusal" "I") (List.mem_of_getElem? (i := 1) rfl)) (fun _ h9 => h9) rfl dX7_thrown_1 ?_
  have e11 := p_X7_thrown_e11 M 
  exact b_iret hx hb hr hlocks hS ⟨_, rfl, e11.symm⟩ dX7_thrown_4

def f_X7_refused (M : bM) (x1 : Int32) : Int32 × bM := (let M11 : bM := up2 M 0 0 x1; (if x1 ≤ 0 then (0, M11) else (1, M11)))
theorem u_f_X7_refused (M : bM) (x1 : Int32) : f_X7_refused M x1 = (let M11 : bM := up2 M 0 0 x1; (if x1 ≤ 0 then (0, M11) else (1, M11))) := rfl
theorem p_X7_refused_e13 (M : bM) (x1 : Int32) (M11 : bM) (hM11 : up2 M 0 0 x1 = M11) (c12 : x1 ≤ 0) : f_X7_refused M x1 = (0, M11) := by subst hM11; exact Eq.trans (u_f_X7_refused M x1) (if_pos c12)
theorem p_X7_refused_e14 (M : bM) (x1 : Int32) (M11 : bM) (hM11 : up2 M 0 0 x1 = M11) (c12 : ¬ x1 ≤ 0) : f_X7_refused M x1 = (1, M11) := by subst hM11; exact Eq.trans (u_f_X7_refused M x1) (if_neg c12)
set_option maxHeartbeats 4000000 in
set_option maxRecDepth 100000 in
theorem c_X7_refused (l : Launch) (D : va_G) (E : Nat → ClassId) (o : Nat) (M : bM) (x1 : Int32) : Met l yX7_refused wsX7_refused (rmF 0) (bPc D E [.ref (o + 0), .int x1] (fun H => bk D E LRR o M H)) (bQ (aI fun r H => ∃ M1 : bM, (r = (f_X7_refused M x1).1 ∧ M1 = (f_X7_refused M x1).2) ∧ bk D E LRR o M1 H) (rB o)) 0 0 (rB o) := by
  refine Met.ofW (cc := cX7_refused) (maxL := 2) (ret := (some .boolean)) (by decide) rfl ?_
  intro p e s m args below meth c s₁ B hml hv
  obtain ⟨rfl, hB, hK⟩ := hv
  have hx := B.exec
  have hb := B.bytes
  have hr := B.returns
  have hts := atoms_spec (ws := wsX7_refused) B.pre
  have hown : s.vm.findClass RX7 = some m.cls := findClass_of_methodNamed B.named
  have hlocks := B.notSynchronized
  have hS : bS (rB o) s.heap s.heap [] := bS.rf
  have hl := lv_entry ([.ref (o + 0), .int x1]) (n := 2) (Nat.le_of_ble_eq_true rfl)
  rw [lg_entry_eq]
  generalize (lg_sl ([.ref (o + 0), .int x1]) ++ List.replicate (2 - (lg_sl ([.ref (o + 0), .int x1])).length) Slot.unset).toArray = ls at hl ⊢
  have hl : lv_has ls 2 [(0, .ref (o + 0)), (1, .int x1)] := hl
  have hB : bk D E LRR o M s.heap := hB
  have hinX7 : ∀ w ∈ wsX70, w ∈ wsX7_refused := by decide +kernel
  refine lv_aload_n hx hb dX7_refused_0 rfl (lv_at hl 0 rfl) ?_
  refine lv_iload_n hx hb dX7_refused_1 rfl (lv_at hl 1 rfl) ?_
  refine b_put (D := D) (E := E) (L := LRR) (o := o) (M := M) (v := x1) (ty := .int) (C := RX7) (T := TX7) (N := 13) hx hb hts hinX7 tyX7 tyX7_ok nmX7 hown hK.1 hB hS 0 (rB_of lay_m0) lay_m0 rfl 0 (by decide) rfl (hts (.fieldLink RX7 39 "RiverMeetingModel" "refusal" "I") (List.mem_of_getElem? (i := 1) rfl)) (fun _ h9 => h9) rfl (by decide +kernel) rfl rfl dX7_refused_2 (fun M11 hM11 H locs hB _ hS => ?_)
  refine lv_iload_n hx hb dX7_refused_5 rfl (lv_at hl 1 rfl) ?_
  refine lv_if_le (tgt := 13) hx hb dX7_refused_6 (by decide) (fun c12 => ?_) (fun c12 => ?_)
  · refine lv_iconst (v := 0) hx hb dX7_refused_13 (by decide) ?_
    have e13 := p_X7_refused_e13 M x1 M11 hM11.symm c12
    exact b_zret hx hb hr rfl hlocks hS ⟨_, rfl, _, ⟨(congrArg Prod.fst e13).symm, (congrArg Prod.snd e13).symm⟩, hB⟩ dX7_refused_14
  · refine lv_iconst (v := 1) hx hb dX7_refused_9 (by decide) ?_
    refine lv_goto (tgt := 14) hx hb dX7_refused_10 (by decide) ?_
    have e14 := p_X7_refused_e14 M x1 M11 hM11.symm c12
    exact b_zret hx hb hr rfl hlocks hS ⟨_, rfl, _, ⟨(congrArg Prod.fst e14).symm, (congrArg Prod.snd e14).symm⟩, hB⟩ dX7_refused_14

def f_X7_in (x1 : Int64) (x2 : Int64) (x3 : Int64) : Int32 := (if (lg_cmp x1 x2) < 0 then 0 else (if 0 < (lg_cmp x1 x3) then 0 else 1))
theorem u_f_X7_in (x1 : Int64) (x2 : Int64) (x3 : Int64) : f_X7_in x1 x2 x3 = (if (lg_cmp x1 x2) < 0 then 0 else (if 0 < (lg_cmp x1 x3) then 0 else 1)) := rfl
theorem p_X7_in_e12 (x1 : Int64) (x2 : Int64) (x3 : Int64) (c11 : (lg_cmp x1 x2) < 0) : f_X7_in x1 x2 x3 = 0 := by exact Eq.trans (u_f_X7_in x1 x2 x3) (if_pos c11)
theorem p_X7_in_e14 (x1 : Int64) (x2 : Int64) (x3 : Int64) (c11 : ¬ (lg_cmp x1 x2) < 0) (c13 : 0 < (lg_cmp x1 x3)) : f_X7_in x1 x2 x3 = 0 := by exact Eq.trans (u_f_X7_in x1 x2 x3) (Eq.trans (if_neg c11) (if_pos c13))
theorem p_X7_in_e15 (x1 : Int64) (x2 : Int64) (x3 : Int64) (c11 : ¬ (lg_cmp x1 x2) < 0) (c13 : ¬ 0 < (lg_cmp x1 x3)) : f_X7_in x1 x2 x3 = 1 := by exact Eq.trans (u_f_X7_in x1 x2 x3) (Eq.trans (if_neg c11) (if_neg c13))
set_option maxHeartbeats 4000000 in
set_option maxRecDepth 100000 in
theorem c_X7_in (l : Launch) (D : va_G) (E : Nat → ClassId) (x1 : Int64) (x2 : Int64) (x3 : Int64) : Met l yX7_in wsX7_in (rmF 0) (bPc D E [.long x1, .long x2, .long x3] (fun _ => True)) (bQ (aI fun r _ => r = f_X7_in x1 x2 x3) bNo) 0 0 bNo := by
  refine Met.ofW (cc := cX7_in) (maxL := 6) (ret := (some .boolean)) (by decide) rfl ?_
  intro p e s m args below meth c s₁ B hml hv
  obtain ⟨rfl, hB, hK⟩ := hv
  have hx := B.exec
  have hb := B.bytes
  have hr := B.returns
  have hts := atoms_spec (ws := wsX7_in) B.pre
  have hown : s.vm.findClass RX7 = some m.cls := findClass_of_methodNamed B.named
  have hlocks := B.notSynchronized
  have hS : bS bNo s.heap s.heap [] := bS.rf
  have hl := lv_entry ([.long x1, .long x2, .long x3]) (n := 6) (Nat.le_of_ble_eq_true rfl)
  rw [lg_entry_eq]
  generalize (lg_sl ([.long x1, .long x2, .long x3]) ++ List.replicate (6 - (lg_sl ([.long x1, .long x2, .long x3])).length) Slot.unset).toArray = ls at hl ⊢
  have hl : lv_has ls 6 [(0, .long x1), (2, .long x2), (4, .long x3)] := hl
  refine lv_lload_n hx hb dX7_in_0 rfl (lv_at hl 0 rfl) ?_
  refine lv_lload_n hx hb dX7_in_1 rfl (lv_at hl 1 rfl) ?_
  refine W.lcmp hx hb dX7_in_2 ?_
  refine lv_if_lt (tgt := 17) hx hb dX7_in_3 (by decide) (fun c11 => ?_) (fun c11 => ?_)
  · refine lv_iconst (v := 0) hx hb dX7_in_17 (by decide) ?_
    have e12 := p_X7_in_e12 x1 x2 x3 c11
    exact b_zret hx hb hr rfl hlocks hS ⟨_, rfl, e12.symm⟩ dX7_in_18
  · refine lv_lload_n hx hb dX7_in_6 rfl (lv_at hl 0 rfl) ?_
    refine lv_lload hx hb dX7_in_7 (lv_at hl 2 rfl) ?_
    refine W.lcmp hx hb dX7_in_9 ?_
    refine lv_if_gt (tgt := 17) hx hb dX7_in_10 (by decide) (fun c13 => ?_) (fun c13 => ?_)
    · refine lv_iconst (v := 0) hx hb dX7_in_17 (by decide) ?_
      have e14 := p_X7_in_e14 x1 x2 x3 c11 c13
      exact b_zret hx hb hr rfl hlocks hS ⟨_, rfl, e14.symm⟩ dX7_in_18
    · refine lv_iconst (v := 1) hx hb dX7_in_13 (by decide) ?_
      refine lv_goto (tgt := 18) hx hb dX7_in_14 (by decide) ?_
      have e15 := p_X7_in_e15 x1 x2 x3 c11 c13
      exact b_zret hx hb hr rfl hlocks hS ⟨_, rfl, e15.symm⟩ dX7_in_18

def f_X7_of (M : bM) (k1 : Nat) (x2 : Int32) (x3 : Int32) : Int32 := (M k1 (((10 : Int32) + ((5 : Int32) * x2)) + x3).toNatClampNeg)
theorem u_f_X7_of (M : bM) (k1 : Nat) (x2 : Int32) (x3 : Int32) : f_X7_of M k1 x2 x3 = (M k1 (((10 : Int32) + ((5 : Int32) * x2)) + x3).toNatClampNeg) := rfl
theorem p_X7_of_e11 (M : bM) (k1 : Nat) (x2 : Int32) (x3 : Int32)  : f_X7_of M k1 x2 x3 = (M k1 (((10 : Int32) + ((5 : Int32) * x2)) + x3).toNatClampNeg) := by exact u_f_X7_of M k1 x2 x3
set_option maxHeartbeats 4000000 in
set_option maxRecDepth 100000 in
theorem c_X7_of (l : Launch) (D : va_G) (E : Nat → ClassId) (o : Nat) (M : bM) (k1 : Nat) (x2 : Int32) (x3 : Int32) (hk1 : LRR[k1]? = some (.inl (0, 404))) (hp : x2 = 0 ∨ x2 = 1) (hw : vp_in x3 5) : Met l yX7_of wsX7_of (rmF 0) (bPc D E [.ref (o + k1), .int x2, .int x3] (fun H => bk D E LRR o M H)) (bQ (aI fun r _ => r = f_X7_of M k1 x2 x3) bNo) 0 0 bNo := by
  refine Met.ofW (cc := cX7_of) (maxL := 3) (ret := (some .int)) (by decide) rfl ?_
  intro p e s m args below meth c s₁ B hml hv
  obtain ⟨rfl, hB, hK⟩ := hv
  have hx := B.exec
  have hb := B.bytes
  have hr := B.returns
  have hts := atoms_spec (ws := wsX7_of) B.pre
  have hown : s.vm.findClass RX7 = some m.cls := findClass_of_methodNamed B.named
  have hlocks := B.notSynchronized
  have hS : bS bNo s.heap s.heap [] := bS.rf
  have hl := lv_entry ([.ref (o + k1), .int x2, .int x3]) (n := 3) (Nat.le_of_ble_eq_true rfl)
  rw [lg_entry_eq]
  generalize (lg_sl ([.ref (o + k1), .int x2, .int x3]) ++ List.replicate (3 - (lg_sl ([.ref (o + k1), .int x2, .int x3])).length) Slot.unset).toArray = ls at hl ⊢
  have hl : lv_has ls 3 [(0, .ref (o + k1)), (1, .int x2), (2, .int x3)] := hl
  have hB : bk D E LRR o M s.heap := hB
  refine lv_aload_n hx hb dX7_of_0 rfl (lv_at hl 0 rfl) ?_
  refine lv_bipush (v := 10) hx hb dX7_of_1 (by decide) ?_
  refine lv_iconst (v := 5) hx hb dX7_of_3 (by decide) ?_
  refine lv_iload_n hx hb dX7_of_4 rfl (lv_at hl 1 rfl) ?_
  refine lv_imul hx hb dX7_of_5 ?_
  refine lv_iadd hx hb dX7_of_6 ?_
  refine lv_iload_n hx hb dX7_of_7 rfl (lv_at hl 2 rfl) ?_
  refine lv_iadd hx hb dX7_of_8 ?_
  refine b_iald hx hb hK.1 hB k1 hk1 (in_pl hp hw) dX7_of_9 ?_
  have e11 := p_X7_of_e11 M k1 x2 x3 
  exact b_iret hx hb hr hlocks hS ⟨_, rfl, e11.symm⟩ dX7_of_10

def f_X7_add (M : bM) (k1 : Nat) (x2 : Int32) (x3 : Int32) (x4 : Int32) : bM := (let M11 : bM := up2 M k1 (((10 : Int32) + ((5 : Int32) * x2)) + x3).toNatClampNeg ((M k1 (((10 : Int32) + ((5 : Int32) * x2)) + x3).toNatClampNeg) + x4); M11)
theorem u_f_X7_add (M : bM) (k1 : Nat) (x2 : Int32) (x3 : Int32) (x4 : Int32) : f_X7_add M k1 x2 x3 x4 = (let M11 : bM := up2 M k1 (((10 : Int32) + ((5 : Int32) * x2)) + x3).toNatClampNeg ((M k1 (((10 : Int32) + ((5 : Int32) * x2)) + x3).toNatClampNeg) + x4); M11) := rfl
theorem p_X7_add_e12 (M : bM) (k1 : Nat) (x2 : Int32) (x3 : Int32) (x4 : Int32) (M11 : bM) (hM11 : up2 M k1 (((10 : Int32) + ((5 : Int32) * x2)) + x3).toNatClampNeg ((M k1 (((10 : Int32) + ((5 : Int32) * x2)) + x3).toNatClampNeg) + x4) = M11) : f_X7_add M k1 x2 x3 x4 = M11 := by subst hM11; exact u_f_X7_add M k1 x2 x3 x4
set_option maxHeartbeats 4000000 in
set_option maxRecDepth 100000 in
theorem c_X7_add (l : Launch) (D : va_G) (E : Nat → ClassId) (o : Nat) (M : bM) (k1 : Nat) (x2 : Int32) (x3 : Int32) (x4 : Int32) (hk1 : LRR[k1]? = some (.inl (0, 404))) (hp : x2 = 0 ∨ x2 = 1) (hw : vp_in x3 5) : Met l yX7_add wsX7_add (rmF 0) (bPc D E [.ref (o + k1), .int x2, .int x3, .int x4] (fun H => bk D E LRR o M H)) (bQ (aV fun H => ∃ M1 : bM, M1 = f_X7_add M k1 x2 x3 x4 ∧ bk D E LRR o M1 H) (rB o)) 0 0 (rB o) := by
  refine Met.ofW (cc := cX7_add) (maxL := 4) (ret := none) (by decide) rfl ?_
  intro p e s m args below meth c s₁ B hml hv
  obtain ⟨rfl, hB, hK⟩ := hv
  have hx := B.exec
  have hb := B.bytes
  have hr := B.returns
  have hts := atoms_spec (ws := wsX7_add) B.pre
  have hown : s.vm.findClass RX7 = some m.cls := findClass_of_methodNamed B.named
  have hlocks := B.notSynchronized
  have hS : bS (rB o) s.heap s.heap [] := bS.rf
  have hl := lv_entry ([.ref (o + k1), .int x2, .int x3, .int x4]) (n := 4) (Nat.le_of_ble_eq_true rfl)
  rw [lg_entry_eq]
  generalize (lg_sl ([.ref (o + k1), .int x2, .int x3, .int x4]) ++ List.replicate (4 - (lg_sl ([.ref (o + k1), .int x2, .int x3, .int x4])).length) Slot.unset).toArray = ls at hl ⊢
  have hl : lv_has ls 4 [(0, .ref (o + k1)), (1, .int x2), (2, .int x3), (3, .int x4)] := hl
  have hB : bk D E LRR o M s.heap := hB
  refine lv_aload_n hx hb dX7_add_0 rfl (lv_at hl 0 rfl) ?_
  refine lv_bipush (v := 10) hx hb dX7_add_1 (by decide) ?_
  refine lv_iconst (v := 5) hx hb dX7_add_3 (by decide) ?_
  refine lv_iload_n hx hb dX7_add_4 rfl (lv_at hl 1 rfl) ?_
  refine lv_imul hx hb dX7_add_5 ?_
  refine lv_iadd hx hb dX7_add_6 ?_
  refine lv_iload_n hx hb dX7_add_7 rfl (lv_at hl 2 rfl) ?_
  refine lv_iadd hx hb dX7_add_8 ?_
  refine lv_dup2_11 hx hb dX7_add_9 rfl rfl ?_
  refine b_iald hx hb hK.1 hB k1 hk1 (in_pl hp hw) dX7_add_10 ?_
  refine lv_iload_n hx hb dX7_add_11 rfl (lv_at hl 3 rfl) ?_
  refine lv_iadd hx hb dX7_add_12 ?_
  refine b_iast hx hb hK.1 hB hS k1 (rB_of hk1) hk1 (in_pl hp hw) dX7_add_13 (fun M11 hM11 H locs hB _ hS => ?_)
  have e12 := p_X7_add_e12 M k1 x2 x3 x4 M11 hM11.symm
  exact b_vret hx hb hr hlocks hS ⟨rfl, _, e12.symm, hB⟩ dX7_add_14

def f_X7_head (M : bM) (k1 : Nat) (x2 : Int32) : Int32 := (let r11 : Int32 := f_X7_of M k1 x2 4; (M k1 ((((276 : Int32) + ((64 : Int32) * x2)) + r11) - 1).toNatClampNeg))
theorem u_f_X7_head (M : bM) (k1 : Nat) (x2 : Int32) : f_X7_head M k1 x2 = (let r11 : Int32 := f_X7_of M k1 x2 4; (M k1 ((((276 : Int32) + ((64 : Int32) * x2)) + r11) - 1).toNatClampNeg)) := rfl
theorem p_X7_head_e12 (M : bM) (k1 : Nat) (x2 : Int32) (r11 : Int32) (hr11 : f_X7_of M k1 x2 4 = r11) : f_X7_head M k1 x2 = (M k1 ((((276 : Int32) + ((64 : Int32) * x2)) + r11) - 1).toNatClampNeg) := by subst hr11; exact u_f_X7_head M k1 x2
set_option maxHeartbeats 4000000 in
set_option maxRecDepth 100000 in
theorem c_X7_head (l : Launch) (D : va_G) (E : Nat → ClassId) (o : Nat) (M : bM) (k1 : Nat) (x2 : Int32) (hk1 : LRR[k1]? = some (.inl (0, 404))) (hp : x2 = 0 ∨ x2 = 1) (hh : vp_in (f_X7_of M k1 x2 4 - 1) 64) : Met l yX7_head wsX7_head (rmF 1) (bPc D E [.ref (o + k1), .int x2] (fun H => bk D E LRR o M H)) (bQ (aI fun r _ => r = f_X7_head M k1 x2) bNo) 0 0 bNo := by
  refine Met.ofW (cc := cX7_head) (maxL := 2) (ret := (some .int)) (by decide) rfl ?_
  intro p e s m args below meth c s₁ B hml hv
  obtain ⟨rfl, hB, hK⟩ := hv
  have hx := B.exec
  have hb := B.bytes
  have hr := B.returns
  have hts := atoms_spec (ws := wsX7_head) B.pre
  have hown : s.vm.findClass RX7 = some m.cls := findClass_of_methodNamed B.named
  have hlocks := B.notSynchronized
  have hS : bS bNo s.heap s.heap [] := bS.rf
  have hl := lv_entry ([.ref (o + k1), .int x2]) (n := 2) (Nat.le_of_ble_eq_true rfl)
  rw [lg_entry_eq]
  generalize (lg_sl ([.ref (o + k1), .int x2]) ++ List.replicate (2 - (lg_sl ([.ref (o + k1), .int x2])).length) Slot.unset).toArray = ls at hl ⊢
  have hl : lv_has ls 2 [(0, .ref (o + k1)), (1, .int x2)] := hl
  have hB : bk D E LRR o M s.heap := hB
  refine lv_aload_n hx hb dX7_head_0 rfl (lv_at hl 0 rfl) ?_
  refine lv_sipush (v := 276) hx hb dX7_head_1 (by decide) ?_
  refine lv_bipush (v := 64) hx hb dX7_head_4 (by decide) ?_
  refine lv_iload_n hx hb dX7_head_6 rfl (lv_at hl 1 rfl) ?_
  refine lv_imul hx hb dX7_head_7 ?_
  refine lv_iadd hx hb dX7_head_8 ?_
  refine lv_aload_n hx hb dX7_head_9 rfl (lv_at hl 0 rfl) ?_
  refine lv_iload_n hx hb dX7_head_10 rfl (lv_at hl 1 rfl) ?_
  refine lv_iconst (v := 4) hx hb dX7_head_11 (by decide) ?_
  refine b_pI (b_runS (As := [.ref (o + k1), .int x2, .int 4]) (rest := [.int ((276 : Int32) + ((64 : Int32) * x2)), .ref (o + k1)]) ⟨hx, hb, hml, hown, hts⟩ (c_X7_of l D E o M k1 x2 4 hk1 hp (vp_in_nI (n := 4) (by decide) (by decide))) (va_cwS 3 hts gX7_head_X7_of rfl rfl rfl (by decide +kernel) ⟨Nat.le_of_ble_eq_true rfl, Nat.le_of_ble_eq_true rfl⟩) hK hB rfl hl rfl (Nat.le_of_ble_eq_true rfl) dX7_head_12 ⟨Nat.zero_le _, Nat.zero_le _⟩) hS (fun r11 hr11 locs hS => ?_)
  refine lv_iadd hx hb dX7_head_15 ?_
  refine lv_iconst (v := 1) hx hb dX7_head_16 (by decide) ?_
  refine lv_isub hx hb dX7_head_17 ?_
  refine b_iald hx hb hK.1 hB k1 hk1 (in_hd hp (by rw [hr11]; exact hh)) dX7_head_18 ?_
  have e12 := p_X7_head_e12 M k1 x2 r11 hr11.symm
  exact b_iret hx hb hr hlocks hS ⟨_, rfl, e12.symm⟩ dX7_head_19

def f_X7_cost (M : bM) (k1 : Nat) (x2 : Int32) (x3 : Int32) : Int32 := (M k1 (((20 : Int32) + ((64 : Int32) * x2)) + x3).toNatClampNeg)
theorem u_f_X7_cost (M : bM) (k1 : Nat) (x2 : Int32) (x3 : Int32) : f_X7_cost M k1 x2 x3 = (M k1 (((20 : Int32) + ((64 : Int32) * x2)) + x3).toNatClampNeg) := rfl
theorem p_X7_cost_e11 (M : bM) (k1 : Nat) (x2 : Int32) (x3 : Int32)  : f_X7_cost M k1 x2 x3 = (M k1 (((20 : Int32) + ((64 : Int32) * x2)) + x3).toNatClampNeg) := by exact u_f_X7_cost M k1 x2 x3
set_option maxHeartbeats 4000000 in
set_option maxRecDepth 100000 in
theorem c_X7_cost (l : Launch) (D : va_G) (E : Nat → ClassId) (o : Nat) (M : bM) (k1 : Nat) (x2 : Int32) (x3 : Int32) (hk1 : LRR[k1]? = some (.inl (0, 404))) (hp : x2 = 0 ∨ x2 = 1) (hc : vp_in x3 64) : Met l yX7_cost wsX7_cost (rmF 0) (bPc D E [.ref (o + k1), .int x2, .int x3] (fun H => bk D E LRR o M H)) (bQ (aI fun r _ => r = f_X7_cost M k1 x2 x3) bNo) 0 0 bNo := by
  refine Met.ofW (cc := cX7_cost) (maxL := 3) (ret := (some .int)) (by decide) rfl ?_
  intro p e s m args below meth c s₁ B hml hv
  obtain ⟨rfl, hB, hK⟩ := hv
  have hx := B.exec
  have hb := B.bytes
  have hr := B.returns
  have hts := atoms_spec (ws := wsX7_cost) B.pre
  have hown : s.vm.findClass RX7 = some m.cls := findClass_of_methodNamed B.named
  have hlocks := B.notSynchronized
  have hS : bS bNo s.heap s.heap [] := bS.rf
  have hl := lv_entry ([.ref (o + k1), .int x2, .int x3]) (n := 3) (Nat.le_of_ble_eq_true rfl)
  rw [lg_entry_eq]
  generalize (lg_sl ([.ref (o + k1), .int x2, .int x3]) ++ List.replicate (3 - (lg_sl ([.ref (o + k1), .int x2, .int x3])).length) Slot.unset).toArray = ls at hl ⊢
  have hl : lv_has ls 3 [(0, .ref (o + k1)), (1, .int x2), (2, .int x3)] := hl
  have hB : bk D E LRR o M s.heap := hB
  refine lv_aload_n hx hb dX7_cost_0 rfl (lv_at hl 0 rfl) ?_
  refine lv_bipush (v := 20) hx hb dX7_cost_1 (by decide) ?_
  refine lv_bipush (v := 64) hx hb dX7_cost_3 (by decide) ?_
  refine lv_iload_n hx hb dX7_cost_5 rfl (lv_at hl 1 rfl) ?_
  refine lv_imul hx hb dX7_cost_6 ?_
  refine lv_iadd hx hb dX7_cost_7 ?_
  refine lv_iload_n hx hb dX7_cost_8 rfl (lv_at hl 2 rfl) ?_
  refine lv_iadd hx hb dX7_cost_9 ?_
  refine b_iald hx hb hK.1 hB k1 hk1 (in_cost hp hc) dX7_cost_10 ?_
  have e11 := p_X7_cost_e11 M k1 x2 x3 
  exact b_iret hx hb hr hlocks hS ⟨_, rfl, e11.symm⟩ dX7_cost_11

def f_X7_isDam (M : bM) (k1 : Nat) (x2 : Int32) : Int32 := (if (M k1 ((148 : Int32) + x2).toNatClampNeg) = (-1) then 0 else 1)
theorem u_f_X7_isDam (M : bM) (k1 : Nat) (x2 : Int32) : f_X7_isDam M k1 x2 = (if (M k1 ((148 : Int32) + x2).toNatClampNeg) = (-1) then 0 else 1) := rfl
theorem p_X7_isDam_e12 (M : bM) (k1 : Nat) (x2 : Int32) (c11 : (M k1 ((148 : Int32) + x2).toNatClampNeg) = (-1)) : f_X7_isDam M k1 x2 = 0 := by exact Eq.trans (u_f_X7_isDam M k1 x2) (if_pos c11)
theorem p_X7_isDam_e13 (M : bM) (k1 : Nat) (x2 : Int32) (c11 : ¬ (M k1 ((148 : Int32) + x2).toNatClampNeg) = (-1)) : f_X7_isDam M k1 x2 = 1 := by exact Eq.trans (u_f_X7_isDam M k1 x2) (if_neg c11)
set_option maxHeartbeats 4000000 in
set_option maxRecDepth 100000 in
theorem c_X7_isDam (l : Launch) (D : va_G) (E : Nat → ClassId) (o : Nat) (M : bM) (k1 : Nat) (x2 : Int32) (hk1 : LRR[k1]? = some (.inl (0, 404))) (hc : vp_in x2 64) : Met l yX7_isDam wsX7_isDam (rmF 0) (bPc D E [.ref (o + k1), .int x2] (fun H => bk D E LRR o M H)) (bQ (aI fun r _ => r = f_X7_isDam M k1 x2) bNo) 0 0 bNo := by
  refine Met.ofW (cc := cX7_isDam) (maxL := 2) (ret := (some .boolean)) (by decide) rfl ?_
  intro p e s m args below meth c s₁ B hml hv
  obtain ⟨rfl, hB, hK⟩ := hv
  have hx := B.exec
  have hb := B.bytes
  have hr := B.returns
  have hts := atoms_spec (ws := wsX7_isDam) B.pre
  have hown : s.vm.findClass RX7 = some m.cls := findClass_of_methodNamed B.named
  have hlocks := B.notSynchronized
  have hS : bS bNo s.heap s.heap [] := bS.rf
  have hl := lv_entry ([.ref (o + k1), .int x2]) (n := 2) (Nat.le_of_ble_eq_true rfl)
  rw [lg_entry_eq]
  generalize (lg_sl ([.ref (o + k1), .int x2]) ++ List.replicate (2 - (lg_sl ([.ref (o + k1), .int x2])).length) Slot.unset).toArray = ls at hl ⊢
  have hl : lv_has ls 2 [(0, .ref (o + k1)), (1, .int x2)] := hl
  have hB : bk D E LRR o M s.heap := hB
  refine lv_aload_n hx hb dX7_isDam_0 rfl (lv_at hl 0 rfl) ?_
  refine lv_sipush (v := 148) hx hb dX7_isDam_1 (by decide) ?_
  refine lv_iload_n hx hb dX7_isDam_4 rfl (lv_at hl 1 rfl) ?_
  refine lv_iadd hx hb dX7_isDam_5 ?_
  refine b_iald hx hb hK.1 hB k1 hk1 (in_addX 148 hc (by decide) (by decide)) dX7_isDam_6 ?_
  refine lv_iconst (v := (-1)) hx hb dX7_isDam_7 (by decide) ?_
  refine lv_icmp_eq (tgt := 15) hx hb dX7_isDam_8 (by decide) (fun c11 => ?_) (fun c11 => ?_)
  · refine lv_iconst (v := 0) hx hb dX7_isDam_15 (by decide) ?_
    have e12 := p_X7_isDam_e12 M k1 x2 c11
    exact b_zret hx hb hr rfl hlocks hS ⟨_, rfl, e12.symm⟩ dX7_isDam_16
  · refine lv_iconst (v := 1) hx hb dX7_isDam_11 (by decide) ?_
    refine lv_goto (tgt := 16) hx hb dX7_isDam_12 (by decide) ?_
    have e13 := p_X7_isDam_e13 M k1 x2 c11
    exact b_zret hx hb hr rfl hlocks hS ⟨_, rfl, e13.symm⟩ dX7_isDam_16

def f_X7_isRiver (M : bM) (k1 : Nat) (x2 : Int32) (x3 : Int32) : Int32 := (if (((M k1 ((212 : Int32) + x3).toNatClampNeg) >>> (x2 &&& 31)) &&& 1) = 1 then 1 else 0)
theorem u_f_X7_isRiver (M : bM) (k1 : Nat) (x2 : Int32) (x3 : Int32) : f_X7_isRiver M k1 x2 x3 = (if (((M k1 ((212 : Int32) + x3).toNatClampNeg) >>> (x2 &&& 31)) &&& 1) = 1 then 1 else 0) := rfl
theorem p_X7_isRiver_e12 (M : bM) (k1 : Nat) (x2 : Int32) (x3 : Int32) (c11 : ¬ (((M k1 ((212 : Int32) + x3).toNatClampNeg) >>> (x2 &&& 31)) &&& 1) = 1) : f_X7_isRiver M k1 x2 x3 = 0 := by exact Eq.trans (u_f_X7_isRiver M k1 x2 x3) (if_neg c11)
theorem p_X7_isRiver_e13 (M : bM) (k1 : Nat) (x2 : Int32) (x3 : Int32) (c11 : (((M k1 ((212 : Int32) + x3).toNatClampNeg) >>> (x2 &&& 31)) &&& 1) = 1) : f_X7_isRiver M k1 x2 x3 = 1 := by exact Eq.trans (u_f_X7_isRiver M k1 x2 x3) (if_pos c11)
set_option maxHeartbeats 4000000 in
set_option maxRecDepth 100000 in
theorem c_X7_isRiver (l : Launch) (D : va_G) (E : Nat → ClassId) (o : Nat) (M : bM) (k1 : Nat) (x2 : Int32) (x3 : Int32) (hk1 : LRR[k1]? = some (.inl (0, 404))) (hc : vp_in x3 64) : Met l yX7_isRiver wsX7_isRiver (rmF 0) (bPc D E [.ref (o + k1), .int x2, .int x3] (fun H => bk D E LRR o M H)) (bQ (aI fun r _ => r = f_X7_isRiver M k1 x2 x3) bNo) 0 0 bNo := by
  refine Met.ofW (cc := cX7_isRiver) (maxL := 3) (ret := (some .boolean)) (by decide) rfl ?_
  intro p e s m args below meth c s₁ B hml hv
  obtain ⟨rfl, hB, hK⟩ := hv
  have hx := B.exec
  have hb := B.bytes
  have hr := B.returns
  have hts := atoms_spec (ws := wsX7_isRiver) B.pre
  have hown : s.vm.findClass RX7 = some m.cls := findClass_of_methodNamed B.named
  have hlocks := B.notSynchronized
  have hS : bS bNo s.heap s.heap [] := bS.rf
  have hl := lv_entry ([.ref (o + k1), .int x2, .int x3]) (n := 3) (Nat.le_of_ble_eq_true rfl)
  rw [lg_entry_eq]
  generalize (lg_sl ([.ref (o + k1), .int x2, .int x3]) ++ List.replicate (3 - (lg_sl ([.ref (o + k1), .int x2, .int x3])).length) Slot.unset).toArray = ls at hl ⊢
  have hl : lv_has ls 3 [(0, .ref (o + k1)), (1, .int x2), (2, .int x3)] := hl
  have hB : bk D E LRR o M s.heap := hB
  refine lv_aload_n hx hb dX7_isRiver_0 rfl (lv_at hl 0 rfl) ?_
  refine lv_sipush (v := 212) hx hb dX7_isRiver_1 (by decide) ?_
  refine lv_iload_n hx hb dX7_isRiver_4 rfl (lv_at hl 2 rfl) ?_
  refine lv_iadd hx hb dX7_isRiver_5 ?_
  refine b_iald hx hb hK.1 hB k1 hk1 (in_addX 212 hc (by decide) (by decide)) dX7_isRiver_6 ?_
  refine lv_iload_n hx hb dX7_isRiver_7 rfl (lv_at hl 1 rfl) ?_
  refine lv_ishr hx hb dX7_isRiver_8 ?_
  refine lv_iconst (v := 1) hx hb dX7_isRiver_9 (by decide) ?_
  refine lv_iand hx hb dX7_isRiver_10 ?_
  refine lv_iconst (v := 1) hx hb dX7_isRiver_11 (by decide) ?_
  refine lv_icmp_ne (tgt := 19) hx hb dX7_isRiver_12 (by decide) (fun c11 => ?_) (fun c11 => ?_)
  · refine lv_iconst (v := 0) hx hb dX7_isRiver_19 (by decide) ?_
    have e12 := p_X7_isRiver_e12 M k1 x2 x3 c11
    exact b_zret hx hb hr rfl hlocks hS ⟨_, rfl, e12.symm⟩ dX7_isRiver_20
  · refine lv_iconst (v := 1) hx hb dX7_isRiver_15 (by decide) ?_
    refine lv_goto (tgt := 20) hx hb dX7_isRiver_16 (by decide) ?_
    have e13 := p_X7_isRiver_e13 M k1 x2 x3 c11
    exact b_zret hx hb hr rfl hlocks hS ⟨_, rfl, e13.symm⟩ dX7_isRiver_20

def f_X7_isBare (M : bM) (k1 : Nat) (x2 : Int32) : Int32 := (let r11 : Int32 := f_X7_isDam M k1 x2; (if r11 = 0 then (if (M k1 ((212 : Int32) + x2).toNatClampNeg) = 0 then 1 else 0) else 0))
theorem u_f_X7_isBare (M : bM) (k1 : Nat) (x2 : Int32) : f_X7_isBare M k1 x2 = (let r11 : Int32 := f_X7_isDam M k1 x2; (if r11 = 0 then (if (M k1 ((212 : Int32) + x2).toNatClampNeg) = 0 then 1 else 0) else 0)) := rfl
theorem p_X7_isBare_e13 (M : bM) (k1 : Nat) (x2 : Int32) (r11 : Int32) (hr11 : f_X7_isDam M k1 x2 = r11) (c12 : ¬ r11 = 0) : f_X7_isBare M k1 x2 = 0 := by subst hr11; exact Eq.trans (u_f_X7_isBare M k1 x2) (if_neg c12)
theorem p_X7_isBare_e15 (M : bM) (k1 : Nat) (x2 : Int32) (r11 : Int32) (hr11 : f_X7_isDam M k1 x2 = r11) (c12 : r11 = 0) (c14 : ¬ (M k1 ((212 : Int32) + x2).toNatClampNeg) = 0) : f_X7_isBare M k1 x2 = 0 := by subst hr11; exact Eq.trans (u_f_X7_isBare M k1 x2) (Eq.trans (if_pos c12) (if_neg c14))
theorem p_X7_isBare_e16 (M : bM) (k1 : Nat) (x2 : Int32) (r11 : Int32) (hr11 : f_X7_isDam M k1 x2 = r11) (c12 : r11 = 0) (c14 : (M k1 ((212 : Int32) + x2).toNatClampNeg) = 0) : f_X7_isBare M k1 x2 = 1 := by subst hr11; exact Eq.trans (u_f_X7_isBare M k1 x2) (Eq.trans (if_pos c12) (if_pos c14))
set_option maxHeartbeats 4000000 in
set_option maxRecDepth 100000 in
theorem c_X7_isBare (l : Launch) (D : va_G) (E : Nat → ClassId) (o : Nat) (M : bM) (k1 : Nat) (x2 : Int32) (hk1 : LRR[k1]? = some (.inl (0, 404))) (hc : vp_in x2 64) : Met l yX7_isBare wsX7_isBare (rmF 1) (bPc D E [.ref (o + k1), .int x2] (fun H => bk D E LRR o M H)) (bQ (aI fun r _ => r = f_X7_isBare M k1 x2) bNo) 0 0 bNo := by
  refine Met.ofW (cc := cX7_isBare) (maxL := 2) (ret := (some .boolean)) (by decide) rfl ?_
  intro p e s m args below meth c s₁ B hml hv
  obtain ⟨rfl, hB, hK⟩ := hv
  have hx := B.exec
  have hb := B.bytes
  have hr := B.returns
  have hts := atoms_spec (ws := wsX7_isBare) B.pre
  have hown : s.vm.findClass RX7 = some m.cls := findClass_of_methodNamed B.named
  have hlocks := B.notSynchronized
  have hS : bS bNo s.heap s.heap [] := bS.rf
  have hl := lv_entry ([.ref (o + k1), .int x2]) (n := 2) (Nat.le_of_ble_eq_true rfl)
  rw [lg_entry_eq]
  generalize (lg_sl ([.ref (o + k1), .int x2]) ++ List.replicate (2 - (lg_sl ([.ref (o + k1), .int x2])).length) Slot.unset).toArray = ls at hl ⊢
  have hl : lv_has ls 2 [(0, .ref (o + k1)), (1, .int x2)] := hl
  have hB : bk D E LRR o M s.heap := hB
  refine lv_aload_n hx hb dX7_isBare_0 rfl (lv_at hl 0 rfl) ?_
  refine lv_iload_n hx hb dX7_isBare_1 rfl (lv_at hl 1 rfl) ?_
  refine b_pI (b_runS (As := [.ref (o + k1), .int x2]) (rest := []) ⟨hx, hb, hml, hown, hts⟩ (c_X7_isDam l D E o M k1 x2 hk1 hc) (va_cwS 2 hts gX7_isBare_X7_isDam rfl rfl rfl (by decide +kernel) ⟨Nat.le_of_ble_eq_true rfl, Nat.le_of_ble_eq_true rfl⟩) hK hB rfl hl rfl (Nat.le_of_ble_eq_true rfl) dX7_isBare_2 ⟨Nat.zero_le _, Nat.zero_le _⟩) hS (fun r11 hr11 locs hS => ?_)
  refine lv_if_ne (tgt := 22) hx hb dX7_isBare_5 (by decide) (fun c12 => ?_) (fun c12 => ?_)
  · refine lv_iconst (v := 0) hx hb dX7_isBare_22 (by decide) ?_
    have e13 := p_X7_isBare_e13 M k1 x2 r11 hr11.symm c12
    exact b_zret hx hb hr rfl hlocks hS ⟨_, rfl, e13.symm⟩ dX7_isBare_23
  · refine lv_aload_n hx hb dX7_isBare_8 rfl (lv_at hl 0 rfl) ?_
    refine lv_sipush (v := 212) hx hb dX7_isBare_9 (by decide) ?_
    refine lv_iload_n hx hb dX7_isBare_12 rfl (lv_at hl 1 rfl) ?_
    refine lv_iadd hx hb dX7_isBare_13 ?_
    refine b_iald hx hb hK.1 hB k1 hk1 (in_addX 212 hc (by decide) (by decide)) dX7_isBare_14 ?_
    refine lv_if_ne (tgt := 22) hx hb dX7_isBare_15 (by decide) (fun c14 => ?_) (fun c14 => ?_)
    · refine lv_iconst (v := 0) hx hb dX7_isBare_22 (by decide) ?_
      have e15 := p_X7_isBare_e15 M k1 x2 r11 hr11.symm c12 c14
      exact b_zret hx hb hr rfl hlocks hS ⟨_, rfl, e15.symm⟩ dX7_isBare_23
    · refine lv_iconst (v := 1) hx hb dX7_isBare_18 (by decide) ?_
      refine lv_goto (tgt := 23) hx hb dX7_isBare_19 (by decide) ?_
      have e16 := p_X7_isBare_e16 M k1 x2 r11 hr11.symm c12 c14
      exact b_zret hx hb hr rfl hlocks hS ⟨_, rfl, e16.symm⟩ dX7_isBare_23

def f_X7_isUnderWay (M : bM) (k1 : Nat) : Int32 := (if (M k1 1) = 1 then 1 else 0)
theorem u_f_X7_isUnderWay (M : bM) (k1 : Nat) : f_X7_isUnderWay M k1 = (if (M k1 1) = 1 then 1 else 0) := rfl
theorem p_X7_isUnderWay_e12 (M : bM) (k1 : Nat) (c11 : ¬ (M k1 1) = 1) : f_X7_isUnderWay M k1 = 0 := by exact Eq.trans (u_f_X7_isUnderWay M k1) (if_neg c11)
theorem p_X7_isUnderWay_e13 (M : bM) (k1 : Nat) (c11 : (M k1 1) = 1) : f_X7_isUnderWay M k1 = 1 := by exact Eq.trans (u_f_X7_isUnderWay M k1) (if_pos c11)
set_option maxHeartbeats 4000000 in
set_option maxRecDepth 100000 in
theorem c_X7_isUnderWay (l : Launch) (D : va_G) (E : Nat → ClassId) (o : Nat) (M : bM) (k1 : Nat) (hk1 : LRR[k1]? = some (.inl (0, 404))) : Met l yX7_isUnderWay wsX7_isUnderWay (rmF 0) (bPc D E [.ref (o + k1)] (fun H => bk D E LRR o M H)) (bQ (aI fun r _ => r = f_X7_isUnderWay M k1) bNo) 0 0 bNo := by
  refine Met.ofW (cc := cX7_isUnderWay) (maxL := 1) (ret := (some .boolean)) (by decide) rfl ?_
  intro p e s m args below meth c s₁ B hml hv
  obtain ⟨rfl, hB, hK⟩ := hv
  have hx := B.exec
  have hb := B.bytes
  have hr := B.returns
  have hts := atoms_spec (ws := wsX7_isUnderWay) B.pre
  have hown : s.vm.findClass RX7 = some m.cls := findClass_of_methodNamed B.named
  have hlocks := B.notSynchronized
  have hS : bS bNo s.heap s.heap [] := bS.rf
  have hl := lv_entry ([.ref (o + k1)]) (n := 1) (Nat.le_of_ble_eq_true rfl)
  rw [lg_entry_eq]
  generalize (lg_sl ([.ref (o + k1)]) ++ List.replicate (1 - (lg_sl ([.ref (o + k1)])).length) Slot.unset).toArray = ls at hl ⊢
  have hl : lv_has ls 1 [(0, .ref (o + k1))] := hl
  have hB : bk D E LRR o M s.heap := hB
  refine lv_aload_n hx hb dX7_isUnderWay_0 rfl (lv_at hl 0 rfl) ?_
  refine lv_iconst (v := 1) hx hb dX7_isUnderWay_1 (by decide) ?_
  refine b_iald hx hb hK.1 hB k1 hk1 (vp_in_nI (n := 1) (by decide) (by decide)) dX7_isUnderWay_2 ?_
  refine lv_const (y := M k1 1) (by rfl) ?_
  refine lv_iconst (v := 1) hx hb dX7_isUnderWay_3 (by decide) ?_
  refine lv_icmp_ne (tgt := 11) hx hb dX7_isUnderWay_4 (by decide) (fun c11 => ?_) (fun c11 => ?_)
  · refine lv_iconst (v := 0) hx hb dX7_isUnderWay_11 (by decide) ?_
    have e12 := p_X7_isUnderWay_e12 M k1 c11
    exact b_zret hx hb hr rfl hlocks hS ⟨_, rfl, e12.symm⟩ dX7_isUnderWay_12
  · refine lv_iconst (v := 1) hx hb dX7_isUnderWay_7 (by decide) ?_
    refine lv_goto (tgt := 12) hx hb dX7_isUnderWay_8 (by decide) ?_
    have e13 := p_X7_isUnderWay_e13 M k1 c11
    exact b_zret hx hb hr rfl hlocks hS ⟨_, rfl, e13.symm⟩ dX7_isUnderWay_12

def f_X7_isCell (x1 : Int32) (x2 : Int32) : Int32 := (let r11 : Int32 := f_X7_in x1.toInt64 0 7; (if r11 = 0 then 0 else (let r14 : Int32 := f_X7_in x2.toInt64 0 7; (if r14 = 0 then 0 else 1))))
theorem u_f_X7_isCell (x1 : Int32) (x2 : Int32) : f_X7_isCell x1 x2 = (let r11 : Int32 := f_X7_in x1.toInt64 0 7; (if r11 = 0 then 0 else (let r14 : Int32 := f_X7_in x2.toInt64 0 7; (if r14 = 0 then 0 else 1)))) := rfl
theorem p_X7_isCell_e13 (x1 : Int32) (x2 : Int32) (r11 : Int32) (hr11 : f_X7_in x1.toInt64 0 7 = r11) (c12 : r11 = 0) : f_X7_isCell x1 x2 = 0 := by subst hr11; exact Eq.trans (u_f_X7_isCell x1 x2) (if_pos c12)
theorem p_X7_isCell_e16 (x1 : Int32) (x2 : Int32) (r11 : Int32) (hr11 : f_X7_in x1.toInt64 0 7 = r11) (c12 : ¬ r11 = 0) (r14 : Int32) (hr14 : f_X7_in x2.toInt64 0 7 = r14) (c15 : r14 = 0) : f_X7_isCell x1 x2 = 0 := by subst hr14 hr11; exact Eq.trans (u_f_X7_isCell x1 x2) (Eq.trans (if_neg c12) (if_pos c15))
theorem p_X7_isCell_e17 (x1 : Int32) (x2 : Int32) (r11 : Int32) (hr11 : f_X7_in x1.toInt64 0 7 = r11) (c12 : ¬ r11 = 0) (r14 : Int32) (hr14 : f_X7_in x2.toInt64 0 7 = r14) (c15 : ¬ r14 = 0) : f_X7_isCell x1 x2 = 1 := by subst hr14 hr11; exact Eq.trans (u_f_X7_isCell x1 x2) (Eq.trans (if_neg c12) (if_neg c15))
set_option maxHeartbeats 4000000 in
set_option maxRecDepth 100000 in
theorem c_X7_isCell (l : Launch) (D : va_G) (E : Nat → ClassId) (x1 : Int32) (x2 : Int32) : Met l yX7_isCell wsX7_isCell (rmF 1) (bPc D E [.int x1, .int x2] (fun _ => True)) (bQ (aI fun r _ => r = f_X7_isCell x1 x2) bNo) 0 0 bNo := by
  refine Met.ofW (cc := cX7_isCell) (maxL := 2) (ret := (some .boolean)) (by decide) rfl ?_
  intro p e s m args below meth c s₁ B hml hv
  obtain ⟨rfl, hB, hK⟩ := hv
  have hx := B.exec
  have hb := B.bytes
  have hr := B.returns
  have hts := atoms_spec (ws := wsX7_isCell) B.pre
  have hown : s.vm.findClass RX7 = some m.cls := findClass_of_methodNamed B.named
  have hlocks := B.notSynchronized
  have hS : bS bNo s.heap s.heap [] := bS.rf
  have hl := lv_entry ([.int x1, .int x2]) (n := 2) (Nat.le_of_ble_eq_true rfl)
  rw [lg_entry_eq]
  generalize (lg_sl ([.int x1, .int x2]) ++ List.replicate (2 - (lg_sl ([.int x1, .int x2])).length) Slot.unset).toArray = ls at hl ⊢
  have hl : lv_has ls 2 [(0, .int x1), (1, .int x2)] := hl
  refine lv_iload_n hx hb dX7_isCell_0 rfl (lv_at hl 0 rfl) ?_
  refine lv_i2l hx hb dX7_isCell_1 rfl ?_
  refine lv_lconst (v := 0) hx hb dX7_isCell_2 (by decide) ?_
  refine lv_ldc2 (v := 7) hx hb hown (hts (.constantLong RX7 55 (7)) (List.mem_of_getElem? (i := 1) rfl)) dX7_isCell_3 ?_
  refine b_pI (b_runS (As := [.long x1.toInt64, .long 0, .long 7]) (rest := []) ⟨hx, hb, hml, hown, hts⟩ (c_X7_in l D E x1.toInt64 0 7) (va_cwS 3 hts gX7_isCell_X7_in rfl rfl rfl (by decide +kernel) ⟨Nat.le_of_ble_eq_true rfl, Nat.le_of_ble_eq_true rfl⟩) hK trivial rfl hl rfl (Nat.le_of_ble_eq_true rfl) dX7_isCell_6 ⟨Nat.zero_le _, Nat.zero_le _⟩) hS (fun r11 hr11 locs hS => ?_)
  refine lv_if_eq (tgt := 28) hx hb dX7_isCell_9 (by decide) (fun c12 => ?_) (fun c12 => ?_)
  · refine lv_iconst (v := 0) hx hb dX7_isCell_28 (by decide) ?_
    have e13 := p_X7_isCell_e13 x1 x2 r11 hr11.symm c12
    exact b_zret hx hb hr rfl hlocks hS ⟨_, rfl, e13.symm⟩ dX7_isCell_29
  · refine lv_iload_n hx hb dX7_isCell_12 rfl (lv_at hl 1 rfl) ?_
    refine lv_i2l hx hb dX7_isCell_13 rfl ?_
    refine lv_lconst (v := 0) hx hb dX7_isCell_14 (by decide) ?_
    refine lv_ldc2 (v := 7) hx hb hown (hts (.constantLong RX7 55 (7)) (List.mem_of_getElem? (i := 1) rfl)) dX7_isCell_15 ?_
    refine b_pI (b_runS (As := [.long x2.toInt64, .long 0, .long 7]) (rest := []) ⟨hx, hb, hml, hown, hts⟩ (c_X7_in l D E x2.toInt64 0 7) (va_cwS 3 hts gX7_isCell_X7_in rfl rfl rfl (by decide +kernel) ⟨Nat.le_of_ble_eq_true rfl, Nat.le_of_ble_eq_true rfl⟩) hK trivial rfl hl rfl (Nat.le_of_ble_eq_true rfl) dX7_isCell_18 ⟨Nat.zero_le _, Nat.zero_le _⟩) hS (fun r14 hr14 locs hS => ?_)
    refine lv_if_eq (tgt := 28) hx hb dX7_isCell_21 (by decide) (fun c15 => ?_) (fun c15 => ?_)
    · refine lv_iconst (v := 0) hx hb dX7_isCell_28 (by decide) ?_
      have e16 := p_X7_isCell_e16 x1 x2 r11 hr11.symm c12 r14 hr14.symm c15
      exact b_zret hx hb hr rfl hlocks hS ⟨_, rfl, e16.symm⟩ dX7_isCell_29
    · refine lv_iconst (v := 1) hx hb dX7_isCell_24 (by decide) ?_
      refine lv_goto (tgt := 29) hx hb dX7_isCell_25 (by decide) ?_
      have e17 := p_X7_isCell_e17 x1 x2 r11 hr11.symm c12 r14 hr14.symm c15
      exact b_zret hx hb hr rfl hlocks hS ⟨_, rfl, e17.symm⟩ dX7_isCell_29

def f_X7_isSetting (x1 : Int32) (x2 : Int32) : Int32 := (if x1 = 0 then (let r18 : Int32 := f_X7_in x2.toInt64 1 40; (if r18 = 0 then (if x1 = 1 then (let r23 : Int32 := f_X7_in x2.toInt64 1 9; (if r23 = 0 then 0 else 1)) else 0) else 1)) else (if x1 = 1 then (let r14 : Int32 := f_X7_in x2.toInt64 1 9; (if r14 = 0 then 0 else 1)) else 0))
theorem u_f_X7_isSetting (x1 : Int32) (x2 : Int32) : f_X7_isSetting x1 x2 = (if x1 = 0 then (let r18 : Int32 := f_X7_in x2.toInt64 1 40; (if r18 = 0 then (if x1 = 1 then (let r23 : Int32 := f_X7_in x2.toInt64 1 9; (if r23 = 0 then 0 else 1)) else 0) else 1)) else (if x1 = 1 then (let r14 : Int32 := f_X7_in x2.toInt64 1 9; (if r14 = 0 then 0 else 1)) else 0)) := rfl
theorem p_X7_isSetting_e13 (x1 : Int32) (x2 : Int32) (c11 : ¬ x1 = 0) (c12 : ¬ x1 = 1) : f_X7_isSetting x1 x2 = 0 := by exact Eq.trans (u_f_X7_isSetting x1 x2) (Eq.trans (if_neg c11) (if_neg c12))
theorem p_X7_isSetting_e16 (x1 : Int32) (x2 : Int32) (c11 : ¬ x1 = 0) (c12 : x1 = 1) (r14 : Int32) (hr14 : f_X7_in x2.toInt64 1 9 = r14) (c15 : r14 = 0) : f_X7_isSetting x1 x2 = 0 := by subst hr14; exact Eq.trans (u_f_X7_isSetting x1 x2) (Eq.trans (if_neg c11) (Eq.trans (if_pos c12) (if_pos c15)))
theorem p_X7_isSetting_e17 (x1 : Int32) (x2 : Int32) (c11 : ¬ x1 = 0) (c12 : x1 = 1) (r14 : Int32) (hr14 : f_X7_in x2.toInt64 1 9 = r14) (c15 : ¬ r14 = 0) : f_X7_isSetting x1 x2 = 1 := by subst hr14; exact Eq.trans (u_f_X7_isSetting x1 x2) (Eq.trans (if_neg c11) (Eq.trans (if_pos c12) (if_neg c15)))
theorem p_X7_isSetting_e20 (x1 : Int32) (x2 : Int32) (c11 : x1 = 0) (r18 : Int32) (hr18 : f_X7_in x2.toInt64 1 40 = r18) (c19 : ¬ r18 = 0) : f_X7_isSetting x1 x2 = 1 := by subst hr18; exact Eq.trans (u_f_X7_isSetting x1 x2) (Eq.trans (if_pos c11) (if_neg c19))
theorem p_X7_isSetting_e22 (x1 : Int32) (x2 : Int32) (c11 : x1 = 0) (r18 : Int32) (hr18 : f_X7_in x2.toInt64 1 40 = r18) (c19 : r18 = 0) (c21 : ¬ x1 = 1) : f_X7_isSetting x1 x2 = 0 := by subst hr18; exact Eq.trans (u_f_X7_isSetting x1 x2) (Eq.trans (if_pos c11) (Eq.trans (if_pos c19) (if_neg c21)))
theorem p_X7_isSetting_e25 (x1 : Int32) (x2 : Int32) (c11 : x1 = 0) (r18 : Int32) (hr18 : f_X7_in x2.toInt64 1 40 = r18) (c19 : r18 = 0) (c21 : x1 = 1) (r23 : Int32) (hr23 : f_X7_in x2.toInt64 1 9 = r23) (c24 : r23 = 0) : f_X7_isSetting x1 x2 = 0 := by subst hr23 hr18; exact Eq.trans (u_f_X7_isSetting x1 x2) (Eq.trans (if_pos c11) (Eq.trans (if_pos c19) (Eq.trans (if_pos c21) (if_pos c24))))
theorem p_X7_isSetting_e26 (x1 : Int32) (x2 : Int32) (c11 : x1 = 0) (r18 : Int32) (hr18 : f_X7_in x2.toInt64 1 40 = r18) (c19 : r18 = 0) (c21 : x1 = 1) (r23 : Int32) (hr23 : f_X7_in x2.toInt64 1 9 = r23) (c24 : ¬ r23 = 0) : f_X7_isSetting x1 x2 = 1 := by subst hr23 hr18; exact Eq.trans (u_f_X7_isSetting x1 x2) (Eq.trans (if_pos c11) (Eq.trans (if_pos c19) (Eq.trans (if_pos c21) (if_neg c24))))
set_option maxHeartbeats 4000000 in
set_option maxRecDepth 100000 in
theorem c_X7_isSetting (l : Launch) (D : va_G) (E : Nat → ClassId) (x1 : Int32) (x2 : Int32) : Met l yX7_isSetting wsX7_isSetting (rmF 1) (bPc D E [.int x1, .int x2] (fun _ => True)) (bQ (aI fun r _ => r = f_X7_isSetting x1 x2) bNo) 0 0 bNo := by
  refine Met.ofW (cc := cX7_isSetting) (maxL := 2) (ret := (some .boolean)) (by decide) rfl ?_
  intro p e s m args below meth c s₁ B hml hv
  obtain ⟨rfl, hB, hK⟩ := hv
  have hx := B.exec
  have hb := B.bytes
  have hr := B.returns
  have hts := atoms_spec (ws := wsX7_isSetting) B.pre
  have hown : s.vm.findClass RX7 = some m.cls := findClass_of_methodNamed B.named
  have hlocks := B.notSynchronized
  have hS : bS bNo s.heap s.heap [] := bS.rf
  have hl := lv_entry ([.int x1, .int x2]) (n := 2) (Nat.le_of_ble_eq_true rfl)
  rw [lg_entry_eq]
  generalize (lg_sl ([.int x1, .int x2]) ++ List.replicate (2 - (lg_sl ([.int x1, .int x2])).length) Slot.unset).toArray = ls at hl ⊢
  have hl : lv_has ls 2 [(0, .int x1), (1, .int x2)] := hl
  refine lv_iload_n hx hb dX7_isSetting_0 rfl (lv_at hl 0 rfl) ?_
  refine lv_if_ne (tgt := 16) hx hb dX7_isSetting_1 (by decide) (fun c11 => ?_) (fun c11 => ?_)
  · refine lv_iload_n hx hb dX7_isSetting_16 rfl (lv_at hl 0 rfl) ?_
    refine lv_iconst (v := 1) hx hb dX7_isSetting_17 (by decide) ?_
    refine lv_icmp_ne (tgt := 37) hx hb dX7_isSetting_18 (by decide) (fun c12 => ?_) (fun c12 => ?_)
    · refine lv_iconst (v := 0) hx hb dX7_isSetting_37 (by decide) ?_
      have e13 := p_X7_isSetting_e13 x1 x2 c11 c12
      exact b_zret hx hb hr rfl hlocks hS ⟨_, rfl, e13.symm⟩ dX7_isSetting_38
    · refine lv_iload_n hx hb dX7_isSetting_21 rfl (lv_at hl 1 rfl) ?_
      refine lv_i2l hx hb dX7_isSetting_22 rfl ?_
      refine lv_lconst (v := 1) hx hb dX7_isSetting_23 (by decide) ?_
      refine lv_ldc2 (v := 9) hx hb hown (hts (.constantLong RX7 63 (9)) (List.mem_of_getElem? (i := 2) rfl)) dX7_isSetting_24 ?_
      refine b_pI (b_runS (As := [.long x2.toInt64, .long 1, .long 9]) (rest := []) ⟨hx, hb, hml, hown, hts⟩ (c_X7_in l D E x2.toInt64 1 9) (va_cwS 3 hts gX7_isSetting_X7_in rfl rfl rfl (by decide +kernel) ⟨Nat.le_of_ble_eq_true rfl, Nat.le_of_ble_eq_true rfl⟩) hK trivial rfl hl rfl (Nat.le_of_ble_eq_true rfl) dX7_isSetting_27 ⟨Nat.zero_le _, Nat.zero_le _⟩) hS (fun r14 hr14 locs hS => ?_)
      refine lv_if_eq (tgt := 37) hx hb dX7_isSetting_30 (by decide) (fun c15 => ?_) (fun c15 => ?_)
      · refine lv_iconst (v := 0) hx hb dX7_isSetting_37 (by decide) ?_
        have e16 := p_X7_isSetting_e16 x1 x2 c11 c12 r14 hr14.symm c15
        exact b_zret hx hb hr rfl hlocks hS ⟨_, rfl, e16.symm⟩ dX7_isSetting_38
      · refine lv_iconst (v := 1) hx hb dX7_isSetting_33 (by decide) ?_
        refine lv_goto (tgt := 38) hx hb dX7_isSetting_34 (by decide) ?_
        have e17 := p_X7_isSetting_e17 x1 x2 c11 c12 r14 hr14.symm c15
        exact b_zret hx hb hr rfl hlocks hS ⟨_, rfl, e17.symm⟩ dX7_isSetting_38
  · refine lv_iload_n hx hb dX7_isSetting_4 rfl (lv_at hl 1 rfl) ?_
    refine lv_i2l hx hb dX7_isSetting_5 rfl ?_
    refine lv_lconst (v := 1) hx hb dX7_isSetting_6 (by decide) ?_
    refine lv_ldc2 (v := 40) hx hb hown (hts (.constantLong RX7 61 (40)) (List.mem_of_getElem? (i := 1) rfl)) dX7_isSetting_7 ?_
    refine b_pI (b_runS (As := [.long x2.toInt64, .long 1, .long 40]) (rest := []) ⟨hx, hb, hml, hown, hts⟩ (c_X7_in l D E x2.toInt64 1 40) (va_cwS 3 hts gX7_isSetting_X7_in rfl rfl rfl (by decide +kernel) ⟨Nat.le_of_ble_eq_true rfl, Nat.le_of_ble_eq_true rfl⟩) hK trivial rfl hl rfl (Nat.le_of_ble_eq_true rfl) dX7_isSetting_10 ⟨Nat.zero_le _, Nat.zero_le _⟩) hS (fun r18 hr18 locs hS => ?_)
    refine lv_if_ne (tgt := 33) hx hb dX7_isSetting_13 (by decide) (fun c19 => ?_) (fun c19 => ?_)
    · refine lv_iconst (v := 1) hx hb dX7_isSetting_33 (by decide) ?_
      refine lv_goto (tgt := 38) hx hb dX7_isSetting_34 (by decide) ?_
      have e20 := p_X7_isSetting_e20 x1 x2 c11 r18 hr18.symm c19
      exact b_zret hx hb hr rfl hlocks hS ⟨_, rfl, e20.symm⟩ dX7_isSetting_38
    · refine lv_iload_n hx hb dX7_isSetting_16 rfl (lv_at hl 0 rfl) ?_
      refine lv_iconst (v := 1) hx hb dX7_isSetting_17 (by decide) ?_
      refine lv_icmp_ne (tgt := 37) hx hb dX7_isSetting_18 (by decide) (fun c21 => ?_) (fun c21 => ?_)
      · refine lv_iconst (v := 0) hx hb dX7_isSetting_37 (by decide) ?_
        have e22 := p_X7_isSetting_e22 x1 x2 c11 r18 hr18.symm c19 c21
        exact b_zret hx hb hr rfl hlocks hS ⟨_, rfl, e22.symm⟩ dX7_isSetting_38
      · refine lv_iload_n hx hb dX7_isSetting_21 rfl (lv_at hl 1 rfl) ?_
        refine lv_i2l hx hb dX7_isSetting_22 rfl ?_
        refine lv_lconst (v := 1) hx hb dX7_isSetting_23 (by decide) ?_
        refine lv_ldc2 (v := 9) hx hb hown (hts (.constantLong RX7 63 (9)) (List.mem_of_getElem? (i := 2) rfl)) dX7_isSetting_24 ?_
        refine b_pI (b_runS (As := [.long x2.toInt64, .long 1, .long 9]) (rest := []) ⟨hx, hb, hml, hown, hts⟩ (c_X7_in l D E x2.toInt64 1 9) (va_cwS 3 hts gX7_isSetting_X7_in rfl rfl rfl (by decide +kernel) ⟨Nat.le_of_ble_eq_true rfl, Nat.le_of_ble_eq_true rfl⟩) hK trivial rfl hl rfl (Nat.le_of_ble_eq_true rfl) dX7_isSetting_27 ⟨Nat.zero_le _, Nat.zero_le _⟩) hS (fun r23 hr23 locs hS => ?_)
        refine lv_if_eq (tgt := 37) hx hb dX7_isSetting_30 (by decide) (fun c24 => ?_) (fun c24 => ?_)
        · refine lv_iconst (v := 0) hx hb dX7_isSetting_37 (by decide) ?_
          have e25 := p_X7_isSetting_e25 x1 x2 c11 r18 hr18.symm c19 c21 r23 hr23.symm c24
          exact b_zret hx hb hr rfl hlocks hS ⟨_, rfl, e25.symm⟩ dX7_isSetting_38
        · refine lv_iconst (v := 1) hx hb dX7_isSetting_33 (by decide) ?_
          refine lv_goto (tgt := 38) hx hb dX7_isSetting_34 (by decide) ?_
          have e26 := p_X7_isSetting_e26 x1 x2 c11 r18 hr18.symm c19 c21 r23 hr23.symm c24
          exact b_zret hx hb hr rfl hlocks hS ⟨_, rfl, e26.symm⟩ dX7_isSetting_38

def f_X7_stepFrom (x1 : Int32) (x2 : Int32) : Int32 := (if x2 = 1 then (let x37 : Int32 := ((x1 - x1 / 8 * 8) + 1); (if x2 = 0 then (let x44 : Int32 := ((x1 / 8) + 1); (let r45 : Int32 := f_X7_isCell x37 x44; (if r45 = 0 then (-1) else (((8 : Int32) * x44) + x37)))) else (let x39 : Int32 := ((x1 / 8) + 0); (let r40 : Int32 := f_X7_isCell x37 x39; (if r40 = 0 then (-1) else (((8 : Int32) * x39) + x37)))))) else (if x2 = 2 then (let x25 : Int32 := ((x1 - x1 / 8 * 8) + (-1)); (if x2 = 0 then (let x32 : Int32 := ((x1 / 8) + 1); (let r33 : Int32 := f_X7_isCell x25 x32; (if r33 = 0 then (-1) else (((8 : Int32) * x32) + x25)))) else (let x27 : Int32 := ((x1 / 8) + 0); (let r28 : Int32 := f_X7_isCell x25 x27; (if r28 = 0 then (-1) else (((8 : Int32) * x27) + x25)))))) else (let x13 : Int32 := ((x1 - x1 / 8 * 8) + 0); (if x2 = 0 then (let x20 : Int32 := ((x1 / 8) + 1); (let r21 : Int32 := f_X7_isCell x13 x20; (if r21 = 0 then (-1) else (((8 : Int32) * x20) + x13)))) else (let x15 : Int32 := ((x1 / 8) + 0); (let r16 : Int32 := f_X7_isCell x13 x15; (if r16 = 0 then (-1) else (((8 : Int32) * x15) + x13))))))))
theorem u_f_X7_stepFrom (x1 : Int32) (x2 : Int32) : f_X7_stepFrom x1 x2 = (if x2 = 1 then (let x37 : Int32 := ((x1 - x1 / 8 * 8) + 1); (if x2 = 0 then (let x44 : Int32 := ((x1 / 8) + 1); (let r45 : Int32 := f_X7_isCell x37 x44; (if r45 = 0 then (-1) else (((8 : Int32) * x44) + x37)))) else (let x39 : Int32 := ((x1 / 8) + 0); (let r40 : Int32 := f_X7_isCell x37 x39; (if r40 = 0 then (-1) else (((8 : Int32) * x39) + x37)))))) else (if x2 = 2 then (let x25 : Int32 := ((x1 - x1 / 8 * 8) + (-1)); (if x2 = 0 then (let x32 : Int32 := ((x1 / 8) + 1); (let r33 : Int32 := f_X7_isCell x25 x32; (if r33 = 0 then (-1) else (((8 : Int32) * x32) + x25)))) else (let x27 : Int32 := ((x1 / 8) + 0); (let r28 : Int32 := f_X7_isCell x25 x27; (if r28 = 0 then (-1) else (((8 : Int32) * x27) + x25)))))) else (let x13 : Int32 := ((x1 - x1 / 8 * 8) + 0); (if x2 = 0 then (let x20 : Int32 := ((x1 / 8) + 1); (let r21 : Int32 := f_X7_isCell x13 x20; (if r21 = 0 then (-1) else (((8 : Int32) * x20) + x13)))) else (let x15 : Int32 := ((x1 / 8) + 0); (let r16 : Int32 := f_X7_isCell x13 x15; (if r16 = 0 then (-1) else (((8 : Int32) * x15) + x13)))))))) := rfl
theorem p_X7_stepFrom_e18 (x1 : Int32) (x2 : Int32) (c11 : ¬ x2 = 1) (c12 : ¬ x2 = 2) (x13 : Int32) (hx13 : ((x1 - x1 / 8 * 8) + 0) = x13) (c14 : ¬ x2 = 0) (x15 : Int32) (hx15 : ((x1 / 8) + 0) = x15) (r16 : Int32) (hr16 : f_X7_isCell x13 x15 = r16) (c17 : r16 = 0) : f_X7_stepFrom x1 x2 = (-1) := by subst hr16 hx15 hx13; exact Eq.trans (u_f_X7_stepFrom x1 x2) (Eq.trans (if_neg c11) (Eq.trans (if_neg c12) (Eq.trans (if_neg c14) (if_pos c17))))
theorem p_X7_stepFrom_e19 (x1 : Int32) (x2 : Int32) (c11 : ¬ x2 = 1) (c12 : ¬ x2 = 2) (x13 : Int32) (hx13 : ((x1 - x1 / 8 * 8) + 0) = x13) (c14 : ¬ x2 = 0) (x15 : Int32) (hx15 : ((x1 / 8) + 0) = x15) (r16 : Int32) (hr16 : f_X7_isCell x13 x15 = r16) (c17 : ¬ r16 = 0) : f_X7_stepFrom x1 x2 = (((8 : Int32) * x15) + x13) := by subst hr16 hx15 hx13; exact Eq.trans (u_f_X7_stepFrom x1 x2) (Eq.trans (if_neg c11) (Eq.trans (if_neg c12) (Eq.trans (if_neg c14) (if_neg c17))))
theorem p_X7_stepFrom_e23 (x1 : Int32) (x2 : Int32) (c11 : ¬ x2 = 1) (c12 : ¬ x2 = 2) (x13 : Int32) (hx13 : ((x1 - x1 / 8 * 8) + 0) = x13) (c14 : x2 = 0) (x20 : Int32) (hx20 : ((x1 / 8) + 1) = x20) (r21 : Int32) (hr21 : f_X7_isCell x13 x20 = r21) (c22 : r21 = 0) : f_X7_stepFrom x1 x2 = (-1) := by subst hr21 hx20 hx13; exact Eq.trans (u_f_X7_stepFrom x1 x2) (Eq.trans (if_neg c11) (Eq.trans (if_neg c12) (Eq.trans (if_pos c14) (if_pos c22))))
theorem p_X7_stepFrom_e24 (x1 : Int32) (x2 : Int32) (c11 : ¬ x2 = 1) (c12 : ¬ x2 = 2) (x13 : Int32) (hx13 : ((x1 - x1 / 8 * 8) + 0) = x13) (c14 : x2 = 0) (x20 : Int32) (hx20 : ((x1 / 8) + 1) = x20) (r21 : Int32) (hr21 : f_X7_isCell x13 x20 = r21) (c22 : ¬ r21 = 0) : f_X7_stepFrom x1 x2 = (((8 : Int32) * x20) + x13) := by subst hr21 hx20 hx13; exact Eq.trans (u_f_X7_stepFrom x1 x2) (Eq.trans (if_neg c11) (Eq.trans (if_neg c12) (Eq.trans (if_pos c14) (if_neg c22))))
theorem p_X7_stepFrom_e30 (x1 : Int32) (x2 : Int32) (c11 : ¬ x2 = 1) (c12 : x2 = 2) (x25 : Int32) (hx25 : ((x1 - x1 / 8 * 8) + (-1)) = x25) (c26 : ¬ x2 = 0) (x27 : Int32) (hx27 : ((x1 / 8) + 0) = x27) (r28 : Int32) (hr28 : f_X7_isCell x25 x27 = r28) (c29 : r28 = 0) : f_X7_stepFrom x1 x2 = (-1) := by subst hr28 hx27 hx25; exact Eq.trans (u_f_X7_stepFrom x1 x2) (Eq.trans (if_neg c11) (Eq.trans (if_pos c12) (Eq.trans (if_neg c26) (if_pos c29))))
theorem p_X7_stepFrom_e31 (x1 : Int32) (x2 : Int32) (c11 : ¬ x2 = 1) (c12 : x2 = 2) (x25 : Int32) (hx25 : ((x1 - x1 / 8 * 8) + (-1)) = x25) (c26 : ¬ x2 = 0) (x27 : Int32) (hx27 : ((x1 / 8) + 0) = x27) (r28 : Int32) (hr28 : f_X7_isCell x25 x27 = r28) (c29 : ¬ r28 = 0) : f_X7_stepFrom x1 x2 = (((8 : Int32) * x27) + x25) := by subst hr28 hx27 hx25; exact Eq.trans (u_f_X7_stepFrom x1 x2) (Eq.trans (if_neg c11) (Eq.trans (if_pos c12) (Eq.trans (if_neg c26) (if_neg c29))))
theorem p_X7_stepFrom_e35 (x1 : Int32) (x2 : Int32) (c11 : ¬ x2 = 1) (c12 : x2 = 2) (x25 : Int32) (hx25 : ((x1 - x1 / 8 * 8) + (-1)) = x25) (c26 : x2 = 0) (x32 : Int32) (hx32 : ((x1 / 8) + 1) = x32) (r33 : Int32) (hr33 : f_X7_isCell x25 x32 = r33) (c34 : r33 = 0) : f_X7_stepFrom x1 x2 = (-1) := by subst hr33 hx32 hx25; exact Eq.trans (u_f_X7_stepFrom x1 x2) (Eq.trans (if_neg c11) (Eq.trans (if_pos c12) (Eq.trans (if_pos c26) (if_pos c34))))
theorem p_X7_stepFrom_e36 (x1 : Int32) (x2 : Int32) (c11 : ¬ x2 = 1) (c12 : x2 = 2) (x25 : Int32) (hx25 : ((x1 - x1 / 8 * 8) + (-1)) = x25) (c26 : x2 = 0) (x32 : Int32) (hx32 : ((x1 / 8) + 1) = x32) (r33 : Int32) (hr33 : f_X7_isCell x25 x32 = r33) (c34 : ¬ r33 = 0) : f_X7_stepFrom x1 x2 = (((8 : Int32) * x32) + x25) := by subst hr33 hx32 hx25; exact Eq.trans (u_f_X7_stepFrom x1 x2) (Eq.trans (if_neg c11) (Eq.trans (if_pos c12) (Eq.trans (if_pos c26) (if_neg c34))))
theorem p_X7_stepFrom_e42 (x1 : Int32) (x2 : Int32) (c11 : x2 = 1) (x37 : Int32) (hx37 : ((x1 - x1 / 8 * 8) + 1) = x37) (c38 : ¬ x2 = 0) (x39 : Int32) (hx39 : ((x1 / 8) + 0) = x39) (r40 : Int32) (hr40 : f_X7_isCell x37 x39 = r40) (c41 : r40 = 0) : f_X7_stepFrom x1 x2 = (-1) := by subst hr40 hx39 hx37; exact Eq.trans (u_f_X7_stepFrom x1 x2) (Eq.trans (if_pos c11) (Eq.trans (if_neg c38) (if_pos c41)))
theorem p_X7_stepFrom_e43 (x1 : Int32) (x2 : Int32) (c11 : x2 = 1) (x37 : Int32) (hx37 : ((x1 - x1 / 8 * 8) + 1) = x37) (c38 : ¬ x2 = 0) (x39 : Int32) (hx39 : ((x1 / 8) + 0) = x39) (r40 : Int32) (hr40 : f_X7_isCell x37 x39 = r40) (c41 : ¬ r40 = 0) : f_X7_stepFrom x1 x2 = (((8 : Int32) * x39) + x37) := by subst hr40 hx39 hx37; exact Eq.trans (u_f_X7_stepFrom x1 x2) (Eq.trans (if_pos c11) (Eq.trans (if_neg c38) (if_neg c41)))
theorem p_X7_stepFrom_e47 (x1 : Int32) (x2 : Int32) (c11 : x2 = 1) (x37 : Int32) (hx37 : ((x1 - x1 / 8 * 8) + 1) = x37) (c38 : x2 = 0) (x44 : Int32) (hx44 : ((x1 / 8) + 1) = x44) (r45 : Int32) (hr45 : f_X7_isCell x37 x44 = r45) (c46 : r45 = 0) : f_X7_stepFrom x1 x2 = (-1) := by subst hr45 hx44 hx37; exact Eq.trans (u_f_X7_stepFrom x1 x2) (Eq.trans (if_pos c11) (Eq.trans (if_pos c38) (if_pos c46)))
theorem p_X7_stepFrom_e48 (x1 : Int32) (x2 : Int32) (c11 : x2 = 1) (x37 : Int32) (hx37 : ((x1 - x1 / 8 * 8) + 1) = x37) (c38 : x2 = 0) (x44 : Int32) (hx44 : ((x1 / 8) + 1) = x44) (r45 : Int32) (hr45 : f_X7_isCell x37 x44 = r45) (c46 : ¬ r45 = 0) : f_X7_stepFrom x1 x2 = (((8 : Int32) * x44) + x37) := by subst hr45 hx44 hx37; exact Eq.trans (u_f_X7_stepFrom x1 x2) (Eq.trans (if_pos c11) (Eq.trans (if_pos c38) (if_neg c46)))
set_option maxHeartbeats 4000000 in
set_option maxRecDepth 100000 in
theorem c_X7_stepFrom (l : Launch) (D : va_G) (E : Nat → ClassId) (x1 : Int32) (x2 : Int32) : Met l yX7_stepFrom wsX7_stepFrom (rmF 2) (bPc D E [.int x1, .int x2] (fun _ => True)) (bQ (aI fun r _ => r = f_X7_stepFrom x1 x2) bNo) 0 0 bNo := by
  refine Met.ofW (cc := cX7_stepFrom) (maxL := 4) (ret := (some .int)) (by decide) rfl ?_
  intro p e s m args below meth c s₁ B hml hv
  obtain ⟨rfl, hB, hK⟩ := hv
  have hx := B.exec
  have hb := B.bytes
  have hr := B.returns
  have hts := atoms_spec (ws := wsX7_stepFrom) B.pre
  have hown : s.vm.findClass RX7 = some m.cls := findClass_of_methodNamed B.named
  have hlocks := B.notSynchronized
  have hS : bS bNo s.heap s.heap [] := bS.rf
  have hl := lv_entry ([.int x1, .int x2]) (n := 4) (Nat.le_of_ble_eq_true rfl)
  rw [lg_entry_eq]
  generalize (lg_sl ([.int x1, .int x2]) ++ List.replicate (4 - (lg_sl ([.int x1, .int x2])).length) Slot.unset).toArray = ls at hl ⊢
  have hl : lv_has ls 4 [(0, .int x1), (1, .int x2)] := hl
  refine lv_iload_n hx hb dX7_stepFrom_0 rfl (lv_at hl 0 rfl) ?_
  refine lv_bipush (v := 8) hx hb dX7_stepFrom_1 (by decide) ?_
  refine lv_irem hx hb dX7_stepFrom_3 (by decide) ?_
  refine lv_iload_n hx hb dX7_stepFrom_4 rfl (lv_at hl 1 rfl) ?_
  refine lv_iconst (v := 1) hx hb dX7_stepFrom_5 (by decide) ?_
  refine lv_icmp_ne (tgt := 13) hx hb dX7_stepFrom_6 (by decide) (fun c11 => ?_) (fun c11 => ?_)
  · refine lv_iload_n hx hb dX7_stepFrom_13 rfl (lv_at hl 1 rfl) ?_
    refine lv_iconst (v := 2) hx hb dX7_stepFrom_14 (by decide) ?_
    refine lv_icmp_ne (tgt := 22) hx hb dX7_stepFrom_15 (by decide) (fun c12 => ?_) (fun c12 => ?_)
    · refine lv_iconst (v := 0) hx hb dX7_stepFrom_22 (by decide) ?_
      refine lv_iadd hx hb dX7_stepFrom_23 ?_
      refine lv_topi (fun x13 hx13 => ?_)
      refine lv_istore_n (lv' := [(2, .int x13), (0, .int x1), (1, .int x2)]) hx hb dX7_stepFrom_24 rfl hl (by decide) rfl (fun ls hl => ?_)
      refine lv_iload_n hx hb dX7_stepFrom_25 rfl (lv_at hl 1 rfl) ?_
      refine lv_bipush (v := 8) hx hb dX7_stepFrom_26 (by decide) ?_
      refine lv_idiv hx hb dX7_stepFrom_28 (by decide) ?_
      refine lv_iload_n hx hb dX7_stepFrom_29 rfl (lv_at hl 2 rfl) ?_
      refine lv_if_ne (tgt := 37) hx hb dX7_stepFrom_30 (by decide) (fun c14 => ?_) (fun c14 => ?_)
      · refine lv_iconst (v := 0) hx hb dX7_stepFrom_37 (by decide) ?_
        refine lv_iadd hx hb dX7_stepFrom_38 ?_
        refine lv_topi (fun x15 hx15 => ?_)
        refine lv_istore_n (lv' := [(3, .int x15), (2, .int x13), (0, .int x1), (1, .int x2)]) hx hb dX7_stepFrom_39 rfl hl (by decide) rfl (fun ls hl => ?_)
        refine lv_iload_n hx hb dX7_stepFrom_40 rfl (lv_at hl 1 rfl) ?_
        refine lv_iload_n hx hb dX7_stepFrom_41 rfl (lv_at hl 0 rfl) ?_
        refine b_pI (b_runS (As := [.int x13, .int x15]) (rest := []) ⟨hx, hb, hml, hown, hts⟩ (c_X7_isCell l D E x13 x15) (va_cwS 2 hts gX7_stepFrom_X7_isCell rfl rfl rfl (by decide +kernel) ⟨Nat.le_of_ble_eq_true rfl, Nat.le_of_ble_eq_true rfl⟩) hK trivial rfl hl rfl (Nat.le_of_ble_eq_true rfl) dX7_stepFrom_42 ⟨Nat.zero_le _, Nat.zero_le _⟩) hS (fun r16 hr16 locs hS => ?_)
        refine lv_if_eq (tgt := 57) hx hb dX7_stepFrom_45 (by decide) (fun c17 => ?_) (fun c17 => ?_)
        · refine lv_iconst (v := (-1)) hx hb dX7_stepFrom_57 (by decide) ?_
          have e18 := p_X7_stepFrom_e18 x1 x2 c11 c12 x13 hx13.symm c14 x15 hx15.symm r16 hr16.symm c17
          exact b_iret hx hb hr hlocks hS ⟨_, rfl, e18.symm⟩ dX7_stepFrom_58
        · refine lv_bipush (v := 8) hx hb dX7_stepFrom_48 (by decide) ?_
          refine lv_iload_n hx hb dX7_stepFrom_50 rfl (lv_at hl 0 rfl) ?_
          refine lv_imul hx hb dX7_stepFrom_51 ?_
          refine lv_iload_n hx hb dX7_stepFrom_52 rfl (lv_at hl 1 rfl) ?_
          refine lv_iadd hx hb dX7_stepFrom_53 ?_
          refine lv_goto (tgt := 58) hx hb dX7_stepFrom_54 (by decide) ?_
          have e19 := p_X7_stepFrom_e19 x1 x2 c11 c12 x13 hx13.symm c14 x15 hx15.symm r16 hr16.symm c17
          exact b_iret hx hb hr hlocks hS ⟨_, rfl, e19.symm⟩ dX7_stepFrom_58
      · refine lv_iconst (v := 1) hx hb dX7_stepFrom_33 (by decide) ?_
        refine lv_goto (tgt := 38) hx hb dX7_stepFrom_34 (by decide) ?_
        refine lv_iadd hx hb dX7_stepFrom_38 ?_
        refine lv_topi (fun x20 hx20 => ?_)
        refine lv_istore_n (lv' := [(3, .int x20), (2, .int x13), (0, .int x1), (1, .int x2)]) hx hb dX7_stepFrom_39 rfl hl (by decide) rfl (fun ls hl => ?_)
        refine lv_iload_n hx hb dX7_stepFrom_40 rfl (lv_at hl 1 rfl) ?_
        refine lv_iload_n hx hb dX7_stepFrom_41 rfl (lv_at hl 0 rfl) ?_
        refine b_pI (b_runS (As := [.int x13, .int x20]) (rest := []) ⟨hx, hb, hml, hown, hts⟩ (c_X7_isCell l D E x13 x20) (va_cwS 2 hts gX7_stepFrom_X7_isCell rfl rfl rfl (by decide +kernel) ⟨Nat.le_of_ble_eq_true rfl, Nat.le_of_ble_eq_true rfl⟩) hK trivial rfl hl rfl (Nat.le_of_ble_eq_true rfl) dX7_stepFrom_42 ⟨Nat.zero_le _, Nat.zero_le _⟩) hS (fun r21 hr21 locs hS => ?_)
        refine lv_if_eq (tgt := 57) hx hb dX7_stepFrom_45 (by decide) (fun c22 => ?_) (fun c22 => ?_)
        · refine lv_iconst (v := (-1)) hx hb dX7_stepFrom_57 (by decide) ?_
          have e23 := p_X7_stepFrom_e23 x1 x2 c11 c12 x13 hx13.symm c14 x20 hx20.symm r21 hr21.symm c22
          exact b_iret hx hb hr hlocks hS ⟨_, rfl, e23.symm⟩ dX7_stepFrom_58
        · refine lv_bipush (v := 8) hx hb dX7_stepFrom_48 (by decide) ?_
          refine lv_iload_n hx hb dX7_stepFrom_50 rfl (lv_at hl 0 rfl) ?_
          refine lv_imul hx hb dX7_stepFrom_51 ?_
          refine lv_iload_n hx hb dX7_stepFrom_52 rfl (lv_at hl 1 rfl) ?_
          refine lv_iadd hx hb dX7_stepFrom_53 ?_
          refine lv_goto (tgt := 58) hx hb dX7_stepFrom_54 (by decide) ?_
          have e24 := p_X7_stepFrom_e24 x1 x2 c11 c12 x13 hx13.symm c14 x20 hx20.symm r21 hr21.symm c22
          exact b_iret hx hb hr hlocks hS ⟨_, rfl, e24.symm⟩ dX7_stepFrom_58
    · refine lv_iconst (v := (-1)) hx hb dX7_stepFrom_18 (by decide) ?_
      refine lv_goto (tgt := 23) hx hb dX7_stepFrom_19 (by decide) ?_
      refine lv_iadd hx hb dX7_stepFrom_23 ?_
      refine lv_topi (fun x25 hx25 => ?_)
      refine lv_istore_n (lv' := [(2, .int x25), (0, .int x1), (1, .int x2)]) hx hb dX7_stepFrom_24 rfl hl (by decide) rfl (fun ls hl => ?_)
      refine lv_iload_n hx hb dX7_stepFrom_25 rfl (lv_at hl 1 rfl) ?_
      refine lv_bipush (v := 8) hx hb dX7_stepFrom_26 (by decide) ?_
      refine lv_idiv hx hb dX7_stepFrom_28 (by decide) ?_
      refine lv_iload_n hx hb dX7_stepFrom_29 rfl (lv_at hl 2 rfl) ?_
      refine lv_if_ne (tgt := 37) hx hb dX7_stepFrom_30 (by decide) (fun c26 => ?_) (fun c26 => ?_)
      · refine lv_iconst (v := 0) hx hb dX7_stepFrom_37 (by decide) ?_
        refine lv_iadd hx hb dX7_stepFrom_38 ?_
        refine lv_topi (fun x27 hx27 => ?_)
        refine lv_istore_n (lv' := [(3, .int x27), (2, .int x25), (0, .int x1), (1, .int x2)]) hx hb dX7_stepFrom_39 rfl hl (by decide) rfl (fun ls hl => ?_)
        refine lv_iload_n hx hb dX7_stepFrom_40 rfl (lv_at hl 1 rfl) ?_
        refine lv_iload_n hx hb dX7_stepFrom_41 rfl (lv_at hl 0 rfl) ?_
        refine b_pI (b_runS (As := [.int x25, .int x27]) (rest := []) ⟨hx, hb, hml, hown, hts⟩ (c_X7_isCell l D E x25 x27) (va_cwS 2 hts gX7_stepFrom_X7_isCell rfl rfl rfl (by decide +kernel) ⟨Nat.le_of_ble_eq_true rfl, Nat.le_of_ble_eq_true rfl⟩) hK trivial rfl hl rfl (Nat.le_of_ble_eq_true rfl) dX7_stepFrom_42 ⟨Nat.zero_le _, Nat.zero_le _⟩) hS (fun r28 hr28 locs hS => ?_)
        refine lv_if_eq (tgt := 57) hx hb dX7_stepFrom_45 (by decide) (fun c29 => ?_) (fun c29 => ?_)
        · refine lv_iconst (v := (-1)) hx hb dX7_stepFrom_57 (by decide) ?_
          have e30 := p_X7_stepFrom_e30 x1 x2 c11 c12 x25 hx25.symm c26 x27 hx27.symm r28 hr28.symm c29
          exact b_iret hx hb hr hlocks hS ⟨_, rfl, e30.symm⟩ dX7_stepFrom_58
        · refine lv_bipush (v := 8) hx hb dX7_stepFrom_48 (by decide) ?_
          refine lv_iload_n hx hb dX7_stepFrom_50 rfl (lv_at hl 0 rfl) ?_
          refine lv_imul hx hb dX7_stepFrom_51 ?_
          refine lv_iload_n hx hb dX7_stepFrom_52 rfl (lv_at hl 1 rfl) ?_
          refine lv_iadd hx hb dX7_stepFrom_53 ?_
          refine lv_goto (tgt := 58) hx hb dX7_stepFrom_54 (by decide) ?_
          have e31 := p_X7_stepFrom_e31 x1 x2 c11 c12 x25 hx25.symm c26 x27 hx27.symm r28 hr28.symm c29
          exact b_iret hx hb hr hlocks hS ⟨_, rfl, e31.symm⟩ dX7_stepFrom_58
      · refine lv_iconst (v := 1) hx hb dX7_stepFrom_33 (by decide) ?_
        refine lv_goto (tgt := 38) hx hb dX7_stepFrom_34 (by decide) ?_
        refine lv_iadd hx hb dX7_stepFrom_38 ?_
        refine lv_topi (fun x32 hx32 => ?_)
        refine lv_istore_n (lv' := [(3, .int x32), (2, .int x25), (0, .int x1), (1, .int x2)]) hx hb dX7_stepFrom_39 rfl hl (by decide) rfl (fun ls hl => ?_)
        refine lv_iload_n hx hb dX7_stepFrom_40 rfl (lv_at hl 1 rfl) ?_
        refine lv_iload_n hx hb dX7_stepFrom_41 rfl (lv_at hl 0 rfl) ?_
        refine b_pI (b_runS (As := [.int x25, .int x32]) (rest := []) ⟨hx, hb, hml, hown, hts⟩ (c_X7_isCell l D E x25 x32) (va_cwS 2 hts gX7_stepFrom_X7_isCell rfl rfl rfl (by decide +kernel) ⟨Nat.le_of_ble_eq_true rfl, Nat.le_of_ble_eq_true rfl⟩) hK trivial rfl hl rfl (Nat.le_of_ble_eq_true rfl) dX7_stepFrom_42 ⟨Nat.zero_le _, Nat.zero_le _⟩) hS (fun r33 hr33 locs hS => ?_)
        refine lv_if_eq (tgt := 57) hx hb dX7_stepFrom_45 (by decide) (fun c34 => ?_) (fun c34 => ?_)
        · refine lv_iconst (v := (-1)) hx hb dX7_stepFrom_57 (by decide) ?_
          have e35 := p_X7_stepFrom_e35 x1 x2 c11 c12 x25 hx25.symm c26 x32 hx32.symm r33 hr33.symm c34
          exact b_iret hx hb hr hlocks hS ⟨_, rfl, e35.symm⟩ dX7_stepFrom_58
        · refine lv_bipush (v := 8) hx hb dX7_stepFrom_48 (by decide) ?_
          refine lv_iload_n hx hb dX7_stepFrom_50 rfl (lv_at hl 0 rfl) ?_
          refine lv_imul hx hb dX7_stepFrom_51 ?_
          refine lv_iload_n hx hb dX7_stepFrom_52 rfl (lv_at hl 1 rfl) ?_
          refine lv_iadd hx hb dX7_stepFrom_53 ?_
          refine lv_goto (tgt := 58) hx hb dX7_stepFrom_54 (by decide) ?_
          have e36 := p_X7_stepFrom_e36 x1 x2 c11 c12 x25 hx25.symm c26 x32 hx32.symm r33 hr33.symm c34
          exact b_iret hx hb hr hlocks hS ⟨_, rfl, e36.symm⟩ dX7_stepFrom_58
  · refine lv_iconst (v := 1) hx hb dX7_stepFrom_9 (by decide) ?_
    refine lv_goto (tgt := 23) hx hb dX7_stepFrom_10 (by decide) ?_
    refine lv_iadd hx hb dX7_stepFrom_23 ?_
    refine lv_topi (fun x37 hx37 => ?_)
    refine lv_istore_n (lv' := [(2, .int x37), (0, .int x1), (1, .int x2)]) hx hb dX7_stepFrom_24 rfl hl (by decide) rfl (fun ls hl => ?_)
    refine lv_iload_n hx hb dX7_stepFrom_25 rfl (lv_at hl 1 rfl) ?_
    refine lv_bipush (v := 8) hx hb dX7_stepFrom_26 (by decide) ?_
    refine lv_idiv hx hb dX7_stepFrom_28 (by decide) ?_
    refine lv_iload_n hx hb dX7_stepFrom_29 rfl (lv_at hl 2 rfl) ?_
    refine lv_if_ne (tgt := 37) hx hb dX7_stepFrom_30 (by decide) (fun c38 => ?_) (fun c38 => ?_)
    · refine lv_iconst (v := 0) hx hb dX7_stepFrom_37 (by decide) ?_
      refine lv_iadd hx hb dX7_stepFrom_38 ?_
      refine lv_topi (fun x39 hx39 => ?_)
      refine lv_istore_n (lv' := [(3, .int x39), (2, .int x37), (0, .int x1), (1, .int x2)]) hx hb dX7_stepFrom_39 rfl hl (by decide) rfl (fun ls hl => ?_)
      refine lv_iload_n hx hb dX7_stepFrom_40 rfl (lv_at hl 1 rfl) ?_
      refine lv_iload_n hx hb dX7_stepFrom_41 rfl (lv_at hl 0 rfl) ?_
      refine b_pI (b_runS (As := [.int x37, .int x39]) (rest := []) ⟨hx, hb, hml, hown, hts⟩ (c_X7_isCell l D E x37 x39) (va_cwS 2 hts gX7_stepFrom_X7_isCell rfl rfl rfl (by decide +kernel) ⟨Nat.le_of_ble_eq_true rfl, Nat.le_of_ble_eq_true rfl⟩) hK trivial rfl hl rfl (Nat.le_of_ble_eq_true rfl) dX7_stepFrom_42 ⟨Nat.zero_le _, Nat.zero_le _⟩) hS (fun r40 hr40 locs hS => ?_)
      refine lv_if_eq (tgt := 57) hx hb dX7_stepFrom_45 (by decide) (fun c41 => ?_) (fun c41 => ?_)
      · refine lv_iconst (v := (-1)) hx hb dX7_stepFrom_57 (by decide) ?_
        have e42 := p_X7_stepFrom_e42 x1 x2 c11 x37 hx37.symm c38 x39 hx39.symm r40 hr40.symm c41
        exact b_iret hx hb hr hlocks hS ⟨_, rfl, e42.symm⟩ dX7_stepFrom_58
      · refine lv_bipush (v := 8) hx hb dX7_stepFrom_48 (by decide) ?_
        refine lv_iload_n hx hb dX7_stepFrom_50 rfl (lv_at hl 0 rfl) ?_
        refine lv_imul hx hb dX7_stepFrom_51 ?_
        refine lv_iload_n hx hb dX7_stepFrom_52 rfl (lv_at hl 1 rfl) ?_
        refine lv_iadd hx hb dX7_stepFrom_53 ?_
        refine lv_goto (tgt := 58) hx hb dX7_stepFrom_54 (by decide) ?_
        have e43 := p_X7_stepFrom_e43 x1 x2 c11 x37 hx37.symm c38 x39 hx39.symm r40 hr40.symm c41
        exact b_iret hx hb hr hlocks hS ⟨_, rfl, e43.symm⟩ dX7_stepFrom_58
    · refine lv_iconst (v := 1) hx hb dX7_stepFrom_33 (by decide) ?_
      refine lv_goto (tgt := 38) hx hb dX7_stepFrom_34 (by decide) ?_
      refine lv_iadd hx hb dX7_stepFrom_38 ?_
      refine lv_topi (fun x44 hx44 => ?_)
      refine lv_istore_n (lv' := [(3, .int x44), (2, .int x37), (0, .int x1), (1, .int x2)]) hx hb dX7_stepFrom_39 rfl hl (by decide) rfl (fun ls hl => ?_)
      refine lv_iload_n hx hb dX7_stepFrom_40 rfl (lv_at hl 1 rfl) ?_
      refine lv_iload_n hx hb dX7_stepFrom_41 rfl (lv_at hl 0 rfl) ?_
      refine b_pI (b_runS (As := [.int x37, .int x44]) (rest := []) ⟨hx, hb, hml, hown, hts⟩ (c_X7_isCell l D E x37 x44) (va_cwS 2 hts gX7_stepFrom_X7_isCell rfl rfl rfl (by decide +kernel) ⟨Nat.le_of_ble_eq_true rfl, Nat.le_of_ble_eq_true rfl⟩) hK trivial rfl hl rfl (Nat.le_of_ble_eq_true rfl) dX7_stepFrom_42 ⟨Nat.zero_le _, Nat.zero_le _⟩) hS (fun r45 hr45 locs hS => ?_)
      refine lv_if_eq (tgt := 57) hx hb dX7_stepFrom_45 (by decide) (fun c46 => ?_) (fun c46 => ?_)
      · refine lv_iconst (v := (-1)) hx hb dX7_stepFrom_57 (by decide) ?_
        have e47 := p_X7_stepFrom_e47 x1 x2 c11 x37 hx37.symm c38 x44 hx44.symm r45 hr45.symm c46
        exact b_iret hx hb hr hlocks hS ⟨_, rfl, e47.symm⟩ dX7_stepFrom_58
      · refine lv_bipush (v := 8) hx hb dX7_stepFrom_48 (by decide) ?_
        refine lv_iload_n hx hb dX7_stepFrom_50 rfl (lv_at hl 0 rfl) ?_
        refine lv_imul hx hb dX7_stepFrom_51 ?_
        refine lv_iload_n hx hb dX7_stepFrom_52 rfl (lv_at hl 1 rfl) ?_
        refine lv_iadd hx hb dX7_stepFrom_53 ?_
        refine lv_goto (tgt := 58) hx hb dX7_stepFrom_54 (by decide) ?_
        have e48 := p_X7_stepFrom_e48 x1 x2 c11 x37 hx37.symm c38 x44 hx44.symm r45 hr45.symm c46
        exact b_iret hx hb hr hlocks hS ⟨_, rfl, e48.symm⟩ dX7_stepFrom_58

