/-! steps by the invariant; the law's cell; two new objects -/
theorem i_steps (l : Launch) (hst : l.stackTraces = false) (D : va_G) (E : Nat → ClassId) (o q : Nat) (hd : djo o q) {V : Nat} (S : aT) (X : Nat) (g : gI V S) : Met l yL_steps wsL_steps (lRm 10 130 780) (lP D E [.ref o, .ref q, .int (nI X)] (fun H => Ob D E o S H ∧ Ob D E q S H) (rAA o q)) (lQ (fun r H => r = 1 ∧ ∃ n, Ob D E o (cuS S n) H ∧ Ob D E q (cuS S n) H) (rAA o q)) 130 780 (rAA o q) := by
  obtain ⟨P, hP, e2⟩ := row_tu g.2.1.1
  obtain ⟨h, hh, eh⟩ : ∃ h, h < 64 ∧ aF 3 S (nI P) 1 0 = nI h := by
    obtain ⟨m, a, b, h0, h1, hm, _, _, _, n14, n19, ha, hb, hh0, hh1, e0, e1⟩ := gR_nums g.2.1.1
    rcases (by omega : P = 0 ∨ P = 1) with e | e
    · subst e
      exact ⟨h0, hh0, (a_pl1 (p := 0) (a := a) (by decide) n14 (by omega)).trans e0⟩
    · subst e
      exact ⟨h1, hh1, (a_pl1 (p := 1) (a := b) (by decide) n19 (by omega)).trans e1⟩
  exact c_steps l hst D E o q hd S X P h hP hh e2 eh (fun h1 => fbF_of g h1 hP e2 hh eh) (fun h1 n j hj => fkF_of g h1 hP e2 hh eh hj)
/-! the law's cell -/
theorem dL_cell_0 : decode cL_cell 0 = .ok (.iload_n 1, 1) := by decide +kernel
theorem dL_cell_1 : decode cL_cell 1 = .ok (.aload_n 0, 1) := by decide +kernel
theorem dL_cell_2 : decode cL_cell 2 = .ok (.arraylength, 1) := by decide +kernel
theorem dL_cell_3 : decode cL_cell 3 = .ok (.if_icmp .ge 9, 3) := by decide +kernel
theorem dL_cell_6 : decode cL_cell 6 = .ok (.aload_n 0, 1) := by decide +kernel
theorem dL_cell_7 : decode cL_cell 7 = .ok (.iload_n 1, 1) := by decide +kernel
theorem dL_cell_8 : decode cL_cell 8 = .ok (.iaload, 1) := by decide +kernel
theorem dL_cell_9 : decode cL_cell 9 = .ok (.goto 13, 3) := by decide +kernel
theorem dL_cell_12 : decode cL_cell 12 = .ok (.ldc 144, 2) := by decide +kernel
theorem dL_cell_14 : decode cL_cell 14 = .ok (.iload_n 1, 1) := by decide +kernel
theorem dL_cell_15 : decode cL_cell 15 = .ok (.iconst 3, 1) := by decide +kernel
theorem dL_cell_16 : decode cL_cell 16 = .ok (.iadd, 1) := by decide +kernel
theorem dL_cell_17 : decode cL_cell 17 = .ok (.imul, 1) := by decide +kernel
theorem dL_cell_18 : decode cL_cell 18 = .ok (.sipush 12049, 3) := by decide +kernel
theorem dL_cell_21 : decode cL_cell 21 = .ok (.iadd, 1) := by decide +kernel
theorem dL_cell_22 : decode cL_cell 22 = .ok (.ldc 145, 2) := by decide +kernel
theorem dL_cell_24 : decode cL_cell 24 = .ok (.iand, 1) := by decide +kernel
theorem dL_cell_25 : decode cL_cell 25 = .ok (.ireturn, 1) := by decide +kernel
def ceP (b L k : Nat) (xs : Nat → Int32) : Array Value → State → Prop := fun v U => v = ([.ref b, .int (nI k)] : List Value).toArray ∧ va_X b L xs U U.heap ∧ b < U.heap.size
theorem ceBlind {b L k : Nat} {xs : Nat → Int32} : FrameBlind (ceP b L k xs) := fun a U g mk q => ⟨q.1, va_X.moved (u := U) (U := U.calling g mk a) (Vm.Alike.refl U.vm) q.2.1, q.2.2⟩
theorem c_cell (l : Launch) (b L k : Nat) (xs : Nat → Int32) (hL : L ≤ 260) (hk : k < 100) : Met l yL_cell wsL_cell (lRm 1 0 0) (ceP b L k xs) (lQ (fun r _ => ∃ X, X < 2 ^ 31 ∧ r = nI X) bNo) 0 0 bNo := by
  refine Met.ofW (cc := cL_cell) (maxL := 2) (ret := (some .int)) (by decide) rfl ?_
  intro p e s m args below meth co s₁ B hml hv
  obtain ⟨rfl, hX, hbl⟩ := hv
  have hx := B.exec
  have hb := B.bytes
  have hr := B.returns
  have hts := atoms_spec (ws := wsL_cell) B.pre
  have hown : s.vm.findClass RL = some m.cls := findClass_of_methodNamed B.named
  have hlocks := B.notSynchronized
  have hS : va_S bNo s.heap s.heap [] := ⟨Nat.le_refl _, fun _ _ _ => rfl, fun _ h => by cases h⟩
  have hl := lv_entry ([.ref b, .int (nI k)]) (n := 2) (Nat.le_of_ble_eq_true rfl)
  rw [lg_entry_eq]
  generalize (lg_sl ([.ref b, .int (nI k)]) ++ List.replicate (2 - (lg_sl ([.ref b, .int (nI k)])).length) Slot.unset).toArray = ls at hl ⊢
  have hl : lv_has ls 2 [(0, .ref b), (1, .int (nI k))] := hl
  refine lv_iload_n hx hb dL_cell_0 rfl (lv_at hl 1 rfl) ?_
  refine lv_aload_n hx hb dL_cell_1 rfl (lv_at hl 0 rfl) ?_
  refine va_slen hx hb hX hbl (fun h => h) hS dL_cell_2 ?_
  refine w_join (J := 22) (rest := []) (P0 := fun _ => True) (fun v _ => ?_) (fun kk => ?_)
  · refine lv_ldc (v := (2147483647)) hx hb hown (hts (.constant RL 145 (2147483647)) (List.mem_of_getElem? (i := 2) (by decide +kernel))) dL_cell_22 ?_
    refine lv_iand hx hb dL_cell_24 ?_
    exact l_iret hx hb hr hlocks hS (pk_andE v (m := 2147483647) 31 (by decide)) ⟨Nat.le_refl _, Nat.le_refl _⟩ dL_cell_25
  · refine lv_icmp_ge (tgt := 12) hx hb dL_cell_3 (by decide) (fun _ => ?_) (fun z => ?_)
    · refine lv_ldc (v := (15520147)) hx hb hown (hts (.constant RL 144 (15520147)) (List.mem_of_getElem? (i := 1) (by decide +kernel))) dL_cell_12 ?_
      refine lv_iload_n hx hb dL_cell_14 rfl (lv_at hl 1 rfl) ?_
      refine lv_iconst (v := 3) hx hb dL_cell_15 (by decide) ?_
      refine lv_iadd hx hb dL_cell_16 ?_
      refine lv_imul hx hb dL_cell_17 ?_
      refine lv_sipush (v := 12049) hx hb dL_cell_18 (by decide) ?_
      refine lv_iadd hx hb dL_cell_21 ?_
      exact kk _ trivial
    · have hkL : k < L := Nat.lt_of_not_le (fun q => z ((nI_leI (a := L) (b := k) (by omega) (by omega)).mpr q))
      refine lv_aload_n hx hb dL_cell_6 rfl (lv_at hl 0 rfl) ?_
      refine lv_iload_n hx hb dL_cell_7 rfl (lv_at hl 1 rfl) ?_
      refine va_sld hx hb hX hbl (fun h => h) hS (i := nI k) (vp_in_nI hkL (by omega)) dL_cell_8 ?_
      refine lv_goto (tgt := 22) hx hb dL_cell_9 (by decide) ?_
      exact kk _ trivial
section LE
variable {p : Program} {l : Launch} {e : Env} {R : Room} {s : State} {m : MethodId} {args : Array Value} {below : List Frame} {meth : Method} {c : Code} {H : Heap} {locs : List Loc} {cells slots : Nat}
variable {cc : ByteArray} {pc : Nat} {ls : Array Slot} {rest : List Value} {A0 : Nat → Prop}
variable {y : MethodName} {bytes : ByteArray} {maxL nL n index mc ms : Nat} {ret : Option FieldType} {ws : List Cond} {rm : Room} {Ts : List Cond} {own : String} {As st0 : List Value} {lv : List (Nat × Value)}
theorem l_runE {Qc : Array Value → State → Outcome → State → Prop} {b L k : Nat} {xs : Nat → Int32} (S : CallFix p m c cc nL s args Ts own) (hM : Met l y ws rm (ceP b L k xs) Qc mc ms bNo) (cw : CallB R s args own index y bytes maxL ret ws rm mc ms n ∧ (Cond.static y).before args s = true) (hX : va_X b L xs s s.heap) (hbl : b < s.heap.size) (hbA : ¬ A0 b) (hS : va_S A0 s.heap H locs) (hn : [Value.ref b, Value.int (nI k)].length = n) (hl : lv_has ls nL lv) (hst : st0 = [Value.ref b, Value.int (nI k)].reverse ++ rest) (hW : (rest.map fun v => v.category).sum ≤ 8) (hdg : decode cc pc = .ok (.invokestatic index, 3)) (hf : cells + mc ≤ R.cells ∧ slots + ms ≤ R.slots) :
    va_Run p l e R s m args below meth c H locs cells slots mc ms (F0 m pc ls st0) rest (Qc [Value.ref b, Value.int (nI k)].toArray) bNo :=
  va_runS S hM cw ⟨ceBlind, fun U hU hW => ⟨rfl, va_X.kept (va_X.moved hW.alike hX) (by rw [hU]; exact hS.2.1 b hbl hbA), by rw [hU]; exact Nat.lt_of_lt_of_le hbl hS.1⟩⟩ rfl hn hl.1 hst (lv_room hW) hdg hf
end LE
/-! two new objects say the state at the start -/
theorem newR_4 {r : Nat → Int32} {x : Int64} : newR r x = newR (upd r 4 (-1)) x := by
  funext j
  unfold newR
  rw [upd_ne (r := r) (x := 0) (j := 4) (v := -1) (by decide)]
  by_cases e : j = 4
  · subst e
    simp
  · rw [upd_ne (r := r) (x := j) (j := 4) (v := -1) e]
theorem gP_zero {r : Nat → Int32} (h : ∀ j, j < 404 → j ≠ 8 → j ≠ 9 → j ≠ 4 → r j = 0) (h8 : r 8 = 20) (h4 : r 4 = -1) : gP 0 r := by
  have no : ∀ a j, a ≤ 62 → j < 404 → j ≠ 8 → j ≠ 9 → j ≠ 4 → ¬ r j = nI (a + 1) := fun a j ha hj n8 n9 n4 z => by
    have := nI_inj (a := 0) (b := a + 1) (by decide) (by omega) ((h j hj n8 n9 n4).symm.trans z)
    omega
  refine ⟨⟨20, by decide, by decide, h8⟩, fun c hc => Or.inr ⟨0, by decide, h _ (by omega) (by omega) (by omega) (by omega), h _ (by omega) (by omega) (by omega) (by omega)⟩, fun q => absurd h4 q, fun a b ha _ q _ => absurd q (no a 14 ha (by decide) (by decide) (by decide) (by decide)), fun p a hp ha q => absurd q (no a (14 + 5 * p) ha (by omega) (by omega) (by omega) (by omega)), fun p hp => ⟨0, 0, h _ (by omega) (by omega) (by omega) (by omega), h _ (by omega) (by omega) (by omega) (by omega), Nat.le_refl _, Nat.le_refl _⟩, fun q => absurd h4 q⟩
theorem gP_clear {M : bM} {k : Nat} : gP 0 (f_X7_clear M k k) := by
  rw [clear_row, newR_4]
  refine gP_new (gP_zero (fun j hj h8 h9 h4 => ?_) ?_ upd_eq)
  · rw [upd_ne h4]
    show (if j = 9 then (3 : Int32) else if j = 8 then 20 else if j < 404 then 0 else M k j) = 0
    rw [if_neg h9, if_neg h8, if_pos hj]
  · rw [upd_ne (by decide)]
    show (if 8 = 9 then (3 : Int32) else if 8 = 8 then 20 else if 8 < 404 then 0 else M k 8) = 20
    rw [if_neg (by decide), if_pos rfl]
theorem rT_st {T : bM} (h0 : T 0 = Z0 0) (h6 : T 6 = Z0 6) : rT T (T 2, [], fun _ => none) := by
  refine ⟨fun _ _ => rfl, by rw [h0], by rw [h0]; rfl, Nat.zero_le 14, fun i x hi => ?_, fun s _ => ⟨fun _ => by rw [h6], fun x q => ?_⟩⟩
  · have hi : ([] : List (Nat → Int32))[i]? = some x := hi
    simp at hi
  · exact absurd (show (none : Option (Nat → Int32)) = some x from q) (by simp)
abbrev S0a : aT := (f_X7_clear Z0 2 2, [], fun _ => none)
theorem rl_start : rl (f_X0_startAnew (zW 192) 3) S0a := rl_can sS_start (rT_st (T := f_X7_clear Z0 2) (fr_X7_clear Z0 2 0 (by decide)) (fr_X7_clear Z0 2 6 (by decide)))
theorem gI_st {r : Nat → Int32} (h : GG 0 r) : gI 0 (r, [], fun _ => none) := ⟨Nat.zero_le 14, h, fun x q => absurd q (List.not_mem_nil), fun s x q => absurd (show (none : Option (Nat → Int32)) = some x from q) (by simp)⟩
theorem gI_start : gI 0 S0a := gI_st (r := f_X7_clear Z0 2 2) ⟨gR_clear, gD_clear, gP_clear⟩
