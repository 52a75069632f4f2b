/-! THE LAW'S METHODS: rows over numbers, joins; which of two objects' cells are another's -/
theorem goodIn_cons {big a : List Cond} {c : Cond} (h1 : GoodIn big [c]) (h2 : GoodIn big a) : GoodIn big (c :: a) := fun w h => (List.mem_cons.mp h).elim (fun e => h1 w (List.mem_singleton.mpr e)) (h2 w)
section WR
variable {p : Program} {l : Launch} {e : Env} {R : Room} {s : State} {m : MethodId} {args : Array Value} {below : List Frame} {meth : Method} {c : Code} {H : Heap} {locs : List Loc} {cells slots : Nat} {Q : State → Prop}
variable {cc : ByteArray} {pc : Nat} {ls : Array Slot} {rest st0 : List Value}
theorem w_rem (hexec : p.tables.exec = Jvm.exec) (hb : c.code = cc) {a d : Nat} {y : Int32} (hy : y = nI d) (ha : a < 2 ^ 31) (h0 : 0 < d) (hd : d < 2 ^ 31) (hdg : decode cc pc = .ok (.irem, 1))
    (kk : W p l e R s m args below meth c H locs cells slots Q (F0 m (pc + 1) ls (.int (nI (a % d)) :: rest))) : W p l e R s m args below meth c H locs cells slots Q (F0 m pc ls (.int y :: .int (nI a) :: rest)) :=
  lv_irem hexec hb hdg (fun q => absurd (nI_inj hd (by decide) (hy.symm.trans (q.trans (show (0 : Int32) = nI 0 from rfl)))) (by omega)) (by rw [hy, pk_rem ha h0 hd]; exact kk)
theorem w_div (hexec : p.tables.exec = Jvm.exec) (hb : c.code = cc) {a d : Nat} {y : Int32} (hy : y = nI d) (ha : a < 2 ^ 31) (h0 : 0 < d) (hd : d < 2 ^ 31) (hdg : decode cc pc = .ok (.idiv, 1))
    (kk : W p l e R s m args below meth c H locs cells slots Q (F0 m (pc + 1) ls (.int (nI (a / d)) :: rest))) : W p l e R s m args below meth c H locs cells slots Q (F0 m pc ls (.int y :: .int (nI a) :: rest)) :=
  lv_idiv hexec hb hdg (fun q => absurd (nI_inj hd (by decide) (hy.symm.trans (q.trans (show (0 : Int32) = nI 0 from rfl)))) (by omega)) (by rw [hy, pk_div ha h0 hd]; exact kk)
theorem w_add (hexec : p.tables.exec = Jvm.exec) (hb : c.code = cc) {i j : Nat} {x y : Int32} (hx : x = nI i) (hy : y = nI j) (hdg : decode cc pc = .ok (.iadd, 1))
    (kk : W p l e R s m args below meth c H locs cells slots Q (F0 m (pc + 1) ls (.int (nI (i + j)) :: rest))) : W p l e R s m args below meth c H locs cells slots Q (F0 m pc ls (.int y :: .int x :: rest)) :=
  lv_iadd hexec hb hdg (by rw [hx, hy, nI_add]; exact kk)
theorem w_sub (hexec : p.tables.exec = Jvm.exec) (hb : c.code = cc) {i j : Nat} {x y : Int32} (hx : x = nI i) (hy : y = nI j) (hj : j ≤ i) (hdg : decode cc pc = .ok (.isub, 1))
    (kk : W p l e R s m args below meth c H locs cells slots Q (F0 m (pc + 1) ls (.int (nI (i - j)) :: rest))) : W p l e R s m args below meth c H locs cells slots Q (F0 m pc ls (.int y :: .int x :: rest)) :=
  lv_isub hexec hb hdg (by rw [hx, hy, pk_sub hj]; exact kk)
theorem w_join {J : Nat} {P0 : Int32 → Prop} (kk : ∀ v : Int32, P0 v → W p l e R s m args below meth c H locs cells slots Q (F0 m J ls (.int v :: rest)))
    (br : (∀ v : Int32, P0 v → W p l e R s m args below meth c H locs cells slots Q (F0 m J ls (.int v :: rest))) → W p l e R s m args below meth c H locs cells slots Q (F0 m pc ls st0)) : W p l e R s m args below meth c H locs cells slots Q (F0 m pc ls st0) := br kk
theorem w_joinB {J : Nat} {P0 : Int32 → Prop} (br : (∀ v : Int32, P0 v → W p l e R s m args below meth c H locs cells slots Q (F0 m J ls (.int v :: rest))) → W p l e R s m args below meth c H locs cells slots Q (F0 m pc ls st0))
    (kk : ∀ v : Int32, P0 v → W p l e R s m args below meth c H locs cells slots Q (F0 m J ls (.int v :: rest))) : W p l e R s m args below meth c H locs cells slots Q (F0 m pc ls st0) := br kk
theorem w_cut {J : Nat} (kk : W p l e R s m args below meth c H locs cells slots Q (F0 m J ls rest))
    (br : W p l e R s m args below meth c H locs cells slots Q (F0 m J ls rest) → W p l e R s m args below meth c H locs cells slots Q (F0 m pc ls st0)) : W p l e R s m args below meth c H locs cells slots Q (F0 m pc ls st0) := br kk
theorem w_eqI {x y : Int32} (h : x = y) (kk : W p l e R s m args below meth c H locs cells slots Q (F0 m pc ls (.int y :: rest))) : W p l e R s m args below meth c H locs cells slots Q (F0 m pc ls (.int x :: rest)) := h ▸ kk
end WR
abbrev rAA (o q : Nat) : Nat → Prop := fun x => rA o x ∨ rA q x
abbrev djo (o q : Nat) : Prop := o + 194 ≤ q ∨ q + 194 ≤ o
theorem dj_1 {o q : Nat} (h : djo o q) : ∀ x : Nat, q ≤ x → x < q + 194 → ¬ rA o x := fun x h1 h2 h3 => by
  have a := h3.1
  have b := h3.2
  rcases h with h | h <;> omega
theorem dj_2 {o q : Nat} (h : djo o q) : ∀ x : Nat, o ≤ x → x < o + 194 → ¬ rA q x := fun x h1 h2 h3 => by
  have a := h3.1
  have b := h3.2
  rcases h with h | h <;> omega
/-! a cell's neighbour; which answers are thrown -/
def toI (c d : Int32) : Int32 := if d = 0 then (if 55 < c then -1 else c + 8) else if d = 1 then (if c - c / 8 * 8 = 7 then -1 else c + 1) else if c - c / 8 * 8 = 0 then -1 else c - 1
theorem toI_nI : ∀ (c : Fin 64) (j : Fin 3), toI (nI c.val) (nI j.val) = nbI c.val j.val := by decide +kernel
abbrev thr (v : Int32) : Prop := v = -9999001 ∨ v = -9999002 ∨ v = -9999003
theorem neg99 : ∀ k : Fin 99, ((-1 : Int32) - nI k.val).toInt < 0 := by decide +kernel
theorem neg_out {k n : Nat} (hk : k < 99) : ¬ vp_in ((-1 : Int32) - nI k) n := fun q => by
  have h1 := neg99 ⟨k, hk⟩
  have h2 := (vp_in_iff.mp q).1
  have h1 : ((-1 : Int32) - nI k).toInt < 0 := h1
  omega
theorem big_out {k n : Nat} (h : n ≤ k) (hk : k < 2 ^ 31) : ¬ vp_in (nI k) n := fun q => by
  have h2 := (vp_in_iff.mp q).2
  rw [nI_toInt hk] at h2
  omega
theorem m1_out {n : Nat} : ¬ vp_in (-1) n := fun q => by
  have h2 := (vp_in_iff.mp q).1
  have h1 : (-1 : Int32).toInt = -1 := by decide
  omega
theorem set_out0 {k : Nat} (h : 41 ≤ k) (hk : k < 2 ^ 31) : f_X7_isSetting 0 (nI k) = 0 := Classical.byContradiction (fun q => by
  rcases isSet_in q with ⟨_, h2⟩ | ⟨h1, _⟩
  · exact big_out h hk h2
  · exact absurd h1 (by decide))
theorem set_out1 {k : Nat} (h : 10 ≤ k) (hk : k < 2 ^ 31) : f_X7_isSetting 1 (nI k) = 0 := Classical.byContradiction (fun q => by
  rcases isSet_in q with ⟨h1, _⟩ | ⟨_, h2⟩
  · exact absurd h1 (by decide)
  · exact big_out h hk h2)
theorem set_out2 {k : Nat} {v : Int32} (h : 2 ≤ k) (hk : k < 2 ^ 31) : f_X7_isSetting (nI k) v = 0 := Classical.byContradiction (fun q => by
  rcases isSet_in q with ⟨h1, _⟩ | ⟨h1, _⟩
  · have := nI_inj (a := k) (b := 0) hk (by decide) h1; omega
  · have := nI_inj (a := k) (b := 1) hk (by decide) h1; omega)
theorem long_add {X : Nat} (h : X < 2 ^ 31) : ((10000 : Int64) + (nI X : Int32).toInt64).toInt = ((10000 + X : Nat) : Int) := by
  rw [Int64.toInt_add, Int32.toInt_toInt64, nI_toInt h, show (10000 : Int64).toInt = 10000 by decide]
  rw [Int.bmod_eq_of_le (by omega) (by omega)]
  omega
/-- what stays as it is in a method of the law -/
def lK (p : Program) (l : Launch) (s : State) (m : MethodId) (args : Array Value) (co : Code) (D : va_G) (E : Nat → ClassId) (A : Nat → Prop) (cc : ByteArray) (nL : Nat) (ws : List Cond) : Prop := p.tables.exec = Jvm.exec ∧ co.code = cc ∧ co.maxLocals = nL ∧ s.vm.findClass RL = some m.cls ∧ (∀ w ∈ ws, w.before args s = true) ∧ bKX D E s ∧ bZ A s s.heap ∧ bNc s ∧ l.stackTraces = false
