/-! THE LAW'S METHODS: rows over numbers, joins; which of two objects' cells are another's -/
theorem goodIn_cons {big a : List Cond} {c : Cond} (h1 : GoodIn big [c]) (h2 : GoodIn big a) : GoodIn big (c :: a) := fun w h => (List.mem_cons.mp h).elim (fun e => h1 w (List.mem_singleton.mpr e)) (h2 w)
section WR
variable {p : Program} {l : Launch} {e : Env} {R : Room} {s : State} {m : MethodId} {args : Array Value} {below : List Frame} {meth : Method} {c : Code} {H : Heap} {locs : List Loc} {cells slots : Nat} {Q : State → Prop}
variable {cc : ByteArray} {pc : Nat} {ls : Array Slot} {rest st0 : List Value}
theorem w_rem (hexec : p.tables.exec = Jvm.exec) (hb : c.code = cc) {a d : Nat} {y : Int32} (hy : y = nI d) (ha : a < 2 ^ 31) (h0 : 0 < d) (hd : d < 2 ^ 31) (hdg : decode cc pc = .ok (.irem, 1))
    (kk : W p l e R s m args below meth c H locs cells slots Q (F0 m (pc + 1) ls (.int (nI (a % d)) :: rest))) : W p l e R s m args below meth c H locs cells slots Q (F0 m pc ls (.int y :: .int (nI a) :: rest)) :=
  lv_irem hexec hb hdg (fun q => absurd (nI_inj hd (by decide) (hy.symm.trans (q.trans (show (0 : Int32) = nI 0 from rfl)))) (by omega)) (by rw [hy, pk_rem ha h0 hd]; exact kk)
theorem w_div (hexec : p.tables.exec = Jvm.exec) (hb : c.code = cc) {a d : Nat} {y : Int32} (hy : y = nI d) (ha : a < 2 ^ 31) (h0 : 0 < d) (hd : d < 2 ^ 31) (hdg : decode cc pc = .ok (.idiv, 1))
    (kk : W p l e R s m args below meth c H locs cells slots Q (F0 m (pc + 1) ls (.int (nI (a / d)) :: rest))) : W p l e R s m args below meth c H locs cells slots Q (F0 m pc ls (.int y :: .int (nI a) :: rest)) :=
  lv_idiv hexec hb hdg (fun q => absurd (nI_inj hd (by decide) (hy.symm.trans (q.trans (show (0 : Int32) = nI 0 from rfl)))) (by omega)) (by rw [hy, pk_div ha h0 hd]; exact kk)
theorem w_add (hexec : p.tables.exec = Jvm.exec) (hb : c.code = cc) {i j : Nat} {x y : Int32} (hx : x = nI i) (hy : y = nI j) (hdg : decode cc pc = .ok (.iadd, 1))
    (kk : W p l e R s m args below meth c H locs cells slots Q (F0 m (pc + 1) ls (.int (nI (i + j)) :: rest))) : W p l e R s m args below meth c H locs cells slots Q (F0 m pc ls (.int y :: .int x :: rest)) :=
  lv_iadd hexec hb hdg (by rw [hx, hy, nI_add]; exact kk)
theorem w_sub (hexec : p.tables.exec = Jvm.exec) (hb : c.code = cc) {i j : Nat} {x y : Int32} (hx : x = nI i) (hy : y = nI j) (hj : j ≤ i) (hdg : decode cc pc = .ok (.isub, 1))
    (kk : W p l e R s m args below meth c H locs cells slots Q (F0 m (pc + 1) ls (.int (nI (i - j)) :: rest))) : W p l e R s m args below meth c H locs cells slots Q (F0 m pc ls (.int y :: .int x :: rest)) :=
  lv_isub hexec hb hdg (by rw [hx, hy, pk_sub hj]; exact kk)
theorem w_join {J : Nat} {P0 : Int32 → Prop} (kk : ∀ v : Int32, P0 v → W p l e R s m args below meth c H locs cells slots Q (F0 m J ls (.int v :: rest)))
    (br : (∀ v : Int32, P0 v → W p l e R s m args below meth c H locs cells slots Q (F0 m J ls (.int v :: rest))) → W p l e R s m args below meth c H locs cells slots Q (F0 m pc ls st0)) : W p l e R s m args below meth c H locs cells slots Q (F0 m pc ls st0) := br kk
theorem w_cut {J : Nat} (kk : W p l e R s m args below meth c H locs cells slots Q (F0 m J ls rest))
    (br : W p l e R s m args below meth c H locs cells slots Q (F0 m J ls rest) → W p l e R s m args below meth c H locs cells slots Q (F0 m pc ls st0)) : W p l e R s m args below meth c H locs cells slots Q (F0 m pc ls st0) := br kk
theorem w_eqI {x y : Int32} (h : x = y) (kk : W p l e R s m args below meth c H locs cells slots Q (F0 m pc ls (.int y :: rest))) : W p l e R s m args below meth c H locs cells slots Q (F0 m pc ls (.int x :: rest)) := h ▸ kk
end WR
abbrev rAA (o q : Nat) : Nat → Prop := fun x => rA o x ∨ rA q x
abbrev djo (o q : Nat) : Prop := o + 194 ≤ q ∨ q + 194 ≤ o
theorem dj_1 {o q : Nat} (h : djo o q) : ∀ x : Nat, q ≤ x → x < q + 194 → ¬ rA o x := fun x h1 h2 h3 => by
  have a := h3.1
  have b := h3.2
  rcases h with h | h <;> omega
theorem dj_2 {o q : Nat} (h : djo o q) : ∀ x : Nat, o ≤ x → x < o + 194 → ¬ rA q x := fun x h1 h2 h3 => by
  have a := h3.1
  have b := h3.2
  rcases h with h | h <;> omega
/-! a cell's neighbour; which answers are thrown -/
def toI (c d : Int32) : Int32 := if d = 0 then (if 55 < c then -1 else c + 8) else if d = 1 then (if c - c / 8 * 8 = 7 then -1 else c + 1) else if c - c / 8 * 8 = 0 then -1 else c - 1
theorem toI_nI : ∀ (c : Fin 64) (j : Fin 3), toI (nI c.val) (nI j.val) = nbI c.val j.val := by decide +kernel
abbrev thr (v : Int32) : Prop := v = -9999001 ∨ v = -9999002 ∨ v = -9999003
