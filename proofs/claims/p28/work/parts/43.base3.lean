/-! BASE, third part: constructors; the heap grows by cells that lie one behind the other -/
def bkR (D : va_G) (E : Nat → ClassId) (L : List bC) (o a b : Nat) (M : bM) (H : Heap) : Prop := ∀ (k : Nat) (c : bC), a ≤ k → k < b → L[k]? = some c → va_at D vwCl (o + k, bcell E o c (M k)) H
def iS (a : Nat) (H0 H : Heap) (locs : List Loc) : Prop := (∀ q : Nat, q < a → H[q]? = H0[q]?) ∧ ∀ x ∈ locs, a ≤ x.base
def arrN : List (Nat × FieldType) := [(0, .int), (1, .boolean), (2, .char)]
abbrev bA (E : Nat → ClassId) (U : State) : Prop := (∀ (k : Nat) (q : Nat × FieldType), arrN[k]? = some q → U.vm.findClass ("[" ++ q.2.toString) = some (E q.1)) ∧ va_AO RX0 U
abbrev bKa (D : va_G) (E : Nat → ClassId) (U : State) : Prop := bK D E U ∧ bA E U
theorem bA.warm {E : Nat → ClassId} {s U : State} (hW : s.WarmedH U.vm) (h : bA E s) : bA E U := ⟨fun k q hq => by rw [hW.alike.findClass]; exact h.1 k q hq, va_AO.moved hW.alike h.2⟩
theorem bKa.warm {D : va_G} {E : Nat → ClassId} {s U : State} (hW : s.WarmedH U.vm) (h : bKa D E s) : bKa D E U := ⟨bK.warm hW h.1, bA.warm hW h.2⟩
def bPi (D : va_G) (E : Nat → ClassId) (o w : Nat) (c : va_E) : Array Value → State → Prop := fun v U => v = ([.ref (o + w)] : List Value).toArray ∧ U.heap.size = o + w + 1 ∧ va_at D vwCl (o + w, c) U.heap ∧ bKa D E U
def bQi (D : va_G) (E : Nat → ClassId) (L : List bC) (o w n : Nat) (M : bM) : Array Value → State → Outcome → State → Prop := fun _ st oc t => oc = .returned none ∧ t.heap.size = o + n ∧ bkR D E L o w n M t.heap ∧ ∀ q : Nat, q < o + w → t.heap[q]? = st.heap[q]?
theorem biBlind {D : va_G} {E : Nat → ClassId} {o w : Nat} {c : va_E} : FrameBlind (bPi D E o w c) := fun a U g mk q => ⟨q.1, q.2.1, q.2.2.1, ⟨⟨va_K.moved (u := U) (U := U.calling g mk a) (Vm.Alike.refl U.vm) q.2.2.2.1.1, fun k z hz => va_Nw.same (u := U) (U := U.calling g mk a) rfl rfl (q.2.2.2.1.2 k z hz)⟩, q.2.2.2.2.1, va_AO.moved (u := U) (U := U.calling g mk a) (Vm.Alike.refl U.vm) q.2.2.2.2.2⟩⟩
section BI
variable {p : Program} {l : Launch} {e : Env} {R : Room} {s : State} {m : MethodId} {args : Array Value} {below : List Frame} {meth : Method} {c : Code} {H : Heap} {locs : List Loc} {cells slots : Nat} {Q : State → Prop}
variable {cc : ByteArray} {pc : Nat} {ls : Array Slot} {rest : List Value} {D : va_G} {cl : List vw_C} {E : Nat → ClassId} {L : List bC} {o a w n : Nat} {M : bM} {tys : List (ClassId × FieldType)} {H0 : Heap}
theorem bkR_nil (h : n ≤ w) : bkR D E L o w n M H := fun k x h1 h2 => by omega
theorem bkR_kept {H1 : Heap} (h : bkR D E L o w n M H) (hq : ∀ q : Nat, o + w ≤ q → q < o + n → H1[q]? = H[q]?) : bkR D E L o w n M H1 := fun k x h1 h2 hL => (h k x h1 h2 hL).kept (hq (o + k) (by omega) (by omega))
theorem bkR_join {b : Nat} (h : bkR D E L o w n M H) (h2 : bkR D E L o n b M H) : bkR D E L o w b M H := fun k x q1 q2 hL => by
  rcases Nat.lt_or_ge k n with q | q
  · exact h k x q1 q hL
  · exact h2 k x q q2 hL
theorem bkR_one {x : bC} (hL : L[w]? = some x) (h : va_at D vwCl (o + w, bcell E o x (M w)) H) : bkR D E L o w (w + 1) M H := fun k y q1 q2 hk => by
  have e : k = w := by omega
  subst e
  cases hL.symm.trans hk
  exact h
/-- a new array of ints, booleans, chars -/
theorem i_newa (hexec : p.tables.exec = Jvm.exec) (hb : c.code = cc) {atype : ArrayType} {t N : Nat} {v : Int32} {j : Nat} (harr : (Cond.arrayClass (newarray.typeOf atype)).before args s = true) (hd : defaultValue (newarray.typeOf atype) = .int 0) (hA : bA E s) (hj : arrN[j]? = some (t, newarray.typeOf atype)) (hn : ¬ v < 0) (hN : v.toNatClampNeg = N) (hbytes : N * componentBytes (newarray.typeOf atype) ≤ 536870912) (hcells : cells + 1 ≤ R.cells) (hslots : slots + N ≤ R.slots) (hz : H.size = o + n) (hL : L[n]? = some (.inl (t, N))) (hM : M n = fun _ => 0) (hdg : decode cc pc = .ok (.newarray atype, 2))
    (kk : ∀ (H1 : Heap), H1.size = o + (n + 1) → bkR D E L o n (n + 1) M H1 → (∀ q : Nat, q < o + n → H1[q]? = H[q]?) → W p l e R s m args below meth c H1 locs (cells + 1) (slots + N) Q (F0 m (pc + 2) ls (.ref (o + n) :: rest))) : W p l e R s m args below meth c H locs cells slots Q (F0 m pc ls (.int v :: rest)) := by
  refine va_newaK hexec hb harr rfl hdg rfl hn hN hbytes hcells hslots hz fun H1 cA e1 z1 o1 _ hNm => ?_
  have hcA : cA = E t := Option.some.inj (hNm.symm.trans (hA.1 j _ hj))
  refine kk H1 (by omega) (bkR_one hL ?_) o1
  rw [hM]
  show H1[o + n]? = some (vp_cell (E t) (N, .inl fun _ => 0))
  rw [vp_cell_i, e1, hcA, hd]
/-- a new object -/
theorem i_new (hexec : p.tables.exec = Jvm.exec) (hb : c.code = cc) {own C : String} {T : u_T} {N ci index : Nat} {Ts : List Cond} (hts : ∀ w ∈ Ts, w.before args s = true) (hin : ∀ w ∈ u_ws C T N, w ∈ Ts) (ty : Nat → FieldType) (hty : ∀ k, k < N → parseFieldDescriptor (T k).2.2.1 = some (ty k)) (hown : s.vm.findClass own = some m.cls) (hcl : (Cond.classLink own index C).before args s = true) (hinst : (Cond.instantiable C N).before args s = true) (hini : (Cond.initialized C).before args s = true)
    (hK : va_K D cl tys s) (hc : cl[ci]? = some (C, T, N)) {fs : List Value} (hfs : ∀ j, j < N → defaultValue (ty j) = vp_V fs j) (hcells : cells + 1 ≤ R.cells) (hslots : slots + N ≤ R.slots) (hz : H.size = o + n) (hdg : decode cc pc = .ok (.new index, 3))
    (kk : ∀ (H1 : Heap), H1.size = o + n + 1 → va_at D cl (o + n, .inr (ci, fs)) H1 → (∀ q : Nat, q < o + n → H1[q]? = H[q]?) → W p l e R s m args below meth c H1 locs (cells + 1) (slots + N) Q (F0 m (pc + 3) ls (.ref (o + n) :: rest))) : W p l e R s m args below meth c H locs cells slots Q (F0 m pc ls rest) := by
  have hKn := hK.1 ci _ hc
  refine W.newcK hexec hb hown hcl hinst hini rfl hdg hcells hslots hKn.2.1 hz fun H1 kC hkC e1 z1 o1 => ?_
  exact kk H1 z1 ⟨_, hc, (u_born ty hts hin hKn hkC e1 hty).to hfs⟩ o1
/-- a final field in its constructor -/
theorem i_putF (hexec : p.tables.exec = Jvm.exec) (hb : c.code = cc) {own ref C : String} {T : u_T} {N ci index : Nat} {Ts : List Cond} (hts : ∀ w ∈ Ts, w.before args s = true) (hin : ∀ w ∈ u_ws C T N, w ∈ Ts) (ty0 : Nat → FieldType) (hty : ∀ k, k < N → parseFieldDescriptor (T k).2.2.1 = some (ty0 k)) (hnm : ∀ a, a < N → ∀ b, b < N → a ≠ b → (T a).2.1 ≠ (T b).2.1) (hown : s.vm.findClass own = some m.cls) (hK : va_K D cl tys s) {b : Nat} {fs : List Value} (hP : va_at D cl (b, .inr (ci, fs)) H) (hS : iS a H0 H locs) (hab : a ≤ b) (hc : cl[ci]? = some (C, T, N)) (k : Nat) (hk : k < N) (hlink : (Cond.fieldLink own index ref (T k).2.1 (T k).2.2.1).before args s = true) (hsame : ∀ x, s.fieldFound? (T k).1 (T k).2.1 (T k).2.2.1 = some x → s.fieldFound? ref (T k).2.1 (T k).2.2.1 = some x) (hfin : (T k).2.2.2 = true) (hin2 : meth.name = "<init>") (hdecl : (T k).1 = own) {ty : FieldType} {v : Value} (hd : parseFieldDescriptor (T k).2.2.1 = some ty) (hn : narrow ty v = v) (hfit : fits ty v = true) (hl : k < fs.length)
    (hdg : decode cc pc = .ok (.putfield index, 3)) (kk : ∀ (H1 : Heap) (locs1 : List Loc), va_at D cl (b, .inr (ci, fs.set k v)) H1 → H1.size = H.size → (∀ q : Nat, q ≠ b → H1[q]? = H[q]?) → iS a H0 H1 locs1 → W p l e R s m args below meth c H1 locs1 cells slots Q (F0 m (pc + 3) ls rest)) : W p l e R s m args below meth c H locs cells slots Q (F0 m pc ls (v :: .ref b :: rest)) := by
  have hap := va_apart (own := own) hts hin ty0 hty hnm hK hc
  obtain ⟨r, h1, cell, q1, q2, q3, q4⟩ := hP
  have hr : r = (C, T, N) := Option.some.inj (h1.symm.trans hc)
  subst hr
  obtain ⟨hSl, hfc, kC, hkC, hkind⟩ := hK.1 ci _ hc
  obtain ⟨cf, kf, fi, f, hi, hsl⟩ := hSl k hk
  have hlay := hts _ (hin _ (u_in_lay hk))
  unfold u_lay at hlay
  rw [if_pos hfin] at hlay
  have hst := (u_facts hfc hkC (u_lays hts hin hk) hi).1
  have hcf : m.cls = cf := by
    obtain ⟨_, _, c', _, _, _, -, -, hf', -, -, -, hown2, -⟩ := Cond.laysFinal_spec hlay
    have e1 : c' = cf := by have := hi.symm.trans hf'; simp at this; exact this.1.symm
    rw [hdecl] at hown2
    rw [← e1]; exact Option.some.inj (hown.symm.trans hown2)
  have h6 := u_fits hfc hkC hkind (Or.inr hlay) hi hd hn hfit
  refine W.putFinK hexec hb hown hlink (hsame _ hi) hst hcf hin2 (by rw [q2]; exact h6) q1 q3 (by rw [hsl]; exact k2_hasslot (q4 k hk)) rfl rfl hdg fun H' e1 e2 e3 => ?_
  rw [hsl] at e1 ⊢
  exact kk H' _ ⟨_, hc, t_OB.to (V := updV (vp_V fs) k v) ⟨_, e1, q2, q3, t_set q4 hap hk v⟩ (fun j _ => vp_updV_set hl v j)⟩ e2 e3 ⟨fun q hq => by rw [e3 q (Nat.ne_of_lt (Nat.lt_of_lt_of_le hq hab))]; exact hS.1 q hq, fun x hx => by
    rcases List.mem_append.mp hx with h9 | h9
    · exact hS.2 x h9
    · rw [List.mem_singleton.mp h9]; exact hab⟩
/-- a constructor has run -/
theorem i_call {av : Array Value} {mc ms : Nat} {st0 : List Value} (hr : va_Run p l e R s m args below meth c H locs cells slots mc ms (F0 m pc ls st0) rest (bQi D E L o w n M av) (fun q => o + w ≤ q)) (hS : iS a H0 H locs) (ha : a ≤ o + w)
    (kk : ∀ (H1 : Heap) (locs1 : List Loc), H1.size = o + n → bkR D E L o w n M H1 → (∀ q : Nat, q < o + w → H1[q]? = H[q]?) → iS a H0 H1 locs1 → W p l e R s m args below meth c H1 locs1 (cells + mc) (slots + ms) Q (F0 m (pc + 3) ls rest)) : W p l e R s m args below meth c H locs cells slots Q (F0 m pc ls st0) := by
  intro T hT X
  obtain ⟨v, st₀, t, T', Ls, h0, X', hL, e1, e2, ⟨hv, hz, hB, hk⟩, st⟩ := hr T hT X
  cases hv
  rw [h0] at hk
  obtain ⟨t2, a1, b1⟩ := kk T'.heap (locs ++ Ls) (by rw [e1]; exact hz) (by rw [e1]; exact hB) (fun q h2 => by rw [e1]; exact hk q h2)
    ⟨fun q h2 => by rw [e1, hk q (by omega)]; exact hS.1 q h2, fun x hx => by
      rcases List.mem_append.mp hx with h | h
      · exact hS.2 x h
      · exact Nat.le_trans ha (hL x h)⟩ T' rfl X'
  exact ⟨t2, st t2 a1, b1⟩
theorem i_ret (hx : p.tables.exec = Jvm.exec) (hb : c.code = cc) (hr : meth.sig.returnType = none) (hlocks : meth.locks = false) (hS : iS (o + w) s.heap H locs) (hz : H.size = o + n) (hB : bkR D E L o w n M H) {ls : Array Slot} (hdg : decode cc pc = .ok (.return_, 1)) : W p l e R s m args below meth c H locs cells slots (MQ below (bQi D E L o w n M) args s cells slots (fun q => o + w ≤ q)) (F0 m pc ls []) :=
  W.vret hx hb hr (fun t ht _ => ⟨rfl, by rw [ht]; exact hz, by rw [ht]; exact hB, fun q hq => by rw [ht]; exact hS.1 q hq⟩) hS.2 hdg hlocks
/-- an int array is written -/
theorem i_iast (hexec : p.tables.exec = Jvm.exec) (hb : c.code = cc) (hK : va_K D vwCl (tysE E) s) (hB : bkR D E L o w n M H) (hS : iS a H0 H locs) (k : Nat) (hk1 : w ≤ k) (hk2 : k < n) (ha : a ≤ o + k) {N : Nat} (hL : L[k]? = some (.inl (0, N))) {i x : Int32} (hin : vp_in i N) (hdg : decode cc pc = .ok (.iastore, 1))
    (kk : ∀ (H1 : Heap) (locs1 : List Loc), bkR D E L o w n (up2 M k i.toNatClampNeg x) H1 → H1.size = H.size → (∀ q : Nat, q ≠ o + k → H1[q]? = H[q]?) → iS a H0 H1 locs1 → W p l e R s m args below meth c H1 locs1 cells slots Q (F0 m (pc + 1) ls rest)) : W p l e R s m args below meth c H locs cells slots Q (F0 m pc ls (.int x :: .int i :: .ref (o + k) :: rest)) := by
  refine W.iast hexec hb (hB k _ hk1 hk2 hL) ((hK.2 0 _ rfl).1 N (fun j => .int (M k j))) (fun q => by cases q) (by show ¬ (i < 0 ∨ (arrV _ _ _).slots.size ≤ _); rw [arrV_size]; exact hin) rfl rfl hdg fun H1 e z oq => ?_
  refine kk H1 _ (fun k' c' h1 h2 hL' => ?_) z oq ⟨fun q hq => by rw [oq q (Nat.ne_of_lt (Nat.lt_of_lt_of_le hq ha))]; exact hS.1 q hq, fun y hy => by
    rcases List.mem_append.mp hy with h9 | h9
    · exact hS.2 y h9
    · rw [List.mem_singleton.mp h9]; exact ha⟩
  by_cases hk : k' = k
  · subst hk
    cases hL.symm.trans hL'
    rw [up2_same]
    show H1[o + k']? = some (vp_cell _ _)
    rw [e]
    show some ((vp_cell (E 0) (N, .inl (M k'))).setSlot _ _) = _
    rw [vp_cell_i, vp_cell_i, arrV_store]
    congr 2
    funext q
    by_cases hq : q = i.toNatClampNeg
    · subst hq
      simp [updV, upd]
    · simp [updV, upd, hq]
  · rw [up2_row hk]
    exact (hB k' c' h1 h2 hL').kept (oq _ (by show o + k' ≠ o + k; omega))
/-- a call that reads alone -/
theorem i_pI {f : Int32 → Prop} {av : Array Value} {st0 : List Value} (hr : va_Run p l e R s m args below meth c H locs cells slots 0 0 (F0 m pc ls st0) rest (bQ (aI fun r _ => f r) bNo av) bNo) (hS : iS a H0 H locs)
    (kk : ∀ (r : Int32), f r → ∀ locs1 : List Loc, iS a H0 H locs1 → W p l e R s m args below meth c H locs1 cells slots Q (F0 m (pc + 3) ls (.int r :: rest))) : W p l e R s m args below meth c H locs cells slots Q (F0 m pc ls st0) := by
  intro T hT X
  obtain ⟨v, st₀, t, T', Ls, h0, X', hL, e1, e2, ⟨⟨v', hv, r, hr9, hf⟩, hz, hk⟩, st⟩ := hr T hT X
  cases hv
  cases hr9
  rw [h0] at hz hk
  have e3 : T'.heap = H := by rw [e1]; exact heap_same hk
  obtain ⟨t2, a1, b1⟩ := kk r hf (locs ++ Ls) ⟨hS.1, fun x hx => by
      rcases List.mem_append.mp hx with h | h
      · exact hS.2 x h
      · exact (hL x h).elim⟩ T' e3 X'
  exact ⟨t2, st t2 a1, b1⟩
/-- a void method of the object that is made -/
theorem i_mV {f : bM → Prop} {av : Array Value} {A1 : Nat → Prop} {st0 : List Value} (hr : va_Run p l e R s m args below meth c H locs cells slots 0 0 (F0 m pc ls st0) rest (bQ (aV fun H => ∃ M1 : bM, f M1 ∧ bk D E L o M1 H) A1 av) A1) (hS : iS a H0 H locs) (hA : ∀ q, A1 q → a ≤ q)
    (kk : ∀ (M1 : bM), f M1 → ∀ (H1 : Heap) (locs1 : List Loc), bk D E L o M1 H1 → H1.size = H.size → iS a H0 H1 locs1 → W p l e R s m args below meth c H1 locs1 cells slots Q (F0 m (pc + 3) ls rest)) : W p l e R s m args below meth c H locs cells slots Q (F0 m pc ls st0) := by
  intro T hT X
  obtain ⟨v, st₀, t, T', Ls, h0, X', hL, e1, e2, ⟨⟨v', hv, hv9, M1, hf, hB⟩, hz, hk⟩, st⟩ := hr T hT X
  cases hv
  cases hv9
  rw [h0] at hz hk
  obtain ⟨t2, a1, b1⟩ := kk M1 hf T'.heap (locs ++ Ls) (by rw [e1]; exact hB) (by rw [e1]; exact hz) ⟨fun q hq => by rw [e1, hk q (fun z => Nat.not_le_of_lt hq (hA q z))]; exact hS.1 q hq, fun x hx => by
      rcases List.mem_append.mp hx with h | h
      · exact hS.2 x h
      · exact hA _ (hL x h)⟩ T' rfl X'
  exact ⟨t2, st t2 a1, b1⟩
/-- a new array of games -/
theorem i_anew (hexec : p.tables.exec = Jvm.exec) (hb : c.code = cc) {own : String} {index : Nat} (hown : s.vm.findClass own = some m.cls) (hclink : (Cond.classLink own index RX0).before args s = true) (hover : va_AO RX0 s) (hK : va_K D vwCl (tysE E) s) {v : Int32} {N : Nat} (hn : ¬ v < 0) (hN : v.toNatClampNeg = N) (hbytes : N * 4 ≤ 536870912) (hcells : cells + 1 ≤ R.cells) (hslots : slots + N ≤ R.slots) (hz : H.size = o + n) (hdg : decode cc pc = .ok (.anewarray index, 3))
    (kk : ∀ (H1 : Heap), H1.size = o + (n + 1) → va_at D vwCl (o + n, .inl (E 3, N, .inr (.inr (.inr (.inr (fun _ => none)))))) H1 → (∀ q : Nat, q < o + n → H1[q]? = H[q]?) → W p l e R s m args below meth c H1 locs (cells + 1) (slots + N) Q (F0 m (pc + 3) ls (.ref (o + n) :: rest))) : W p l e R s m args below meth c H locs cells slots Q (F0 m pc ls (.int v :: rest)) := by
  subst hN
  have hE := (hK.2 3 _ rfl).2
  obtain ⟨kA0, comp0, _, _, _, hE4⟩ := hE
  refine W.anew hexec hb hown hclink (va_AO.use hover) rfl hdg rfl hn hbytes hcells hslots fun cA kA comp f1 f2 f3 f4 => ?_
  have hcA : cA = E 3 := by
    first
      | exact Option.some.inj (f1.symm.trans hE4)
      | exact Option.some.inj (f4.symm.trans hE4)
      | exact Option.some.inj (f2.symm.trans hE4)
      | exact Option.some.inj (f3.symm.trans hE4)
  generalize hH1 : H.push ({ cls := cA, slots := Array.replicate v.toNatClampNeg .null, vm := .none } : Cell) = H1
  have z1 : H1.size = H.size + 1 := by rw [← hH1, Array.size_push]
  have e1 : H1[H.size]? = some (arrV cA v.toNatClampNeg (fun _ => .null)) := by rw [← hH1, Array.getElem?_push_size, ← arrV_new]
  have o1 : ∀ q : Nat, q < H.size → H1[q]? = H[q]? := fun q hq => by rw [← hH1, Array.getElem?_push, if_neg (Nat.ne_of_lt hq)]
  rw [hz] at e1 o1 z1
  have k2 := kk H1 (by omega) (by
    show H1[o + n]? = some (vp_cell (E 3) (v.toNatClampNeg, _))
    rw [vp_cell_q, e1, hcA]
    rfl) o1
  rw [hz]
  exact k2
/-- a game is laid into the array -/
theorem i_aast (hexec : p.tables.exec = Jvm.exec) (hb : c.code = cc) (hK : va_K D vwCl (tysE E) s) (hS : iS a H0 H locs) {b v N : Nat} {vs : List Value} {f : Nat → Option Nat} (hP : va_at D vwCl (b, .inl (E 3, N, .inr (.inr (.inr (.inr f))))) H) (hab : a ≤ b) (hv : va_at D vwCl (v, .inr (0, vs)) H) {i : Int32} (hin : vp_in i N) (hdg : decode cc pc = .ok (.aastore, 1))
    (kk : ∀ (H1 : Heap) (locs1 : List Loc), va_at D vwCl (b, .inl (E 3, N, .inr (.inr (.inr (.inr (va_up f i.toNatClampNeg (some v))))))) H1 → H1.size = H.size → (∀ q : Nat, q ≠ b → H1[q]? = H[q]?) → iS a H0 H1 locs1 → W p l e R s m args below meth c H1 locs1 cells slots Q (F0 m (pc + 1) ls rest)) : W p l e R s m args below meth c H locs cells slots Q (F0 m pc ls (.ref v :: .int i :: .ref b :: rest)) := by
  have hlt : i.toNatClampNeg < N := Nat.not_le.mp fun q => hin (Or.inr q)
  have h0 : ¬ i < 0 := fun q => hin (Or.inl q)
  obtain ⟨r', hr', cellV, g1, g2, g3, -⟩ := hv
  have hcls := (hK.1 0 (RX0, TX0, 12) rfl).2
  obtain ⟨kA, comp, k1, k2, k3, -⟩ := (hK.2 3 _ rfl).2
  have hcomp : comp = D.1 0 := Option.some.inj (k3.symm.trans hcls.1)
  subst hcomp
  obtain ⟨kC, hkC, -⟩ := hcls.2
  refine W.aast hexec hb hP (fun q h => by cases h) (fun h => by cases h) k1 k2 rfl hkC ⟨h0, by show _ < (arrV _ _ _).slots.size; rw [arrV_size]; exact hlt⟩ g1 (fun q h => by rw [g3] at h; cases h) (by rw [g2]; exact hkC) (by rw [g2]; exact va_assign hcls) rfl rfl hdg fun H1 e z oq => ?_
  refine kk H1 _ ?_ z oq ⟨fun q hq => by rw [oq q (Nat.ne_of_lt (Nat.lt_of_lt_of_le hq hab))]; exact hS.1 q hq, fun y hy => by
    rcases List.mem_append.mp hy with h9 | h9
    · exact hS.2 y h9
    · rw [List.mem_singleton.mp h9]; exact hab⟩
  show H1[b]? = some (vp_cell _ _)
  rw [e]
  show some ((vp_cell (E 3) (N, .inr (.inr (.inr (.inr f))))).setSlot _ _) = _
  rw [vp_cell_q, vp_cell_q, arrV_store]
  congr 2
  funext q
  by_cases hq : q = i.toNatClampNeg
  · subst hq
    simp [updV, va_up, va_rf]
  · simp [updV, va_up, hq]
end BI
abbrev Z0 : bM := fun _ _ => 0
/-- the memory of a new object: the cells beside each other are laid -/
def zW (i : Nat) : bM := fun k j => if k = 24 ∧ j < i then f_X6_cellBeside (nI j / 3) (nI j - nI j / 3 * 3) else 0
theorem zW_0 : zW 0 = Z0 := by funext k j; unfold zW; rw [if_neg (fun q => Nat.not_lt_zero _ q.2)]
theorem zW_s (i : Nat) : up2 (zW i) 24 i (f_X6_cellBeside (nI i / 3) (nI i - nI i / 3 * 3)) = zW (i + 1) := by
  funext k j
  unfold up2 zW
  by_cases h : k = 24 ∧ j = i
  · rw [if_pos h, if_pos ⟨h.1, by omega⟩, h.2]
  · rw [if_neg h]
    by_cases h2 : k = 24 ∧ j < i
    · rw [if_pos h2, if_pos ⟨h2.1, by omega⟩]
    · rw [if_neg h2, if_neg (fun q => by
        by_cases h3 : j = i
        · exact h ⟨q.1, h3⟩
        · exact h2 ⟨q.1, by omega⟩)]
theorem zW_row {i k : Nat} (h : k ≠ 24) : Z0 k = zW i k := by funext j; unfold zW; rw [if_neg (fun q => h q.1)]
theorem bkR_cong {D : va_G} {E : Nat → ClassId} {L : List bC} {o w n : Nat} {M M' : bM} {H : Heap} (e : ∀ k, w ≤ k → k < n → M k = M' k) (h : bkR D E L o w n M H) : bkR D E L o w n M' H := fun k x h1 h2 hL => by
  rw [← e k h1 h2]
  exact h k x h1 h2 hL
theorem bkR_P {D : va_G} {E : Nat → ClassId} {L : List bC} {o w n : Nat} {M : bM} {H : Heap} (h : bkR D E L o w n M H) {k : Nat} {x : bC} (h1 : w ≤ k) (h2 : k < n) (hL : L[k]? = some x) : va_P D vwCl [(o + k, bcell E o x (M k))] H := fun i q hq => by
  have hz : i < 1 := (List.getElem?_eq_some_iff.mp hq).1
  rw [show i = 0 by omega] at hq
  cases hq
  exact h k x h1 h2 hL
theorem va_P1 {D : va_G} {b : Nat} {x : va_E} {H : Heap} (h : va_at D vwCl (b, x) H) : va_P D vwCl [(b, x)] H := fun i q hq => by
  have hz : i < 1 := (List.getElem?_eq_some_iff.mp hq).1
  rw [show i = 0 by omega] at hq
  cases hq
  exact h
theorem bk_all {D : va_G} {E : Nat → ClassId} {L : List bC} {o n : Nat} {M : bM} {H : Heap} (hn : L.length = n) (h : bkR D E L o 0 n M H) : bk D E L o M H := fun k x hL => h k x (Nat.zero_le _) (by rw [← hn]; exact (List.getElem?_eq_some_iff.mp hL).1) hL
theorem bk_R {D : va_G} {E : Nat → ClassId} {L : List bC} {o n : Nat} {M : bM} {H : Heap} (h : bk D E L o M H) : bkR D E L o 0 n M H := fun k x _ _ hL => h k x hL
def hsF (o i : Nat) : Nat → Option Nat := fun j => if j < i then some (o + (32 + 10 * j)) else none
theorem hsF_0 (o : Nat) : hsF o 0 = fun _ => none := by funext j; unfold hsF; rw [if_neg (Nat.not_lt_zero _)]
theorem hsF_s (o i : Nat) : va_up (hsF o i) i (some (o + (32 + 10 * i))) = hsF o (i + 1) := by
  funext j
  unfold va_up hsF
  by_cases h : j = i
  · rw [if_pos h, if_pos (show j < i + 1 by omega), h]
  · rw [if_neg h]
    by_cases h2 : j < i
    · rw [if_pos h2, if_pos (show j < i + 1 by omega)]
    · rw [if_neg h2, if_neg (show ¬ j < i + 1 by omega)]
theorem arrV_cong {cI : ClassId} {N : Nat} {f g : Nat → Value} (h : ∀ j, j < N → f j = g j) : arrV cI N f = arrV cI N g := by
  have e : (fun j : Fin N => f j.val) = fun j : Fin N => g j.val := funext fun j => h j.val j.isLt
  unfold arrV
  rw [e]
theorem hist_at {D : va_G} {E : Nat → ClassId} {o : Nat} {r : Nat → Int32} {H : Heap} (h : va_at D vwCl (o + 31, .inl (E 3, 14, .inr (.inr (.inr (.inr (hsF o 14)))))) H) : va_at D vwCl (o + 31, bcell E o (.inr (.inr (3, 14, 32, 10))) r) H := by
  show H[o + 31]? = some (vp_cell (E 3) (14, _))
  have h1 : H[o + 31]? = some (vp_cell (E 3) (14, .inr (.inr (.inr (.inr (hsF o 14)))))) := h
  rw [h1, vp_cell_q, vp_cell_q]
  exact congrArg some (arrV_cong (fun j hj => by
    show va_rf (hsF o 14 j) = _
    unfold hsF
    rw [if_pos hj]))
