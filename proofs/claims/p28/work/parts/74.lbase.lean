/-! THE LAW'S METHODS: worlds over objects that say a state -/
abbrev Ob (D : va_G) (E : Nat → ClassId) (o : Nat) (S : aT) (H : Heap) : Prop := ∃ M : bM, rl M S ∧ bk D E LRM o M H
def lP (D : va_G) (E : Nat → ClassId) (av : List Value) (P : Heap → Prop) (A : Nat → Prop) : Array Value → State → Prop := fun v U => v = av.toArray ∧ P U.heap ∧ bKX D E U ∧ bZ A U U.heap ∧ bNc U
def lQ (post : Int32 → Heap → Prop) (A : Nat → Prop) : Array Value → State → Outcome → State → Prop := fun _ st oc t => (∃ r : Int32, oc = .returned (some (.int r)) ∧ post r t.heap) ∧ va_F A st t
abbrev lRm (k mc ms : Nat) : Room := { frames := k, cells := mc, slots := ms, locals := 32 * k }
theorem lBlind {D : va_G} {E : Nat → ClassId} {av : List Value} {P : Heap → Prop} {A : Nat → Prop} : FrameBlind (lP D E av P A) := fun a U g mk q => ⟨q.1, q.2.1, ⟨⟨va_K.moved (u := U) (U := U.calling g mk a) (Vm.Alike.refl U.vm) q.2.2.1.1.1, fun k z hz => va_Nw.same (u := U) (U := U.calling g mk a) rfl rfl (q.2.2.1.1.2 k z hz)⟩, bT.same (s := U) (U := U.calling g mk a) rfl q.2.2.1.2.1, bStr.same (s := U) (U := U.calling g mk a) rfl q.2.2.1.2.2⟩, bZ.moved (u := U) (U := U.calling g mk a) (Vm.Alike.refl U.vm) q.2.2.2.1, bNc.moved (u := U) (U := U.calling g mk a) (Vm.Alike.refl U.vm) q.2.2.2.2⟩
theorem Ob.kept {D : va_G} {E : Nat → ClassId} {q : Nat} {S : aT} {H H1 : Heap} {A1 : Nat → Prop} (h : Ob D E q S H) (hq : ∀ x : Nat, x < H.size → ¬ A1 x → H1[x]? = H[x]?) (hd : ∀ x : Nat, q ≤ x → x < q + 194 → ¬ A1 x) : Ob D E q S H1 := by
  obtain ⟨M, hM, hB⟩ := h
  exact ⟨M, hM, bk_kept hB (fun x h1 h2 => hq x (bk_size hB LRM_len x h1 (by rw [LRM_len] at h2; exact h2)) (hd x h1 (by rw [LRM_len] at h2; exact h2)))⟩
section LB
variable {p : Program} {l : Launch} {e : Env} {R : Room} {s : State} {m : MethodId} {args : Array Value} {below : List Frame} {meth : Method} {c : Code} {H : Heap} {locs : List Loc} {cells slots : Nat} {Q : State → Prop}
variable {cc : ByteArray} {pc : Nat} {ls : Array Slot} {rest : List Value} {D : va_G} {E : Nat → ClassId} {o : Nat} {A0 A1 : Nat → Prop} {H0 : Heap}
variable {y : MethodName} {bytes : ByteArray} {maxL nL n index mc ms cells' slots' : Nat} {ret : Option FieldType} {ws : List Cond} {rm : Room} {Ts : List Cond} {own C : String} {b : Addr} {As st0 : List Value} {P : Heap → Prop} {post : Int32 → Heap → Prop} {lv : List (Nat × Value)}
/-- calls of the law's own methods -/
theorem l_runS {Qc : Array Value → State → Outcome → State → Prop} (S : CallFix p m c cc nL s args Ts own) (hM : Met l y ws rm (lP D E As P A1) Qc mc ms A1) (cw : CallB R s args own index y bytes maxL ret ws rm mc ms n ∧ (Cond.static y).before args s = true) (hP : P H) (hKX : bKX D E s) (hZ : bZ A1 s H) (hC : bNc s) (hn : As.length = n) (hl : lv_has ls nL lv) (hst : st0 = As.reverse ++ rest) (hW : (rest.map fun v => v.category).sum ≤ 8) (hdg : decode cc pc = .ok (.invokestatic index, 3)) (hf : cells + mc ≤ R.cells ∧ slots + ms ≤ R.slots) :
    va_Run p l e R s m args below meth c H locs cells slots mc ms (F0 m pc ls st0) rest (Qc As.toArray) A1 :=
  va_runS S hM cw ⟨lBlind, fun U hU hW => ⟨rfl, by rw [hU]; exact hP, bKX.warm hW hKX, by rw [hU]; exact bZ.moved hW.alike hZ, bNc.moved hW.alike hC⟩⟩ rfl hn hl.1 hst (lv_room hW) hdg hf
theorem l_runSX {Qc : Array Value → State → Outcome → State → Prop} {hh : List (Nat × Nat × Nat × Nat)} (S : CallFix p m c cc nL s args Ts own) (hM : vx_Met l y ws rm (lP D E As P A1) Qc xNo mc ms A1) (cw : vx_CSW R s args own index y bytes maxL ret hh ws rm mc ms n) (hP : P H) (hKX : bKX D E s) (hZ : bZ A1 s H) (hC : bNc s) (hn : As.length = n) (hl : lv_has ls nL lv) (hst : st0 = As.reverse ++ rest) (hW : (rest.map fun v => v.category).sum ≤ 8) (hdg : decode cc pc = .ok (.invokestatic index, 3)) (hf : cells + mc ≤ R.cells ∧ slots + ms ≤ R.slots) :
    vx_Run p l e R s m args below meth c H locs cells slots mc ms (F0 m pc ls st0) rest (Qc As.toArray) xNo A1 :=
  vx_runSX S hM cw ⟨lBlind, fun U hU hW => ⟨rfl, by rw [hU]; exact hP, bKX.warm hW hKX, by rw [hU]; exact bZ.moved hW.alike hZ, bNc.moved hW.alike hC⟩⟩ rfl hn hl.1 hst (lv_room hW) hdg hf
theorem l_go {av : Array Value} (hr : va_Run p l e R s m args below meth c H locs cells slots mc ms (F0 m pc ls st0) rest (lQ post A1 av) A1) (hS : va_S A0 H0 H locs) (hA : ∀ q, A1 q → A0 q) (hc : cells + mc ≤ cells' ∧ slots + ms ≤ slots')
    (kk : ∀ (r : Int32) (H1 : Heap) (locs1 : List Loc), post r H1 → (∀ q : Nat, q < H.size → ¬ A1 q → H1[q]? = H[q]?) → H.size ≤ H1.size → va_S A0 H0 H1 locs1 → W p l e R s m args below meth c H1 locs1 cells' slots' Q (F0 m (pc + 3) ls (.int r :: rest))) : W p l e R s m args below meth c H locs cells slots Q (F0 m pc ls st0) := by
  intro T hT X
  obtain ⟨v, st₀, t, T', Ls, h0, X', hL, e1, e2, ⟨⟨r, hv, hp⟩, hz, hk⟩, st⟩ := hr T hT X
  cases hv
  rw [h0] at hz hk
  obtain ⟨t2, a1, b1⟩ := W.widen hc.1 hc.2 (kk r T'.heap (locs ++ Ls) (by rw [e1]; exact hp) (fun q h h2 => by rw [e1]; exact hk q h h2) (by rw [e1]; exact hz)
    ⟨by rw [e1]; exact Nat.le_trans hS.1 hz, fun q h1 h2 => by rw [e1, hk q (Nat.lt_of_lt_of_le h1 hS.1) (fun z => h2 (hA q z))]; exact hS.2.1 q h1 h2, fun q hq => by
      rcases List.mem_append.mp hq with h | h
      · exact hS.2.2 q h
      · exact hA _ (hL q h)⟩) T' rfl X'
  exact ⟨t2, st t2 a1, b1⟩
theorem l_goX {av : Array Value} (hr : vx_Run p l e R s m args below meth c H locs cells slots mc ms (F0 m pc ls st0) rest (lQ post A1 av) xNo A1) (hS : va_S A0 H0 H locs) (hA : ∀ q, A1 q → A0 q) (hc : cells + mc ≤ cells' ∧ slots + ms ≤ slots')
    (kk : ∀ (r : Int32) (H1 : Heap) (locs1 : List Loc), post r H1 → (∀ q : Nat, q < H.size → ¬ A1 q → H1[q]? = H[q]?) → H.size ≤ H1.size → va_S A0 H0 H1 locs1 → W p l e R s m args below meth c H1 locs1 cells' slots' Q (F0 m (pc + 3) ls (.int r :: rest))) : W p l e R s m args below meth c H locs cells slots Q (F0 m pc ls st0) := by
  intro T hT X
  rcases hr T hT X with ⟨v, st₀, t, T', Ls, h0, X', hL, e1, e2, ⟨⟨r, hv, hp⟩, hz, hk⟩, st⟩ | ⟨q, st₀, t, T', Ls, Ex, ce, h0, X', hL, e1, e2, hno, _⟩
  · cases hv
    rw [h0] at hz hk
    obtain ⟨t2, a1, b1⟩ := W.widen hc.1 hc.2 (kk r T'.heap (locs ++ Ls) (by rw [e1]; exact hp) (fun q h h2 => by rw [e1]; exact hk q h h2) (by rw [e1]; exact hz)
      ⟨by rw [e1]; exact Nat.le_trans hS.1 hz, fun q h1 h2 => by rw [e1, hk q (Nat.lt_of_lt_of_le h1 hS.1) (fun z => h2 (hA q z))]; exact hS.2.1 q h1 h2, fun q hq => by
        rcases List.mem_append.mp hq with h | h
        · exact hS.2.2 q h
        · exact hA _ (hL q h)⟩) T' rfl X'
    exact ⟨t2, st t2 a1, b1⟩
  · exact absurd hno (fun z => z)
/-- ends -/
theorem l_iret {v : Int32} (hx : p.tables.exec = Jvm.exec) (hb : c.code = cc) (hr : meth.sig.returnType = some .int) (hlocks : meth.locks = false) (hS : va_S A1 s.heap H locs) (hp : post v H) (hc : cells ≤ mc ∧ slots ≤ ms) {ls : Array Slot} (hdg : decode cc pc = .ok (.ireturn, 1)) : W p l e R s m args below meth c H locs cells slots (MQ below (lQ post A1) args s mc ms A1) (F0 m pc ls [.int v]) :=
  W.widen hc.1 hc.2 (W.iret hx hb hr (fun t ht _ => ⟨⟨_, rfl, by rw [ht]; exact hp⟩, hS.F ht⟩) hS.2.2 hdg hlocks)
theorem l_zret {v : Int32} (hx : p.tables.exec = Jvm.exec) (hb : c.code = cc) (hr : meth.sig.returnType = some .boolean) (hv : v = 0 ∨ v = 1) (hlocks : meth.locks = false) (hS : va_S A1 s.heap H locs) (hp : post v H) (hc : cells ≤ mc ∧ slots ≤ ms) {ls : Array Slot} (hdg : decode cc pc = .ok (.ireturn, 1)) : W p l e R s m args below meth c H locs cells slots (MQ below (lQ post A1) args s mc ms A1) (F0 m pc ls [.int v]) :=
  W.widen hc.1 hc.2 (W.zret hx hb hr (nar_z hv) (fun t ht _ => ⟨⟨_, rfl, by rw [ht]; exact hp⟩, hS.F ht⟩) hS.2.2 hdg hlocks)
theorem l_Z {A : Nat → Prop} (hZ : bZ A0 s s.heap) (hS : va_S A0 s.heap H locs) (hA : ∀ q, A q → A0 q) : bZ A s H := bZ.narrow (bZ.kept hZ (fun a h h2 => hS.2.1 a h h2)) hA
theorem xret {v : Int32} (hx : p.tables.exec = Jvm.exec) (hb : c.code = cc) (hr : meth.sig.returnType = some .int) (hlocks : meth.locks = false) (hS : va_S A1 s.heap H locs) (hp : post v H) {ls : Array Slot} (hdg : decode cc pc = .ok (.ireturn, 1)) : W p l e R s m args below meth c H locs (0 + 1) (0 + 6) (vx_MQ below (lQ post A1) xNo args s 1 6 A1) (F0 m pc ls [.int v]) :=
  vx_ret (W.iret hx hb hr (fun t ht _ => ⟨⟨_, rfl, by rw [ht]; exact hp⟩, hS.F ht⟩) hS.2.2 hdg hlocks)
/-- calls of the class from the law -/
theorem l_runC {Qc : Array Value → State → Outcome → State → Prop} {A2 : Nat → Prop} (S : CallFix p m c cc nL s args Ts own) (hM : Met l y ws rm (bPc D E (.ref b :: As) P) Qc 0 0 A2) (cw : CallW R s args own C index y bytes maxL ret ws rm 0 0 n) (hK : bK D E s) (hv : ∃ cell : Cell, H[b]? = some cell ∧ cell.vm.isStatics = false ∧ s.vm.findClass C = some cell.cls) (hP : P H) (hn : As.length = n) (hl : lv_has ls nL lv) (hst : st0 = As.reverse ++ .ref b :: rest) (hW : (rest.map fun v => v.category).sum ≤ 8) (hdg : decode cc pc = .ok (.invokevirtual index, 3)) (hf : cells + 0 ≤ R.cells ∧ slots + 0 ≤ R.slots) :
    va_Run p l e R s m args below meth c H locs cells slots 0 0 (F0 m pc ls st0) rest (Qc (Value.ref b :: As).toArray) A2 :=
  va_runV S hM cw ⟨bBlind, hv, fun U hU hW => ⟨rfl, by rw [hU]; exact hP, bK.warm hW hK⟩⟩ rfl hn hl.1 hst (lv_room hW) hdg hf
/-- a value that two roads lay down -/
theorem w_jn {G : Int32 → Prop} {P0 : Int32 → Prop} {T : Prop} (kk : ∀ v, P0 v → G v) (br : (∀ v, P0 v → G v) → T) : T := br kk
end LB
