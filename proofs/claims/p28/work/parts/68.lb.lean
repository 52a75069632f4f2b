/-! THE LAW: what a helper sees, and rows over it -/
abbrev hA (o w : Nat) : Nat → Prop := fun q => rA o q ∨ q = w
abbrev lgc (w : Nat) (E : Nat → ClassId) (f : Nat → Int64) : Nat × va_E := (w, .inl (E 4, 1, .inr (.inl f)))
def xNc : List (String × String) := [(xISE, xIAE), (xIAE, xIOB), (xISE, xIOB)]
def bNc (U : State) : Prop := ∀ (k : Nat) (q : String × String), xNc[k]? = some q → va_Nc q.1 q.2 U
theorem bNc.moved {u U : State} (hvm : u.vm.Alike U.vm) (h : bNc u) : bNc U := fun k q hq => va_Nc.moved hvm (h k q hq)
def bPh (D : va_G) (E : Nat → ClassId) (av : List Value) (o w : Nat) (f : Nat → Int64) (M : bM) : Array Value → State → Prop := fun v U => v = av.toArray ∧ bk D E LRM o M U.heap ∧ va_at D vwCl (lgc w E f) U.heap ∧ bKX D E U ∧ bZ (hA o w) U U.heap ∧ bNc U
def bQh (D : va_G) (E : Nat → ClassId) (o w : Nat) (F : Nat × Int32 × bM) (a b : Nat) : Array Value → State → Outcome → State → Prop := fun _ st oc t => oc = .returned (some (.int (plc a b F.1))) ∧ bk D E LRM o F.2.2 t.heap ∧ (∃ f1 : Nat → Int64, va_at D vwCl (lgc w E f1) t.heap ∧ (F.1 = 0 → f1 0 = F.2.1.toInt64)) ∧ va_F (hA o w) st t
abbrev xNo : String → State → State → Prop := fun _ _ _ => False
theorem bhBlind {D : va_G} {E : Nat → ClassId} {av : List Value} {o w : Nat} {f : Nat → Int64} {M : bM} : FrameBlind (bPh D E av o w f M) := fun a U g mk q => ⟨q.1, q.2.1, q.2.2.1, ⟨⟨va_K.moved (u := U) (U := U.calling g mk a) (Vm.Alike.refl U.vm) q.2.2.2.1.1.1, fun k z hz => va_Nw.same (u := U) (U := U.calling g mk a) rfl rfl (q.2.2.2.1.1.2 k z hz)⟩, bT.same (s := U) (U := U.calling g mk a) rfl q.2.2.2.1.2.1, bStr.same (s := U) (U := U.calling g mk a) rfl q.2.2.2.1.2.2⟩, bZ.moved (u := U) (U := U.calling g mk a) (Vm.Alike.refl U.vm) q.2.2.2.2.1, bNc.moved (u := U) (U := U.calling g mk a) (Vm.Alike.refl U.vm) q.2.2.2.2.2⟩
theorem ex_tab {p : Program} {l : Launch} {x : MethodName} {S : Spec} {code : ByteArray} {maxL : Nat} {ret : Option FieldType} {e : Env} {s : State} {m : MethodId} {args : Array Value} {below : List Frame} {meth : Method} {c : Code} {s₁ : State} {hh : List (Nat × Nat × Nat × Nat)} (B : BodyLoose p l x S code maxL ret e s m args below meth c s₁) (h : (Cond.codeWith x code maxL ret hh).before args s = true) : c.exceptionTable.toList.map (fun h => (h.startPc, h.endPc, h.handlerPc, h.catchType)) = hh := by
  obtain ⟨m9, meth9, c9, hn9, h1, h2, h3, h4, h5, _⟩ := Cond.codeWith_spec h
  cases B.named.symm.trans hn9
  cases B.method.symm.trans h1
  cases (Stand.of_body B).code.symm.trans h2
  exact h5
theorem ex_one {l : List ExceptionTableEntry} {a b c d : Nat} (h : l.map (fun h => (h.startPc, h.endPc, h.handlerPc, h.catchType)) = [(a, b, c, d)]) : l = [⟨a, b, c, d⟩] := by
  match l, h with
  | [⟨a1, b1, c1, d1⟩], h =>
    simp only [List.map_cons, List.map_nil, List.cons.injEq, Prod.mk.injEq, and_true] at h
    obtain ⟨rfl, rfl, rfl, rfl⟩ := h
    rfl
  | [], h => simp at h
  | _ :: _ :: _, h => simp at h
theorem ex_two {l : List ExceptionTableEntry} {a b c d a' b' c' d' : Nat} (h : l.map (fun h => (h.startPc, h.endPc, h.handlerPc, h.catchType)) = [(a, b, c, d), (a', b', c', d')]) : l = [⟨a, b, c, d⟩, ⟨a', b', c', d'⟩] := by
  match l, h with
  | [⟨a1, b1, c1, d1⟩, ⟨a2, b2, c2, d2⟩], h =>
    simp only [List.map_cons, List.map_nil, List.cons.injEq, Prod.mk.injEq, and_true] at h
    obtain ⟨⟨rfl, rfl, rfl, rfl⟩, rfl, rfl, rfl, rfl⟩ := h
    rfl
  | [], h => simp at h
  | [_], h => simp at h
  | _ :: _ :: _ :: _, h => simp at h
theorem cast_of {args : Array Value} {s : State} (h : bT s) {z : String} (hz : z ∈ xCast) : (Cond.castable z z).before args s = true := va_Nw.use rfl (h.2 z hz)
section BL
variable {p : Program} {l : Launch} {e : Env} {R : Room} {s : State} {m : MethodId} {args : Array Value} {below : List Frame} {meth : Method} {c : Code} {H : Heap} {locs : List Loc} {cells slots : Nat} {Q : State → Prop}
variable {cc : ByteArray} {pc : Nat} {ls : Array Slot} {rest : List Value} {D : va_G} {E : Nat → ClassId} {L : List bC} {o w : Nat} {M : bM} {A0 A1 : Nat → Prop} {H0 : Heap} {f : Nat → Int64}
variable {y : MethodName} {bytes : ByteArray} {maxL nL n index : Nat} {ret : Option FieldType} {ws : List Cond} {rm : Room} {Ts : List Cond} {own C : String} {b : Addr} {As st0 : List Value} {P : Heap → Prop} {lv : List (Nat × Value)}
/-- a call of a method that may throw -/
theorem h_runV {Qc : Array Value → State → Outcome → State → Prop} {XC : String → State → State → Prop} (S : CallFix p m c cc nL s args Ts own) (hM : vx_Met l y ws rm (bPx D E (.ref b :: As) P A1) Qc XC 1 6 A1) (cw : CallW R s args own C index y bytes maxL ret ws rm 1 6 n) (hKX : bKX D E s) (hZ : bZ A1 s H) (hv : ∃ cell : Cell, H[b]? = some cell ∧ cell.vm.isStatics = false ∧ s.vm.findClass C = some cell.cls) (hP : P H) (hn : As.length = n) (hl : lv_has ls nL lv) (hst : st0 = As.reverse ++ .ref b :: rest) (hW : (rest.map fun v => v.category).sum ≤ 8) (hdg : decode cc pc = .ok (.invokevirtual index, 3)) (hf : cells + 1 ≤ R.cells ∧ slots + 6 ≤ R.slots) :
    vx_Run p l e R s m args below meth c H locs cells slots 1 6 (F0 m pc ls st0) rest (Qc (Value.ref b :: As).toArray) XC A1 :=
  vx_runV S hM cw ⟨bxBlind, hv, fun U hU hW => ⟨rfl, by rw [hU]; exact hP, bKX.warm hW hKX, by rw [hU]; exact bZ.moved hW.alike hZ⟩⟩ rfl hn hl.1 hst (lv_room hW) hdg hf
/-- .. both its ends -/
theorem h_call {av : Array Value} {fX : Nat → bM → Prop} {g : Int32 → bM → Prop} (hr : vx_Run p l e R s m args below meth c H locs cells slots 1 6 (F0 m pc ls st0) rest (bQ (aI fun r H => ∃ M1 : bM, g r M1 ∧ bk D E L o M1 H) A1 av) (bX D E L o fX A1) A1) (hS : va_S A0 H0 H locs) (hA : ∀ q, A1 q → A0 q)
    (kx : ∀ (en : Nat) (M1 : bM), fX en M1 → ∀ (H1 : Heap) (locs1 : List Loc) (q9 : Addr) (ce : Cell), bk D E L o M1 H1 → (∀ q : Nat, q < H.size → ¬ A1 q → H1[q]? = H[q]?) → va_S A0 H0 H1 locs1 → H1[q9]? = some ce → ce.vm = .none → s.vm.findClass (exn en) = some ce.cls → vx_W p l e R s m args below meth c H1 locs1 (cells + 1) (slots + 6) Q (F0 m pc ls rest) q9)
    (kk : ∀ (r : Int32) (M1 : bM), g r M1 → ∀ (H1 : Heap) (locs1 : List Loc), bk D E L o M1 H1 → (∀ q : Nat, ¬ A1 q → H1[q]? = H[q]?) → H1.size = H.size → va_S A0 H0 H1 locs1 → W p l e R s m args below meth c H1 locs1 (cells + 1) (slots + 6) Q (F0 m (pc + 3) ls (.int r :: rest))) : W p l e R s m args below meth c H locs cells slots Q (F0 m pc ls st0) := by
  intro T hT X
  rcases hr T hT X with ⟨v, st₀, t, T', Ls, h0, X', hL, e1, e2, ⟨⟨v', hv, r, hr9, M1, hg, hB⟩, hz, hk⟩, st⟩ | ⟨q, st₀, t, T', Ls, Ex, ce, h0, X', hL, e1, e2, ⟨en, M1, hfx, he, hB, hF⟩, hce, hcv, hcl, st⟩
  · cases hv
    cases hr9
    rw [h0] at hz hk
    obtain ⟨t2, a1, b1⟩ := kk r M1 hg T'.heap (locs ++ Ls) (by rw [e1]; exact hB) (fun q h => by rw [e1]; exact hk q h) (by rw [e1]; exact hz)
      ⟨by rw [e1, hz]; exact hS.1, fun q h1 h2 => by rw [e1, hk q (fun z => h2 (hA q z))]; exact hS.2.1 q h1 h2, fun q hq => by
        rcases List.mem_append.mp hq with h | h
        · exact hS.2.2 q h
        · exact hA _ (hL q h)⟩ T' rfl X'
    exact ⟨t2, st t2 a1, b1⟩
  · subst he
    obtain ⟨hz, hk⟩ := hF
    rw [h0] at hz hk
    obtain ⟨t2, a1, b1⟩ := kx en M1 hfx T'.heap (locs ++ Ls) q ce (by rw [e1]; exact hB) (fun q h h2 => by rw [e1]; exact hk q h h2)
      ⟨by rw [e1]; exact Nat.le_trans hS.1 hz, fun q h1 h2 => by rw [e1, hk q (Nat.lt_of_lt_of_le h1 hS.1) (fun z => h2 (hA q z))]; exact hS.2.1 q h1 h2, fun q hq => by
        rcases List.mem_append.mp hq with h | h
        · exact hS.2.2 q h
        · exact hA _ (hL q h)⟩ (by rw [e1]; exact hce) hcv hcl T' rfl X'
    exact ⟨t2, st.trans a1, b1⟩
/-- caught by the first handler, or by the second -/
theorem h_c1 {en : Nat} {q9 : Addr} {ce : Cell} (hown : s.vm.findClass own = some m.cls) (x : ExceptionTableEntry) (suf : List ExceptionTableEntry) (hT : c.exceptionTable.toList = x :: suf) (hx : covers x pc = true) (h0 : x.catchType ≠ 0) (hlink : (Cond.classLink own x.catchType (exn en)).before args s = true) (hcast : (Cond.castable (exn en) (exn en)).before args s = true) (hcell : H[q9]? = some ce) (hv : ce.vm = .none) (hcl : s.vm.findClass (exn en) = some ce.cls)
    (kk : W p l e R s m args below meth c H locs cells slots Q (F0 m x.handlerPc ls [.ref q9])) : vx_W p l e R s m args below meth c H locs cells slots Q (F0 m pc ls rest) q9 :=
  vx_catch hown [] x suf hT (fun z hz => absurd hz List.not_mem_nil) hx h0 hlink hcast hcell hv hcl kk
theorem h_c2 {en : Nat} {nm : String} {q9 : Addr} {ce : Cell} (hown : s.vm.findClass own = some m.cls) (y x : ExceptionTableEntry) (suf : List ExceptionTableEntry) (hT : c.exceptionTable.toList = y :: x :: suf) (hy0 : y.catchType ≠ 0) (hyl : (Cond.classLink own y.catchType nm).before args s = true) (hyn : va_Nc (exn en) nm s) (hx : covers x pc = true) (h0 : x.catchType ≠ 0) (hlink : (Cond.classLink own x.catchType (exn en)).before args s = true) (hcast : (Cond.castable (exn en) (exn en)).before args s = true) (hcell : H[q9]? = some ce) (hv : ce.vm = .none) (hcl : s.vm.findClass (exn en) = some ce.cls)
    (kk : W p l e R s m args below meth c H locs cells slots Q (F0 m x.handlerPc ls [.ref q9])) : vx_W p l e R s m args below meth c H locs cells slots Q (F0 m pc ls rest) q9 :=
  vx_catch hown [y] x suf hT (fun z hz => by
    rw [List.mem_singleton.mp hz]
    exact Or.inr ⟨hy0, nm, hyl, hyn⟩) hx h0 hlink hcast hcell hv hcl kk
theorem h_iret {F : Nat × Int32 × bM} {a b : Nat} {k : Int32} {f1 : Nat → Int64} (hx : p.tables.exec = Jvm.exec) (hb : c.code = cc) (hr : meth.sig.returnType = some .int) (hlocks : meth.locks = false) (hS : va_S (hA o w) s.heap H locs) (hk : k = plc a b F.1) (hB : bk D E LRM o F.2.2 H) (hw : va_at D vwCl (lgc w E f1) H) (hz : F.1 = 0 → f1 0 = F.2.1.toInt64) (hdg : decode cc pc = .ok (.ireturn, 1)) : W p l e R s m args below meth c H locs (0 + 1) (0 + 6) (vx_MQ below (bQh D E o w F a b) xNo args s 1 6 (hA o w)) (F0 m pc ls [.int k]) := by
  subst hk
  exact vx_ret (W.iret hx hb hr (fun t ht _ => ⟨rfl, by rw [ht]; exact hB, ⟨f1, by rw [ht]; exact hw, hz⟩, hS.F ht⟩) hS.2.2 hdg hlocks)
/-- the law calls a helper -/
theorem w_runS {Qc : Array Value → State → Outcome → State → Prop} {hh : List (Nat × Nat × Nat × Nat)} (S : CallFix p m c cc nL s args Ts own) (hM : vx_Met l y ws rm (bPh D E As o w f M) Qc xNo 1 6 (hA o w)) (cw : vx_CSW R s args own index y bytes maxL ret hh ws rm 1 6 n) (hB : bk D E LRM o M H) (hP : va_at D vwCl (lgc w E f) H) (hKX : bKX D E s) (hZ : bZ (hA o w) s H) (hC : bNc s) (hn : As.length = n) (hl : lv_has ls nL lv) (hst : st0 = As.reverse ++ rest) (hW : (rest.map fun v => v.category).sum ≤ 8) (hdg : decode cc pc = .ok (.invokestatic index, 3)) (hf : cells + 1 ≤ R.cells ∧ slots + 6 ≤ R.slots) :
    vx_Run p l e R s m args below meth c H locs cells slots 1 6 (F0 m pc ls st0) rest (Qc As.toArray) xNo (hA o w) :=
  vx_runSX S hM cw ⟨bhBlind, fun U hU hW => ⟨rfl, by rw [hU]; exact hB, by rw [hU]; exact hP, bKX.warm hW hKX, by rw [hU]; exact bZ.moved hW.alike hZ, bNc.moved hW.alike hC⟩⟩ rfl hn hl.1 hst (lv_room hW) hdg hf
theorem w_help {F : Nat × Int32 × bM} {a b : Nat} {av : Array Value} (hr : vx_Run p l e R s m args below meth c H locs cells slots 1 6 (F0 m pc ls st0) rest (bQh D E o w F a b av) xNo (hA o w)) (hS : va_S A0 H0 H locs) (hA0 : ∀ q, hA o w q → A0 q)
    (kk : ∀ (H1 : Heap) (locs1 : List Loc) (f1 : Nat → Int64), bk D E LRM o F.2.2 H1 → va_at D vwCl (lgc w E f1) H1 → (F.1 = 0 → f1 0 = F.2.1.toInt64) → (∀ q : Nat, q < H.size → ¬ hA o w q → H1[q]? = H[q]?) → H.size ≤ H1.size → va_S A0 H0 H1 locs1 → W p l e R s m args below meth c H1 locs1 (cells + 1) (slots + 6) Q (F0 m (pc + 3) ls (.int (plc a b F.1) :: rest))) : W p l e R s m args below meth c H locs cells slots Q (F0 m pc ls st0) := by
  intro T hT X
  rcases hr T hT X with ⟨v, st₀, t, T', Ls, h0, X', hL, e1, e2, ⟨hv, hB, ⟨f1, hP, hf⟩, hz, hk⟩, st⟩ | ⟨q, st₀, t, T', Ls, Ex, ce, h0, X', hL, e1, e2, hno, _⟩
  · cases hv
    rw [h0] at hz hk
    obtain ⟨t2, a1, b1⟩ := kk T'.heap (locs ++ Ls) f1 (by rw [e1]; exact hB) (by rw [e1]; exact hP) hf (fun q h h2 => by rw [e1]; exact hk q h h2) (by rw [e1]; exact hz)
      ⟨by rw [e1]; exact Nat.le_trans hS.1 hz, fun q h1 h2 => by rw [e1, hk q (Nat.lt_of_lt_of_le h1 hS.1) (fun z => h2 (hA0 q z))]; exact hS.2.1 q h1 h2, fun q hq => by
        rcases List.mem_append.mp hq with h | h
        · exact hS.2.2 q h
        · exact hA0 _ (hL q h)⟩ T' rfl X'
    exact ⟨t2, st t2 a1, b1⟩
  · exact absurd hno (fun z => z)
/-- the law calls a method that doesn't throw -/
theorem w_mI {g : Int32 → bM → Prop} {av : Array Value} (hr : va_Run p l e R s m args below meth c H locs cells slots 0 0 (F0 m pc ls st0) rest (bQ (aI fun r H => ∃ M1 : bM, g r M1 ∧ bk D E L o M1 H) A1 av) A1) (hS : va_S A0 H0 H locs) (hA : ∀ q, A1 q → A0 q)
    (kk : ∀ (r : Int32) (M1 : bM), g r M1 → ∀ (H1 : Heap) (locs1 : List Loc), bk D E L o M1 H1 → (∀ q : Nat, ¬ A1 q → H1[q]? = H[q]?) → H1.size = H.size → va_S A0 H0 H1 locs1 → W p l e R s m args below meth c H1 locs1 cells slots Q (F0 m (pc + 3) ls (.int r :: rest))) : W p l e R s m args below meth c H locs cells slots Q (F0 m pc ls st0) := by
  intro T hT X
  obtain ⟨v, st₀, t, T', Ls, h0, X', hL, e1, e2, ⟨⟨v', hv, r, hr9, M1, hg, hB⟩, hz, hk⟩, st⟩ := hr T hT X
  cases hv
  cases hr9
  rw [h0] at hz hk
  obtain ⟨t2, a1, b1⟩ := kk r M1 hg T'.heap (locs ++ Ls) (by rw [e1]; exact hB) (fun q h => by rw [e1]; exact hk q h) (by rw [e1]; exact hz)
    ⟨by rw [e1, hz]; exact hS.1, fun q h1 h2 => by rw [e1, hk q (fun z => h2 (hA q z))]; exact hS.2.1 q h1 h2, fun q hq => by
      rcases List.mem_append.mp hq with h | h
      · exact hS.2.2 q h
      · exact hA _ (hL q h)⟩ T' rfl X'
  exact ⟨t2, st t2 a1, b1⟩
theorem w_pI {g : Int32 → Prop} {av : Array Value} (hr : va_Run p l e R s m args below meth c H locs cells slots 0 0 (F0 m pc ls st0) rest (bQ (aI fun r _ => g r) bNo av) bNo) (hS : va_S A0 H0 H locs)
    (kk : ∀ (r : Int32), g r → ∀ locs1 : List Loc, va_S A0 H0 H locs1 → W p l e R s m args below meth c H locs1 cells slots Q (F0 m (pc + 3) ls (.int r :: rest))) : W p l e R s m args below meth c H locs cells slots Q (F0 m pc ls st0) := by
  intro T hT X
  obtain ⟨v, st₀, t, T', Ls, h0, X', hL, e1, e2, ⟨⟨v', hv, r, hr9, hg⟩, hz, hk⟩, st⟩ := hr T hT X
  cases hv
  cases hr9
  rw [h0] at hz hk
  have e3 : T'.heap = H := by rw [e1]; exact heap_same hk
  obtain ⟨t2, a1, b1⟩ := kk r hg (locs ++ Ls) ⟨hS.1, hS.2.1, fun q hq => by
      rcases List.mem_append.mp hq with h | h
      · exact hS.2.2 q h
      · exact (hL q h).elim⟩ T' e3 X'
  exact ⟨t2, st t2 a1, b1⟩
end BL
