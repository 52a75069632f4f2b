/-! BASE, second half: the world of methods that may throw -/
def xIAE : String := "java/lang/IllegalArgumentException"
def xISE : String := "java/lang/IllegalStateException"
def xIOB : String := "java/lang/IndexOutOfBoundsException"
def xNames : List String := ["java/lang/RuntimeException", "java/lang/Exception"]
def exn : Nat → String
  | 1 => xIAE
  | 2 => xISE
  | 3 => xIOB
  | _ => ""
def xDecl : List MethodName := [⟨"java/lang/RuntimeException", "<init>", "(Ljava/lang/String;)V"⟩, ⟨"java/lang/Exception", "<init>", "(Ljava/lang/String;)V"⟩, ⟨"java/lang/Throwable", "<init>", "(Ljava/lang/String;)V"⟩]
def xCast : List String := [xIAE, xISE, xIOB]
def thrB : List Cond := xDecl.map Cond.declares ++ xCast.map (fun z => Cond.castable z z)
def bT (U : State) : Prop := (∀ x ∈ xDecl, va_Nw (.declares x) U) ∧ ∀ z ∈ xCast, va_Nw (.castable z z) U
theorem bT.warm {s U : State} (hW : s.WarmedH U.vm) (h : bT s) : bT U := ⟨fun x hx => va_Nw.warmD hW (h.1 x hx), fun z hz => va_Nw.warmC hW (h.2 z hz)⟩
theorem bT.same {s U : State} (hv : s.vm = U.vm) (h : bT s) : bT U := ⟨fun x hx => va_Nw.same rfl hv (h.1 x hx), fun z hz => va_Nw.same rfl hv (h.2 z hz)⟩
theorem bT.words {args : Array Value} {s : State} (h : bT s) : ∀ w ∈ thrB, w.before args s = true := by
  intro w hw
  rcases List.mem_append.mp hw with h1 | h1
  · obtain ⟨x, hx, rfl⟩ := List.mem_map.mp h1
    exact va_Nw.use rfl (h.1 x hx)
  · obtain ⟨z, hz, rfl⟩ := List.mem_map.mp h1
    exact va_Nw.use rfl (h.2 z hz)
def strL : List (Nat × String) := [(55, "a character code is 0 to 255"), (66, "the text has 120 characters already"), (80, "the text is not a game"), (134, "what is 0 to 8"), (141, "a player is 0 or 1"), (166, "what is 0 to 5"), (172, "there is no such cell"), (191, "what is 0 to 3"), (196, "the river has not so many cells"), (198, "a setting is 0 or 1"), (214, "a direction is 0 to 2"), (216, "the game is over"), (228, "the game is over, or a step is possible"), (237, "there is no such setting or value"), (245, "no state is remembered"), (256, "a way is 0 or 1"), (283, "a script has 1 to 4 commands"), (285, "a script is not negative"), (291, "a script has at most 4 digits a command"), (301, "m is 1 to 200"), (315, "a save slot is 0 or 1"), (324, "nothing has been saved in the slot")]
def bStr (U : State) : Prop := ∀ (k : Nat) (q : Nat × String), strL[k]? = some q → ∃ a, vk_R RX6 q.1 q.2 a U
theorem bStr.warm {s U : State} (hW : s.WarmedH U.vm) (h : bStr s) : bStr U := fun k q hq => by
  obtain ⟨a, ha⟩ := h k q hq
  exact ⟨a, vk_R.warm hW ha⟩
theorem bStr.same {s U : State} (hv : s.vm = U.vm) (h : bStr s) : bStr U := fun k q hq => by
  obtain ⟨a, ha⟩ := h k q hq
  exact ⟨a, vk_R.same hv.symm ha⟩
abbrev bKX (D : va_G) (E : Nat → ClassId) (U : State) : Prop := bK D E U ∧ bT U ∧ bStr U
theorem bKX.warm {D : va_G} {E : Nat → ClassId} {s U : State} (hW : s.WarmedH U.vm) (h : bKX D E s) : bKX D E U := ⟨bK.warm hW h.1, bT.warm hW h.2.1, bStr.warm hW h.2.2⟩
abbrev bZ (A : Nat → Prop) (U : State) (H : Heap) : Prop := vx_Zq Bundle.tN "UNASSIGNED_STACK" Bundle.steD A U H ∧ vx_Zq Bundle.tN "SUPPRESSED_SENTINEL" Bundle.listD A U H
theorem bZ.moved {A : Nat → Prop} {u U : State} {H : Heap} (hvm : u.vm.Alike U.vm) (h : bZ A u H) : bZ A U H := ⟨vx_Zq.moved hvm h.1, vx_Zq.moved hvm h.2⟩
theorem bZ.kept {A : Nat → Prop} {U : State} {H H1 : Heap} (h : bZ A U H) (hq : ∀ a : Nat, a < H.size → ¬ A a → H1[a]? = H[a]?) : bZ A U H1 := ⟨vx_Zq.kept h.1 hq, vx_Zq.kept h.2 hq⟩
theorem bZ.narrow {A B : Nat → Prop} {U : State} {H : Heap} (h : bZ A U H) (hAB : ∀ q, B q → A q) : bZ B U H := ⟨vx_Zq.narrow h.1 hAB, vx_Zq.narrow h.2 hAB⟩
def bPx (D : va_G) (E : Nat → ClassId) (av : List Value) (P : Heap → Prop) (A : Nat → Prop) : Array Value → State → Prop := fun v U => v = av.toArray ∧ P U.heap ∧ bKX D E U ∧ bZ A U U.heap
theorem bxBlind {D : va_G} {E : Nat → ClassId} {av : List Value} {P : Heap → Prop} {A : Nat → Prop} : FrameBlind (bPx D E av P A) := fun a U g mk q => ⟨q.1, q.2.1, ⟨⟨va_K.moved (u := U) (U := U.calling g mk a) (Vm.Alike.refl U.vm) q.2.2.1.1.1, fun k z hz => va_Nw.same (u := U) (U := U.calling g mk a) rfl rfl (q.2.2.1.1.2 k z hz)⟩, bT.same (s := U) (U := U.calling g mk a) rfl q.2.2.1.2.1, bStr.same (s := U) (U := U.calling g mk a) rfl q.2.2.1.2.2⟩, bZ.moved (u := U) (U := U.calling g mk a) (Vm.Alike.refl U.vm) q.2.2.2⟩
/-- the end of a method that has thrown: what it has laid -/
def bX (D : va_G) (E : Nat → ClassId) (L : List bC) (o : Nat) (f : Nat → bM → Prop) (A : Nat → Prop) : String → State → State → Prop := fun Ex st t => ∃ (e : Nat) (M1 : bM), f e M1 ∧ exn e = Ex ∧ bk D E L o M1 t.heap ∧ va_F A st t
abbrev rmX (k : Nat) : Room := { frames := k, cells := 1, slots := 6, locals := 30 * k }
section BX
variable {p : Program} {l : Launch} {e : Env} {R : Room} {s : State} {m : MethodId} {args : Array Value} {below : List Frame} {meth : Method} {c : Code} {H : Heap} {locs : List Loc} {cells slots : Nat} {Q : State → Prop}
variable {cc : ByteArray} {pc : Nat} {ls : Array Slot} {rest : List Value} {D : va_G} {E : Nat → ClassId} {L : List bC} {o : Nat} {M : bM} {A : Nat → Prop} {H0 : Heap}
theorem bS_va (h : bS A H0 H locs) : va_S A H0 H locs := ⟨Nat.le_of_eq h.1.symm, fun q _ hq => h.2.1 q hq, h.2.2⟩
theorem x_iret {post : Option Value → Heap → Prop} {XC : String → State → State → Prop} {v : Int32} (hx : p.tables.exec = Jvm.exec) (hb : c.code = cc) (hr : meth.sig.returnType = some .int) (hlocks : meth.locks = false) (hS : bS A s.heap H locs) (hp : post (some (.int v)) H) {ls : Array Slot} (hdg : decode cc pc = .ok (.ireturn, 1)) : W p l e R s m args below meth c H locs 0 0 (vx_MQ below (bQ post A) XC args s 1 6 A) (F0 m pc ls [.int v]) :=
  W.widen (k := 1) (n := 6) (Nat.zero_le _) (Nat.zero_le _) (vx_ret (W.iret hx hb hr (fun t ht _ => ⟨⟨_, rfl, by rw [ht]; exact hp⟩, by rw [ht]; exact hS.1, fun q hq => by rw [ht]; exact hS.2.1 q hq⟩) hS.2.2 hdg hlocks))
theorem x_throw {f : Nat → bM → Prop} {en : Nat} {Ex : String} (hB : bk D E L o M H) (hS : bS A s.heap H locs) (hlen : ∀ (k : Nat) (c : bC), L[k]? = some c → o + k < H.size) (hf : f en M) (he : exn en = Ex) : ∀ t : State, s.vm.Alike t.vm → H.size ≤ t.heap.size → (∀ q : Nat, q < H.size → t.heap[q]? = H[q]?) → bX D E L o f A Ex s t := by
  intro t _ hz hq
  refine ⟨en, M, hf, he, fun k x hL => (hB k x hL).kept (hq (o + k) (hlen k x hL)), by rw [← hS.1]; exact hz, fun q h1 h2 => ?_⟩
  rw [hq q (by rw [hS.1]; exact h1)]
  exact hS.2.1 q h2
theorem bk_lt (hB : bk D E L o M H) : ∀ (k : Nat) (c : bC), L[k]? = some c → o + k < H.size := fun k x hL => (hB k x hL).lt
end BX
theorem ot1 : ∀ w ∈ Cond.classLink RX6 53 xIAE :: Cond.initialized xIAE :: vx_atS RX6 57 xIAE xNames, vx_ot w = true := by decide +kernel
theorem ot2 : ∀ w ∈ Cond.classLink RX6 64 xISE :: Cond.initialized xISE :: vx_atS RX6 68 xISE xNames, vx_ot w = true := by decide +kernel
theorem ot3 : ∀ w ∈ Cond.classLink RX6 139 xIOB :: Cond.initialized xIOB :: vx_atS RX6 143 xIOB xNames, vx_ot w = true := by decide +kernel
theorem ng1 : ∀ w ∈ (vx_atS RX6 57 xIAE xNames).filter (fun w => !goodWord w), w ∈ thrB := by decide +kernel
theorem ng2 : ∀ w ∈ (vx_atS RX6 68 xISE xNames).filter (fun w => !goodWord w), w ∈ thrB := by decide +kernel
theorem ng3 : ∀ w ∈ (vx_atS RX6 143 xIOB xNames).filter (fun w => !goodWord w), w ∈ thrB := by decide +kernel
theorem fit1 : Bundle.fit xIAE = true := by decide +kernel
theorem fit2 : Bundle.fit xISE = true := by decide +kernel
theorem fit3 : Bundle.fit xIOB = true := by decide +kernel
theorem fitN : ∀ n ∈ xNames, Bundle.fit n = true := by decide +kernel
