/-! BASE: a memory of int rows laid over consecutive cells; one world a system; rows over it -/
abbrev bC : Type := (Nat × Nat) ⊕ ((Nat × List (Option Nat)) ⊕ (Nat × Nat × Nat × Nat))
abbrev bM : Type := Nat → Nat → Int32
def bfs (o : Nat) (r : Nat → Int32) : Nat → List (Option Nat) → List Value
  | _, [] => []
  | j, none :: l => .int (r j) :: bfs o r (j + 1) l
  | j, some a :: l => .ref (o + a) :: bfs o r (j + 1) l
theorem bfs_cong {o : Nat} {r r' : Nat → Int32} : ∀ (l : List (Option Nat)) (j : Nat), (∀ q, j ≤ q → r q = r' q) → bfs o r j l = bfs o r' j l
  | [], _, _ => rfl
  | none :: l, j, h => by rw [bfs, bfs, h j (Nat.le_refl j), bfs_cong l (j + 1) (fun q hq => h q (by omega))]
  | some a :: l, j, h => by rw [bfs, bfs, bfs_cong l (j + 1) (fun q hq => h q (by omega))]
theorem bfs_set {o : Nat} {r : Nat → Int32} {v : Int32} : ∀ (l : List (Option Nat)) (j i : Nat), l[i]? = some none → (bfs o r j l).set i (.int v) = bfs o (upd r (j + i) v) j l
  | [], j, i, h => by simp at h
  | none :: l, j, 0, h => by
    rw [bfs, bfs, List.set_cons_zero, Nat.add_zero, bfs_cong (r := r) (r' := upd r j v) l (j + 1) (fun q hq => by simp [upd, show ¬ q = j by omega])]
    simp [upd]
  | some a :: l, j, 0, h => by simp at h
  | none :: l, j, i + 1, h => by
    rw [List.getElem?_cons_succ] at h
    rw [bfs, bfs, List.set_cons_succ, bfs_set l (j + 1) i h, show j + 1 + i = j + (i + 1) by omega]
    simp [upd, show ¬ j = j + (i + 1) by omega]
  | some a :: l, j, i + 1, h => by
    rw [List.getElem?_cons_succ] at h
    rw [bfs, bfs, List.set_cons_succ, bfs_set l (j + 1) i h, show j + 1 + i = j + (i + 1) by omega]
theorem bfs_length {o : Nat} {r : Nat → Int32} : ∀ (l : List (Option Nat)) (j : Nat), (bfs o r j l).length = l.length
  | [], _ => rfl
  | none :: l, j => by rw [bfs, List.length_cons, List.length_cons, bfs_length l (j + 1)]
  | some a :: l, j => by rw [bfs, List.length_cons, List.length_cons, bfs_length l (j + 1)]
def bcell (E : Nat → ClassId) (o : Nat) (c : bC) (r : Nat → Int32) : va_E := match c with
  | .inl (e, n) => .inl (E e, n, .inl r)
  | .inr (.inl (ci, sp)) => .inr (ci, bfs o r 0 sp)
  | .inr (.inr (e, n, a, d)) => .inl (E e, n, .inr (.inr (.inr (.inr (fun i => some (o + (a + d * i)))))))
def bk (D : va_G) (E : Nat → ClassId) (L : List bC) (o : Nat) (M : bM) (H : Heap) : Prop := ∀ (k : Nat) (c : bC), L[k]? = some c → va_at D vwCl (o + k, bcell E o c (M k)) H
def up2 (M : bM) (k j : Nat) (v : Int32) : bM := fun a b => if a = k ∧ b = j then v else M a b
theorem up2_row {M : bM} {k j a : Nat} {v : Int32} (h : a ≠ k) : up2 M k j v a = M a := by funext b; simp [up2, h]
theorem up2_same (M : bM) (k j : Nat) (v : Int32) : up2 M k j v k = upd (M k) j v := by funext b; simp [up2, upd]
abbrev tysE (E : Nat → ClassId) : List (ClassId × FieldType) := [(E 0, .int), (E 1, .boolean), (E 2, .char), (E 3, .object "RiverMeeting$Game")]
def bS (A : Nat → Prop) (H0 H : Heap) (locs : List Loc) : Prop := H.size = H0.size ∧ (∀ q : Nat, ¬ A q → H[q]? = H0[q]?) ∧ ∀ l ∈ locs, A l.base
theorem bS.rf {A : Nat → Prop} {H0 : Heap} : bS A H0 H0 [] := ⟨rfl, fun _ _ => rfl, fun _ h => by cases h⟩
theorem bS.put {A : Nat → Prop} {H0 H H1 : Heap} {locs : List Loc} {a k : Nat} (h : bS A H0 H locs) (z : H1.size = H.size) (oq : ∀ q : Nat, q ≠ a → H1[q]? = H[q]?) (ha : A a) : bS A H0 H1 (locs ++ [⟨a, k⟩]) := by
  refine ⟨by rw [z]; exact h.1, fun q h2 => ?_, fun q hq => ?_⟩
  · rw [oq q (fun e => h2 (by rw [e]; exact ha))]
    exact h.2.1 q h2
  · rcases List.mem_append.mp hq with h1 | h1
    · exact h.2.2 q h1
    · rw [List.mem_singleton.mp h1]
      exact ha
def nestL : List (String × Nat × MethodName) := [(RX5, 82, yX6_copyRow), (RX5, 56, yX6_fits), (RX5, 31, yX6_cellBeside), (RX3, 9, yX0_init), (RX2, 43, yX6_copyRow), (RX2, 36, yX6_fits), (RX1, 17, yX0_init), (RX0, 91, yX6_fits), (RX0, 80, yX6_drawnFrom), (RX0, 76, yX6_nextNumber), (RX0, 180, yX6_copyRow), (RX0, 120, yX6_cellBeside), (RX0, 11, yX2_init), (RX0, 105, yX6_isSettingValue), (RX6, 9, yX4_init), (RX6, 42, yX3_init), (RX6, 18, yX0_init)]
def bN (U : State) : Prop := ∀ (k : Nat) (q : String × Nat × MethodName), nestL[k]? = some q → va_Nw (.methodLinkNest q.1 q.2.1 q.2.2 "RiverMeeting") U
abbrev bK (D : va_G) (E : Nat → ClassId) (U : State) : Prop := va_K D vwCl (tysE E) U ∧ bN U
theorem bK.warm {D : va_G} {E : Nat → ClassId} {s U : State} (hW : s.WarmedH U.vm) (h : bK D E s) : bK D E U := ⟨va_K.moved hW.alike h.1, fun k q hq => va_Nw.warmM hW (h.2 k q hq)⟩
def bPc (D : va_G) (E : Nat → ClassId) (av : List Value) (P : Heap → Prop) : Array Value → State → Prop := fun v U => v = av.toArray ∧ P U.heap ∧ bK D E U
def bQ (post : Option Value → Heap → Prop) (A : Nat → Prop) : Array Value → State → Outcome → State → Prop := fun _ st oc t => (∃ v : Option Value, oc = .returned v ∧ post v t.heap) ∧ t.heap.size = st.heap.size ∧ ∀ q : Nat, ¬ A q → t.heap[q]? = st.heap[q]?
abbrev bNo : Nat → Prop := fun _ => False
abbrev rmF (k : Nat) : Room := { frames := k, cells := 0, slots := 0, locals := 30 * k }
theorem bBlind {D : va_G} {E : Nat → ClassId} {av : List Value} {P : Heap → Prop} : FrameBlind (bPc D E av P) := fun a U g mk q => ⟨q.1, q.2.1, va_K.moved (u := U) (U := U.calling g mk a) (Vm.Alike.refl U.vm) q.2.2.1, fun k z hz => va_Nw.same (u := U) (U := U.calling g mk a) rfl rfl (q.2.2.2 k z hz)⟩
-- what a call answers
abbrev aI (f : Int32 → Heap → Prop) : Option Value → Heap → Prop := fun v H => ∃ r : Int32, v = some (.int r) ∧ f r H
abbrev aL (f : Int64 → Heap → Prop) : Option Value → Heap → Prop := fun v H => ∃ r : Int64, v = some (.long r) ∧ f r H
abbrev aR (f : Nat → Heap → Prop) : Option Value → Heap → Prop := fun v H => ∃ r : Nat, v = some (.ref r) ∧ f r H
abbrev aV (f : Heap → Prop) : Option Value → Heap → Prop := fun v H => v = none ∧ f H
section BK
variable {p : Program} {l : Launch} {e : Env} {R : Room} {s : State} {m : MethodId} {args : Array Value} {below : List Frame} {meth : Method} {c : Code} {H : Heap} {locs : List Loc} {cells slots : Nat} {Q : State → Prop}
variable {cc : ByteArray} {pc : Nat} {ls : Array Slot} {rest : List Value} {D : va_G} {cl : List vw_C} {E : Nat → ClassId} {L : List bC} {o a : Nat} {M : bM} {tys : List (ClassId × FieldType)} {A : Nat → Prop} {H0 : Heap}
theorem bk_one (hB : bk D E L o M H) {k : Nat} {x : bC} (hL : L[k]? = some x) : va_P D vwCl [(o + k, bcell E o x (M k))] H := by
  intro i q hi
  match i, hi with
  | 0, hi => cases hi; exact hB k x hL
  | i + 1, hi => simp at hi
theorem bk_kept {H1 : Heap} (hB : bk D E L o M H) (hq : ∀ q : Nat, o ≤ q → q < o + L.length → H1[q]? = H[q]?) : bk D E L o M H1 := fun k x hL => (hB k x hL).kept (hq (o + k) (by omega) (by have := (List.getElem?_eq_some_iff.mp hL).1; omega))
theorem bk_recv {C : String} {T : u_T} {N ci k : Nat} {sp : List (Option Nat)} (hK : va_K D vwCl tys s) (hB : bk D E L o M H) (hL : L[k]? = some (.inr (.inl (ci, sp)))) (hc : vwCl[ci]? = some (C, T, N)) : ∃ cell : Cell, H[o + k]? = some cell ∧ cell.vm.isStatics = false ∧ s.vm.findClass C = some cell.cls :=
  va_recv hK (bk_one hB hL) (q0 := 0) hc rfl
/-- a field is read -/
theorem b_get (hexec : p.tables.exec = Jvm.exec) (hb : c.code = cc) {own ref C : String} {T : u_T} {N ci index : Nat} {Ts : List Cond} (hts : ∀ w ∈ Ts, w.before args s = true) (hin : ∀ w ∈ u_ws C T N, w ∈ Ts) (hown : s.vm.findClass own = some m.cls) (hK : va_K D vwCl tys s) (hB : bk D E L o M H) (k : Nat) {sp : List (Option Nat)} (hL : L[k]? = some (.inr (.inl (ci, sp)))) (hc : vwCl[ci]? = some (C, T, N)) (j : Nat) (hj : j < N) (hlink : (Cond.fieldLink own index ref (T j).2.1 (T j).2.2.1).before args s = true) (hsame : ∀ x, s.fieldFound? (T j).1 (T j).2.1 (T j).2.2.1 = some x → s.fieldFound? ref (T j).2.1 (T j).2.2.1 = some x) {v : Value} (hv : (bfs o (M k) 0 sp)[j]? = some v) (hdg : decode cc pc = .ok (.getfield index, 3))
    (kk : W p l e R s m args below meth c H locs cells slots Q (F0 m (pc + 3) ls (v :: rest))) : W p l e R s m args below meth c H locs cells slots Q (F0 m pc ls (.ref (o + k) :: rest)) :=
  va_get hexec hb hts hin hown hK (bk_one hB hL) 0 rfl hc j hj hlink hsame hv hdg kk
/-- an object's field is written: the cell alone changes -/
theorem x_put (hexec : p.tables.exec = Jvm.exec) (hb : c.code = cc) {own ref C : String} {T : u_T} {N ci index : Nat} {Ts : List Cond} (hts : ∀ w ∈ Ts, w.before args s = true) (hin : ∀ w ∈ u_ws C T N, w ∈ Ts) (ty0 : Nat → FieldType) (hty : ∀ k, k < N → parseFieldDescriptor (T k).2.2.1 = some (ty0 k)) (hnm : ∀ a, a < N → ∀ b, b < N → a ≠ b → (T a).2.1 ≠ (T b).2.1) (hown : s.vm.findClass own = some m.cls) (hK : va_K D cl tys s) {fs : List Value} (hP : va_at D cl (a, .inr (ci, fs)) H) (hS : bS A H0 H locs) (hA : A a) (hc : cl[ci]? = some (C, T, N)) (k : Nat) (hk : k < N) (hlink : (Cond.fieldLink own index ref (T k).2.1 (T k).2.2.1).before args s = true) (hsame : ∀ x, s.fieldFound? (T k).1 (T k).2.1 (T k).2.2.1 = some x → s.fieldFound? ref (T k).2.1 (T k).2.2.1 = some x) (hfin : (T k).2.2.2 = false) {ty : FieldType} {v : Value} (hd : parseFieldDescriptor (T k).2.2.1 = some ty) (hn : narrow ty v = v) (hfit : fits ty v = true) (hl : k < fs.length)
    (hdg : decode cc pc = .ok (.putfield index, 3)) (kk : ∀ (H1 : Heap) (locs1 : List Loc), va_at D cl (a, .inr (ci, fs.set k v)) H1 → H1.size = H.size → (∀ q : Nat, q ≠ a → H1[q]? = H[q]?) → bS A H0 H1 locs1 → W p l e R s m args below meth c H1 locs1 cells slots Q (F0 m (pc + 3) ls rest)) : W p l e R s m args below meth c H locs cells slots Q (F0 m pc ls (v :: .ref a :: rest)) := by
  have hap := va_apart (own := own) hts hin ty0 hty hnm hK hc
  obtain ⟨r, h1, cell, q1, q2, q3, q4⟩ := hP
  have hr : r = (C, T, N) := Option.some.inj (h1.symm.trans hc)
  subst hr
  obtain ⟨hSl, hfc, kC, hkC, hkind⟩ := hK.1 ci _ hc
  obtain ⟨cf, kf, fi, f, hi, hsl⟩ := hSl k hk
  have hlay := hts _ (hin _ (u_in_lay hk))
  unfold u_lay at hlay
  rw [if_neg (by rw [hfin]; decide)] at hlay
  have hst := (u_facts hfc hkC (u_lays hts hin hk) hi).1
  have h6 := u_store hfc hkC hkind hlay hi hd hn hfit
  refine W.putK hexec hb (f := f) ⟨hown, hlink, ⟨_, _, _, hsame _ hi⟩, hst⟩ (by rw [q2]; exact h6) q1 q3 (by rw [hsl]; exact k2_hasslot (q4 k hk)) rfl rfl hdg fun H' e1 e2 e3 => ?_
  rw [hsl] at e1 ⊢
  exact kk H' _ ⟨_, hc, t_OB.to (V := updV (vp_V fs) k v) ⟨_, e1, q2, q3, t_set q4 hap hk v⟩ (fun j _ => vp_updV_set hl v j)⟩ e2 e3 (hS.put e2 e3 hA)
theorem bk_set {k j : Nat} {v : Int32} {H1 : Heap} (hB : bk D E L o M H) {x : bC} (hL : L[k]? = some x) (h1 : va_at D vwCl (o + k, bcell E o x (up2 M k j v k)) H1) (oq : ∀ q : Nat, q ≠ o + k → H1[q]? = H[q]?) : bk D E L o (up2 M k j v) H1 := by
  intro k' c' hL'
  by_cases hk : k' = k
  · subst hk
    cases hL.symm.trans hL'
    exact h1
  · rw [up2_row hk]
    exact (hB k' c' hL').kept (oq _ (by show o + k' ≠ o + k; omega))
/-- an int field is written -/
theorem b_put (hexec : p.tables.exec = Jvm.exec) (hb : c.code = cc) {own ref C : String} {T : u_T} {N ci index : Nat} {Ts : List Cond} (hts : ∀ w ∈ Ts, w.before args s = true) (hin : ∀ w ∈ u_ws C T N, w ∈ Ts) (ty0 : Nat → FieldType) (hty : ∀ k, k < N → parseFieldDescriptor (T k).2.2.1 = some (ty0 k)) (hnm : ∀ a, a < N → ∀ b, b < N → a ≠ b → (T a).2.1 ≠ (T b).2.1) (hown : s.vm.findClass own = some m.cls) (hK : va_K D vwCl tys s) (hB : bk D E L o M H) (hS : bS A H0 H locs) (k : Nat) (hA : A (o + k)) {sp : List (Option Nat)} (hL : L[k]? = some (.inr (.inl (ci, sp)))) (hc : vwCl[ci]? = some (C, T, N)) (j : Nat) (hj : j < N) (hsp : sp[j]? = some none) (hlink : (Cond.fieldLink own index ref (T j).2.1 (T j).2.2.1).before args s = true) (hsame : ∀ x, s.fieldFound? (T j).1 (T j).2.1 (T j).2.2.1 = some x → s.fieldFound? ref (T j).2.1 (T j).2.2.1 = some x) (hfin : (T j).2.2.2 = false) {ty : FieldType} {v : Int32} (hd : parseFieldDescriptor (T j).2.2.1 = some ty) (hn : narrow ty (.int v) = .int v) (hfit : fits ty (.int v) = true)
    (hdg : decode cc pc = .ok (.putfield index, 3)) (kk : ∀ (M1 : bM), M1 = up2 M k j v → ∀ (H1 : Heap) (locs1 : List Loc), bk D E L o M1 H1 → (∀ q : Nat, q ≠ o + k → H1[q]? = H[q]?) → bS A H0 H1 locs1 → W p l e R s m args below meth c H1 locs1 cells slots Q (F0 m (pc + 3) ls rest)) : W p l e R s m args below meth c H locs cells slots Q (F0 m pc ls (.int v :: .ref (o + k) :: rest)) := by
  have hjl : j < sp.length := (List.getElem?_eq_some_iff.mp hsp).1
  refine x_put hexec hb hts hin ty0 hty hnm hown hK (fs := bfs o (M k) 0 sp) (hB k _ hL) hS hA hc j hj hlink hsame hfin hd hn hfit (by rw [bfs_length]; exact hjl) hdg fun H1 locs1 h1 hz oq hS1 => ?_
  refine kk _ rfl H1 locs1 (bk_set hB hL ?_ oq) oq hS1
  rw [up2_same]
  show va_at D vwCl (o + k, .inr (ci, bfs o (upd (M k) j v) 0 sp)) H1
  rw [bfs_set sp 0 j hsp, Nat.zero_add] at h1
  exact h1
/-- arrays of ints, booleans, chars are read -/
theorem b_iald (hexec : p.tables.exec = Jvm.exec) (hb : c.code = cc) (hK : va_K D vwCl (tysE E) s) (hB : bk D E L o M H) (k : Nat) {n : Nat} (hL : L[k]? = some (.inl (0, n))) {i : Int32} (hin : vp_in i n) (hdg : decode cc pc = .ok (.iaload, 1))
    (kk : W p l e R s m args below meth c H locs cells slots Q (F0 m (pc + 1) ls (.int (M k i.toNatClampNeg) :: rest))) : W p l e R s m args below meth c H locs cells slots Q (F0 m pc ls (.int i :: .ref (o + k) :: rest)) :=
  va_iald hexec hb hK (bk_one hB hL) 0 0 rfl rfl hin hdg kk
theorem b_zald (hexec : p.tables.exec = Jvm.exec) (hb : c.code = cc) (hK : va_K D vwCl (tysE E) s) (hB : bk D E L o M H) (k : Nat) {n : Nat} (hL : L[k]? = some (.inl (1, n))) {i : Int32} (hin : vp_in i n) (hdg : decode cc pc = .ok (.baload, 1))
    (kk : W p l e R s m args below meth c H locs cells slots Q (F0 m (pc + 1) ls (.int (M k i.toNatClampNeg) :: rest))) : W p l e R s m args below meth c H locs cells slots Q (F0 m pc ls (.int i :: .ref (o + k) :: rest)) :=
  va_zald hexec hb hK (bk_one hB hL) 0 1 rfl rfl hin hdg kk
theorem b_cald (hexec : p.tables.exec = Jvm.exec) (hb : c.code = cc) (hK : va_K D vwCl (tysE E) s) (hB : bk D E L o M H) (k : Nat) {n : Nat} (hL : L[k]? = some (.inl (2, n))) {i : Int32} (hin : vp_in i n) (hdg : decode cc pc = .ok (.caload, 1))
    (kk : W p l e R s m args below meth c H locs cells slots Q (F0 m (pc + 1) ls (.int (M k i.toNatClampNeg) :: rest))) : W p l e R s m args below meth c H locs cells slots Q (F0 m pc ls (.int i :: .ref (o + k) :: rest)) :=
  va_cald hexec hb hK (bk_one hB hL) 0 2 rfl rfl hin hdg kk
/-- a cell of an array of references that never change -/
theorem b_aald (hexec : p.tables.exec = Jvm.exec) (hb : c.code = cc) (hK : va_K D vwCl (tysE E) s) (hB : bk D E L o M H) (k : Nat) {n x d : Nat} (hL : L[k]? = some (.inr (.inr (3, n, x, d)))) {i : Int32} (hin : vp_in i n) (hdg : decode cc pc = .ok (.aaload, 1))
    (kk : W p l e R s m args below meth c H locs cells slots Q (F0 m (pc + 1) ls (.ref (o + (x + d * i.toNatClampNeg)) :: rest))) : W p l e R s m args below meth c H locs cells slots Q (F0 m pc ls (.int i :: .ref (o + k) :: rest)) :=
  va_aldq hexec hb hK (bk_one hB hL) 0 3 (C := "RiverMeeting$Game") (f := fun i => some (o + (x + d * i))) rfl rfl hin hdg kk
theorem b_alen (hexec : p.tables.exec = Jvm.exec) (hb : c.code = cc) (hK : va_K D vwCl (tysE E) s) (hB : bk D E L o M H) (k : Nat) {n : Nat} (hL : L[k]? = some (.inl (0, n))) {v : Int32} (hv : Int32.ofNat n = v) (hdg : decode cc pc = .ok (.arraylength, 1))
    (kk : W p l e R s m args below meth c H locs cells slots Q (F0 m (pc + 1) ls (.int v :: rest))) : W p l e R s m args below meth c H locs cells slots Q (F0 m pc ls (.ref (o + k) :: rest)) :=
  va_alen hexec hb hK (bk_one hB hL) 0 0 (x := (n, .inl (M k))) rfl (ty := .int) rfl hv hdg kk
/-- arrays are written -/
theorem b_iast (hexec : p.tables.exec = Jvm.exec) (hb : c.code = cc) (hK : va_K D vwCl (tysE E) s) (hB : bk D E L o M H) (hS : bS A H0 H locs) (k : Nat) (hA : A (o + k)) {n : Nat} (hL : L[k]? = some (.inl (0, n))) {i x : Int32} (hin : vp_in i n) (hdg : decode cc pc = .ok (.iastore, 1))
    (kk : ∀ (M1 : bM), M1 = up2 M k i.toNatClampNeg x → ∀ (H1 : Heap) (locs1 : List Loc), bk D E L o M1 H1 → (∀ q : Nat, q ≠ o + k → H1[q]? = H[q]?) → bS A H0 H1 locs1 → W p l e R s m args below meth c H1 locs1 cells slots Q (F0 m (pc + 1) ls rest)) : W p l e R s m args below meth c H locs cells slots Q (F0 m pc ls (.int x :: .int i :: .ref (o + k) :: rest)) := by
  refine W.iast hexec hb (hB k _ hL) ((hK.2 0 _ rfl).1 n (fun j => .int (M k j))) (fun q => by cases q) (by show ¬ (i < 0 ∨ (arrV _ _ _).slots.size ≤ _); rw [arrV_size]; exact hin) rfl rfl hdg fun H1 e z oq => ?_
  refine kk _ rfl H1 _ (bk_set hB hL ?_ oq) oq (hS.put z oq hA)
  rw [up2_same]
  show H1[o + k]? = some (vp_cell _ _)
  rw [e]
  show some ((vp_cell (E 0) (n, .inl (M k))).setSlot _ _) = _
  rw [vp_cell_i, vp_cell_i, arrV_store]
  congr 2
  funext q
  by_cases hq : q = i.toNatClampNeg
  · subst hq
    simp [updV, upd]
  · simp [updV, upd, hq]
theorem b_zast (hexec : p.tables.exec = Jvm.exec) (hb : c.code = cc) (hK : va_K D vwCl (tysE E) s) (hB : bk D E L o M H) (hS : bS A H0 H locs) (k : Nat) (hA : A (o + k)) {n : Nat} (hL : L[k]? = some (.inl (1, n))) {i x : Int32} (hin : vp_in i n) (hdg : decode cc pc = .ok (.bastore, 1))
    (kk : ∀ (M1 : bM), M1 = up2 M k i.toNatClampNeg (vp_nar .boolean x) → ∀ (H1 : Heap) (locs1 : List Loc), bk D E L o M1 H1 → (∀ q : Nat, q ≠ o + k → H1[q]? = H[q]?) → bS A H0 H1 locs1 → W p l e R s m args below meth c H1 locs1 cells slots Q (F0 m (pc + 1) ls rest)) : W p l e R s m args below meth c H locs cells slots Q (F0 m pc ls (.int x :: .int i :: .ref (o + k) :: rest)) := by
  refine W.zast hexec hb (hB k _ hL) ((hK.2 1 _ rfl).1 n (fun j => .int (M k j))) (fun q => by cases q) (by show ¬ (i < 0 ∨ (arrV _ _ _).slots.size ≤ _); rw [arrV_size]; exact hin) rfl rfl hdg fun H1 e z oq => ?_
  refine kk _ rfl H1 _ (bk_set hB hL ?_ oq) oq (hS.put z oq hA)
  rw [up2_same]
  show H1[o + k]? = some (vp_cell _ _)
  rw [e]
  show some ((vp_cell (E 1) (n, .inl (M k))).setSlot _ _) = _
  rw [vp_cell_i, vp_cell_i, arrV_store]
  congr 2
  funext q
  by_cases hq : q = i.toNatClampNeg
  · subst hq
    simp [updV, upd, vp_nar]
    try rfl
  · simp [updV, upd, hq]
theorem b_cast (hexec : p.tables.exec = Jvm.exec) (hb : c.code = cc) (hK : va_K D vwCl (tysE E) s) (hB : bk D E L o M H) (hS : bS A H0 H locs) (k : Nat) (hA : A (o + k)) {n : Nat} (hL : L[k]? = some (.inl (2, n))) {i x : Int32} (hin : vp_in i n) (hdg : decode cc pc = .ok (.castore, 1))
    (kk : ∀ (M1 : bM), M1 = up2 M k i.toNatClampNeg (vp_nar .char x) → ∀ (H1 : Heap) (locs1 : List Loc), bk D E L o M1 H1 → (∀ q : Nat, q ≠ o + k → H1[q]? = H[q]?) → bS A H0 H1 locs1 → W p l e R s m args below meth c H1 locs1 cells slots Q (F0 m (pc + 1) ls rest)) : W p l e R s m args below meth c H locs cells slots Q (F0 m pc ls (.int x :: .int i :: .ref (o + k) :: rest)) := by
  refine W.cast hexec hb (hB k _ hL) ((hK.2 2 _ rfl).1 n (fun j => .int (M k j))) (fun q => by cases q) (by show ¬ (i < 0 ∨ (arrV _ _ _).slots.size ≤ _); rw [arrV_size]; exact hin) rfl rfl hdg fun H1 e z oq => ?_
  refine kk _ rfl H1 _ (bk_set hB hL ?_ oq) oq (hS.put z oq hA)
  rw [up2_same]
  show H1[o + k]? = some (vp_cell _ _)
  rw [e]
  show some ((vp_cell (E 2) (n, .inl (M k))).setSlot _ _) = _
  rw [vp_cell_i, vp_cell_i, arrV_store]
  congr 2
  funext q
  by_cases hq : q = i.toNatClampNeg
  · subst hq
    simp [updV, upd, vp_nar]
    try rfl
  · simp [updV, upd, hq]
/-- ends -/
theorem b_iret {post : Option Value → Heap → Prop} {v : Int32} (hx : p.tables.exec = Jvm.exec) (hb : c.code = cc) (hr : meth.sig.returnType = some .int) (hlocks : meth.locks = false) (hS : bS A s.heap H locs) (hp : post (some (.int v)) H) {ls : Array Slot} (hdg : decode cc pc = .ok (.ireturn, 1)) : W p l e R s m args below meth c H locs 0 0 (MQ below (bQ post A) args s 0 0 A) (F0 m pc ls [.int v]) :=
  W.iret hx hb hr (fun t ht _ => ⟨⟨_, rfl, by rw [ht]; exact hp⟩, by rw [ht]; exact hS.1, fun q hq => by rw [ht]; exact hS.2.1 q hq⟩) hS.2.2 hdg hlocks
theorem b_zret {post : Option Value → Heap → Prop} {v : Int32} {ty : FieldType} (hx : p.tables.exec = Jvm.exec) (hb : c.code = cc) (hr : meth.sig.returnType = some ty) (hn : narrow ty (.int v) = .int v) (hlocks : meth.locks = false) (hS : bS A s.heap H locs) (hp : post (some (.int v)) H) {ls : Array Slot} (hdg : decode cc pc = .ok (.ireturn, 1)) : W p l e R s m args below meth c H locs 0 0 (MQ below (bQ post A) args s 0 0 A) (F0 m pc ls [.int v]) :=
  W.zret hx hb hr hn (fun t ht _ => ⟨⟨_, rfl, by rw [ht]; exact hp⟩, by rw [ht]; exact hS.1, fun q hq => by rw [ht]; exact hS.2.1 q hq⟩) hS.2.2 hdg hlocks
theorem b_vret {post : Option Value → Heap → Prop} (hx : p.tables.exec = Jvm.exec) (hb : c.code = cc) (hr : meth.sig.returnType = none) (hlocks : meth.locks = false) (hS : bS A s.heap H locs) (hp : post none H) {ls : Array Slot} (hdg : decode cc pc = .ok (.return_, 1)) : W p l e R s m args below meth c H locs 0 0 (MQ below (bQ post A) args s 0 0 A) (F0 m pc ls []) :=
  W.vret hx hb hr (fun t ht _ => ⟨⟨_, rfl, by rw [ht]; exact hp⟩, by rw [ht]; exact hS.1, fun q hq => by rw [ht]; exact hS.2.1 q hq⟩) hS.2.2 hdg hlocks
theorem b_aret {post : Option Value → Heap → Prop} {x : Nat} {rt : FieldType} (hx : p.tables.exec = Jvm.exec) (hb : c.code = cc) (hr : meth.sig.returnType = some rt) (hrt : (∃ n, rt = .object n) ∨ ∃ t, rt = .array t) (hlocks : meth.locks = false) (hS : bS A s.heap H locs) (hp : post (some (.ref x)) H) {ls : Array Slot} (hdg : decode cc pc = .ok (.areturn, 1)) : W p l e R s m args below meth c H locs 0 0 (MQ below (bQ post A) args s 0 0 A) (F0 m pc ls [.ref x]) :=
  W.aret hx hb hr hrt (Or.inr ⟨x, rfl⟩) (fun t ht _ => ⟨⟨_, rfl, by rw [ht]; exact hp⟩, by rw [ht]; exact hS.1, fun q hq => by rw [ht]; exact hS.2.1 q hq⟩) hS.2.2 hdg hlocks
theorem b_lret {post : Option Value → Heap → Prop} {v : Int64} (hx : p.tables.exec = Jvm.exec) (hb : c.code = cc) (hr : meth.sig.returnType = some .long) (hlocks : meth.locks = false) (hS : bS A s.heap H locs) (hp : post (some (.long v)) H) {ls : Array Slot} (hdg : decode cc pc = .ok (.lreturn, 1)) : W p l e R s m args below meth c H locs 0 0 (MQ below (bQ post A) args s 0 0 A) (F0 m pc ls [.long v]) :=
  W.lret hx hb hr (fun t ht _ => ⟨⟨_, rfl, by rw [ht]; exact hp⟩, by rw [ht]; exact hS.1, fun q hq => by rw [ht]; exact hS.2.1 q hq⟩) hS.2.2 hdg hlocks
/-- a call that has run -/
theorem b_went {A1 : Nat → Prop} {post : Option Value → Heap → Prop} {av : Array Value} {st0 : List Value} (hr : va_Run p l e R s m args below meth c H locs cells slots 0 0 (F0 m pc ls st0) rest (bQ post A1 av) A1) (hS : bS A H0 H locs) (hA : ∀ q, A1 q → A q)
    (kk : ∀ (v : Option Value) (H1 : Heap) (locs1 : List Loc), post v H1 → (∀ q : Nat, ¬ A1 q → H1[q]? = H[q]?) → bS A H0 H1 locs1 → W p l e R s m args below meth c H1 locs1 cells slots Q (F0 m (pc + 3) ls (v.toList ++ rest))) : W p l e R s m args below meth c H locs cells slots Q (F0 m pc ls st0) := by
  intro T hT X
  obtain ⟨v, st₀, t, T', L, h0, X', hL, e1, e2, ⟨⟨v', hv, hp⟩, hz, hk⟩, st⟩ := hr T hT X
  cases hv
  rw [h0] at hz hk
  obtain ⟨t2, a1, b1⟩ := kk v T'.heap (locs ++ L) (by rw [e1]; exact hp) (fun q h2 => by rw [e1]; exact hk q h2)
    ⟨by rw [e1, hz]; exact hS.1, fun q h2 => by rw [e1, hk q (fun z => h2 (hA q z))]; exact hS.2.1 q h2, fun q hq => by
      rcases List.mem_append.mp hq with h | h
      · exact hS.2.2 q h
      · exact hA _ (hL q h)⟩ T' rfl X'
  exact ⟨t2, st t2 a1, b1⟩
theorem heap_same {H1 H : Heap} (h : ∀ q : Nat, ¬ bNo q → H1[q]? = H[q]?) : H1 = H := Array.ext_getElem? (fun i => h i id)
variable {y : MethodName} {bytes : ByteArray} {maxL nL n index : Nat} {ret : Option FieldType} {ws : List Cond} {rm : Room} {Ts : List Cond} {own C : String} {b : Addr} {As st0 : List Value} {P : Heap → Prop} {post : Option Value → Heap → Prop} {A1 : Nat → Prop} {lv : List (Nat × Value)}
theorem b_runV (S : CallFix p m c cc nL s args Ts own) (hM : Met l y ws rm (bPc D E (.ref b :: As) P) (bQ post A1) 0 0 A1) (cw : CallW R s args own C index y bytes maxL ret ws rm 0 0 n) (hK : bK D E s) (hv : ∃ cell : Cell, H[b]? = some cell ∧ cell.vm.isStatics = false ∧ s.vm.findClass C = some cell.cls) (hP : P H) (hn : As.length = n) (hl : lv_has ls nL lv) (hst : st0 = As.reverse ++ .ref b :: rest) (hW : (rest.map fun v => v.category).sum ≤ 8) (hdg : decode cc pc = .ok (.invokevirtual index, 3)) (hf : cells + 0 ≤ R.cells ∧ slots + 0 ≤ R.slots) :
    va_Run p l e R s m args below meth c H locs cells slots 0 0 (F0 m pc ls st0) rest (bQ post A1 (Value.ref b :: As).toArray) A1 :=
  va_runV S hM cw ⟨bBlind, hv, fun U hU hW => ⟨rfl, by rw [hU]; exact hP, bK.warm hW hK⟩⟩ rfl hn hl.1 hst (lv_room hW) hdg hf
theorem b_runS (S : CallFix p m c cc nL s args Ts own) (hM : Met l y ws rm (bPc D E As P) (bQ post A1) 0 0 A1) (cw : CallB R s args own index y bytes maxL ret ws rm 0 0 n ∧ (Cond.static y).before args s = true) (hK : bK D E s) (hP : P H) (hn : As.length = n) (hl : lv_has ls nL lv) (hst : st0 = As.reverse ++ rest) (hW : (rest.map fun v => v.category).sum ≤ 8) (hdg : decode cc pc = .ok (.invokestatic index, 3)) (hf : cells + 0 ≤ R.cells ∧ slots + 0 ≤ R.slots) :
    va_Run p l e R s m args below meth c H locs cells slots 0 0 (F0 m pc ls st0) rest (bQ post A1 As.toArray) A1 :=
  va_runS S hM cw ⟨bBlind, fun U hU hW => ⟨rfl, by rw [hU]; exact hP, bK.warm hW hK⟩⟩ rfl hn hl.1 hst (lv_room hW) hdg hf
theorem b_runSN {host : String} (S : CallFix p m c cc nL s args Ts own) (hM : Met l y ws rm (bPc D E As P) (bQ post A1) 0 0 A1) (cw : va_CN R s args own index y host bytes maxL ret ws rm 0 0 n ∧ (Cond.static y).before args s = true ∧ True) (hK : bK D E s) (hP : P H) (hn : As.length = n) (hl : lv_has ls nL lv) (hst : st0 = As.reverse ++ rest) (hW : (rest.map fun v => v.category).sum ≤ 8) (hdg : decode cc pc = .ok (.invokestatic index, 3)) (hf : cells + 0 ≤ R.cells ∧ slots + 0 ≤ R.slots) :
    va_Run p l e R s m args below meth c H locs cells slots 0 0 (F0 m pc ls st0) rest (bQ post A1 As.toArray) A1 :=
  va_runSN S hM cw ⟨bBlind, fun U hU hW => ⟨rfl, by rw [hU]; exact hP, bK.warm hW hK⟩⟩ rfl hn hl.1 hst (lv_room hW) hdg hf
-- calls that read alone
theorem b_pI {f : Int32 → Prop} {av : Array Value} (hr : va_Run p l e R s m args below meth c H locs cells slots 0 0 (F0 m pc ls st0) rest (bQ (aI fun r _ => f r) bNo av) bNo) (hS : bS A H0 H locs)
    (kk : ∀ (r : Int32), f r → ∀ locs1 : List Loc, bS A H0 H locs1 → W p l e R s m args below meth c H locs1 cells slots Q (F0 m (pc + 3) ls (.int r :: rest))) : W p l e R s m args below meth c H locs cells slots Q (F0 m pc ls st0) := by
  refine b_went hr hS (fun q h => h.elim) fun v H1 locs1 hp hq hS1 => ?_
  obtain ⟨r, rfl, hf⟩ := hp
  cases heap_same hq
  exact kk r hf locs1 hS1
theorem b_pL {f : Int64 → Prop} {av : Array Value} (hr : va_Run p l e R s m args below meth c H locs cells slots 0 0 (F0 m pc ls st0) rest (bQ (aL fun r _ => f r) bNo av) bNo) (hS : bS A H0 H locs)
    (kk : ∀ (r : Int64), f r → ∀ locs1 : List Loc, bS A H0 H locs1 → W p l e R s m args below meth c H locs1 cells slots Q (F0 m (pc + 3) ls (.long r :: rest))) : W p l e R s m args below meth c H locs cells slots Q (F0 m pc ls st0) := by
  refine b_went hr hS (fun q h => h.elim) fun v H1 locs1 hp hq hS1 => ?_
  obtain ⟨r, rfl, hf⟩ := hp
  cases heap_same hq
  exact kk r hf locs1 hS1
theorem b_pR {f : Nat → Prop} {av : Array Value} (hr : va_Run p l e R s m args below meth c H locs cells slots 0 0 (F0 m pc ls st0) rest (bQ (aR fun r _ => f r) bNo av) bNo) (hS : bS A H0 H locs)
    (kk : ∀ (r : Nat), f r → ∀ locs1 : List Loc, bS A H0 H locs1 → W p l e R s m args below meth c H locs1 cells slots Q (F0 m (pc + 3) ls (.ref r :: rest))) : W p l e R s m args below meth c H locs cells slots Q (F0 m pc ls st0) := by
  refine b_went hr hS (fun q h => h.elim) fun v H1 locs1 hp hq hS1 => ?_
  obtain ⟨r, rfl, hf⟩ := hp
  cases heap_same hq
  exact kk r hf locs1 hS1
-- calls that write
theorem b_mI {f : Int32 → bM → Prop} {av : Array Value} (hr : va_Run p l e R s m args below meth c H locs cells slots 0 0 (F0 m pc ls st0) rest (bQ (aI fun r H => ∃ M1 : bM, f r M1 ∧ bk D E L o M1 H) A1 av) A1) (hS : bS A H0 H locs) (hA : ∀ q, A1 q → A q)
    (kk : ∀ (r : Int32) (M1 : bM), f r M1 → ∀ (H1 : Heap) (locs1 : List Loc), bk D E L o M1 H1 → (∀ q : Nat, ¬ A1 q → H1[q]? = H[q]?) → bS A H0 H1 locs1 → W p l e R s m args below meth c H1 locs1 cells slots Q (F0 m (pc + 3) ls (.int r :: rest))) : W p l e R s m args below meth c H locs cells slots Q (F0 m pc ls st0) := by
  refine b_went hr hS hA fun v H1 locs1 hp hq hS1 => ?_
  obtain ⟨r, rfl, M1, hf, hB⟩ := hp
  exact kk r M1 hf H1 locs1 hB hq hS1
theorem b_mV {f : bM → Prop} {av : Array Value} (hr : va_Run p l e R s m args below meth c H locs cells slots 0 0 (F0 m pc ls st0) rest (bQ (aV fun H => ∃ M1 : bM, f M1 ∧ bk D E L o M1 H) A1 av) A1) (hS : bS A H0 H locs) (hA : ∀ q, A1 q → A q)
    (kk : ∀ (M1 : bM), f M1 → ∀ (H1 : Heap) (locs1 : List Loc), bk D E L o M1 H1 → (∀ q : Nat, ¬ A1 q → H1[q]? = H[q]?) → bS A H0 H1 locs1 → W p l e R s m args below meth c H1 locs1 cells slots Q (F0 m (pc + 3) ls rest)) : W p l e R s m args below meth c H locs cells slots Q (F0 m pc ls st0) := by
  refine b_went hr hS hA fun v H1 locs1 hp hq hS1 => ?_
  obtain ⟨rfl, M1, hf, hB⟩ := hp
  exact kk M1 hf H1 locs1 hB hq hS1
end BK
section BSW
variable {p : Program} {l : Launch} {e : Env} {R : Room} {s : State} {m : MethodId} {args : Array Value} {below : List Frame} {meth : Method} {c : Code} {H : Heap} {locs : List Loc} {cells slots : Nat} {Q : State → Prop}
variable {cc : ByteArray} {pc : Nat} {ls : Array Slot} {rest : List Value}
/-- a table switch at a value that it names, and at one that it doesn't -/
theorem b_tabI (hexec : p.tables.exec = Jvm.exec) (hb : c.code = cc) {dflt lo hi : Int} {offs : Array Int} {len : Nat} {x : Int32} {off : Int} {tgt : Nat} (v : Int) (hdg : decode cc pc = .ok (.tableswitch dflt lo hi offs, len)) (hx : x.toInt = v) (h1 : ¬ v < lo) (h2 : ¬ hi < v) (ho : offs[(v - lo).toNat]? = some off) (ht : (pc : Int) + off = (tgt : Int))
    (k : W p l e R s m args below meth c H locs cells slots Q (F0 m tgt ls rest)) : W p l e R s m args below meth c H locs cells slots Q (F0 m pc ls (.int x :: rest)) := by
  subst hx
  exact lv_tableIn hexec hb hdg h1 h2 ho ht k
theorem b_tabD (hexec : p.tables.exec = Jvm.exec) (hb : c.code = cc) {dflt lo hi : Int} {offs : Array Int} {len : Nat} {x : Int32} {tgt : Nat} (vals : List Int) (hdg : decode cc pc = .ok (.tableswitch dflt lo hi offs, len)) (hv : ∀ j, j < offs.size → offs[j]? = some dflt ∨ (lo + (j : Int)) ∈ vals) (hsz : hi < lo + offs.size) (hx : ∀ v ∈ vals, x.toInt ≠ v) (ht : (pc : Int) + dflt = (tgt : Int))
    (k : W p l e R s m args below meth c H locs cells slots Q (F0 m tgt ls rest)) : W p l e R s m args below meth c H locs cells slots Q (F0 m pc ls (.int x :: rest)) := by
  by_cases h : x.toInt < lo ∨ hi < x.toInt
  · exact lv_tableOut hexec hb hdg h ht k
  · have h1 : ¬ x.toInt < lo := fun q => h (Or.inl q)
    have h2 : ¬ hi < x.toInt := fun q => h (Or.inr q)
    have hj : (x.toInt - lo).toNat < offs.size := by omega
    rcases hv _ hj with h3 | h3
    · exact lv_tableIn hexec hb hdg h1 h2 h3 ht k
    · exact absurd (by omega) (hx _ h3)
end BSW
theorem in_of {x : Int32} {n : Nat} {N : Int32} (hN : N = nI n) (hn : n < 2 ^ 31) (h1 : ¬ x < 0) (h2 : ¬ N ≤ x) : vp_in x n := by
  subst hN
  obtain ⟨j, hj, rfl⟩ := nI_of h1
  refine vp_in_nI ?_ hn
  rcases Nat.lt_or_ge j n with q | q
  · exact q
  · exact absurd ((nI_leI hn hj).mpr q) h2
theorem in_of' {x : Int32} {n : Nat} {N : Int32} (hN : N = nI n) (hn : n < 2 ^ 31) (h1 : ¬ x < 0) (h2 : x < N) : vp_in x n := by
  subst hN
  obtain ⟨j, hj, rfl⟩ := nI_of h1
  exact vp_in_nI ((nI_ltI hj hn).mp h2) hn
