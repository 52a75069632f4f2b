/-! THE LAW: what holds at every turn of its loop -/
abbrev aL0 (s : State) : Nat → Prop := fun q => s.heap.size ≤ q
abbrev oB (s : State) : Nat := s.heap.size + 194
abbrev oW (s : State) : Nat := s.heap.size + 203
abbrev lng (a b : Int32) : Int64 := (a.toInt64 <<< ((32 : Int32).toInt64 &&& 63)) ||| (b.toInt64 &&& 4294967295)
/-- what stays as it is -/
def lwC (p : Program) (l : Launch) (s : State) (m : MethodId) (args : Array Value) (meth : Method) (c : Code) (b L : Nat) (xs : Nat → Int32) (D : va_G) (E : Nat → ClassId) : Prop :=
  p.tables.exec = Jvm.exec ∧ c.code = cL_law ∧ c.maxLocals = 7 ∧ s.vm.findClass RL = some m.cls ∧ (∀ w ∈ wsL_law, w.before args s = true) ∧ va_X b L xs s s.heap ∧ b < s.heap.size ∧ bKX D E s ∧ bZ (aL0 s) s s.heap ∧ bNc s ∧ l.stackTraces = false ∧ L ≤ 2048
/-- the heap, and what both objects say -/
def lwI (s : State) (D : va_G) (E : Nat → ClassId) (H : Heap) (locs : List Loc) (M R : bM) (f : Nat → Int64) (V : Nat) : Prop :=
  bk D E LRM s.heap.size M H ∧ bk D E LRR (oB s) R H ∧ va_at D vwCl (lgc (oW s) E f) H ∧ va_S (aL0 s) s.heap H locs ∧ sS M R ∧ gB V R
abbrev lwV (s : State) (b i : Nat) : List (Nat × Value) := [(0, .ref b), (1, .ref (s.heap.size + 0)), (2, .ref (oB s + 0)), (3, .ref (oW s)), (4, .int (nI i))]
theorem bk_size {D : va_G} {E : Nat → ClassId} {Lx : List bC} {o n : Nat} {M : bM} {H : Heap} (hB : bk D E Lx o M H) (hn : Lx.length = n) : ∀ q : Nat, o ≤ q → q < o + n → q < H.size := fun q h1 h2 => by
  have h3 : q - o < Lx.length := by omega
  have := bk_lt hB (q - o) _ (List.getElem?_eq_getElem h3)
  omega
theorem rA_w {s : State} : ¬ rA s.heap.size (oW s) := fun h => by have h2 : s.heap.size + 203 < s.heap.size + 194 := h.2; omega
theorem rA_0 {s : State} : ∀ q : Nat, rA s.heap.size q → aL0 s q := fun q h => h.1
theorem rB_0 {s : State} : ∀ q : Nat, rB (oB s) q → aL0 s q := fun q h => by have h2 : s.heap.size + 194 ≤ q := h.1; show s.heap.size ≤ q; omega
theorem hA_0 {s : State} : ∀ q : Nat, hA s.heap.size (oW s) q → aL0 s q := fun q h => by
  rcases h with h | h
  · exact h.1
  · have h2 : q = s.heap.size + 203 := h
    show s.heap.size ≤ q; omega
theorem bZ_at {s : State} {H : Heap} {locs : List Loc} (hZ : bZ (aL0 s) s s.heap) (hS : va_S (aL0 s) s.heap H locs) : bZ (hA s.heap.size (oW s)) s H := bZ.narrow (bZ.kept hZ (fun a h h2 => hS.2.1 a h h2)) hA_0
theorem plc_0 {a b en : Nat} (h : plc a b en = 0) : en = 0 := by
  unfold plc at h
  by_cases c : en = 0
  · exact c
  · rw [if_neg c] at h
    by_cases d : en = a
    · rw [if_pos d] at h; exact absurd h (by decide)
    · rw [if_neg d] at h
      by_cases g : en = b
      · rw [if_pos g] at h; exact absurd h (by decide)
      · rw [if_neg g] at h; exact absurd h (by decide)
theorem okF_2 {a b : Nat} {f : Nat × Int32 × bM} {h : Int32 × bM} (q : okF a b f h) : f.1 = 0 ∨ f.1 = a ∨ f.1 = b := q.2.1
theorem okF_1 {a : Nat} {f : Nat × Int32 × bM} {h : Int32 × bM} (q : okF a 9 f h) (n : f.1 ≠ 9) : f.1 = 0 ∨ f.1 = a := by
  rcases q.2.1 with c | c | c
  · exact Or.inl c
  · exact Or.inr c
  · exact absurd c n
/-- what the contracts want of the state -/
theorem sS_chr {M R : bM} (h : sS M R) : chOK M := h.2.1.1
theorem sS_hn {M R : bM} (h : sS M R) : vp_in (M 30 1) 14 := by
  obtain ⟨x, n, hx, _, e, _⟩ := h.2.2.1
  rw [e]; exact vp_in_nI hx (by decide)
theorem sS_hg {M R : bM} (h : sS M R) : gR (R 2) := h.1.2.1
theorem sS_ha {M R : bM} (h : sS M R) : vp_in (R 0 6) 15 := by
  obtain ⟨x, n, _, hn, _, _, e, _⟩ := h.2.2.1
  rw [e]; exact vp_in_nI (by omega) (by decide)
theorem sS_hz {M R : bM} (h : sS M R) : vp_in (R 0 2) 121 := by
  obtain ⟨_, z, hz, _, e, _⟩ := h.2.1
  rw [e]; exact vp_in_nI (by omega) (by decide)
theorem sS_hw {M R : bM} (h : sS M R) : wfR R 2 := gR_wf (sS_hg h)
section BW
variable {p : Program} {l : Launch} {e : Env} {R : Room} {s : State} {m : MethodId} {args : Array Value} {below : List Frame} {meth : Method} {c : Code} {H : Heap} {locs : List Loc} {cells slots : Nat} {Q : State → Prop}
variable {cc : ByteArray} {pc : Nat} {ls : Array Slot} {rest : List Value}
theorem w_sld (hexec : p.tables.exec = Jvm.exec) (hb : c.code = cc) {b L j : Nat} {xs : Nat → Int32} (hX : va_X b L xs s s.heap) (hbl : b < s.heap.size) (hS : va_S (aL0 s) s.heap H locs) (hL : L ≤ 2048) (hj : j < L) (hdg : decode cc pc = .ok (.iaload, 1))
    (kk : W p l e R s m args below meth c H locs cells slots Q (F0 m (pc + 1) ls (.int (xs j) :: rest))) : W p l e R s m args below meth c H locs cells slots Q (F0 m pc ls (.int (nI j) :: .ref b :: rest)) :=
  va_sld hexec hb hX hbl (fun h => Nat.not_le_of_lt hbl h) hS (i := nI j) (vp_in_nI hj (by omega)) hdg (by rw [nI_clamp (by omega)]; exact kk)
theorem w_iaddN (hexec : p.tables.exec = Jvm.exec) (hb : c.code = cc) {i j : Nat} {y : Int32} (hy : y = nI j) (hdg : decode cc pc = .ok (.iadd, 1))
    (kk : W p l e R s m args below meth c H locs cells slots Q (F0 m (pc + 1) ls (.int (nI (i + j)) :: rest))) : W p l e R s m args below meth c H locs cells slots Q (F0 m pc ls (.int y :: .int (nI i) :: rest)) :=
  lv_iadd hexec hb hdg (by rw [hy, nI_add]; exact kk)
end BW
/-! a method with one exception tells no other -/
theorem n9_load {M : bM} : (f_X6_load M).1 ≠ 9 := by
  rw [u_f_X6_load]
  dsimp only
  repeat' split
  all_goals first | exact (show ¬ (0 : Nat) = 9 by decide) | exact (show ¬ (1 : Nat) = 9 by decide) | exact (show ¬ (2 : Nat) = 9 by decide) | exact (show ¬ (3 : Nat) = 9 by decide)
theorem n9_about {M : bM} {x1 : Int32} : (f_X6_about M x1).1 ≠ 9 := by
  rw [u_f_X6_about]
  dsimp only
  repeat' split
  all_goals first | exact (show ¬ (0 : Nat) = 9 by decide) | exact (show ¬ (1 : Nat) = 9 by decide) | exact (show ¬ (2 : Nat) = 9 by decide) | exact (show ¬ (3 : Nat) = 9 by decide)
theorem n9_course {M : bM} {x1 : Int32} {x2 : Int32} : (f_X6_course M x1 x2).1 ≠ 9 := by
  rw [u_f_X6_course]
  dsimp only
  repeat' split
  all_goals first | exact (show ¬ (0 : Nat) = 9 by decide) | exact (show ¬ (1 : Nat) = 9 by decide) | exact (show ¬ (2 : Nat) = 9 by decide) | exact (show ¬ (3 : Nat) = 9 by decide)
theorem n9_setting {M : bM} {x1 : Int32} : (f_X6_setting M x1).1 ≠ 9 := by
  rw [u_f_X6_setting]
  dsimp only
  repeat' split
  all_goals first | exact (show ¬ (0 : Nat) = 9 by decide) | exact (show ¬ (1 : Nat) = 9 by decide) | exact (show ¬ (2 : Nat) = 9 by decide) | exact (show ¬ (3 : Nat) = 9 by decide)
theorem n9_flood {M : bM} : (f_X6_flood M).1 ≠ 9 := by
  rw [u_f_X6_flood]
  dsimp only
  repeat' split
  all_goals first | exact (show ¬ (0 : Nat) = 9 by decide) | exact (show ¬ (1 : Nat) = 9 by decide) | exact (show ¬ (2 : Nat) = 9 by decide) | exact (show ¬ (3 : Nat) = 9 by decide)
theorem n9_set {M : bM} {x1 : Int32} {x2 : Int32} : (f_X6_set M x1 x2).1 ≠ 9 := by
  rw [u_f_X6_set]
  dsimp only
  repeat' split
  all_goals first | exact (show ¬ (0 : Nat) = 9 by decide) | exact (show ¬ (1 : Nat) = 9 by decide) | exact (show ¬ (2 : Nat) = 9 by decide) | exact (show ¬ (3 : Nat) = 9 by decide)
theorem n9_undo {M : bM} : (f_X6_undo M).1 ≠ 9 := by
  rw [u_f_X6_undo]
  dsimp only
  repeat' split
  all_goals first | exact (show ¬ (0 : Nat) = 9 by decide) | exact (show ¬ (1 : Nat) = 9 by decide) | exact (show ¬ (2 : Nat) = 9 by decide) | exact (show ¬ (3 : Nat) = 9 by decide)
theorem n9_why {M : bM} {x1 : Int32} : (f_X6_why M x1).1 ≠ 9 := by
  rw [u_f_X6_why]
  dsimp only
  repeat' split
  all_goals first | exact (show ¬ (0 : Nat) = 9 by decide) | exact (show ¬ (1 : Nat) = 9 by decide) | exact (show ¬ (2 : Nat) = 9 by decide) | exact (show ¬ (3 : Nat) = 9 by decide)
theorem n9_whyDam {M : bM} {x1 : Int32} {x2 : Int32} : (f_X6_whyDam M x1 x2).1 ≠ 9 := by
  rw [u_f_X6_whyDam]
  dsimp only
  repeat' split
  all_goals first | exact (show ¬ (0 : Nat) = 9 by decide) | exact (show ¬ (1 : Nat) = 9 by decide) | exact (show ¬ (2 : Nat) = 9 by decide) | exact (show ¬ (3 : Nat) = 9 by decide)
theorem n9_meetsIn {M : bM} {x1 : Int32} : (f_X6_meetsIn M x1).1 ≠ 9 := by
  rw [u_f_X6_meetsIn]
  dsimp only
  repeat' split
  all_goals first | exact (show ¬ (0 : Nat) = 9 by decide) | exact (show ¬ (1 : Nat) = 9 by decide) | exact (show ¬ (2 : Nat) = 9 by decide) | exact (show ¬ (3 : Nat) = 9 by decide)
theorem n9_runScript {M : bM} {x1 : Int32} {x2 : Int64} : (f_X6_runScript M x1 x2).1 ≠ 9 := by
  rw [u_f_X6_runScript]
  dsimp only
  repeat' split
  all_goals first | exact (show ¬ (0 : Nat) = 9 by decide) | exact (show ¬ (1 : Nat) = 9 by decide) | exact (show ¬ (2 : Nat) = 9 by decide) | exact (show ¬ (3 : Nat) = 9 by decide)
theorem n9_simulate {M : bM} {x1 : Int64} {x2 : Int32} : (f_X6_simulate M x1 x2).1 ≠ 9 := by
  rw [u_f_X6_simulate]
  dsimp only
  repeat' split
  all_goals first | exact (show ¬ (0 : Nat) = 9 by decide) | exact (show ¬ (1 : Nat) = 9 by decide) | exact (show ¬ (2 : Nat) = 9 by decide) | exact (show ¬ (3 : Nat) = 9 by decide)
theorem n9_save {M : bM} {x1 : Int32} : (f_X6_save M x1).1 ≠ 9 := by
  rw [u_f_X6_save]
  dsimp only
  repeat' split
  all_goals first | exact (show ¬ (0 : Nat) = 9 by decide) | exact (show ¬ (1 : Nat) = 9 by decide) | exact (show ¬ (2 : Nat) = 9 by decide) | exact (show ¬ (3 : Nat) = 9 by decide)
