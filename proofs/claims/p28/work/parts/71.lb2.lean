/-! THE LAW: what holds at every turn of its loop -/
theorem bk_size {D : va_G} {E : Nat → ClassId} {Lx : List bC} {o n : Nat} {M : bM} {H : Heap} (hB : bk D E Lx o M H) (hn : Lx.length = n) : ∀ q : Nat, o ≤ q → q < o + n → q < H.size := fun q h1 h2 => by
  have h3 : q - o < Lx.length := by omega
  have := bk_lt hB (q - o) _ (List.getElem?_eq_getElem h3)
  omega
theorem plc_0 {a b en : Nat} (h : plc a b en = 0) : en = 0 := by
  unfold plc at h
  by_cases c : en = 0
  · exact c
  · rw [if_neg c] at h
    by_cases d : en = a
    · rw [if_pos d] at h; exact absurd h (by decide)
    · rw [if_neg d] at h
      by_cases g : en = b
      · rw [if_pos g] at h; exact absurd h (by decide)
      · rw [if_neg g] at h; exact absurd h (by decide)
theorem okF_2 {a b : Nat} {f : Nat × Int32 × bM} {h : Int32 × bM} (q : okF a b f h) : f.1 = 0 ∨ f.1 = a ∨ f.1 = b := q.2.1
theorem okF_1 {a : Nat} {f : Nat × Int32 × bM} {h : Int32 × bM} (q : okF a 9 f h) (n : f.1 ≠ 9) : f.1 = 0 ∨ f.1 = a := by
  rcases q.2.1 with c | c | c
  · exact Or.inl c
  · exact Or.inr c
  · exact absurd c n
/-- what the contracts want of the state -/
theorem sS_chr {M R : bM} (h : sS M R) : chOK M := h.2.1.1
theorem sS_hn {M R : bM} (h : sS M R) : vp_in (M 30 1) 14 := by
  obtain ⟨x, n, hx, _, e, _⟩ := h.2.2.1
  rw [e]; exact vp_in_nI hx (by decide)
theorem sS_hg {M R : bM} (h : sS M R) : gR (R 2) := h.1.2.1
section BW
variable {p : Program} {l : Launch} {e : Env} {R : Room} {s : State} {m : MethodId} {args : Array Value} {below : List Frame} {meth : Method} {c : Code} {H : Heap} {locs : List Loc} {cells slots : Nat} {Q : State → Prop}
variable {cc : ByteArray} {pc : Nat} {ls : Array Slot} {rest : List Value}
end BW
/-! a method with one exception tells no other -/
theorem n9_about {M : bM} {x1 : Int32} : (f_X6_about M x1).1 ≠ 9 := by
  rw [u_f_X6_about]
  dsimp only
  repeat' split
  all_goals first | exact (show ¬ (0 : Nat) = 9 by decide) | exact (show ¬ (1 : Nat) = 9 by decide) | exact (show ¬ (2 : Nat) = 9 by decide) | exact (show ¬ (3 : Nat) = 9 by decide)
theorem n9_course {M : bM} {x1 : Int32} {x2 : Int32} : (f_X6_course M x1 x2).1 ≠ 9 := by
  rw [u_f_X6_course]
  dsimp only
  repeat' split
  all_goals first | exact (show ¬ (0 : Nat) = 9 by decide) | exact (show ¬ (1 : Nat) = 9 by decide) | exact (show ¬ (2 : Nat) = 9 by decide) | exact (show ¬ (3 : Nat) = 9 by decide)
theorem n9_setting {M : bM} {x1 : Int32} : (f_X6_setting M x1).1 ≠ 9 := by
  rw [u_f_X6_setting]
  dsimp only
  repeat' split
  all_goals first | exact (show ¬ (0 : Nat) = 9 by decide) | exact (show ¬ (1 : Nat) = 9 by decide) | exact (show ¬ (2 : Nat) = 9 by decide) | exact (show ¬ (3 : Nat) = 9 by decide)
theorem n9_flood {M : bM} : (f_X6_flood M).1 ≠ 9 := by
  rw [u_f_X6_flood]
  dsimp only
  repeat' split
  all_goals first | exact (show ¬ (0 : Nat) = 9 by decide) | exact (show ¬ (1 : Nat) = 9 by decide) | exact (show ¬ (2 : Nat) = 9 by decide) | exact (show ¬ (3 : Nat) = 9 by decide)
theorem n9_set {M : bM} {x1 : Int32} {x2 : Int32} : (f_X6_set M x1 x2).1 ≠ 9 := by
  rw [u_f_X6_set]
  dsimp only
  repeat' split
  all_goals first | exact (show ¬ (0 : Nat) = 9 by decide) | exact (show ¬ (1 : Nat) = 9 by decide) | exact (show ¬ (2 : Nat) = 9 by decide) | exact (show ¬ (3 : Nat) = 9 by decide)
theorem n9_undo {M : bM} : (f_X6_undo M).1 ≠ 9 := by
  rw [u_f_X6_undo]
  dsimp only
  repeat' split
  all_goals first | exact (show ¬ (0 : Nat) = 9 by decide) | exact (show ¬ (1 : Nat) = 9 by decide) | exact (show ¬ (2 : Nat) = 9 by decide) | exact (show ¬ (3 : Nat) = 9 by decide)
theorem n9_why {M : bM} {x1 : Int32} : (f_X6_why M x1).1 ≠ 9 := by
  rw [u_f_X6_why]
  dsimp only
  repeat' split
  all_goals first | exact (show ¬ (0 : Nat) = 9 by decide) | exact (show ¬ (1 : Nat) = 9 by decide) | exact (show ¬ (2 : Nat) = 9 by decide) | exact (show ¬ (3 : Nat) = 9 by decide)
theorem n9_whyDam {M : bM} {x1 : Int32} {x2 : Int32} : (f_X6_whyDam M x1 x2).1 ≠ 9 := by
  rw [u_f_X6_whyDam]
  dsimp only
  repeat' split
  all_goals first | exact (show ¬ (0 : Nat) = 9 by decide) | exact (show ¬ (1 : Nat) = 9 by decide) | exact (show ¬ (2 : Nat) = 9 by decide) | exact (show ¬ (3 : Nat) = 9 by decide)
theorem n9_meetsIn {M : bM} {x1 : Int32} : (f_X6_meetsIn M x1).1 ≠ 9 := by
  rw [u_f_X6_meetsIn]
  dsimp only
  repeat' split
  all_goals first | exact (show ¬ (0 : Nat) = 9 by decide) | exact (show ¬ (1 : Nat) = 9 by decide) | exact (show ¬ (2 : Nat) = 9 by decide) | exact (show ¬ (3 : Nat) = 9 by decide)
theorem n9_runScript {M : bM} {x1 : Int32} {x2 : Int64} : (f_X6_runScript M x1 x2).1 ≠ 9 := by
  rw [u_f_X6_runScript]
  dsimp only
  repeat' split
  all_goals first | exact (show ¬ (0 : Nat) = 9 by decide) | exact (show ¬ (1 : Nat) = 9 by decide) | exact (show ¬ (2 : Nat) = 9 by decide) | exact (show ¬ (3 : Nat) = 9 by decide)
theorem n9_simulate {M : bM} {x1 : Int64} {x2 : Int32} : (f_X6_simulate M x1 x2).1 ≠ 9 := by
  rw [u_f_X6_simulate]
  dsimp only
  repeat' split
  all_goals first | exact (show ¬ (0 : Nat) = 9 by decide) | exact (show ¬ (1 : Nat) = 9 by decide) | exact (show ¬ (2 : Nat) = 9 by decide) | exact (show ¬ (3 : Nat) = 9 by decide)
theorem n9_save {M : bM} {x1 : Int32} : (f_X6_save M x1).1 ≠ 9 := by
  rw [u_f_X6_save]
  dsimp only
  repeat' split
  all_goals first | exact (show ¬ (0 : Nat) = 9 by decide) | exact (show ¬ (1 : Nat) = 9 by decide) | exact (show ¬ (2 : Nat) = 9 by decide) | exact (show ¬ (3 : Nat) = 9 by decide)
