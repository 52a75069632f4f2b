/-! THE LAW: what holds at every turn of its loop -/
theorem bk_size {D : va_G} {E : Nat → ClassId} {Lx : List bC} {o n : Nat} {M : bM} {H : Heap} (hB : bk D E Lx o M H) (hn : Lx.length = n) : ∀ q : Nat, o ≤ q → q < o + n → q < H.size := fun q h1 h2 => by
  have h3 : q - o < Lx.length := by omega
  have := bk_lt hB (q - o) _ (List.getElem?_eq_getElem h3)
  omega
theorem plc_0 {a b en : Nat} (h : plc a b en = 0) : en = 0 := by
  unfold plc at h
  by_cases c : en = 0
  · exact c
  · rw [if_neg c] at h
    by_cases d : en = a
    · rw [if_pos d] at h; exact absurd h (by decide)
    · rw [if_neg d] at h
      by_cases g : en = b
      · rw [if_pos g] at h; exact absurd h (by decide)
      · rw [if_neg g] at h; exact absurd h (by decide)
/-- what the contracts want of the state -/
theorem sS_chr {M R : bM} (h : sS M R) : chOK M := h.2.1.1
theorem sS_hn {M R : bM} (h : sS M R) : vp_in (M 30 1) 14 := by
  obtain ⟨x, n, hx, _, e, _⟩ := h.2.2.1
  rw [e]; exact vp_in_nI hx (by decide)
theorem sS_hg {M R : bM} (h : sS M R) : gR (R 2) := h.1.2.1
section BW
variable {p : Program} {l : Launch} {e : Env} {R : Room} {s : State} {m : MethodId} {args : Array Value} {below : List Frame} {meth : Method} {c : Code} {H : Heap} {locs : List Loc} {cells slots : Nat} {Q : State → Prop}
variable {cc : ByteArray} {pc : Nat} {ls : Array Slot} {rest : List Value}
end BW
/-! a method with one exception tells no other -/
