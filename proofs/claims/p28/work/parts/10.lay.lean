/-! THE LAYOUT: the object of the class (194 cells), the reference's (9 cells) -/
abbrev oSide (b : Nat) : bC := .inr (.inl (2, [some (b + 1), some (b + 2), some (b + 3), none, none, none, none, none]))
abbrev oGame (b : Nat) : bC := .inr (.inl (0, [some (b + 1), some (b + 5), some (b + 9), none, none, none, none, none, none, none, none, none]))
abbrev oSlot (b : Nat) : bC := .inr (.inl (3, [some (b + 1), none]))
abbrev oWays : bC := .inr (.inl (5, [some 24, some 25, some 26, some 27, some 28, some 29]))
abbrev oText : bC := .inr (.inl (4, [some 2, none]))
abbrev oHist : bC := .inr (.inl (1, [some 31, none, none]))
abbrev oRiver : bC := .inr (.inl (6, [some 1, some 3, some 13, some 23, some 30, some 172, some 183]))
abbrev oModel : bC := .inr (.inl (7, [none, some 1, none, some 2, some 3, some 4, none, some 5, some 6, some 7, some 8, none, none]))
def lySide (b : Nat) : List bC := [oSide b, .inl (0, 64), .inl (0, 64), .inl (1, 64)]
def lyGame (b : Nat) : List bC := oGame b :: (lySide (b + 1) ++ lySide (b + 5) ++ [.inl (0, 64)])
def lyWays : List bC := [oWays, .inl (0, 192), .inl (1, 64), .inl (0, 64), .inl (0, 64), .inl (0, 64), .inl (1, 64)]
def LRM : List bC := [oRiver, oText, .inl (2, 120)] ++ lyGame 3 ++ lyGame 13 ++ lyWays ++ [oHist, .inr (.inr (3, 14, 32, 10))] ++ (List.range 14).flatMap (fun i => lyGame (32 + 10 * i)) ++ (oSlot 172 :: lyGame 173) ++ (oSlot 183 :: lyGame 184)
def LRR : List bC := [oModel, .inl (0, 120), .inl (0, 404), .inl (0, 404), .inl (0, 5656), .inl (0, 808), .inl (1, 2), .inl (0, 64), .inl (0, 64)]
theorem LRM_len : LRM.length = 194 := by decide +kernel
theorem LRR_len : LRR.length = 9 := by decide +kernel
abbrev isS (b : Nat) : Prop := LRM[b]? = some (oSide b) ∧ LRM[b + 1]? = some (.inl (0, 64)) ∧ LRM[b + 2]? = some (.inl (0, 64)) ∧ LRM[b + 3]? = some (.inl (1, 64))
abbrev isG (b : Nat) : Prop := LRM[b]? = some (oGame b) ∧ isS (b + 1) ∧ isS (b + 5) ∧ LRM[b + 9]? = some (.inl (0, 64))
abbrev isD (b : Nat) : Prop := LRM[b]? = some (oSlot b) ∧ isG (b + 1)
theorem lay_0 : LRM[0]? = some (oRiver) := by decide +kernel
theorem lay_1 : LRM[1]? = some (oText) := by decide +kernel
theorem lay_2 : LRM[2]? = some (.inl (2, 120)) := by decide +kernel
theorem lay_23 : LRM[23]? = some (oWays) := by decide +kernel
theorem lay_24 : LRM[24]? = some (.inl (0, 192)) := by decide +kernel
theorem lay_25 : LRM[25]? = some (.inl (1, 64)) := by decide +kernel
theorem lay_26 : LRM[26]? = some (.inl (0, 64)) := by decide +kernel
theorem lay_27 : LRM[27]? = some (.inl (0, 64)) := by decide +kernel
theorem lay_28 : LRM[28]? = some (.inl (0, 64)) := by decide +kernel
theorem lay_29 : LRM[29]? = some (.inl (1, 64)) := by decide +kernel
theorem lay_30 : LRM[30]? = some (oHist) := by decide +kernel
theorem lay_31 : LRM[31]? = some (.inr (.inr (3, 14, 32, 10))) := by decide +kernel
theorem isG_3 : isG 3 := ⟨by decide +kernel, ⟨by decide +kernel, by decide +kernel, by decide +kernel, by decide +kernel⟩, ⟨by decide +kernel, by decide +kernel, by decide +kernel, by decide +kernel⟩, by decide +kernel⟩
theorem isG_13 : isG 13 := ⟨by decide +kernel, ⟨by decide +kernel, by decide +kernel, by decide +kernel, by decide +kernel⟩, ⟨by decide +kernel, by decide +kernel, by decide +kernel, by decide +kernel⟩, by decide +kernel⟩
theorem isG_173 : isG 173 := ⟨by decide +kernel, ⟨by decide +kernel, by decide +kernel, by decide +kernel, by decide +kernel⟩, ⟨by decide +kernel, by decide +kernel, by decide +kernel, by decide +kernel⟩, by decide +kernel⟩
theorem isG_184 : isG 184 := ⟨by decide +kernel, ⟨by decide +kernel, by decide +kernel, by decide +kernel, by decide +kernel⟩, ⟨by decide +kernel, by decide +kernel, by decide +kernel, by decide +kernel⟩, by decide +kernel⟩
theorem isD_172 : isD 172 := ⟨by decide +kernel, isG_173⟩
theorem isD_183 : isD 183 := ⟨by decide +kernel, isG_184⟩
theorem isG_h0 (j : Nat) (h : j < 14) : isG (32 + 10 * j) := by
  rcases (by omega : j = 0 ∨ j = 1 ∨ j = 2 ∨ j = 3 ∨ j = 4 ∨ j = 5 ∨ j = 6 ∨ j = 7 ∨ j = 8 ∨ j = 9 ∨ j = 10 ∨ j = 11 ∨ j = 12 ∨ j = 13) with rfl | rfl | rfl | rfl | rfl | rfl | rfl | rfl | rfl | rfl | rfl | rfl | rfl | rfl
  · exact ⟨by decide +kernel, ⟨by decide +kernel, by decide +kernel, by decide +kernel, by decide +kernel⟩, ⟨by decide +kernel, by decide +kernel, by decide +kernel, by decide +kernel⟩, by decide +kernel⟩
  · exact ⟨by decide +kernel, ⟨by decide +kernel, by decide +kernel, by decide +kernel, by decide +kernel⟩, ⟨by decide +kernel, by decide +kernel, by decide +kernel, by decide +kernel⟩, by decide +kernel⟩
  · exact ⟨by decide +kernel, ⟨by decide +kernel, by decide +kernel, by decide +kernel, by decide +kernel⟩, ⟨by decide +kernel, by decide +kernel, by decide +kernel, by decide +kernel⟩, by decide +kernel⟩
  · exact ⟨by decide +kernel, ⟨by decide +kernel, by decide +kernel, by decide +kernel, by decide +kernel⟩, ⟨by decide +kernel, by decide +kernel, by decide +kernel, by decide +kernel⟩, by decide +kernel⟩
  · exact ⟨by decide +kernel, ⟨by decide +kernel, by decide +kernel, by decide +kernel, by decide +kernel⟩, ⟨by decide +kernel, by decide +kernel, by decide +kernel, by decide +kernel⟩, by decide +kernel⟩
  · exact ⟨by decide +kernel, ⟨by decide +kernel, by decide +kernel, by decide +kernel, by decide +kernel⟩, ⟨by decide +kernel, by decide +kernel, by decide +kernel, by decide +kernel⟩, by decide +kernel⟩
  · exact ⟨by decide +kernel, ⟨by decide +kernel, by decide +kernel, by decide +kernel, by decide +kernel⟩, ⟨by decide +kernel, by decide +kernel, by decide +kernel, by decide +kernel⟩, by decide +kernel⟩
  · exact ⟨by decide +kernel, ⟨by decide +kernel, by decide +kernel, by decide +kernel, by decide +kernel⟩, ⟨by decide +kernel, by decide +kernel, by decide +kernel, by decide +kernel⟩, by decide +kernel⟩
  · exact ⟨by decide +kernel, ⟨by decide +kernel, by decide +kernel, by decide +kernel, by decide +kernel⟩, ⟨by decide +kernel, by decide +kernel, by decide +kernel, by decide +kernel⟩, by decide +kernel⟩
  · exact ⟨by decide +kernel, ⟨by decide +kernel, by decide +kernel, by decide +kernel, by decide +kernel⟩, ⟨by decide +kernel, by decide +kernel, by decide +kernel, by decide +kernel⟩, by decide +kernel⟩
  · exact ⟨by decide +kernel, ⟨by decide +kernel, by decide +kernel, by decide +kernel, by decide +kernel⟩, ⟨by decide +kernel, by decide +kernel, by decide +kernel, by decide +kernel⟩, by decide +kernel⟩
  · exact ⟨by decide +kernel, ⟨by decide +kernel, by decide +kernel, by decide +kernel, by decide +kernel⟩, ⟨by decide +kernel, by decide +kernel, by decide +kernel, by decide +kernel⟩, by decide +kernel⟩
  · exact ⟨by decide +kernel, ⟨by decide +kernel, by decide +kernel, by decide +kernel, by decide +kernel⟩, ⟨by decide +kernel, by decide +kernel, by decide +kernel, by decide +kernel⟩, by decide +kernel⟩
  · exact ⟨by decide +kernel, ⟨by decide +kernel, by decide +kernel, by decide +kernel, by decide +kernel⟩, ⟨by decide +kernel, by decide +kernel, by decide +kernel, by decide +kernel⟩, by decide +kernel⟩
theorem isG_h (i : Int32) (h : vp_in i 14) : isG (32 + 10 * i.toNatClampNeg) := isG_h0 _ (Nat.not_le.mp fun q => h (Or.inr q))
theorem lay_m0 : LRR[0]? = some (oModel) := rfl
theorem lay_m1 : LRR[1]? = some (.inl (0, 120)) := rfl
theorem lay_m2 : LRR[2]? = some (.inl (0, 404)) := rfl
theorem lay_m3 : LRR[3]? = some (.inl (0, 404)) := rfl
theorem lay_m4 : LRR[4]? = some (.inl (0, 5656)) := rfl
theorem lay_m5 : LRR[5]? = some (.inl (0, 808)) := rfl
theorem lay_m6 : LRR[6]? = some (.inl (1, 2)) := rfl
theorem lay_m7 : LRR[7]? = some (.inl (0, 64)) := rfl
theorem lay_m8 : LRR[8]? = some (.inl (0, 64)) := rfl
abbrev rA (o : Nat) : Nat → Prop := fun q => o ≤ q ∧ q < o + 194
abbrev rB (o : Nat) : Nat → Prop := fun q => o ≤ q ∧ q < o + 9
theorem rA_of {o k : Nat} {x : bC} (h : LRM[k]? = some x) : rA o (o + k) := by
  have h1 := (List.getElem?_eq_some_iff.mp h).1
  rw [LRM_len] at h1
  exact ⟨by omega, by omega⟩
theorem rB_of {o k : Nat} {x : bC} (h : LRR[k]? = some x) : rB o (o + k) := by
  have h1 := (List.getElem?_eq_some_iff.mp h).1
  rw [LRR_len] at h1
  exact ⟨by omega, by omega⟩
theorem nar_z {x : Int32} (h : x = 0 ∨ x = 1) : narrow .boolean (.int x) = .int x := by rcases h with rfl | rfl <;> rfl
theorem vp_in_mono {x : Int32} {a b : Nat} (h : vp_in x a) (hab : a ≤ b) : vp_in x b := fun q => h (q.elim Or.inl (fun q => Or.inr (Nat.le_trans hab q)))
section
variable {p : Program} {l : Launch} {e : Env} {R : Room} {s : State} {m : MethodId} {args : Array Value} {below : List Frame} {meth : Method} {c : Code} {H : Heap} {locs : List Loc} {cells slots : Nat} {Q : State → Prop} {pc : Nat} {ls : Array Slot} {rest : List Value}
theorem lv_const {x : Int32} (y : Int32) (h : x = y) (k : W p l e R s m args below meth c H locs cells slots Q (F0 m pc ls (.int y :: rest))) : W p l e R s m args below meth c H locs cells slots Q (F0 m pc ls (.int x :: rest)) := h ▸ k
end
theorem in_pred {x : Int32} {n : Nat} {N : Int32} (hN : N = nI n) (hn : n < 2 ^ 31) (h1 : ¬ x ≤ 0) (h2 : ¬ N < x) : vp_in (x - 1) n := by
  subst hN
  have h0 : ¬ x < 0 := fun h => h1 (Int32.le_of_lt h)
  obtain ⟨j, hj, rfl⟩ := nI_of h0
  have hj0 : j ≠ 0 := fun h => h1 (by subst h; exact Int32.le_refl _)
  have hjn : j ≤ n := by
    rcases Nat.lt_or_ge n j with q | q
    · exact absurd (nI_lt q hj) h2
    · exact q
  obtain ⟨i, rfl⟩ : ∃ i, j = i + 1 := ⟨j - 1, by omega⟩
  rw [nI_pred]
  exact vp_in_nI (by omega) hn
theorem b_le_N (x : Int32) : x ≤ nI x.toNatClampNeg := by
  rw [Int32.le_iff_toInt_le]
  by_cases h : x < 0
  · have h2 : x.toInt < 0 := by simpa using Int32.lt_iff_toInt_lt.mp h
    have h3 : x.toNatClampNeg = 0 := by show x.toInt.toNat = 0; omega
    rw [h3]
    show x.toInt ≤ 0
    omega
  · obtain ⟨j, hj, rfl⟩ := nI_of h
    rw [nI_clamp hj]
    exact Int.le_refl _
theorem b_nle_N {x : Int32} {i : Nat} (h : i < x.toNatClampNeg) : ¬ x ≤ nI i := by
  have h1 : ¬ x < 0 := by
    intro h0
    have h2 : x.toInt < 0 := by simpa using Int32.lt_iff_toInt_lt.mp h0
    have h3 : x.toNatClampNeg = 0 := by show x.toInt.toNat = 0; omega
    omega
  obtain ⟨j, hj, rfl⟩ := nI_of h1
  rw [nI_clamp hj] at h
  exact nI_ge h hj
