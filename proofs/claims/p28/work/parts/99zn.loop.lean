/-! THE LAW: its loop -/
set_option maxHeartbeats 8000000 in
set_option maxRecDepth 100000 in
theorem law_loop {p : Program} {l : Launch} {e : Env} {s : State} {m : MethodId} {args : Array Value} {below : List Frame} {meth : Method} {co : Code} {D : va_G} {E : Nat → ClassId} {o q b L t : Nat} {xs : Nat → Int32} {Q : State → Prop} (K : lK p l s m args co D E (aL0 s) cL_law 8 wsL_law) (hd : djo o q) (hoA : s.heap.size ≤ o) (hqA : s.heap.size ≤ q) (hX : va_X b L xs s s.heap) (hbl : b < s.heap.size) (hL : L ≤ 260) (ht : t ≤ 40)
    (kend : ∀ (H : Heap) (locs : List Loc) (ls : Array Slot), va_S (aL0 s) s.heap H locs → lv_has ls 8 [(0, .ref b), (1, .ref o), (2, .ref q), (3, .int (nI (t))), (4, .int 1), (5, .int (nI (t)))] → W p l e room_1 s m args below meth co H locs (970 * t + 3100) (6 * (970 * t + 3100)) Q (F0 m 34 ls [])) : ∀ (n i : Nat), i + n = t → ∀ {S : aT} {H : Heap} {locs : List Loc} {ls : Array Slot}, gI (81 * i) S → Ob D E o S H → Ob D E q S H → va_S (aL0 s) s.heap H locs → lv_has ls 8 [(0, .ref b), (1, .ref o), (2, .ref q), (3, .int (nI (t))), (4, .int 1), (5, .int (nI (i)))] → W p l e room_1 s m args below meth co H locs (970 * (i) + 3100) (6 * (970 * (i) + 3100)) Q (F0 m 34 ls [])
  | 0, i, h, S, _, _, _, g, hO, hQ, hS, hl => by
    have e : i = t := by omega
    subst e
    exact kend _ _ _ hS hl
  | n + 1, i, h, S, _, _, _, g, hO, hQ, hS, hl => law_A K hd hoA hqA hX hbl hL ht (i := i) (by omega) g hO hQ hS hl (fun T H locs ls g1 hO hQ hS hl => law_loop K hd hoA hqA hX hbl hL ht kend n (i + 1) (by omega) (gI_le (Nat.le_of_eq (Nat.mul_succ 81 i).symm) g1) hO hQ hS hl)
