/-! THE LAW'S steps -/
set_option maxHeartbeats 8000000 in
set_option maxRecDepth 100000 in
theorem st_r0 {p : Program} {l : Launch} {e : Env} {s : State} {m : MethodId} {args : Array Value} {below : List Frame} {meth : Method} {co : Code} {D : va_G} {E : Nat → ClassId} {o q : Nat} {S : aT} {Q : State → Prop} {X P h : Nat} {r24 r34 r54 r64 : Int32} (K : lK p l s m args co D E (rAA o q) cL_steps 20 wsL_steps) (hd : djo o q) (hP : P < 2) (hh : h < 64) (h24 : r24 = aB S) (h34 : r34 = aF 3 S (nI P) 2 0) (h54 : r54 = aF 2 S 3 0 0) (h64 : r64 = aF 2 S 4 0 0) {H : Heap} {locs : List Loc} {ls : Array Slot} (hO : Ob D E o S H) (hQ : Ob D E q S H) (hS : va_S (rAA o q) s.heap H locs) (hl : lv_has ls 20 [(0, .ref o), (1, .ref q), (2, .int (nI (X))), (3, .int (nI (P))), (4, .int r24), (5, .int r34), (6, .int (nI (h))), (7, .int r54), (8, .int r64), (9, .int 0), (10, .int 1), (11, .int (nI (0)))]) (FB : fbF S P h)
    (kk : ∀ (H : Heap) (locs : List Loc) (ls : Array Slot) (n : Nat) (cs : Int32), Ob D E o (cuS S n) H → Ob D E q (cuS S n) H → va_S (rAA o q) s.heap H locs → lv_has ls 20 [(0, .ref o), (1, .ref q), (2, .int (nI (X))), (3, .int (nI (P))), (4, .int r24), (5, .int r34), (6, .int (nI (h))), (7, .int r54), (8, .int r64), (9, .int cs), (10, .int 1), (11, .int (nI (0 + 1)))] → csF S P h cs → W p l e (lRm 10 130 780) s m args below meth co H locs (24 * (0) + 30) (6 * (24 * (0) + 30)) Q (F0 m 78 ls [])) : W p l e (lRm 10 130 780) s m args below meth co H locs (24 * (0) + 6) (6 * (24 * (0) + 6)) Q (F0 m 78 ls []) := by
  rcases FB with ⟨hb1, hb2⟩ | ⟨j, c, hj, hc, hbj, hto, hwy, Y⟩
  · refine st_r0n K hd hO hQ hS hl (by decide) rfl (h24.trans hb1) (fun H locs ls hO hQ hS hl => ?_)
    rw [← cuS_all (S := S)] at hO hQ
    exact kk _ _ _ _ _ hO hQ hS hl (csF_no hb1)
  · refine st_r0y K hd hO hQ hS hl (by decide) hP hh hj hc hto hwy Y h34 h54 rfl (h24.trans hbj) (fun H locs ls hO hQ hS hl => ?_)
    exact kk _ _ _ _ _ hO hQ hS hl (csF_at hj hc hbj hto h34)
set_option maxHeartbeats 8000000 in
set_option maxRecDepth 100000 in
theorem st_loop {p : Program} {l : Launch} {e : Env} {s : State} {m : MethodId} {args : Array Value} {below : List Frame} {meth : Method} {co : Code} {D : va_G} {E : Nat → ClassId} {o q : Nat} {S : aT} {Q : State → Prop} {X P h : Nat} {r24 r34 r54 r64 : Int32} (K : lK p l s m args co D E (rAA o q) cL_steps 20 wsL_steps) (hd : djo o q) (hP : P < 2) (hh : h < 64) (h24 : r24 = aB S) (h34 : r34 = aF 3 S (nI P) 2 0) (h54 : r54 = aF 2 S 3 0 0) (h64 : r64 = aF 2 S 4 0 0) (FK : ∀ n j, j < 3 → fkF S P h n j) {cs : Int32} (hcs : csF S P h cs)
    (kk : ∀ (H : Heap) (locs : List Loc) (ls : Array Slot) (n : Nat), Ob D E o (cuS S n) H → Ob D E q (cuS S n) H → va_S (rAA o q) s.heap H locs → lv_has ls 20 [(0, .ref o), (1, .ref q), (2, .int (nI (X))), (3, .int (nI (P))), (4, .int r24), (5, .int r34), (6, .int (nI (h))), (7, .int r54), (8, .int r64), (9, .int cs), (10, .int 1), (11, .int (nI (3 + 1)))] → W p l e (lRm 10 130 780) s m args below meth co H locs (24 * (3 + 1) + 6) (6 * (24 * (3 + 1) + 6)) Q (F0 m 78 ls [])) : ∀ (k j n : Nat), j + k = 3 → ∀ {H : Heap} {locs : List Loc} {ls : Array Slot}, Ob D E o (cuS S n) H → Ob D E q (cuS S n) H → va_S (rAA o q) s.heap H locs → lv_has ls 20 [(0, .ref o), (1, .ref q), (2, .int (nI (X))), (3, .int (nI (P))), (4, .int r24), (5, .int r34), (6, .int (nI (h))), (7, .int r54), (8, .int r64), (9, .int cs), (10, .int 1), (11, .int (nI (j + 1)))] → W p l e (lRm 10 130 780) s m args below meth co H locs (24 * (j + 1) + 6) (6 * (24 * (j + 1) + 6)) Q (F0 m 78 ls [])
  | 0, j, n, hk, _, _, _, hO, hQ, hS, hl => by
    have e : j = 3 := by omega
    subst e
    exact kk _ _ _ n hO hQ hS hl
  | k + 1, j, n, hk, _, _, _, hO, hQ, hS, hl => by
    have hj : j < 3 := by omega
    rcases FK n j hj with ⟨hwn, Nf⟩ | ⟨c, hc, hto, hwy, Y, G⟩
    · refine st_rkn K hd hO hQ hS hl hj hwn Nf (h54.trans f_cu23.symm) (fun H locs ls hO hQ hS hl => ?_)
      rw [cuS_cuS] at hO hQ
      exact W.widen (k := 24 * (j + 1 + 1) + 6) (n := 6 * (24 * (j + 1 + 1) + 6)) (by omega) (by omega) (st_loop K hd hP hh h24 h34 h54 h64 FK hcs kk k (j + 1) _ (by omega) hO hQ hS hl)
    · have G := G cs hcs
      rw [← h34, ← h24, ← f_cu24 (S := S) (n := n)] at G
      refine st_rky K hd hO hQ hS hl hP hh hj hc hto hwy Y (h34.trans (f_cu32 hP).symm) (h54.trans f_cu23.symm) (h64.trans f_cu24.symm) G (fun H locs ls hO hQ hS hl => ?_)
      rw [cuS_cuS] at hO hQ
      exact W.widen (k := 24 * (j + 1 + 1) + 6) (n := 6 * (24 * (j + 1 + 1) + 6)) (by omega) (by omega) (st_loop K hd hP hh h24 h34 h54 h64 FK hcs kk k (j + 1) _ (by omega) hO hQ hS hl)

set_option maxHeartbeats 8000000 in
set_option maxRecDepth 100000 in
theorem c_steps (l : Launch) (hst : l.stackTraces = false) (D : va_G) (E : Nat → ClassId) (o q : Nat) (hd : djo o q) (S : aT) (X : Nat) (P h : Nat) (hP : P < 2) (hh : h < 64) (e2 : S.1 2 = nI P) (eh : aF 3 S (nI P) 1 0 = nI h)
    (FB : S.1 1 = 1 → fbF S P h)
    (FK : S.1 1 = 1 → ∀ n j, j < 3 → fkF S P h n j) : Met l yL_steps wsL_steps (lRm 10 130 780) (lP D E [.ref o, .ref q, .int (nI X)] (fun H => Ob D E o S H ∧ Ob D E q S H) (rAA o q)) (lQ (fun r H => r = 1 ∧ ∃ n, Ob D E o (cuS S n) H ∧ Ob D E q (cuS S n) H) (rAA o q)) 130 780 (rAA o q) := by
  refine Met.ofW (cc := cL_steps) (maxL := 20) (ret := (some .boolean)) (by decide) rfl ?_
  intro p e s m args below meth co s₁ B hml hv
  obtain ⟨rfl, ⟨hO, hQ⟩, hKX, hZ, hNc⟩ := hv
  have hx := B.exec
  have hb := B.bytes
  have hr := B.returns
  have hts := atoms_spec (ws := wsL_steps) B.pre
  have hown : s.vm.findClass RL = some m.cls := findClass_of_methodNamed B.named
  have hlocks := B.notSynchronized
  have hS : va_S (rAA o q) s.heap s.heap [] := ⟨Nat.le_refl _, fun _ _ _ => rfl, fun _ h => by cases h⟩
  have hl := lv_entry ([.ref o, .ref q, .int (nI X)]) (n := 20) (Nat.le_of_ble_eq_true rfl)
  rw [lg_entry_eq]
  generalize (lg_sl ([.ref o, .ref q, .int (nI X)]) ++ List.replicate (20 - (lg_sl ([.ref o, .ref q, .int (nI X)])).length) Slot.unset).toArray = ls at hl ⊢
  have hl : lv_has ls 20 [(0, .ref o), (1, .ref q), (2, .int (nI (X)))] := hl
  have K : lK p l s m _ co D E (rAA o q) cL_steps 20 wsL_steps := ⟨hx, hb, hml, hown, hts, hKX, hZ, hNc, hst⟩
  refine lv_aload_n hx hb dL_steps_0 rfl (lv_at hl 0 rfl) ?_
  refine lv_iconst (v := 2) hx hb dL_steps_1 (by decide) ?_
  refine lv_iconst (v := 1) hx hb dL_steps_2 (by decide) ?_
  refine lv_iconst (v := 0) hx hb dL_steps_3 (by decide) ?_
  refine lv_iconst (v := 0) hx hb dL_steps_4 (by decide) ?_
  refine l_go (cells' := 1) (slots' := 6) (l_runS (P := Ob D E o S) (As := [.ref o, .int 2, .int 1, .int 0, .int 0]) (rest := []) ⟨hx, hb, hml, hown, hts⟩ (c_call_2 l hst D E o S 1 0 0) (va_cwS 5 hts gL_steps_L_call rfl rfl rfl (by decide +kernel) ⟨Nat.le_of_ble_eq_true rfl, Nat.le_of_ble_eq_true rfl⟩) hO hKX (l_Z hZ hS (fun _ h => Or.inl h)) hNc rfl hl rfl (Nat.le_of_ble_eq_true rfl) dL_steps_5 ⟨Nat.le_of_ble_eq_true rfl, Nat.le_of_ble_eq_true rfl⟩) hS (fun _ h => Or.inl h) ⟨Nat.le_of_ble_eq_true rfl, Nat.le_of_ble_eq_true rfl⟩ (fun r5 H locs hp hq hz hS => ?_)
  obtain ⟨h5, hO⟩ := hp
  have hO : Ob D E o S H := hO
  have hQ := hQ.kept hq (dj_1 hd)
  refine lv_iconst (v := 1) hx hb dL_steps_8 (by decide) ?_
  refine lv_icmp_eq (tgt := 14) hx hb dL_steps_9 (by decide) (fun cp => ?_) (fun cp => ?_)
  · have hph : S.1 1 = 1 := (h5.trans a_ab1).symm.trans cp
    have FB := FB hph
    have FK := FK hph
    refine lv_aload_n hx hb dL_steps_14 rfl (lv_at hl 0 rfl) ?_
    refine lv_iconst (v := 2) hx hb dL_steps_15 (by decide) ?_
    refine lv_iconst (v := 2) hx hb dL_steps_16 (by decide) ?_
    refine lv_iconst (v := 0) hx hb dL_steps_17 (by decide) ?_
    refine lv_iconst (v := 0) hx hb dL_steps_18 (by decide) ?_
    refine l_go (cells' := 2) (slots' := 12) (l_runS (P := Ob D E o S) (As := [.ref o, .int 2, .int 2, .int 0, .int 0]) (rest := []) ⟨hx, hb, hml, hown, hts⟩ (c_call_2 l hst D E o S 2 0 0) (va_cwS 5 hts gL_steps_L_call rfl rfl rfl (by decide +kernel) ⟨Nat.le_of_ble_eq_true rfl, Nat.le_of_ble_eq_true rfl⟩) hO hKX (l_Z hZ hS (fun _ h => Or.inl h)) hNc rfl hl rfl (Nat.le_of_ble_eq_true rfl) dL_steps_19 ⟨Nat.le_of_ble_eq_true rfl, Nat.le_of_ble_eq_true rfl⟩) hS (fun _ h => Or.inl h) ⟨Nat.le_of_ble_eq_true rfl, Nat.le_of_ble_eq_true rfl⟩ (fun r19 H locs hp hq hz hS => ?_)
    obtain ⟨h19, hO⟩ := hp
    have hO : Ob D E o S H := hO
    have hQ := hQ.kept hq (dj_1 hd)
    refine w_eqI (h19.trans (a_ab2.trans ((if_pos hph).trans e2))) ?_
    refine lv_istore_n (lv' := [(3, .int (nI (P))), (0, .ref o), (1, .ref q), (2, .int (nI (X)))]) hx hb dL_steps_22 rfl hl (by decide) rfl (fun ls hl => ?_)
    refine lv_aload_n hx hb dL_steps_23 rfl (lv_at hl 1 rfl) ?_
    obtain ⟨M, hM, hB⟩ := hO
    refine w_mI (b_runV (As := []) (rest := []) ⟨hx, hb, hml, hown, hts⟩ (c_X6_best l D E o M) (cwV 0 hts gL_steps_X6_best rfl rfl rfl (by decide +kernel) ⟨Nat.le_of_ble_eq_true rfl, Nat.le_of_ble_eq_true rfl⟩) hKX.1 (bk_recv hKX.1.1 hB lay_0 rfl) hB rfl hl rfl (Nat.le_of_ble_eq_true rfl) dL_steps_24 ⟨Nat.le_of_ble_eq_true rfl, Nat.le_of_ble_eq_true rfl⟩) hS (fun _ h => Or.inl h) (fun r24 M1 hr H locs hB hq hz hS => ?_)
    obtain ⟨h24, hr2⟩ := hr
    have hcl := best_cl hM
    rw [← hr2] at hcl
    have h24 := h24.trans hcl.1
    have hO : Ob D E o S H := ⟨M1, hcl.2, hB⟩
    have hQ := hQ.kept (fun x _ h => hq x h) (dj_1 hd)
    refine lv_istore (lv' := [(4, .int r24), (3, .int (nI (P))), (0, .ref o), (1, .ref q), (2, .int (nI (X)))]) hx hb dL_steps_27 hl (by decide) rfl (fun ls hl => ?_)
    refine lv_aload_n hx hb dL_steps_29 rfl (lv_at hl 2 rfl) ?_
    refine lv_iconst (v := 3) hx hb dL_steps_30 (by decide) ?_
    refine lv_iload_n hx hb dL_steps_31 rfl (lv_at hl 1 rfl) ?_
    refine lv_iconst (v := 2) hx hb dL_steps_32 (by decide) ?_
    refine lv_iconst (v := 0) hx hb dL_steps_33 (by decide) ?_
    refine l_go (cells' := 3) (slots' := 18) (l_runS (P := Ob D E o S) (As := [.ref o, .int 3, .int (nI (P)), .int 2, .int 0]) (rest := []) ⟨hx, hb, hml, hown, hts⟩ (c_call_3 l hst D E o S (nI (P)) 2 0) (va_cwS 5 hts gL_steps_L_call rfl rfl rfl (by decide +kernel) ⟨Nat.le_of_ble_eq_true rfl, Nat.le_of_ble_eq_true rfl⟩) hO hKX (l_Z hZ hS (fun _ h => Or.inl h)) hNc rfl hl rfl (Nat.le_of_ble_eq_true rfl) dL_steps_34 ⟨Nat.le_of_ble_eq_true rfl, Nat.le_of_ble_eq_true rfl⟩) hS (fun _ h => Or.inl h) ⟨Nat.le_of_ble_eq_true rfl, Nat.le_of_ble_eq_true rfl⟩ (fun r34 H locs hp hq hz hS => ?_)
    obtain ⟨h34, hO⟩ := hp
    have hO : Ob D E o S H := hO
    have hQ := hQ.kept hq (dj_1 hd)
    refine lv_istore (lv' := [(5, .int r34), (4, .int r24), (3, .int (nI (P))), (0, .ref o), (1, .ref q), (2, .int (nI (X)))]) hx hb dL_steps_37 hl (by decide) rfl (fun ls hl => ?_)
    refine lv_aload_n hx hb dL_steps_39 rfl (lv_at hl 3 rfl) ?_
    refine lv_iconst (v := 3) hx hb dL_steps_40 (by decide) ?_
    refine lv_iload_n hx hb dL_steps_41 rfl (lv_at hl 2 rfl) ?_
    refine lv_iconst (v := 1) hx hb dL_steps_42 (by decide) ?_
    refine lv_iconst (v := 0) hx hb dL_steps_43 (by decide) ?_
    refine l_go (cells' := 4) (slots' := 24) (l_runS (P := Ob D E o S) (As := [.ref o, .int 3, .int (nI (P)), .int 1, .int 0]) (rest := []) ⟨hx, hb, hml, hown, hts⟩ (c_call_3 l hst D E o S (nI (P)) 1 0) (va_cwS 5 hts gL_steps_L_call rfl rfl rfl (by decide +kernel) ⟨Nat.le_of_ble_eq_true rfl, Nat.le_of_ble_eq_true rfl⟩) hO hKX (l_Z hZ hS (fun _ h => Or.inl h)) hNc rfl hl rfl (Nat.le_of_ble_eq_true rfl) dL_steps_44 ⟨Nat.le_of_ble_eq_true rfl, Nat.le_of_ble_eq_true rfl⟩) hS (fun _ h => Or.inl h) ⟨Nat.le_of_ble_eq_true rfl, Nat.le_of_ble_eq_true rfl⟩ (fun r44 H locs hp hq hz hS => ?_)
    obtain ⟨h44, hO⟩ := hp
    have hO : Ob D E o S H := hO
    have hQ := hQ.kept hq (dj_1 hd)
    refine w_eqI (h44.trans eh) ?_
    refine lv_istore (lv' := [(6, .int (nI (h))), (5, .int r34), (4, .int r24), (3, .int (nI (P))), (0, .ref o), (1, .ref q), (2, .int (nI (X)))]) hx hb dL_steps_47 hl (by decide) rfl (fun ls hl => ?_)
    refine lv_aload_n hx hb dL_steps_49 rfl (lv_at hl 4 rfl) ?_
    refine lv_iconst (v := 2) hx hb dL_steps_50 (by decide) ?_
    refine lv_iconst (v := 3) hx hb dL_steps_51 (by decide) ?_
    refine lv_iconst (v := 0) hx hb dL_steps_52 (by decide) ?_
    refine lv_iconst (v := 0) hx hb dL_steps_53 (by decide) ?_
    refine l_go (cells' := 5) (slots' := 30) (l_runS (P := Ob D E o S) (As := [.ref o, .int 2, .int 3, .int 0, .int 0]) (rest := []) ⟨hx, hb, hml, hown, hts⟩ (c_call_2 l hst D E o S 3 0 0) (va_cwS 5 hts gL_steps_L_call rfl rfl rfl (by decide +kernel) ⟨Nat.le_of_ble_eq_true rfl, Nat.le_of_ble_eq_true rfl⟩) hO hKX (l_Z hZ hS (fun _ h => Or.inl h)) hNc rfl hl rfl (Nat.le_of_ble_eq_true rfl) dL_steps_54 ⟨Nat.le_of_ble_eq_true rfl, Nat.le_of_ble_eq_true rfl⟩) hS (fun _ h => Or.inl h) ⟨Nat.le_of_ble_eq_true rfl, Nat.le_of_ble_eq_true rfl⟩ (fun r54 H locs hp hq hz hS => ?_)
    obtain ⟨h54, hO⟩ := hp
    have hO : Ob D E o S H := hO
    have hQ := hQ.kept hq (dj_1 hd)
    refine lv_istore (lv' := [(7, .int r54), (6, .int (nI (h))), (5, .int r34), (4, .int r24), (3, .int (nI (P))), (0, .ref o), (1, .ref q), (2, .int (nI (X)))]) hx hb dL_steps_57 hl (by decide) rfl (fun ls hl => ?_)
    refine lv_aload_n hx hb dL_steps_59 rfl (lv_at hl 5 rfl) ?_
    refine lv_iconst (v := 2) hx hb dL_steps_60 (by decide) ?_
    refine lv_iconst (v := 4) hx hb dL_steps_61 (by decide) ?_
    refine lv_iconst (v := 0) hx hb dL_steps_62 (by decide) ?_
    refine lv_iconst (v := 0) hx hb dL_steps_63 (by decide) ?_
    refine l_go (cells' := 6) (slots' := 36) (l_runS (P := Ob D E o S) (As := [.ref o, .int 2, .int 4, .int 0, .int 0]) (rest := []) ⟨hx, hb, hml, hown, hts⟩ (c_call_2 l hst D E o S 4 0 0) (va_cwS 5 hts gL_steps_L_call rfl rfl rfl (by decide +kernel) ⟨Nat.le_of_ble_eq_true rfl, Nat.le_of_ble_eq_true rfl⟩) hO hKX (l_Z hZ hS (fun _ h => Or.inl h)) hNc rfl hl rfl (Nat.le_of_ble_eq_true rfl) dL_steps_64 ⟨Nat.le_of_ble_eq_true rfl, Nat.le_of_ble_eq_true rfl⟩) hS (fun _ h => Or.inl h) ⟨Nat.le_of_ble_eq_true rfl, Nat.le_of_ble_eq_true rfl⟩ (fun r64 H locs hp hq hz hS => ?_)
    obtain ⟨h64, hO⟩ := hp
    have hO : Ob D E o S H := hO
    have hQ := hQ.kept hq (dj_1 hd)
    refine lv_istore (lv' := [(8, .int r64), (7, .int r54), (6, .int (nI (h))), (5, .int r34), (4, .int r24), (3, .int (nI (P))), (0, .ref o), (1, .ref q), (2, .int (nI (X)))]) hx hb dL_steps_67 hl (by decide) rfl (fun ls hl => ?_)
    refine lv_iconst (v := 0) hx hb dL_steps_69 (by decide) ?_
    refine lv_istore (lv' := [(9, .int 0), (8, .int r64), (7, .int r54), (6, .int (nI (h))), (5, .int r34), (4, .int r24), (3, .int (nI (P))), (0, .ref o), (1, .ref q), (2, .int (nI (X)))]) hx hb dL_steps_70 hl (by decide) rfl (fun ls hl => ?_)
    refine lv_iconst (v := 1) hx hb dL_steps_72 (by decide) ?_
    refine lv_istore (lv' := [(10, .int 1), (9, .int 0), (8, .int r64), (7, .int r54), (6, .int (nI (h))), (5, .int r34), (4, .int r24), (3, .int (nI (P))), (0, .ref o), (1, .ref q), (2, .int (nI (X)))]) hx hb dL_steps_73 hl (by decide) rfl (fun ls hl => ?_)
    refine lv_iconst (v := 0) hx hb dL_steps_75 (by decide) ?_
    refine lv_istore (lv' := [(11, .int 0), (10, .int 1), (9, .int 0), (8, .int r64), (7, .int r54), (6, .int (nI (h))), (5, .int r34), (4, .int r24), (3, .int (nI (P))), (0, .ref o), (1, .ref q), (2, .int (nI (X)))]) hx hb dL_steps_76 hl (by decide) rfl (fun ls hl => ?_)
    have hl : lv_has ls 20 [(0, .ref o), (1, .ref q), (2, .int (nI (X))), (3, .int (nI (P))), (4, .int r24), (5, .int r34), (6, .int (nI (h))), (7, .int r54), (8, .int r64), (9, .int 0), (10, .int 1), (11, .int 0)] := lv_sub hl [9, 10, 11, 8, 7, 6, 5, 4, 3, 2, 1, 0] rfl
    refine W.widen (k := 6) (n := 36) (Nat.le_of_ble_eq_true rfl) (Nat.le_of_ble_eq_true rfl) ?_
    refine st_r0 K hd hP hh h24 h34 h54 h64 hO hQ hS hl FB (fun H locs ls n cs hO hQ hS hl hcs => ?_)
    refine W.widen (k := 24 * (0 + 1) + 6) (n := 6 * (24 * (0 + 1) + 6)) (by omega) (by omega) ?_
    refine st_loop K hd hP hh h24 h34 h54 h64 FK hcs (fun H locs ls n hO hQ hS hl => ?_) 3 0 n (by omega) hO hQ hS hl
    refine W.widen (k := 102) (n := 612) (Nat.le_of_ble_eq_true rfl) (Nat.le_of_ble_eq_true rfl) ?_
    refine lv_iload hx hb dL_steps_78 (lv_at hl 11 rfl) ?_
    refine lv_iconst (v := 4) hx hb dL_steps_80 (by decide) ?_
    refine lv_icmp_ge (tgt := 640) hx hb dL_steps_81 (by decide) (fun _ => ?_) (fun z => absurd (nI_le (a := 4) (b := 3 + 1) (Nat.le_refl _) (by decide)) z)
    refine lv_iload hx hb dL_steps_640 (lv_at hl 10 rfl) ?_
    refine lv_if_eq (tgt := 701) hx hb dL_steps_642 (by decide) (fun z => absurd z (show ¬ (1 : Int32) = 0 by decide)) (fun _ => ?_)
    refine lv_iload hx hb dL_steps_645 (lv_at hl 4 rfl) ?_
    refine lv_iconst (v := (-1)) hx hb dL_steps_647 (by decide) ?_
    refine lv_icmp_ne (tgt := 658) hx hb dL_steps_648 (by decide) (fun cb => ?_) (fun cb => ?_)
    · refine lv_aload_n hx hb dL_steps_658 rfl (lv_at hl 0 rfl) ?_
      refine lv_iconst (v := 3) hx hb dL_steps_659 (by decide) ?_
      refine lv_iload_n hx hb dL_steps_660 rfl (lv_at hl 3 rfl) ?_
      refine lv_iconst (v := 1) hx hb dL_steps_661 (by decide) ?_
      refine lv_iconst (v := 0) hx hb dL_steps_662 (by decide) ?_
      refine l_go (cells' := 103) (slots' := 618) (l_runS (P := Ob D E o (cuS S n)) (As := [.ref o, .int 3, .int (nI (P)), .int 1, .int 0]) (rest := []) ⟨hx, hb, hml, hown, hts⟩ (c_call_3 l hst D E o (cuS S n) (nI (P)) 1 0) (va_cwS 5 hts gL_steps_L_call rfl rfl rfl (by decide +kernel) ⟨Nat.le_of_ble_eq_true rfl, Nat.le_of_ble_eq_true rfl⟩) hO hKX (l_Z hZ hS (fun _ h => Or.inl h)) hNc rfl hl rfl (Nat.le_of_ble_eq_true rfl) dL_steps_663 ⟨Nat.le_of_ble_eq_true rfl, Nat.le_of_ble_eq_true rfl⟩) hS (fun _ h => Or.inl h) ⟨Nat.le_of_ble_eq_true rfl, Nat.le_of_ble_eq_true rfl⟩ (fun r663 H locs hp hq hz hS => ?_)
      obtain ⟨h663, hO⟩ := hp
      rw [tF_3] at hO
      have hQ := hQ.kept hq (dj_1 hd)
      refine lv_iload hx hb dL_steps_666 (lv_at hl 6 rfl) ?_
      refine lv_icmp_ne (tgt := 701) hx hb dL_steps_668 (by decide) (fun z => absurd (h663.trans ((f_cu31 hP).trans eh)) z) (fun _ => ?_)
      refine lv_aload_n hx hb dL_steps_671 rfl (lv_at hl 0 rfl) ?_
      refine lv_iconst (v := 3) hx hb dL_steps_672 (by decide) ?_
      refine lv_iload_n hx hb dL_steps_673 rfl (lv_at hl 3 rfl) ?_
      refine lv_iconst (v := 2) hx hb dL_steps_674 (by decide) ?_
      refine lv_iconst (v := 0) hx hb dL_steps_675 (by decide) ?_
      refine l_go (cells' := 104) (slots' := 624) (l_runS (P := Ob D E o (cuS S n)) (As := [.ref o, .int 3, .int (nI (P)), .int 2, .int 0]) (rest := []) ⟨hx, hb, hml, hown, hts⟩ (c_call_3 l hst D E o (cuS S n) (nI (P)) 2 0) (va_cwS 5 hts gL_steps_L_call rfl rfl rfl (by decide +kernel) ⟨Nat.le_of_ble_eq_true rfl, Nat.le_of_ble_eq_true rfl⟩) hO hKX (l_Z hZ hS (fun _ h => Or.inl h)) hNc rfl hl rfl (Nat.le_of_ble_eq_true rfl) dL_steps_676 ⟨Nat.le_of_ble_eq_true rfl, Nat.le_of_ble_eq_true rfl⟩) hS (fun _ h => Or.inl h) ⟨Nat.le_of_ble_eq_true rfl, Nat.le_of_ble_eq_true rfl⟩ (fun r676 H locs hp hq hz hS => ?_)
      obtain ⟨h676, hO⟩ := hp
      rw [tF_3] at hO
      have hQ := hQ.kept hq (dj_1 hd)
      refine lv_iload hx hb dL_steps_679 (lv_at hl 5 rfl) ?_
      refine lv_icmp_ne (tgt := 701) hx hb dL_steps_681 (by decide) (fun z => absurd (h676.trans ((f_cu32 hP).trans h34.symm)) z) (fun _ => ?_)
      refine lv_aload_n hx hb dL_steps_684 rfl (lv_at hl 0 rfl) ?_
      refine lv_iconst (v := 2) hx hb dL_steps_685 (by decide) ?_
      refine lv_iconst (v := 3) hx hb dL_steps_686 (by decide) ?_
      refine lv_iconst (v := 0) hx hb dL_steps_687 (by decide) ?_
      refine lv_iconst (v := 0) hx hb dL_steps_688 (by decide) ?_
      refine l_go (cells' := 105) (slots' := 630) (l_runS (P := Ob D E o (cuS S n)) (As := [.ref o, .int 2, .int 3, .int 0, .int 0]) (rest := []) ⟨hx, hb, hml, hown, hts⟩ (c_call_2 l hst D E o (cuS S n) 3 0 0) (va_cwS 5 hts gL_steps_L_call rfl rfl rfl (by decide +kernel) ⟨Nat.le_of_ble_eq_true rfl, Nat.le_of_ble_eq_true rfl⟩) hO hKX (l_Z hZ hS (fun _ h => Or.inl h)) hNc rfl hl rfl (Nat.le_of_ble_eq_true rfl) dL_steps_689 ⟨Nat.le_of_ble_eq_true rfl, Nat.le_of_ble_eq_true rfl⟩) hS (fun _ h => Or.inl h) ⟨Nat.le_of_ble_eq_true rfl, Nat.le_of_ble_eq_true rfl⟩ (fun r689 H locs hp hq hz hS => ?_)
      obtain ⟨h689, hO⟩ := hp
      rw [tF_2] at hO
      have hQ := hQ.kept hq (dj_1 hd)
      refine lv_iload hx hb dL_steps_692 (lv_at hl 7 rfl) ?_
      refine lv_icmp_ne (tgt := 701) hx hb dL_steps_694 (by decide) (fun z => absurd (h689.trans (f_cu23.trans h54.symm)) z) (fun _ => ?_)
      refine lv_iconst (v := 1) hx hb dL_steps_697 (by decide) ?_
      refine lv_goto (tgt := 702) hx hb dL_steps_698 (by decide) ?_
      exact l_zret hx hb hr (Or.inr rfl) hlocks hS ⟨rfl, n, hO, hQ⟩ ⟨Nat.le_of_ble_eq_true rfl, Nat.le_of_ble_eq_true rfl⟩ dL_steps_702
    · have FN : ∀ j, j < 3 → 0 < aF 12 (cuS S n) (nI j) 0 0 := by
        rcases FB with ⟨_, F⟩ | ⟨j, c, hj, _, hbj, _⟩
        · exact F n
        · exact absurd (cb.symm.trans (h24.trans hbj)).symm (nI_ne_m1 (by omega))
      refine lv_aload_n hx hb dL_steps_651 rfl (lv_at hl 0 rfl) ?_
      refine l_go (cells' := 105) (slots' := 630) (l_runS (P := Ob D E o (cuS S n)) (As := [.ref o]) (rest := []) ⟨hx, hb, hml, hown, hts⟩ (c_stuck l hst D E o (cuS S n) (FN)) (va_cwS 1 hts gL_steps_L_stuck rfl rfl rfl (by decide +kernel) ⟨Nat.le_of_ble_eq_true rfl, Nat.le_of_ble_eq_true rfl⟩) hO hKX (l_Z hZ hS (fun _ h => Or.inl h)) hNc rfl hl rfl (Nat.le_of_ble_eq_true rfl) dL_steps_652 ⟨Nat.le_of_ble_eq_true rfl, Nat.le_of_ble_eq_true rfl⟩) hS (fun _ h => Or.inl h) ⟨Nat.le_of_ble_eq_true rfl, Nat.le_of_ble_eq_true rfl⟩ (fun r652 H locs hp hq hz hS => ?_)
      obtain ⟨h652, hO⟩ := hp
      have hO : Ob D E o (cuS S n) H := hO
      have hQ := hQ.kept hq (dj_1 hd)
      refine lv_if_eq (tgt := 701) hx hb dL_steps_655 (by decide) (fun z => absurd z (by rw [h652]; decide)) (fun _ => ?_)
      refine lv_aload_n hx hb dL_steps_658 rfl (lv_at hl 0 rfl) ?_
      refine lv_iconst (v := 3) hx hb dL_steps_659 (by decide) ?_
      refine lv_iload_n hx hb dL_steps_660 rfl (lv_at hl 3 rfl) ?_
      refine lv_iconst (v := 1) hx hb dL_steps_661 (by decide) ?_
      refine lv_iconst (v := 0) hx hb dL_steps_662 (by decide) ?_
      refine l_go (cells' := 106) (slots' := 636) (l_runS (P := Ob D E o (cuS S n)) (As := [.ref o, .int 3, .int (nI (P)), .int 1, .int 0]) (rest := []) ⟨hx, hb, hml, hown, hts⟩ (c_call_3 l hst D E o (cuS S n) (nI (P)) 1 0) (va_cwS 5 hts gL_steps_L_call rfl rfl rfl (by decide +kernel) ⟨Nat.le_of_ble_eq_true rfl, Nat.le_of_ble_eq_true rfl⟩) hO hKX (l_Z hZ hS (fun _ h => Or.inl h)) hNc rfl hl rfl (Nat.le_of_ble_eq_true rfl) dL_steps_663 ⟨Nat.le_of_ble_eq_true rfl, Nat.le_of_ble_eq_true rfl⟩) hS (fun _ h => Or.inl h) ⟨Nat.le_of_ble_eq_true rfl, Nat.le_of_ble_eq_true rfl⟩ (fun r663 H locs hp hq hz hS => ?_)
      obtain ⟨h663, hO⟩ := hp
      rw [tF_3] at hO
      have hQ := hQ.kept hq (dj_1 hd)
      refine lv_iload hx hb dL_steps_666 (lv_at hl 6 rfl) ?_
      refine lv_icmp_ne (tgt := 701) hx hb dL_steps_668 (by decide) (fun z => absurd (h663.trans ((f_cu31 hP).trans eh)) z) (fun _ => ?_)
      refine lv_aload_n hx hb dL_steps_671 rfl (lv_at hl 0 rfl) ?_
      refine lv_iconst (v := 3) hx hb dL_steps_672 (by decide) ?_
      refine lv_iload_n hx hb dL_steps_673 rfl (lv_at hl 3 rfl) ?_
      refine lv_iconst (v := 2) hx hb dL_steps_674 (by decide) ?_
      refine lv_iconst (v := 0) hx hb dL_steps_675 (by decide) ?_
      refine l_go (cells' := 107) (slots' := 642) (l_runS (P := Ob D E o (cuS S n)) (As := [.ref o, .int 3, .int (nI (P)), .int 2, .int 0]) (rest := []) ⟨hx, hb, hml, hown, hts⟩ (c_call_3 l hst D E o (cuS S n) (nI (P)) 2 0) (va_cwS 5 hts gL_steps_L_call rfl rfl rfl (by decide +kernel) ⟨Nat.le_of_ble_eq_true rfl, Nat.le_of_ble_eq_true rfl⟩) hO hKX (l_Z hZ hS (fun _ h => Or.inl h)) hNc rfl hl rfl (Nat.le_of_ble_eq_true rfl) dL_steps_676 ⟨Nat.le_of_ble_eq_true rfl, Nat.le_of_ble_eq_true rfl⟩) hS (fun _ h => Or.inl h) ⟨Nat.le_of_ble_eq_true rfl, Nat.le_of_ble_eq_true rfl⟩ (fun r676 H locs hp hq hz hS => ?_)
      obtain ⟨h676, hO⟩ := hp
      rw [tF_3] at hO
      have hQ := hQ.kept hq (dj_1 hd)
      refine lv_iload hx hb dL_steps_679 (lv_at hl 5 rfl) ?_
      refine lv_icmp_ne (tgt := 701) hx hb dL_steps_681 (by decide) (fun z => absurd (h676.trans ((f_cu32 hP).trans h34.symm)) z) (fun _ => ?_)
      refine lv_aload_n hx hb dL_steps_684 rfl (lv_at hl 0 rfl) ?_
      refine lv_iconst (v := 2) hx hb dL_steps_685 (by decide) ?_
      refine lv_iconst (v := 3) hx hb dL_steps_686 (by decide) ?_
      refine lv_iconst (v := 0) hx hb dL_steps_687 (by decide) ?_
      refine lv_iconst (v := 0) hx hb dL_steps_688 (by decide) ?_
      refine l_go (cells' := 108) (slots' := 648) (l_runS (P := Ob D E o (cuS S n)) (As := [.ref o, .int 2, .int 3, .int 0, .int 0]) (rest := []) ⟨hx, hb, hml, hown, hts⟩ (c_call_2 l hst D E o (cuS S n) 3 0 0) (va_cwS 5 hts gL_steps_L_call rfl rfl rfl (by decide +kernel) ⟨Nat.le_of_ble_eq_true rfl, Nat.le_of_ble_eq_true rfl⟩) hO hKX (l_Z hZ hS (fun _ h => Or.inl h)) hNc rfl hl rfl (Nat.le_of_ble_eq_true rfl) dL_steps_689 ⟨Nat.le_of_ble_eq_true rfl, Nat.le_of_ble_eq_true rfl⟩) hS (fun _ h => Or.inl h) ⟨Nat.le_of_ble_eq_true rfl, Nat.le_of_ble_eq_true rfl⟩ (fun r689 H locs hp hq hz hS => ?_)
      obtain ⟨h689, hO⟩ := hp
      rw [tF_2] at hO
      have hQ := hQ.kept hq (dj_1 hd)
      refine lv_iload hx hb dL_steps_692 (lv_at hl 7 rfl) ?_
      refine lv_icmp_ne (tgt := 701) hx hb dL_steps_694 (by decide) (fun z => absurd (h689.trans (f_cu23.trans h54.symm)) z) (fun _ => ?_)
      refine lv_iconst (v := 1) hx hb dL_steps_697 (by decide) ?_
      refine lv_goto (tgt := 702) hx hb dL_steps_698 (by decide) ?_
      exact l_zret hx hb hr (Or.inr rfl) hlocks hS ⟨rfl, n, hO, hQ⟩ ⟨Nat.le_of_ble_eq_true rfl, Nat.le_of_ble_eq_true rfl⟩ dL_steps_702
  · refine lv_iconst (v := 1) hx hb dL_steps_12 (by decide) ?_
    rw [← cuS_all (S := S)] at hO hQ
    exact l_zret hx hb hr (Or.inr rfl) hlocks hS ⟨rfl, _, hO, hQ⟩ ⟨Nat.le_of_ble_eq_true rfl, Nat.le_of_ble_eq_true rfl⟩ dL_steps_13
