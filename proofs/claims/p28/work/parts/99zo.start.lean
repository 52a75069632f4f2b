/-! THE CLAIM OUT OF ONE WALK OF THE LAW'S BODY. Your part is whole_start (and what it stands on); all else here is the same for every law, but numbers. -/
def R_law : String := "RiverMeetingLaw"
def lw_P (b : Addr) (xs : List Int32) (args : Array Value) (s : State) : Prop := args = #[.ref b] ∧ s.IntsAt b xs ∧ xs.length ≤ 260 ∧ (Jvm.Cond.and given_1 narrow_1).before args s = true
def lw_Q (_ : Array Value) (s : State) (o : Outcome) (t : State) : Prop := o = .returned (some (.int 1)) ∧ Framed s o t [] 600130 7301080
def lw_Z (below : List Frame) (a : Array Value) (s : State) : State → Prop := fun t => ∃ o, t.status = .running ∧ Ended t below o ∧ lw_Q a s o t
/-- the law's own end, with 1 on the stack, nothing written that was there before, its room as the claim has it -/
theorem lw_ret {p : Program} {l : Launch} {e : Env} {s : State} {m : MethodId} {below : List Frame} {meth : Method} {c : Code} {b : Nat} (hx : p.tables.exec = Jvm.exec) (hb : c.code = code) (hr : meth.sig.returnType = ret) (hlocks : meth.locks = false) {pc : Nat} {H : Heap} {ls : Array Slot} (hdg : decode code pc = .ok (.ireturn, 1)) : W p l e room_1 s m #[Value.ref b] below meth c H [] 600130 7301080 (lw_Z below #[Value.ref b] s) (F0 m pc ls [.int 1]) := by
  intro T hT X
  obtain ⟨fs, hret, hrun, hended, hW, hframe⟩ := X.leave (v := some (.int 1)) (hlocks := hlocks) (fun h => by rw [hr] at h; cases h)
  have hmeth' : T.vm.method? m = some meth := X.method'
  refine ⟨T.setFrames fs, ?_, .returned (some (.int 1)), hrun, hended, rfl, ⟨_, rfl⟩, hW, hframe⟩
  jvm_step X.here [X.here.top, hx, hb, hdg, hmeth', hr, ret, narrow_b1]
  (try refine ⟨rfl, ?_⟩); (try refine ⟨rfl, ?_⟩)
  first | (intro acts; rw [hret _ acts rfl rfl rfl]) | rw [hret _ _ rfl rfl rfl]
  exact Steps.refl _
/-- what holds at the law's entry: the machine, the code, the tables' words (any of lw_tbl by 'hts w (by decide +kernel)'), the script of L ints xs at the cell b, what the Statement gives of the start (any of its parts by flat_of_before) -/
def lw_At (p : Program) (s : State) (m : MethodId) (meth : Method) (c : Code) (b L : Nat) (xs : Nat → Int32) : Prop :=
  p.tables.exec = Jvm.exec ∧ c.code = code ∧ meth.sig.returnType = ret ∧ c.maxLocals = 8 ∧ s.vm.findClass R_law = some m.cls ∧ (∀ w ∈ lw_tbl, w.before #[Value.ref b] s = true) ∧ va_X b L xs s s.heap ∧ b < s.heap.size ∧ meth.locks = false ∧ (Jvm.Cond.and given_1 narrow_1).before #[Value.ref b] s = true

set_option maxHeartbeats 8000000 in
set_option maxRecDepth 100000 in
theorem law_start {p : Program} {l : Launch} {e : Env} {s : State} {m : MethodId} {below : List Frame} {meth : Method} {c : Code} {D : va_G} {E : Nat → ClassId} {o q b L : Nat} {xs : Nat → Int32} (K : lK p l s m #[Value.ref b] c D E (aL0 s) cL_law 8 wsL_law) (hd : djo o q) (hoA : s.heap.size ≤ o) (hqA : s.heap.size ≤ q) (hX : va_X b L xs s s.heap) (hbl : b < s.heap.size) (hL : L ≤ 260) (hr : meth.sig.returnType = ret) (hlocks : meth.locks = false) {H : Heap} {locs : List Loc} {ls : Array Slot} (hO : Ob D E o S0a H) (hQ : Ob D E q S0a H) (hS : va_S (aL0 s) s.heap H locs) (hl : lv_has ls 8 [(0, .ref b), (1, .ref o), (2, .ref q)]) : W p l e room_1 s m #[Value.ref b] below meth c H locs 3100 18600 (lw_Z below #[Value.ref b] s) (F0 m 16 ls []) := by
  obtain ⟨hx, hb, hml, hown, hts, hKX, hZ, hNc, hst⟩ := id K
  have hAo : ∀ x, rA o x → aL0 s x := fun x h => Nat.le_trans hoA h.1
  have hAq : ∀ x, rA q x → aL0 s x := fun x h => Nat.le_trans hqA h.1
  have hAA : ∀ x, rAA o q x → aL0 s x := fun x h => h.elim (hAo x) (hAq x)
  refine lv_bipush (v := 14) hx hb dL_law_16 (by decide) ?_
  refine lv_aload_n hx hb dL_law_18 rfl (lv_at hl 0 rfl) ?_
  refine lv_iconst (v := 0) hx hb dL_law_19 (by decide) ?_
  refine l_go (cells' := 3100) (slots' := 18600) (l_runE (k := 0) (rest := [.int 14]) ⟨hx, hb, hml, hown, hts⟩ (c_cell l b L 0 xs hL (by decide)) (va_cwS 2 hts gL_law_L_cell rfl rfl rfl (by decide +kernel) ⟨Nat.le_of_ble_eq_true rfl, Nat.le_of_ble_eq_true rfl⟩) hX hbl (fun h => Nat.not_le_of_lt hbl h) hS rfl hl rfl (Nat.le_of_ble_eq_true rfl) dL_law_20 ⟨Nat.le_of_ble_eq_true rfl, Nat.le_of_ble_eq_true rfl⟩) hS (fun _ h => h.elim) ⟨Nat.le_of_ble_eq_true rfl, Nat.le_of_ble_eq_true rfl⟩ (fun r20 H locs hp hq hz hS => ?_)
  have hO := hO.kept hq (fun _ _ _ h => h)
  have hQ := hQ.kept hq (fun _ _ _ h => h)
  obtain ⟨X, hX31, rfl⟩ := hp
  refine lv_bipush (v := 27) hx hb dL_law_23 (by decide) ?_
  refine w_rem (a := X) (d := 27) hx hb rfl (by omega) (by decide) (by decide) dL_law_25 ?_
  refine w_add (i := 14) (j := (X) % 27) hx hb rfl rfl dL_law_26 ?_
  refine lv_istore_n (lv' := [(3, .int (nI (14 + (X) % 27))), (0, .ref b), (1, .ref o), (2, .ref q)]) hx hb dL_law_27 rfl hl (by decide) rfl (fun ls hl => ?_)
  refine lv_iconst (v := 1) hx hb dL_law_28 (by decide) ?_
  refine lv_istore (lv' := [(4, .int 1), (3, .int (nI (14 + (X) % 27))), (0, .ref b), (1, .ref o), (2, .ref q)]) hx hb dL_law_29 hl (by decide) rfl (fun ls hl => ?_)
  refine lv_iconst (v := 0) hx hb dL_law_31 (by decide) ?_
  refine lv_istore (lv' := [(5, .int 0), (4, .int 1), (3, .int (nI (14 + (X) % 27))), (0, .ref b), (1, .ref o), (2, .ref q)]) hx hb dL_law_32 hl (by decide) rfl (fun ls hl => ?_)
  obtain ⟨t, ht⟩ : ∃ t, t = 14 + (X) % 27 := ⟨_, rfl⟩
  rw [← ht] at hl
  have ht40 : t ≤ 40 := by omega
  have hl : lv_has ls 8 [(0, .ref b), (1, .ref o), (2, .ref q), (3, .int (nI (t))), (4, .int 1), (5, .int (nI (0)))] := lv_sub hl [3, 4, 5, 2, 1, 0] rfl
  refine law_loop K hd hoA hqA hX hbl hL ht40 (fun H locs ls hS hl => ?_) t 0 (Nat.zero_add t) gI_start hO hQ hS hl
  refine lv_iload hx hb dL_law_34 (lv_at hl 5 rfl) ?_
  refine lv_iload_n hx hb dL_law_36 rfl (lv_at hl 3 rfl) ?_
  refine lv_icmp_ge (tgt := 184) hx hb dL_law_37 (by decide) (fun _ => ?_) (fun z => absurd (nI_le (Nat.le_refl t) (by omega)) z)
  refine lv_iload hx hb dL_law_184 (lv_at hl 4 rfl) ?_
  refine va_forget (fun q hq => hS.2.2 q hq) ?_
  refine W.widen (k := 600130) (n := 7301080) (by omega) (by omega) ?_
  exact lw_ret hx hb hr hlocks dL_law_186
/-- YOUR PART: from the entry, for every script of at most 260 ints, the law comes to its end with true ('hflags': the launch's flags, for a law that throws: no stack traces) -/
theorem whole_start {p : Program} {e : Env} {s : State} {m : MethodId} {below : List Frame} {meth : Method} {c : Code} (l : Launch) (hflags : l.flags = flags0) {b L : Nat} {xs : Nat → Int32} (hL : L ≤ 260) (C0 : lw_At p s m meth c b L xs) : W p l e room_1 s m #[Value.ref b] below meth c s.heap [] 0 0 (lw_Z below #[Value.ref b] s) (entryFrame m ([Value.ref b] : List Value).toArray 8) := by
  obtain ⟨hx, hb, hr, hml, hown, hts, hX, hbl, hlocks, hgv⟩ := id C0
  have hst : l.stackTraces = false := by unfold Launch.stackTraces; rw [hflags]; decide +kernel
  obtain ⟨D, hD⟩ := law_D hts
  obtain ⟨E, hE, hEA⟩ := law_E hts
  have hK : va_K D vwCl (tysE E) s := ⟨hD, hE⟩
  have hKa : bKa D E s := ⟨⟨hK, law_N hts⟩, hEA⟩
  have hKX : bKX D E s := ⟨⟨hK, law_N hts⟩, law_T hts, law_S hts hgv⟩
  have htw : ∀ w ∈ wsL_law, w.before #[Value.ref b] s = true := fun w h => hts w (lw_in w h)
  have hown : s.vm.findClass RL = some m.cls := hown
  have K : lK p l s m #[Value.ref b] c D E (aL0 s) cL_law 8 wsL_law := ⟨hx, hb, hml, hown, htw, hKX, law_Z hts hgv, law_Nc hgv, hst⟩
  have hS : iS s.heap.size s.heap s.heap [] := ⟨fun _ _ => rfl, fun _ h => by cases h⟩
  have hl := lv_entry ([.ref b]) (n := 8) (Nat.le_of_ble_eq_true rfl)
  rw [lg_entry_eq]
  generalize (lg_sl ([.ref b]) ++ List.replicate (8 - (lg_sl ([.ref b])).length) Slot.unset).toArray = ls at hl ⊢
  have hl : lv_has ls 8 [(0, .ref b)] := hl
  refine i_new (o := s.heap.size) (n := 0) (ci := 6) (fs := [.null, .null, .null, .null, .null, .null, .null]) (C := RX6) (T := TX6) (N := 7) hx hb hts in_wsX60 tyX6 tyX6_ok hown (htw (.classLink RL 8 RX6) (List.mem_of_getElem? (i := 0) (by decide +kernel))) (htw (.instantiable RX6 7) (List.mem_of_getElem? (i := 1) (by decide +kernel))) (htw (.initialized RX6) (List.mem_of_getElem? (i := 2) (by decide +kernel))) hK rfl (fun j hj => by rcases (by omega : j = 0 ∨ j = 1 ∨ j = 2 ∨ j = 3 ∨ j = 4 ∨ j = 5 ∨ j = 6) with rfl | rfl | rfl | rfl | rfl | rfl | rfl <;> rfl) (Nat.le_of_ble_eq_true rfl) (Nat.le_of_ble_eq_true rfl) rfl dL_law_0 (fun H1 hz1 hN1 hq1 => ?_)
  have hS1 : iS s.heap.size s.heap H1 [] := ⟨fun q h => hq1 q h, hS.2⟩
  refine lv_dup hx hb dL_law_3 rfl ?_
  refine i_call (mc := 193) (ms := 9229) (a := s.heap.size) (va_runI (As := []) (rest := [.ref (s.heap.size + 0)]) ⟨hx, hb, hml, hown, htw⟩ (c_X6_init l D E (s.heap.size)) (cwI 0 htw gL_law_X6_init rfl rfl rfl (htw (.initialized RX6) (List.mem_of_getElem? (i := 2) (by decide +kernel))) (htw (.methodLink RL 175 yX6_init) (List.mem_of_getElem? (i := 4) (by decide +kernel))) (htw (.instanceMethod yX6_init) (List.mem_of_getElem? (i := 5) (by decide +kernel))) rfl (by decide +kernel) ⟨Nat.le_of_ble_eq_true rfl, Nat.le_of_ble_eq_true rfl⟩) ⟨biBlind, fun U hU hW => ⟨rfl, by rw [hU]; exact hz1, by rw [hU]; exact hN1, bKa.warm hW hKa⟩⟩ rfl rfl hl.1 rfl (lv_room (Nat.le_of_ble_eq_true rfl)) dL_law_4 ⟨Nat.le_of_ble_eq_true rfl, Nat.le_of_ble_eq_true rfl⟩) hS1 (Nat.le_refl _) (fun H2 locs2 hz2 hR2 hq2 hS2 => ?_)
  refine lv_astore_n (lv' := [(1, .ref (s.heap.size + 0)), (0, .ref b)]) hx hb dL_law_7 rfl hl (by decide) rfl (fun ls hl => ?_)
  refine i_new (o := s.heap.size + 194) (n := 0) (ci := 6) (fs := [.null, .null, .null, .null, .null, .null, .null]) (C := RX6) (T := TX6) (N := 7) hx hb hts in_wsX60 tyX6 tyX6_ok hown (htw (.classLink RL 8 RX6) (List.mem_of_getElem? (i := 0) (by decide +kernel))) (htw (.instantiable RX6 7) (List.mem_of_getElem? (i := 1) (by decide +kernel))) (htw (.initialized RX6) (List.mem_of_getElem? (i := 2) (by decide +kernel))) hK rfl (fun j hj => by rcases (by omega : j = 0 ∨ j = 1 ∨ j = 2 ∨ j = 3 ∨ j = 4 ∨ j = 5 ∨ j = 6) with rfl | rfl | rfl | rfl | rfl | rfl | rfl <;> rfl) (Nat.le_of_ble_eq_true rfl) (Nat.le_of_ble_eq_true rfl) hz2 dL_law_8 (fun H3 hz3 hN3 hq3 => ?_)
  have hS3 : iS s.heap.size s.heap H3 locs2 := ⟨fun q h => by rw [hq3 q (by show q < s.heap.size + 194 + 0; omega)]; exact hS2.1 q h, hS2.2⟩
  refine lv_dup hx hb dL_law_11 rfl ?_
  refine i_call (mc := 193) (ms := 9229) (a := s.heap.size) (va_runI (As := []) (rest := [.ref (s.heap.size + 194 + 0)]) ⟨hx, hb, hml, hown, htw⟩ (c_X6_init l D E (s.heap.size + 194)) (cwI 0 htw gL_law_X6_init rfl rfl rfl (htw (.initialized RX6) (List.mem_of_getElem? (i := 2) (by decide +kernel))) (htw (.methodLink RL 175 yX6_init) (List.mem_of_getElem? (i := 4) (by decide +kernel))) (htw (.instanceMethod yX6_init) (List.mem_of_getElem? (i := 5) (by decide +kernel))) rfl (by decide +kernel) ⟨Nat.le_of_ble_eq_true rfl, Nat.le_of_ble_eq_true rfl⟩) ⟨biBlind, fun U hU hW => ⟨rfl, by rw [hU]; exact hz3, by rw [hU]; exact hN3, bKa.warm hW hKa⟩⟩ rfl rfl hl.1 rfl (lv_room (Nat.le_of_ble_eq_true rfl)) dL_law_12 ⟨Nat.le_of_ble_eq_true rfl, Nat.le_of_ble_eq_true rfl⟩) hS3 (by show s.heap.size ≤ s.heap.size + 194 + 0; omega) (fun H4 locs4 hz4 hR4 hq4 hS4 => ?_)
  refine lv_astore_n (lv' := [(2, .ref (s.heap.size + 194 + 0)), (1, .ref (s.heap.size + 0)), (0, .ref b)]) hx hb dL_law_15 rfl hl (by decide) rfl (fun ls hl => ?_)
  refine W.widen (k := 3100) (n := 18600) (Nat.le_of_ble_eq_true rfl) (Nat.le_of_ble_eq_true rfl) ?_
  have hB4 : bk D E LRM s.heap.size (f_X0_startAnew (zW 192) 3) H4 := bk_kept (bk_all LRM_len hR2) (fun q h1 h2 => by
    rw [LRM_len] at h2
    rw [hq4 q (by show q < s.heap.size + 194 + 0; omega), hq3 q (by show q < s.heap.size + 194 + 0; omega)])
  have hO : Ob D E (s.heap.size + 0) S0a H4 := ⟨_, rl_start, hB4⟩
  have hQ : Ob D E (s.heap.size + 194 + 0) S0a H4 := ⟨_, rl_start, bk_all LRM_len hR4⟩
  have hS : va_S (aL0 s) s.heap H4 locs4 := ⟨by have h9 : H4.size = s.heap.size + 194 + 194 := hz4; omega, fun q h1 _ => hS4.1 q h1, hS4.2⟩
  exact law_start K (Or.inl (by omega)) (Nat.le_add_right _ _) (by omega) hX hbl hL hr hlocks hO hQ hS (lv_sub hl [2, 1, 0] rfl)
set_option maxHeartbeats 4000000 in
theorem lw_walk (l : Launch) (hflags : l.flags = flags0) (b : Addr) (xs : List Int32) : MetFree l x (headSpec (Jvm.Cond.code x code maxLocals ret :: tables_1) room_1) (lw_P b xs) (fun _ _ _ _ _ => True) lw_Q := by
  refine MetFree.of_bodyS (code := code) (maxLocals := maxLocals) (ret := ret) (by decide) ?_ ?_
  · intro args s m h hn
    obtain ⟨meth, c, h1, h2, h3, h4, h5, h6, -, -⟩ := Cond.code_spec hn (atoms_spec (ws := Jvm.Cond.code x code maxLocals ret :: tables_1) h _ List.mem_cons_self)
    exact ⟨meth, c, h1, h2, h3, h4, h5, h6⟩
  · intro p e s m args below meth c s₁ B hml0 hP _
    obtain ⟨rfl, hx, hbd, hgv⟩ := hP
    obtain ⟨scr, harrAt, hlist, hof, hsmall⟩ := hx
    obtain ⟨hcb, hkn, -, -⟩ := State.arrayAt?_spec harrAt
    have hown : s.vm.findClass R_law = some m.cls := findClass_of_methodNamed B.named
    have hts0 : ∀ c ∈ (Jvm.Cond.code x code maxLocals ret :: tables_1), c.before #[Value.ref b] s = true := atoms_spec (ws := Jvm.Cond.code x code maxLocals ret :: tables_1) B.pre
    have hts : ∀ w ∈ lw_tbl, w.before #[Value.ref b] s = true := k2_hts_sels lw_privs (fun w hw => hts0 w (List.mem_cons_of_mem _ hw)) lw_privs_ok
    have hml : c.maxLocals = 8 := B.maxLocals_eq (hts0 _ List.mem_cons_self)
    have X₀ : Stand p l e room_1 s m #[Value.ref b] below meth c s₁ [] 0 0 := Stand.of_body B
    have hh0 : s₁.heap = s.heap := by rw [B.state]; rfl
    have hsz : scr.slots.size = xs.length := by rw [← Array.length_toList, hlist, List.length_map]
    have hval : ∀ j : Nat, j < xs.length → scr.slots[j]? = some (.int (xs.getD j 0)) := fun j hj => by
      rw [← Array.getElem?_toList, hlist]
      simp [hj]
    have hbl : b < s.heap.size := (Array.getElem?_eq_some_iff.mp hcb).1
    have hX : va_X b xs.length (fun j => xs.getD j 0) s s.heap := ⟨scr, hcb, hof, hkn, hsz, hval⟩
    have K : W p l e room_1 s m #[Value.ref b] below meth c s₁.heap [] 0 0 (lw_Z below #[Value.ref b] s) (entryFrame m ([Value.ref b] : List Value).toArray 8) := by
      rw [hh0]
      exact whole_start l hflags hbd ⟨B.exec, B.bytes, B.returns, hml, hown, hts, hX, hbl, B.notSynchronized, hgv⟩
    obtain ⟨t, a1, o, b1, b2, b3⟩ := K s₁ rfl X₀
    exact ⟨t, o, a1, b1, b2, b3⟩
theorem lw_pre_spec {args : Array Value} {s : State} (h : (Jvm.Cond.and given_1 narrow_1).before args s = true) (hr : rest_1_c.before args s = true) : ∃ (b : Addr) (xs : List Int32), lw_P b xs args s := by
  have hs := flat_of_before _ h
  have hq := flat_of_before _ hr
  have hc : (Cond.count 1).before args s = true := hs _ (by decide +kernel)
  have harr : (Cond.arrayOf (.arg 0) .int).before args s = true := hs _ (by decide +kernel)
  have hle : (Cond.le (.length (.arg 0)) (.int 260)).before args s = true := hs _ (by decide +kernel)
  have hlen : (Cond.isInt (.length (.arg 0))).before args s = true := hq _ (by decide +kernel)
  have hall : (Cond.all (.arg 0) (.isInt (.elem (.arg 0) (.index 0)))).before args s = true := hq _ (by decide +kernel)
  obtain ⟨b, xs, hb, hx⟩ := State.ints_of_pre rfl harr hlen hall
  have hsm : xs.length < 2 ^ 31 := hx.choose_spec.2.2.2
  have hev : (Term.length (.arg 0)).eval args s none [] s = some (.int xs.length.toInt32) := hx.length_eval hb
  have hv := Cond.le_ints hev (show (Term.int 260).eval args s none [] s = some (.int 260) from rfl)
  have hd : xs.length.toInt32 ≤ 260 := by
    simpa [Cond.before, Cond.holds, hv] using hle
  have hN : xs.length ≤ 260 := (Int32.ofNat_le_ofNat hsm (by decide)).mp (show Int32.ofNat xs.length ≤ Int32.ofNat 260 from hd)
  exact ⟨b, xs, Cond.one_arg hc (show args[0]? = some (.ref b) from hb), hx, hN, h⟩
theorem lw_comes (l : Launch) (hflags : l.flags = flags0) : Comes l x (Jvm.Cond.code x code maxLocals ret :: tables_1) room_1 (fun tb e args s => Calls_1 tb e args s ∧ rest_1 tb e args s ∧ Pre_1 tb e args s)
    (fun _ _ args s o t => lw_Q args s o t) := by
  intro p e ha hc hk s m args below hf hfit hheap happ hpre
  obtain ⟨b, xs, hP⟩ := lw_pre_spec hpre.2.2 hpre.2.1
  obtain ⟨k, o, h1, h2, h3, hQ⟩ := lw_walk l hflags b xs p e ha hc hk s m args below hf ((Spec.applies_iff_loose hf).mp happ).1 hP trivial
  exact ⟨k, o, h1, h2, h3, hQ⟩
theorem lw_frame {s t : State} {o : Outcome} {args : Array Value} (h : Framed s o t [] 600130 7301080) :
    Framed s o t (fieldLocs frame_1_writes args s ++ arrayLocs frame_1_arrays args s ++ staticLocs frame_1_statics s) 600130 7301080 := h
theorem lw_limb (L : Cond) (hL : ∀ (args : Array Value) (s t : State), L.after args s (.returned (some (.int 1))) t = true) :
    ArmFor flags0 classFile x code maxLocals ret World_1 tables_1 room_1 Calls_1 rest_1 Pre_1
      (fun tb e a s o t => postC L tb e a s o t ∧ Framed s o t (fieldLocs frame_1_writes a s ++ arrayLocs frame_1_arrays a s ++ staticLocs frame_1_statics s) 600130 7301080) := by
  intro l hflags _ _ p e ha hc hk s m args below hf hfit hheap happ hpre
  obtain ⟨k, o, h1, h2, h3, rfl, hF⟩ := lw_comes l hflags p e ha hc hk s m args below hf hfit hheap happ hpre
  exact ⟨k, _, h1, h2, h3, hL args s _, lw_frame hF⟩
theorem i_vc : Claimed_1_1 ∧ Claimed_1_2 := ⟨lw_limb limb_1_1 (fun args s t => by simp [limb_1_1, Cond.after, Cond.holds, Cond.value]), lw_limb limb_1_2 (fun args s t => Cond.after_iff.mpr (by
  first | (rw [show limb_1_2 = Cond.eq .result (.int 1) from rfl, Cond.eq_ints (x := 1) (y := 1) rfl rfl]; simp; done) | (simp [limb_1_2, Cond.value, Term.eval]; done)))⟩
