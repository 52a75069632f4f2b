/-! THE LAW'S HELPERS: a call, its answer laid down, its exceptions told by their place -/
theorem h_append (l : Launch) (hst : l.stackTraces = false) (D : va_G) (E : Nat → ClassId) (o w : Nat) (f : Nat → Int64) (M : bM) (x1 : Int32) (hw : ¬ rA o w) (hc : (f_X6_append M x1).1 = 0 ∨ (f_X6_append M x1).1 = 1 ∨ (f_X6_append M x1).1 = 2) : vx_Met l yL_append wsL_append (rmX 7) (bPh D E [.ref (o + 0), .int x1, .ref w] o w f M) (bQh D E o w (f_X6_append M x1) 1 2) xNo 1 6 (hA o w) := by
  refine vx_ofWH (cc := cL_append) (maxL := 4) (ret := some .int) (hh := [(0, 9, 12, 13), (0, 9, 15, 15)]) (by decide) rfl ?_
  intro p e s m args below meth c s₁ B hml hv
  obtain ⟨rfl, hB, hP, hKX, hZ, hNc⟩ := hv
  have hx := B.exec
  have hb := B.bytes
  have hr := B.returns
  have hts := atoms_spec (ws := wsL_append) B.pre
  have hown : s.vm.findClass RL = some m.cls := findClass_of_methodNamed B.named
  have hlocks := B.notSynchronized
  have hT := ex_two (ex_tab (hh := [(0, 9, 12, 13), (0, 9, 15, 15)]) B (hts _ List.mem_cons_self))
  have hS : va_S (hA o w) s.heap s.heap [] := ⟨Nat.le_refl _, fun _ _ _ => rfl, fun _ h => by cases h⟩
  have hwlt : w < s.heap.size := va_at.lt hP
  have hl := lv_entry ([.ref (o + 0), .int x1, .ref w]) (n := 4) (Nat.le_of_ble_eq_true rfl)
  rw [lg_entry_eq]
  generalize (lg_sl ([.ref (o + 0), .int x1, .ref w]) ++ List.replicate (4 - (lg_sl ([.ref (o + 0), .int x1, .ref w])).length) Slot.unset).toArray = ls at hl ⊢
  have hl : lv_has ls 4 [(0, .ref (o + 0)), (1, .int x1), (2, .ref w)] := hl
  refine lv_aload_n hx hb dL_append_0 rfl (lv_at hl 2 rfl) ?_
  refine lv_iconst (v := 0) hx hb dL_append_1 (by decide) ?_
  refine lv_aload_n hx hb dL_append_2 rfl (lv_at hl 0 rfl) ?_
  refine lv_iload_n hx hb dL_append_3 rfl (lv_at hl 1 rfl) ?_
  refine h_call (h_runV (As := [.int x1]) (rest := [.int 0, .ref w]) ⟨hx, hb, hml, hown, hts⟩ (c_X6_append l hst D E o M x1) (cwV 1 hts gL_append_X6_append rfl rfl rfl (by decide +kernel) ⟨Nat.le_of_ble_eq_true rfl, Nat.le_of_ble_eq_true rfl⟩) hKX (bZ.narrow hZ (fun _ h => Or.inl h)) (bk_recv hKX.1.1 hB lay_0 rfl) hB rfl hl rfl (Nat.le_of_ble_eq_true rfl) dL_append_4 ⟨Nat.le_of_ble_eq_true rfl, Nat.le_of_ble_eq_true rfl⟩) hS (fun _ h => Or.inl h) (fun en M1 hf H1 locs q9 ce hB hq hS hcell hcv hcl => ?_) (fun r M1 hf H1 locs hB hq hz hS => ?_)
  · obtain ⟨hne, hf⟩ := hf
    have hP1 : va_at D vwCl (lgc w E f) H1 := va_at.kept hP (hq w hwlt hw)
    rw [hf] at hc ⊢
    rcases hc with hc | hc | hc
    · exact absurd hc hne
    · have hc : en = 1 := hc
      subst hc
      refine h_c1 (en := 1) hown ⟨0, 9, 12, 13⟩ [⟨0, 9, 15, 15⟩] hT rfl (by decide) (hts (.classLink RL 13 xIAE) (List.mem_of_getElem? (i := 1) rfl)) (cast_of hKX.2.1 (z := xIAE) (by decide)) hcell hcv hcl ?_
      refine lv_astore_n (lv' := [(3, .ref q9), (0, .ref (o + 0)), (1, .int x1), (2, .ref w)]) hx hb dL_append_12 rfl hl (by decide) rfl (fun ls hl => ?_)
      refine lv_iconst (v := 1) hx hb dL_append_13 (by decide) ?_
      exact h_iret hx hb hr hlocks hS rfl hB hP1 (fun z => absurd z (show ¬ (1 : Nat) = 0 by decide)) dL_append_14
    · have hc : en = 2 := hc
      subst hc
      refine h_c2 (en := 2) (nm := xIAE) hown ⟨0, 9, 12, 13⟩ ⟨0, 9, 15, 15⟩ [] hT (by decide) (hts (.classLink RL 13 xIAE) (List.mem_of_getElem? (i := 1) rfl)) (hNc 0 _ rfl) rfl (by decide) (hts (.classLink RL 15 xISE) (List.mem_of_getElem? (i := 2) rfl)) (cast_of hKX.2.1 (z := xISE) (by decide)) hcell hcv hcl ?_
      refine lv_astore_n (lv' := [(3, .ref q9), (0, .ref (o + 0)), (1, .int x1), (2, .ref w)]) hx hb dL_append_15 rfl hl (by decide) rfl (fun ls hl => ?_)
      refine lv_iconst (v := 2) hx hb dL_append_16 (by decide) ?_
      exact h_iret hx hb hr hlocks hS rfl hB hP1 (fun z => absurd z (show ¬ (2 : Nat) = 0 by decide)) dL_append_17
  · have hP1 : va_at D vwCl (lgc w E f) H1 := va_at.kept hP (hq w hw)
    refine lv_i2l (v := r.toInt64) hx hb dL_append_7 rfl ?_
    refine w_last hx hb hKX.1.1 hP1 hS (Or.inr rfl) dL_append_8 (fun H2 locs2 hP2 hq2 hz2 hS2 => ?_)
    refine lv_goto (tgt := 18) hx hb dL_append_9 (by decide) ?_
    refine lv_iconst (v := 0) hx hb dL_append_18 (by decide) ?_
    have hB2 : bk D E LRM o M1 H2 := bk_kept hB (fun q h1 h2 => hq2 q (fun z => hw (by rw [← z]; exact ⟨h1, h2⟩)))
    rw [hf]
    exact h_iret (f1 := vp_updL f 0 r.toInt64) hx hb hr hlocks hS2 rfl hB2 hP2 (fun _ => by simp [vp_updL]) dL_append_19
theorem h_load (l : Launch) (hst : l.stackTraces = false) (D : va_G) (E : Nat → ClassId) (o w : Nat) (f : Nat → Int64) (M : bM) (hw : ¬ rA o w) (hch : chOK M) (hc : (f_X6_load M).1 = 0 ∨ (f_X6_load M).1 = 2) : vx_Met l yL_load wsL_load (rmX 7) (bPh D E [.ref (o + 0), .ref w] o w f M) (bQh D E o w (f_X6_load M) 2 9) xNo 1 6 (hA o w) := by
  refine vx_ofWH (cc := cL_load) (maxL := 3) (ret := some .int) (hh := [(0, 8, 11, 15)]) (by decide) rfl ?_
  intro p e s m args below meth c s₁ B hml hv
  obtain ⟨rfl, hB, hP, hKX, hZ, hNc⟩ := hv
  have hx := B.exec
  have hb := B.bytes
  have hr := B.returns
  have hts := atoms_spec (ws := wsL_load) B.pre
  have hown : s.vm.findClass RL = some m.cls := findClass_of_methodNamed B.named
  have hlocks := B.notSynchronized
  have hT := ex_one (ex_tab (hh := [(0, 8, 11, 15)]) B (hts _ List.mem_cons_self))
  have hS : va_S (hA o w) s.heap s.heap [] := ⟨Nat.le_refl _, fun _ _ _ => rfl, fun _ h => by cases h⟩
  have hwlt : w < s.heap.size := va_at.lt hP
  have hl := lv_entry ([.ref (o + 0), .ref w]) (n := 3) (Nat.le_of_ble_eq_true rfl)
  rw [lg_entry_eq]
  generalize (lg_sl ([.ref (o + 0), .ref w]) ++ List.replicate (3 - (lg_sl ([.ref (o + 0), .ref w])).length) Slot.unset).toArray = ls at hl ⊢
  have hl : lv_has ls 3 [(0, .ref (o + 0)), (1, .ref w)] := hl
  refine lv_aload_n hx hb dL_load_0 rfl (lv_at hl 1 rfl) ?_
  refine lv_iconst (v := 0) hx hb dL_load_1 (by decide) ?_
  refine lv_aload_n hx hb dL_load_2 rfl (lv_at hl 0 rfl) ?_
  refine h_call (h_runV (As := []) (rest := [.int 0, .ref w]) ⟨hx, hb, hml, hown, hts⟩ (c_X6_load l hst D E o M hch) (cwV 0 hts gL_load_X6_load rfl rfl rfl (by decide +kernel) ⟨Nat.le_of_ble_eq_true rfl, Nat.le_of_ble_eq_true rfl⟩) hKX (bZ.narrow hZ (fun _ h => Or.inl h)) (bk_recv hKX.1.1 hB lay_0 rfl) hB rfl hl rfl (Nat.le_of_ble_eq_true rfl) dL_load_3 ⟨Nat.le_of_ble_eq_true rfl, Nat.le_of_ble_eq_true rfl⟩) hS (fun _ h => Or.inl h) (fun en M1 hf H1 locs q9 ce hB hq hS hcell hcv hcl => ?_) (fun r M1 hf H1 locs hB hq hz hS => ?_)
  · obtain ⟨hne, hf⟩ := hf
    have hP1 : va_at D vwCl (lgc w E f) H1 := va_at.kept hP (hq w hwlt hw)
    rw [hf] at hc ⊢
    rcases hc with hc | hc
    · exact absurd hc hne
    · have hc : en = 2 := hc
      subst hc
      refine h_c1 (en := 2) hown ⟨0, 8, 11, 15⟩ [] hT rfl (by decide) (hts (.classLink RL 15 xISE) (List.mem_of_getElem? (i := 1) rfl)) (cast_of hKX.2.1 (z := xISE) (by decide)) hcell hcv hcl ?_
      refine lv_astore_n (lv' := [(2, .ref q9), (0, .ref (o + 0)), (1, .ref w)]) hx hb dL_load_11 rfl hl (by decide) rfl (fun ls hl => ?_)
      refine lv_iconst (v := 1) hx hb dL_load_12 (by decide) ?_
      exact h_iret hx hb hr hlocks hS rfl hB hP1 (fun z => absurd z (show ¬ (2 : Nat) = 0 by decide)) dL_load_13
  · have hP1 : va_at D vwCl (lgc w E f) H1 := va_at.kept hP (hq w hw)
    refine lv_i2l (v := r.toInt64) hx hb dL_load_6 rfl ?_
    refine w_last hx hb hKX.1.1 hP1 hS (Or.inr rfl) dL_load_7 (fun H2 locs2 hP2 hq2 hz2 hS2 => ?_)
    refine lv_goto (tgt := 14) hx hb dL_load_8 (by decide) ?_
    refine lv_iconst (v := 0) hx hb dL_load_14 (by decide) ?_
    have hB2 : bk D E LRM o M1 H2 := bk_kept hB (fun q h1 h2 => hq2 q (fun z => hw (by rw [← z]; exact ⟨h1, h2⟩)))
    rw [hf]
    exact h_iret (f1 := vp_updL f 0 r.toInt64) hx hb hr hlocks hS2 rfl hB2 hP2 (fun _ => by simp [vp_updL]) dL_load_15
theorem h_about (l : Launch) (hst : l.stackTraces = false) (D : va_G) (E : Nat → ClassId) (o w : Nat) (f : Nat → Int64) (M : bM) (x1 : Int32) (hw : ¬ rA o w) (hc : (f_X6_about M x1).1 = 0 ∨ (f_X6_about M x1).1 = 1) : vx_Met l yL_about wsL_about (rmX 7) (bPh D E [.ref (o + 0), .int x1, .ref w] o w f M) (bQh D E o w (f_X6_about M x1) 1 9) xNo 1 6 (hA o w) := by
  refine vx_ofWH (cc := cL_about) (maxL := 4) (ret := some .int) (hh := [(0, 9, 12, 13)]) (by decide) rfl ?_
  intro p e s m args below meth c s₁ B hml hv
  obtain ⟨rfl, hB, hP, hKX, hZ, hNc⟩ := hv
  have hx := B.exec
  have hb := B.bytes
  have hr := B.returns
  have hts := atoms_spec (ws := wsL_about) B.pre
  have hown : s.vm.findClass RL = some m.cls := findClass_of_methodNamed B.named
  have hlocks := B.notSynchronized
  have hT := ex_one (ex_tab (hh := [(0, 9, 12, 13)]) B (hts _ List.mem_cons_self))
  have hS : va_S (hA o w) s.heap s.heap [] := ⟨Nat.le_refl _, fun _ _ _ => rfl, fun _ h => by cases h⟩
  have hwlt : w < s.heap.size := va_at.lt hP
  have hl := lv_entry ([.ref (o + 0), .int x1, .ref w]) (n := 4) (Nat.le_of_ble_eq_true rfl)
  rw [lg_entry_eq]
  generalize (lg_sl ([.ref (o + 0), .int x1, .ref w]) ++ List.replicate (4 - (lg_sl ([.ref (o + 0), .int x1, .ref w])).length) Slot.unset).toArray = ls at hl ⊢
  have hl : lv_has ls 4 [(0, .ref (o + 0)), (1, .int x1), (2, .ref w)] := hl
  refine lv_aload_n hx hb dL_about_0 rfl (lv_at hl 2 rfl) ?_
  refine lv_iconst (v := 0) hx hb dL_about_1 (by decide) ?_
  refine lv_aload_n hx hb dL_about_2 rfl (lv_at hl 0 rfl) ?_
  refine lv_iload_n hx hb dL_about_3 rfl (lv_at hl 1 rfl) ?_
  refine h_call (h_runV (As := [.int x1]) (rest := [.int 0, .ref w]) ⟨hx, hb, hml, hown, hts⟩ (c_X6_about l hst D E o M x1) (cwV 1 hts gL_about_X6_about rfl rfl rfl (by decide +kernel) ⟨Nat.le_of_ble_eq_true rfl, Nat.le_of_ble_eq_true rfl⟩) hKX (bZ.narrow hZ (fun _ h => Or.inl h)) (bk_recv hKX.1.1 hB lay_0 rfl) hB rfl hl rfl (Nat.le_of_ble_eq_true rfl) dL_about_4 ⟨Nat.le_of_ble_eq_true rfl, Nat.le_of_ble_eq_true rfl⟩) hS (fun _ h => Or.inl h) (fun en M1 hf H1 locs q9 ce hB hq hS hcell hcv hcl => ?_) (fun r M1 hf H1 locs hB hq hz hS => ?_)
  · obtain ⟨hne, hf⟩ := hf
    have hP1 : va_at D vwCl (lgc w E f) H1 := va_at.kept hP (hq w hwlt hw)
    rw [hf] at hc ⊢
    rcases hc with hc | hc
    · exact absurd hc hne
    · have hc : en = 1 := hc
      subst hc
      refine h_c1 (en := 1) hown ⟨0, 9, 12, 13⟩ [] hT rfl (by decide) (hts (.classLink RL 13 xIAE) (List.mem_of_getElem? (i := 1) rfl)) (cast_of hKX.2.1 (z := xIAE) (by decide)) hcell hcv hcl ?_
      refine lv_astore_n (lv' := [(3, .ref q9), (0, .ref (o + 0)), (1, .int x1), (2, .ref w)]) hx hb dL_about_12 rfl hl (by decide) rfl (fun ls hl => ?_)
      refine lv_iconst (v := 1) hx hb dL_about_13 (by decide) ?_
      exact h_iret hx hb hr hlocks hS rfl hB hP1 (fun z => absurd z (show ¬ (1 : Nat) = 0 by decide)) dL_about_14
  · have hP1 : va_at D vwCl (lgc w E f) H1 := va_at.kept hP (hq w hw)
    refine lv_i2l (v := r.toInt64) hx hb dL_about_7 rfl ?_
    refine w_last hx hb hKX.1.1 hP1 hS (Or.inr rfl) dL_about_8 (fun H2 locs2 hP2 hq2 hz2 hS2 => ?_)
    refine lv_goto (tgt := 15) hx hb dL_about_9 (by decide) ?_
    refine lv_iconst (v := 0) hx hb dL_about_15 (by decide) ?_
    have hB2 : bk D E LRM o M1 H2 := bk_kept hB (fun q h1 h2 => hq2 q (fun z => hw (by rw [← z]; exact ⟨h1, h2⟩)))
    rw [hf]
    exact h_iret (f1 := vp_updL f 0 r.toInt64) hx hb hr hlocks hS2 rfl hB2 hP2 (fun _ => by simp [vp_updL]) dL_about_16
theorem h_playerOf (l : Launch) (hst : l.stackTraces = false) (D : va_G) (E : Nat → ClassId) (o w : Nat) (f : Nat → Int64) (M : bM) (x1 : Int32) (x2 : Int32) (hw : ¬ rA o w) (hc : (f_X6_playerOf M x1 x2).1 = 0 ∨ (f_X6_playerOf M x1 x2).1 = 3 ∨ (f_X6_playerOf M x1 x2).1 = 1) : vx_Met l yL_playerOf wsL_playerOf (rmX 7) (bPh D E [.ref (o + 0), .int x1, .int x2, .ref w] o w f M) (bQh D E o w (f_X6_playerOf M x1 x2) 3 1) xNo 1 6 (hA o w) := by
  refine vx_ofWH (cc := cL_playerOf) (maxL := 5) (ret := some .int) (hh := [(0, 10, 13, 28), (0, 10, 17, 13)]) (by decide) rfl ?_
  intro p e s m args below meth c s₁ B hml hv
  obtain ⟨rfl, hB, hP, hKX, hZ, hNc⟩ := hv
  have hx := B.exec
  have hb := B.bytes
  have hr := B.returns
  have hts := atoms_spec (ws := wsL_playerOf) B.pre
  have hown : s.vm.findClass RL = some m.cls := findClass_of_methodNamed B.named
  have hlocks := B.notSynchronized
  have hT := ex_two (ex_tab (hh := [(0, 10, 13, 28), (0, 10, 17, 13)]) B (hts _ List.mem_cons_self))
  have hS : va_S (hA o w) s.heap s.heap [] := ⟨Nat.le_refl _, fun _ _ _ => rfl, fun _ h => by cases h⟩
  have hwlt : w < s.heap.size := va_at.lt hP
  have hl := lv_entry ([.ref (o + 0), .int x1, .int x2, .ref w]) (n := 5) (Nat.le_of_ble_eq_true rfl)
  rw [lg_entry_eq]
  generalize (lg_sl ([.ref (o + 0), .int x1, .int x2, .ref w]) ++ List.replicate (5 - (lg_sl ([.ref (o + 0), .int x1, .int x2, .ref w])).length) Slot.unset).toArray = ls at hl ⊢
  have hl : lv_has ls 5 [(0, .ref (o + 0)), (1, .int x1), (2, .int x2), (3, .ref w)] := hl
  refine lv_aload_n hx hb dL_playerOf_0 rfl (lv_at hl 3 rfl) ?_
  refine lv_iconst (v := 0) hx hb dL_playerOf_1 (by decide) ?_
  refine lv_aload_n hx hb dL_playerOf_2 rfl (lv_at hl 0 rfl) ?_
  refine lv_iload_n hx hb dL_playerOf_3 rfl (lv_at hl 1 rfl) ?_
  refine lv_iload_n hx hb dL_playerOf_4 rfl (lv_at hl 2 rfl) ?_
  refine h_call (h_runV (As := [.int x1, .int x2]) (rest := [.int 0, .ref w]) ⟨hx, hb, hml, hown, hts⟩ (c_X6_playerOf l hst D E o M x1 x2) (cwV 2 hts gL_playerOf_X6_playerOf rfl rfl rfl (by decide +kernel) ⟨Nat.le_of_ble_eq_true rfl, Nat.le_of_ble_eq_true rfl⟩) hKX (bZ.narrow hZ (fun _ h => Or.inl h)) (bk_recv hKX.1.1 hB lay_0 rfl) hB rfl hl rfl (Nat.le_of_ble_eq_true rfl) dL_playerOf_5 ⟨Nat.le_of_ble_eq_true rfl, Nat.le_of_ble_eq_true rfl⟩) hS (fun _ h => Or.inl h) (fun en M1 hf H1 locs q9 ce hB hq hS hcell hcv hcl => ?_) (fun r M1 hf H1 locs hB hq hz hS => ?_)
  · obtain ⟨hne, hf⟩ := hf
    have hP1 : va_at D vwCl (lgc w E f) H1 := va_at.kept hP (hq w hwlt hw)
    rw [hf] at hc ⊢
    rcases hc with hc | hc | hc
    · exact absurd hc hne
    · have hc : en = 3 := hc
      subst hc
      refine h_c1 (en := 3) hown ⟨0, 10, 13, 28⟩ [⟨0, 10, 17, 13⟩] hT rfl (by decide) (hts (.classLink RL 28 xIOB) (List.mem_of_getElem? (i := 1) rfl)) (cast_of hKX.2.1 (z := xIOB) (by decide)) hcell hcv hcl ?_
      refine lv_astore (lv' := [(4, .ref q9), (0, .ref (o + 0)), (1, .int x1), (2, .int x2), (3, .ref w)]) hx hb dL_playerOf_13 hl (by decide) rfl (fun ls hl => ?_)
      refine lv_iconst (v := 1) hx hb dL_playerOf_15 (by decide) ?_
      exact h_iret hx hb hr hlocks hS rfl hB hP1 (fun z => absurd z (show ¬ (3 : Nat) = 0 by decide)) dL_playerOf_16
    · have hc : en = 1 := hc
      subst hc
      refine h_c2 (en := 1) (nm := xIOB) hown ⟨0, 10, 13, 28⟩ ⟨0, 10, 17, 13⟩ [] hT (by decide) (hts (.classLink RL 28 xIOB) (List.mem_of_getElem? (i := 1) rfl)) (hNc 1 _ rfl) rfl (by decide) (hts (.classLink RL 13 xIAE) (List.mem_of_getElem? (i := 2) rfl)) (cast_of hKX.2.1 (z := xIAE) (by decide)) hcell hcv hcl ?_
      refine lv_astore (lv' := [(4, .ref q9), (0, .ref (o + 0)), (1, .int x1), (2, .int x2), (3, .ref w)]) hx hb dL_playerOf_17 hl (by decide) rfl (fun ls hl => ?_)
      refine lv_iconst (v := 2) hx hb dL_playerOf_19 (by decide) ?_
      exact h_iret hx hb hr hlocks hS rfl hB hP1 (fun z => absurd z (show ¬ (1 : Nat) = 0 by decide)) dL_playerOf_20
  · have hP1 : va_at D vwCl (lgc w E f) H1 := va_at.kept hP (hq w hw)
    refine lv_i2l (v := r.toInt64) hx hb dL_playerOf_8 rfl ?_
    refine w_last hx hb hKX.1.1 hP1 hS (Or.inr rfl) dL_playerOf_9 (fun H2 locs2 hP2 hq2 hz2 hS2 => ?_)
    refine lv_goto (tgt := 21) hx hb dL_playerOf_10 (by decide) ?_
    refine lv_iconst (v := 0) hx hb dL_playerOf_21 (by decide) ?_
    have hB2 : bk D E LRM o M1 H2 := bk_kept hB (fun q h1 h2 => hq2 q (fun z => hw (by rw [← z]; exact ⟨h1, h2⟩)))
    rw [hf]
    exact h_iret (f1 := vp_updL f 0 r.toInt64) hx hb hr hlocks hS2 rfl hB2 hP2 (fun _ => by simp [vp_updL]) dL_playerOf_22
theorem h_cellOf (l : Launch) (hst : l.stackTraces = false) (D : va_G) (E : Nat → ClassId) (o w : Nat) (f : Nat → Int64) (M : bM) (x1 : Int32) (x2 : Int32) (x3 : Int32) (hw : ¬ rA o w) (hc : (f_X6_cellOf M x1 x2 x3).1 = 0 ∨ (f_X6_cellOf M x1 x2 x3).1 = 3 ∨ (f_X6_cellOf M x1 x2 x3).1 = 1) : vx_Met l yL_cellOf wsL_cellOf (rmX 7) (bPh D E [.ref (o + 0), .int x1, .int x2, .int x3, .ref w] o w f M) (bQh D E o w (f_X6_cellOf M x1 x2 x3) 3 1) xNo 1 6 (hA o w) := by
  refine vx_ofWH (cc := cL_cellOf) (maxL := 6) (ret := some .int) (hh := [(0, 12, 15, 28), (0, 12, 19, 13)]) (by decide) rfl ?_
  intro p e s m args below meth c s₁ B hml hv
  obtain ⟨rfl, hB, hP, hKX, hZ, hNc⟩ := hv
  have hx := B.exec
  have hb := B.bytes
  have hr := B.returns
  have hts := atoms_spec (ws := wsL_cellOf) B.pre
  have hown : s.vm.findClass RL = some m.cls := findClass_of_methodNamed B.named
  have hlocks := B.notSynchronized
  have hT := ex_two (ex_tab (hh := [(0, 12, 15, 28), (0, 12, 19, 13)]) B (hts _ List.mem_cons_self))
  have hS : va_S (hA o w) s.heap s.heap [] := ⟨Nat.le_refl _, fun _ _ _ => rfl, fun _ h => by cases h⟩
  have hwlt : w < s.heap.size := va_at.lt hP
  have hl := lv_entry ([.ref (o + 0), .int x1, .int x2, .int x3, .ref w]) (n := 6) (Nat.le_of_ble_eq_true rfl)
  rw [lg_entry_eq]
  generalize (lg_sl ([.ref (o + 0), .int x1, .int x2, .int x3, .ref w]) ++ List.replicate (6 - (lg_sl ([.ref (o + 0), .int x1, .int x2, .int x3, .ref w])).length) Slot.unset).toArray = ls at hl ⊢
  have hl : lv_has ls 6 [(0, .ref (o + 0)), (1, .int x1), (2, .int x2), (3, .int x3), (4, .ref w)] := hl
  refine lv_aload hx hb dL_cellOf_0 (lv_at hl 4 rfl) ?_
  refine lv_iconst (v := 0) hx hb dL_cellOf_2 (by decide) ?_
  refine lv_aload_n hx hb dL_cellOf_3 rfl (lv_at hl 0 rfl) ?_
  refine lv_iload_n hx hb dL_cellOf_4 rfl (lv_at hl 1 rfl) ?_
  refine lv_iload_n hx hb dL_cellOf_5 rfl (lv_at hl 2 rfl) ?_
  refine lv_iload_n hx hb dL_cellOf_6 rfl (lv_at hl 3 rfl) ?_
  refine h_call (h_runV (As := [.int x1, .int x2, .int x3]) (rest := [.int 0, .ref w]) ⟨hx, hb, hml, hown, hts⟩ (c_X6_cellOf l hst D E o M x1 x2 x3) (cwV 3 hts gL_cellOf_X6_cellOf rfl rfl rfl (by decide +kernel) ⟨Nat.le_of_ble_eq_true rfl, Nat.le_of_ble_eq_true rfl⟩) hKX (bZ.narrow hZ (fun _ h => Or.inl h)) (bk_recv hKX.1.1 hB lay_0 rfl) hB rfl hl rfl (Nat.le_of_ble_eq_true rfl) dL_cellOf_7 ⟨Nat.le_of_ble_eq_true rfl, Nat.le_of_ble_eq_true rfl⟩) hS (fun _ h => Or.inl h) (fun en M1 hf H1 locs q9 ce hB hq hS hcell hcv hcl => ?_) (fun r M1 hf H1 locs hB hq hz hS => ?_)
  · obtain ⟨hne, hf⟩ := hf
    have hP1 : va_at D vwCl (lgc w E f) H1 := va_at.kept hP (hq w hwlt hw)
    rw [hf] at hc ⊢
    rcases hc with hc | hc | hc
    · exact absurd hc hne
    · have hc : en = 3 := hc
      subst hc
      refine h_c1 (en := 3) hown ⟨0, 12, 15, 28⟩ [⟨0, 12, 19, 13⟩] hT rfl (by decide) (hts (.classLink RL 28 xIOB) (List.mem_of_getElem? (i := 1) rfl)) (cast_of hKX.2.1 (z := xIOB) (by decide)) hcell hcv hcl ?_
      refine lv_astore (lv' := [(5, .ref q9), (0, .ref (o + 0)), (1, .int x1), (2, .int x2), (3, .int x3), (4, .ref w)]) hx hb dL_cellOf_15 hl (by decide) rfl (fun ls hl => ?_)
      refine lv_iconst (v := 1) hx hb dL_cellOf_17 (by decide) ?_
      exact h_iret hx hb hr hlocks hS rfl hB hP1 (fun z => absurd z (show ¬ (3 : Nat) = 0 by decide)) dL_cellOf_18
    · have hc : en = 1 := hc
      subst hc
      refine h_c2 (en := 1) (nm := xIOB) hown ⟨0, 12, 15, 28⟩ ⟨0, 12, 19, 13⟩ [] hT (by decide) (hts (.classLink RL 28 xIOB) (List.mem_of_getElem? (i := 1) rfl)) (hNc 1 _ rfl) rfl (by decide) (hts (.classLink RL 13 xIAE) (List.mem_of_getElem? (i := 2) rfl)) (cast_of hKX.2.1 (z := xIAE) (by decide)) hcell hcv hcl ?_
      refine lv_astore (lv' := [(5, .ref q9), (0, .ref (o + 0)), (1, .int x1), (2, .int x2), (3, .int x3), (4, .ref w)]) hx hb dL_cellOf_19 hl (by decide) rfl (fun ls hl => ?_)
      refine lv_iconst (v := 2) hx hb dL_cellOf_21 (by decide) ?_
      exact h_iret hx hb hr hlocks hS rfl hB hP1 (fun z => absurd z (show ¬ (1 : Nat) = 0 by decide)) dL_cellOf_22
  · have hP1 : va_at D vwCl (lgc w E f) H1 := va_at.kept hP (hq w hw)
    refine lv_i2l (v := r.toInt64) hx hb dL_cellOf_10 rfl ?_
    refine w_last hx hb hKX.1.1 hP1 hS (Or.inr rfl) dL_cellOf_11 (fun H2 locs2 hP2 hq2 hz2 hS2 => ?_)
    refine lv_goto (tgt := 23) hx hb dL_cellOf_12 (by decide) ?_
    refine lv_iconst (v := 0) hx hb dL_cellOf_23 (by decide) ?_
    have hB2 : bk D E LRM o M1 H2 := bk_kept hB (fun q h1 h2 => hq2 q (fun z => hw (by rw [← z]; exact ⟨h1, h2⟩)))
    rw [hf]
    exact h_iret (f1 := vp_updL f 0 r.toInt64) hx hb hr hlocks hS2 rfl hB2 hP2 (fun _ => by simp [vp_updL]) dL_cellOf_24
theorem h_course (l : Launch) (hst : l.stackTraces = false) (D : va_G) (E : Nat → ClassId) (o w : Nat) (f : Nat → Int64) (M : bM) (x1 : Int32) (x2 : Int32) (hw : ¬ rA o w) (hc : (f_X6_course M x1 x2).1 = 0 ∨ (f_X6_course M x1 x2).1 = 3) : vx_Met l yL_course wsL_course (rmX 7) (bPh D E [.ref (o + 0), .int x1, .int x2, .ref w] o w f M) (bQh D E o w (f_X6_course M x1 x2) 3 9) xNo 1 6 (hA o w) := by
  refine vx_ofWH (cc := cL_course) (maxL := 5) (ret := some .int) (hh := [(0, 10, 13, 28)]) (by decide) rfl ?_
  intro p e s m args below meth c s₁ B hml hv
  obtain ⟨rfl, hB, hP, hKX, hZ, hNc⟩ := hv
  have hx := B.exec
  have hb := B.bytes
  have hr := B.returns
  have hts := atoms_spec (ws := wsL_course) B.pre
  have hown : s.vm.findClass RL = some m.cls := findClass_of_methodNamed B.named
  have hlocks := B.notSynchronized
  have hT := ex_one (ex_tab (hh := [(0, 10, 13, 28)]) B (hts _ List.mem_cons_self))
  have hS : va_S (hA o w) s.heap s.heap [] := ⟨Nat.le_refl _, fun _ _ _ => rfl, fun _ h => by cases h⟩
  have hwlt : w < s.heap.size := va_at.lt hP
  have hl := lv_entry ([.ref (o + 0), .int x1, .int x2, .ref w]) (n := 5) (Nat.le_of_ble_eq_true rfl)
  rw [lg_entry_eq]
  generalize (lg_sl ([.ref (o + 0), .int x1, .int x2, .ref w]) ++ List.replicate (5 - (lg_sl ([.ref (o + 0), .int x1, .int x2, .ref w])).length) Slot.unset).toArray = ls at hl ⊢
  have hl : lv_has ls 5 [(0, .ref (o + 0)), (1, .int x1), (2, .int x2), (3, .ref w)] := hl
  refine lv_aload_n hx hb dL_course_0 rfl (lv_at hl 3 rfl) ?_
  refine lv_iconst (v := 0) hx hb dL_course_1 (by decide) ?_
  refine lv_aload_n hx hb dL_course_2 rfl (lv_at hl 0 rfl) ?_
  refine lv_iload_n hx hb dL_course_3 rfl (lv_at hl 1 rfl) ?_
  refine lv_iload_n hx hb dL_course_4 rfl (lv_at hl 2 rfl) ?_
  refine h_call (h_runV (As := [.int x1, .int x2]) (rest := [.int 0, .ref w]) ⟨hx, hb, hml, hown, hts⟩ (c_X6_course l hst D E o M x1 x2) (cwV 2 hts gL_course_X6_course rfl rfl rfl (by decide +kernel) ⟨Nat.le_of_ble_eq_true rfl, Nat.le_of_ble_eq_true rfl⟩) hKX (bZ.narrow hZ (fun _ h => Or.inl h)) (bk_recv hKX.1.1 hB lay_0 rfl) hB rfl hl rfl (Nat.le_of_ble_eq_true rfl) dL_course_5 ⟨Nat.le_of_ble_eq_true rfl, Nat.le_of_ble_eq_true rfl⟩) hS (fun _ h => Or.inl h) (fun en M1 hf H1 locs q9 ce hB hq hS hcell hcv hcl => ?_) (fun r M1 hf H1 locs hB hq hz hS => ?_)
  · obtain ⟨hne, hf⟩ := hf
    have hP1 : va_at D vwCl (lgc w E f) H1 := va_at.kept hP (hq w hwlt hw)
    rw [hf] at hc ⊢
    rcases hc with hc | hc
    · exact absurd hc hne
    · have hc : en = 3 := hc
      subst hc
      refine h_c1 (en := 3) hown ⟨0, 10, 13, 28⟩ [] hT rfl (by decide) (hts (.classLink RL 28 xIOB) (List.mem_of_getElem? (i := 1) rfl)) (cast_of hKX.2.1 (z := xIOB) (by decide)) hcell hcv hcl ?_
      refine lv_astore (lv' := [(4, .ref q9), (0, .ref (o + 0)), (1, .int x1), (2, .int x2), (3, .ref w)]) hx hb dL_course_13 hl (by decide) rfl (fun ls hl => ?_)
      refine lv_iconst (v := 1) hx hb dL_course_15 (by decide) ?_
      exact h_iret hx hb hr hlocks hS rfl hB hP1 (fun z => absurd z (show ¬ (3 : Nat) = 0 by decide)) dL_course_16
  · have hP1 : va_at D vwCl (lgc w E f) H1 := va_at.kept hP (hq w hw)
    refine lv_i2l (v := r.toInt64) hx hb dL_course_8 rfl ?_
    refine w_last hx hb hKX.1.1 hP1 hS (Or.inr rfl) dL_course_9 (fun H2 locs2 hP2 hq2 hz2 hS2 => ?_)
    refine lv_goto (tgt := 17) hx hb dL_course_10 (by decide) ?_
    refine lv_iconst (v := 0) hx hb dL_course_17 (by decide) ?_
    have hB2 : bk D E LRM o M1 H2 := bk_kept hB (fun q h1 h2 => hq2 q (fun z => hw (by rw [← z]; exact ⟨h1, h2⟩)))
    rw [hf]
    exact h_iret (f1 := vp_updL f 0 r.toInt64) hx hb hr hlocks hS2 rfl hB2 hP2 (fun _ => by simp [vp_updL]) dL_course_18
theorem h_setting (l : Launch) (hst : l.stackTraces = false) (D : va_G) (E : Nat → ClassId) (o w : Nat) (f : Nat → Int64) (M : bM) (x1 : Int32) (hw : ¬ rA o w) (hc : (f_X6_setting M x1).1 = 0 ∨ (f_X6_setting M x1).1 = 1) : vx_Met l yL_setting wsL_setting (rmX 7) (bPh D E [.ref (o + 0), .int x1, .ref w] o w f M) (bQh D E o w (f_X6_setting M x1) 1 9) xNo 1 6 (hA o w) := by
  refine vx_ofWH (cc := cL_setting) (maxL := 4) (ret := some .int) (hh := [(0, 9, 12, 13)]) (by decide) rfl ?_
  intro p e s m args below meth c s₁ B hml hv
  obtain ⟨rfl, hB, hP, hKX, hZ, hNc⟩ := hv
  have hx := B.exec
  have hb := B.bytes
  have hr := B.returns
  have hts := atoms_spec (ws := wsL_setting) B.pre
  have hown : s.vm.findClass RL = some m.cls := findClass_of_methodNamed B.named
  have hlocks := B.notSynchronized
  have hT := ex_one (ex_tab (hh := [(0, 9, 12, 13)]) B (hts _ List.mem_cons_self))
  have hS : va_S (hA o w) s.heap s.heap [] := ⟨Nat.le_refl _, fun _ _ _ => rfl, fun _ h => by cases h⟩
  have hwlt : w < s.heap.size := va_at.lt hP
  have hl := lv_entry ([.ref (o + 0), .int x1, .ref w]) (n := 4) (Nat.le_of_ble_eq_true rfl)
  rw [lg_entry_eq]
  generalize (lg_sl ([.ref (o + 0), .int x1, .ref w]) ++ List.replicate (4 - (lg_sl ([.ref (o + 0), .int x1, .ref w])).length) Slot.unset).toArray = ls at hl ⊢
  have hl : lv_has ls 4 [(0, .ref (o + 0)), (1, .int x1), (2, .ref w)] := hl
  refine lv_aload_n hx hb dL_setting_0 rfl (lv_at hl 2 rfl) ?_
  refine lv_iconst (v := 0) hx hb dL_setting_1 (by decide) ?_
  refine lv_aload_n hx hb dL_setting_2 rfl (lv_at hl 0 rfl) ?_
  refine lv_iload_n hx hb dL_setting_3 rfl (lv_at hl 1 rfl) ?_
  refine h_call (h_runV (As := [.int x1]) (rest := [.int 0, .ref w]) ⟨hx, hb, hml, hown, hts⟩ (c_X6_setting l hst D E o M x1) (cwV 1 hts gL_setting_X6_setting rfl rfl rfl (by decide +kernel) ⟨Nat.le_of_ble_eq_true rfl, Nat.le_of_ble_eq_true rfl⟩) hKX (bZ.narrow hZ (fun _ h => Or.inl h)) (bk_recv hKX.1.1 hB lay_0 rfl) hB rfl hl rfl (Nat.le_of_ble_eq_true rfl) dL_setting_4 ⟨Nat.le_of_ble_eq_true rfl, Nat.le_of_ble_eq_true rfl⟩) hS (fun _ h => Or.inl h) (fun en M1 hf H1 locs q9 ce hB hq hS hcell hcv hcl => ?_) (fun r M1 hf H1 locs hB hq hz hS => ?_)
  · obtain ⟨hne, hf⟩ := hf
    have hP1 : va_at D vwCl (lgc w E f) H1 := va_at.kept hP (hq w hwlt hw)
    rw [hf] at hc ⊢
    rcases hc with hc | hc
    · exact absurd hc hne
    · have hc : en = 1 := hc
      subst hc
      refine h_c1 (en := 1) hown ⟨0, 9, 12, 13⟩ [] hT rfl (by decide) (hts (.classLink RL 13 xIAE) (List.mem_of_getElem? (i := 1) rfl)) (cast_of hKX.2.1 (z := xIAE) (by decide)) hcell hcv hcl ?_
      refine lv_astore_n (lv' := [(3, .ref q9), (0, .ref (o + 0)), (1, .int x1), (2, .ref w)]) hx hb dL_setting_12 rfl hl (by decide) rfl (fun ls hl => ?_)
      refine lv_iconst (v := 1) hx hb dL_setting_13 (by decide) ?_
      exact h_iret hx hb hr hlocks hS rfl hB hP1 (fun z => absurd z (show ¬ (1 : Nat) = 0 by decide)) dL_setting_14
  · have hP1 : va_at D vwCl (lgc w E f) H1 := va_at.kept hP (hq w hw)
    refine lv_i2l (v := r.toInt64) hx hb dL_setting_7 rfl ?_
    refine w_last hx hb hKX.1.1 hP1 hS (Or.inr rfl) dL_setting_8 (fun H2 locs2 hP2 hq2 hz2 hS2 => ?_)
    refine lv_goto (tgt := 15) hx hb dL_setting_9 (by decide) ?_
    refine lv_iconst (v := 0) hx hb dL_setting_15 (by decide) ?_
    have hB2 : bk D E LRM o M1 H2 := bk_kept hB (fun q h1 h2 => hq2 q (fun z => hw (by rw [← z]; exact ⟨h1, h2⟩)))
    rw [hf]
    exact h_iret (f1 := vp_updL f 0 r.toInt64) hx hb hr hlocks hS2 rfl hB2 hP2 (fun _ => by simp [vp_updL]) dL_setting_16
theorem h_step (l : Launch) (hst : l.stackTraces = false) (D : va_G) (E : Nat → ClassId) (o w : Nat) (f : Nat → Int64) (M : bM) (x1 : Int32) (hw : ¬ rA o w) (hn : vp_in (M 30 1) 14) (hc : (f_X6_step M x1).1 = 0 ∨ (f_X6_step M x1).1 = 1 ∨ (f_X6_step M x1).1 = 2) : vx_Met l yL_step wsL_step (rmX 7) (bPh D E [.ref (o + 0), .int x1, .ref w] o w f M) (bQh D E o w (f_X6_step M x1) 1 2) xNo 1 6 (hA o w) := by
  refine vx_ofWH (cc := cL_step) (maxL := 4) (ret := some .int) (hh := [(0, 9, 12, 13), (0, 9, 15, 15)]) (by decide) rfl ?_
  intro p e s m args below meth c s₁ B hml hv
  obtain ⟨rfl, hB, hP, hKX, hZ, hNc⟩ := hv
  have hx := B.exec
  have hb := B.bytes
  have hr := B.returns
  have hts := atoms_spec (ws := wsL_step) B.pre
  have hown : s.vm.findClass RL = some m.cls := findClass_of_methodNamed B.named
  have hlocks := B.notSynchronized
  have hT := ex_two (ex_tab (hh := [(0, 9, 12, 13), (0, 9, 15, 15)]) B (hts _ List.mem_cons_self))
  have hS : va_S (hA o w) s.heap s.heap [] := ⟨Nat.le_refl _, fun _ _ _ => rfl, fun _ h => by cases h⟩
  have hwlt : w < s.heap.size := va_at.lt hP
  have hl := lv_entry ([.ref (o + 0), .int x1, .ref w]) (n := 4) (Nat.le_of_ble_eq_true rfl)
  rw [lg_entry_eq]
  generalize (lg_sl ([.ref (o + 0), .int x1, .ref w]) ++ List.replicate (4 - (lg_sl ([.ref (o + 0), .int x1, .ref w])).length) Slot.unset).toArray = ls at hl ⊢
  have hl : lv_has ls 4 [(0, .ref (o + 0)), (1, .int x1), (2, .ref w)] := hl
  refine lv_aload_n hx hb dL_step_0 rfl (lv_at hl 2 rfl) ?_
  refine lv_iconst (v := 0) hx hb dL_step_1 (by decide) ?_
  refine lv_aload_n hx hb dL_step_2 rfl (lv_at hl 0 rfl) ?_
  refine lv_iload_n hx hb dL_step_3 rfl (lv_at hl 1 rfl) ?_
  refine h_call (h_runV (As := [.int x1]) (rest := [.int 0, .ref w]) ⟨hx, hb, hml, hown, hts⟩ (c_X6_step l hst D E o M x1 hn) (cwV 1 hts gL_step_X6_step rfl rfl rfl (by decide +kernel) ⟨Nat.le_of_ble_eq_true rfl, Nat.le_of_ble_eq_true rfl⟩) hKX (bZ.narrow hZ (fun _ h => Or.inl h)) (bk_recv hKX.1.1 hB lay_0 rfl) hB rfl hl rfl (Nat.le_of_ble_eq_true rfl) dL_step_4 ⟨Nat.le_of_ble_eq_true rfl, Nat.le_of_ble_eq_true rfl⟩) hS (fun _ h => Or.inl h) (fun en M1 hf H1 locs q9 ce hB hq hS hcell hcv hcl => ?_) (fun r M1 hf H1 locs hB hq hz hS => ?_)
  · obtain ⟨hne, hf⟩ := hf
    have hP1 : va_at D vwCl (lgc w E f) H1 := va_at.kept hP (hq w hwlt hw)
    rw [hf] at hc ⊢
    rcases hc with hc | hc | hc
    · exact absurd hc hne
    · have hc : en = 1 := hc
      subst hc
      refine h_c1 (en := 1) hown ⟨0, 9, 12, 13⟩ [⟨0, 9, 15, 15⟩] hT rfl (by decide) (hts (.classLink RL 13 xIAE) (List.mem_of_getElem? (i := 1) rfl)) (cast_of hKX.2.1 (z := xIAE) (by decide)) hcell hcv hcl ?_
      refine lv_astore_n (lv' := [(3, .ref q9), (0, .ref (o + 0)), (1, .int x1), (2, .ref w)]) hx hb dL_step_12 rfl hl (by decide) rfl (fun ls hl => ?_)
      refine lv_iconst (v := 1) hx hb dL_step_13 (by decide) ?_
      exact h_iret hx hb hr hlocks hS rfl hB hP1 (fun z => absurd z (show ¬ (1 : Nat) = 0 by decide)) dL_step_14
    · have hc : en = 2 := hc
      subst hc
      refine h_c2 (en := 2) (nm := xIAE) hown ⟨0, 9, 12, 13⟩ ⟨0, 9, 15, 15⟩ [] hT (by decide) (hts (.classLink RL 13 xIAE) (List.mem_of_getElem? (i := 1) rfl)) (hNc 0 _ rfl) rfl (by decide) (hts (.classLink RL 15 xISE) (List.mem_of_getElem? (i := 2) rfl)) (cast_of hKX.2.1 (z := xISE) (by decide)) hcell hcv hcl ?_
      refine lv_astore_n (lv' := [(3, .ref q9), (0, .ref (o + 0)), (1, .int x1), (2, .ref w)]) hx hb dL_step_15 rfl hl (by decide) rfl (fun ls hl => ?_)
      refine lv_iconst (v := 2) hx hb dL_step_16 (by decide) ?_
      exact h_iret hx hb hr hlocks hS rfl hB hP1 (fun z => absurd z (show ¬ (2 : Nat) = 0 by decide)) dL_step_17
  · have hP1 : va_at D vwCl (lgc w E f) H1 := va_at.kept hP (hq w hw)
    refine lv_i2l (v := r.toInt64) hx hb dL_step_7 rfl ?_
    refine w_last hx hb hKX.1.1 hP1 hS (Or.inr rfl) dL_step_8 (fun H2 locs2 hP2 hq2 hz2 hS2 => ?_)
    refine lv_goto (tgt := 18) hx hb dL_step_9 (by decide) ?_
    refine lv_iconst (v := 0) hx hb dL_step_18 (by decide) ?_
    have hB2 : bk D E LRM o M1 H2 := bk_kept hB (fun q h1 h2 => hq2 q (fun z => hw (by rw [← z]; exact ⟨h1, h2⟩)))
    rw [hf]
    exact h_iret (f1 := vp_updL f 0 r.toInt64) hx hb hr hlocks hS2 rfl hB2 hP2 (fun _ => by simp [vp_updL]) dL_step_19
theorem h_dam (l : Launch) (hst : l.stackTraces = false) (D : va_G) (E : Nat → ClassId) (o w : Nat) (f : Nat → Int64) (M : bM) (x1 : Int32) (x2 : Int32) (hw : ¬ rA o w) (hn : vp_in (M 30 1) 14) (hc : (f_X6_dam M x1 x2).1 = 0 ∨ (f_X6_dam M x1 x2).1 = 3 ∨ (f_X6_dam M x1 x2).1 = 2) : vx_Met l yL_dam wsL_dam (rmX 7) (bPh D E [.ref (o + 0), .int x1, .int x2, .ref w] o w f M) (bQh D E o w (f_X6_dam M x1 x2) 3 2) xNo 1 6 (hA o w) := by
  refine vx_ofWH (cc := cL_dam) (maxL := 5) (ret := some .int) (hh := [(0, 10, 13, 28), (0, 10, 17, 15)]) (by decide) rfl ?_
  intro p e s m args below meth c s₁ B hml hv
  obtain ⟨rfl, hB, hP, hKX, hZ, hNc⟩ := hv
  have hx := B.exec
  have hb := B.bytes
  have hr := B.returns
  have hts := atoms_spec (ws := wsL_dam) B.pre
  have hown : s.vm.findClass RL = some m.cls := findClass_of_methodNamed B.named
  have hlocks := B.notSynchronized
  have hT := ex_two (ex_tab (hh := [(0, 10, 13, 28), (0, 10, 17, 15)]) B (hts _ List.mem_cons_self))
  have hS : va_S (hA o w) s.heap s.heap [] := ⟨Nat.le_refl _, fun _ _ _ => rfl, fun _ h => by cases h⟩
  have hwlt : w < s.heap.size := va_at.lt hP
  have hl := lv_entry ([.ref (o + 0), .int x1, .int x2, .ref w]) (n := 5) (Nat.le_of_ble_eq_true rfl)
  rw [lg_entry_eq]
  generalize (lg_sl ([.ref (o + 0), .int x1, .int x2, .ref w]) ++ List.replicate (5 - (lg_sl ([.ref (o + 0), .int x1, .int x2, .ref w])).length) Slot.unset).toArray = ls at hl ⊢
  have hl : lv_has ls 5 [(0, .ref (o + 0)), (1, .int x1), (2, .int x2), (3, .ref w)] := hl
  refine lv_aload_n hx hb dL_dam_0 rfl (lv_at hl 3 rfl) ?_
  refine lv_iconst (v := 0) hx hb dL_dam_1 (by decide) ?_
  refine lv_aload_n hx hb dL_dam_2 rfl (lv_at hl 0 rfl) ?_
  refine lv_iload_n hx hb dL_dam_3 rfl (lv_at hl 1 rfl) ?_
  refine lv_iload_n hx hb dL_dam_4 rfl (lv_at hl 2 rfl) ?_
  refine h_call (h_runV (As := [.int x1, .int x2]) (rest := [.int 0, .ref w]) ⟨hx, hb, hml, hown, hts⟩ (c_X6_dam l hst D E o M x1 x2 hn) (cwV 2 hts gL_dam_X6_dam rfl rfl rfl (by decide +kernel) ⟨Nat.le_of_ble_eq_true rfl, Nat.le_of_ble_eq_true rfl⟩) hKX (bZ.narrow hZ (fun _ h => Or.inl h)) (bk_recv hKX.1.1 hB lay_0 rfl) hB rfl hl rfl (Nat.le_of_ble_eq_true rfl) dL_dam_5 ⟨Nat.le_of_ble_eq_true rfl, Nat.le_of_ble_eq_true rfl⟩) hS (fun _ h => Or.inl h) (fun en M1 hf H1 locs q9 ce hB hq hS hcell hcv hcl => ?_) (fun r M1 hf H1 locs hB hq hz hS => ?_)
  · obtain ⟨hne, hf⟩ := hf
    have hP1 : va_at D vwCl (lgc w E f) H1 := va_at.kept hP (hq w hwlt hw)
    rw [hf] at hc ⊢
    rcases hc with hc | hc | hc
    · exact absurd hc hne
    · have hc : en = 3 := hc
      subst hc
      refine h_c1 (en := 3) hown ⟨0, 10, 13, 28⟩ [⟨0, 10, 17, 15⟩] hT rfl (by decide) (hts (.classLink RL 28 xIOB) (List.mem_of_getElem? (i := 1) rfl)) (cast_of hKX.2.1 (z := xIOB) (by decide)) hcell hcv hcl ?_
      refine lv_astore (lv' := [(4, .ref q9), (0, .ref (o + 0)), (1, .int x1), (2, .int x2), (3, .ref w)]) hx hb dL_dam_13 hl (by decide) rfl (fun ls hl => ?_)
      refine lv_iconst (v := 1) hx hb dL_dam_15 (by decide) ?_
      exact h_iret hx hb hr hlocks hS rfl hB hP1 (fun z => absurd z (show ¬ (3 : Nat) = 0 by decide)) dL_dam_16
    · have hc : en = 2 := hc
      subst hc
      refine h_c2 (en := 2) (nm := xIOB) hown ⟨0, 10, 13, 28⟩ ⟨0, 10, 17, 15⟩ [] hT (by decide) (hts (.classLink RL 28 xIOB) (List.mem_of_getElem? (i := 1) rfl)) (hNc 2 _ rfl) rfl (by decide) (hts (.classLink RL 15 xISE) (List.mem_of_getElem? (i := 2) rfl)) (cast_of hKX.2.1 (z := xISE) (by decide)) hcell hcv hcl ?_
      refine lv_astore (lv' := [(4, .ref q9), (0, .ref (o + 0)), (1, .int x1), (2, .int x2), (3, .ref w)]) hx hb dL_dam_17 hl (by decide) rfl (fun ls hl => ?_)
      refine lv_iconst (v := 2) hx hb dL_dam_19 (by decide) ?_
      exact h_iret hx hb hr hlocks hS rfl hB hP1 (fun z => absurd z (show ¬ (2 : Nat) = 0 by decide)) dL_dam_20
  · have hP1 : va_at D vwCl (lgc w E f) H1 := va_at.kept hP (hq w hw)
    refine lv_i2l (v := r.toInt64) hx hb dL_dam_8 rfl ?_
    refine w_last hx hb hKX.1.1 hP1 hS (Or.inr rfl) dL_dam_9 (fun H2 locs2 hP2 hq2 hz2 hS2 => ?_)
    refine lv_goto (tgt := 21) hx hb dL_dam_10 (by decide) ?_
    refine lv_iconst (v := 0) hx hb dL_dam_21 (by decide) ?_
    have hB2 : bk D E LRM o M1 H2 := bk_kept hB (fun q h1 h2 => hq2 q (fun z => hw (by rw [← z]; exact ⟨h1, h2⟩)))
    rw [hf]
    exact h_iret (f1 := vp_updL f 0 r.toInt64) hx hb hr hlocks hS2 rfl hB2 hP2 (fun _ => by simp [vp_updL]) dL_dam_22
theorem h_flood (l : Launch) (hst : l.stackTraces = false) (D : va_G) (E : Nat → ClassId) (o w : Nat) (f : Nat → Int64) (M : bM) (hw : ¬ rA o w) (hn : vp_in (M 30 1) 14) (hc : (f_X6_flood M).1 = 0 ∨ (f_X6_flood M).1 = 2) : vx_Met l yL_flood wsL_flood (rmX 7) (bPh D E [.ref (o + 0), .ref w] o w f M) (bQh D E o w (f_X6_flood M) 2 9) xNo 1 6 (hA o w) := by
  refine vx_ofWH (cc := cL_flood) (maxL := 3) (ret := some .int) (hh := [(0, 8, 11, 15)]) (by decide) rfl ?_
  intro p e s m args below meth c s₁ B hml hv
  obtain ⟨rfl, hB, hP, hKX, hZ, hNc⟩ := hv
  have hx := B.exec
  have hb := B.bytes
  have hr := B.returns
  have hts := atoms_spec (ws := wsL_flood) B.pre
  have hown : s.vm.findClass RL = some m.cls := findClass_of_methodNamed B.named
  have hlocks := B.notSynchronized
  have hT := ex_one (ex_tab (hh := [(0, 8, 11, 15)]) B (hts _ List.mem_cons_self))
  have hS : va_S (hA o w) s.heap s.heap [] := ⟨Nat.le_refl _, fun _ _ _ => rfl, fun _ h => by cases h⟩
  have hwlt : w < s.heap.size := va_at.lt hP
  have hl := lv_entry ([.ref (o + 0), .ref w]) (n := 3) (Nat.le_of_ble_eq_true rfl)
  rw [lg_entry_eq]
  generalize (lg_sl ([.ref (o + 0), .ref w]) ++ List.replicate (3 - (lg_sl ([.ref (o + 0), .ref w])).length) Slot.unset).toArray = ls at hl ⊢
  have hl : lv_has ls 3 [(0, .ref (o + 0)), (1, .ref w)] := hl
  refine lv_aload_n hx hb dL_flood_0 rfl (lv_at hl 1 rfl) ?_
  refine lv_iconst (v := 0) hx hb dL_flood_1 (by decide) ?_
  refine lv_aload_n hx hb dL_flood_2 rfl (lv_at hl 0 rfl) ?_
  refine h_call (h_runV (As := []) (rest := [.int 0, .ref w]) ⟨hx, hb, hml, hown, hts⟩ (c_X6_flood l hst D E o M hn) (cwV 0 hts gL_flood_X6_flood rfl rfl rfl (by decide +kernel) ⟨Nat.le_of_ble_eq_true rfl, Nat.le_of_ble_eq_true rfl⟩) hKX (bZ.narrow hZ (fun _ h => Or.inl h)) (bk_recv hKX.1.1 hB lay_0 rfl) hB rfl hl rfl (Nat.le_of_ble_eq_true rfl) dL_flood_3 ⟨Nat.le_of_ble_eq_true rfl, Nat.le_of_ble_eq_true rfl⟩) hS (fun _ h => Or.inl h) (fun en M1 hf H1 locs q9 ce hB hq hS hcell hcv hcl => ?_) (fun r M1 hf H1 locs hB hq hz hS => ?_)
  · obtain ⟨hne, hf⟩ := hf
    have hP1 : va_at D vwCl (lgc w E f) H1 := va_at.kept hP (hq w hwlt hw)
    rw [hf] at hc ⊢
    rcases hc with hc | hc
    · exact absurd hc hne
    · have hc : en = 2 := hc
      subst hc
      refine h_c1 (en := 2) hown ⟨0, 8, 11, 15⟩ [] hT rfl (by decide) (hts (.classLink RL 15 xISE) (List.mem_of_getElem? (i := 1) rfl)) (cast_of hKX.2.1 (z := xISE) (by decide)) hcell hcv hcl ?_
      refine lv_astore_n (lv' := [(2, .ref q9), (0, .ref (o + 0)), (1, .ref w)]) hx hb dL_flood_11 rfl hl (by decide) rfl (fun ls hl => ?_)
      refine lv_iconst (v := 1) hx hb dL_flood_12 (by decide) ?_
      exact h_iret hx hb hr hlocks hS rfl hB hP1 (fun z => absurd z (show ¬ (2 : Nat) = 0 by decide)) dL_flood_13
  · have hP1 : va_at D vwCl (lgc w E f) H1 := va_at.kept hP (hq w hw)
    refine lv_i2l (v := r.toInt64) hx hb dL_flood_6 rfl ?_
    refine w_last hx hb hKX.1.1 hP1 hS (Or.inr rfl) dL_flood_7 (fun H2 locs2 hP2 hq2 hz2 hS2 => ?_)
    refine lv_goto (tgt := 14) hx hb dL_flood_8 (by decide) ?_
    refine lv_iconst (v := 0) hx hb dL_flood_14 (by decide) ?_
    have hB2 : bk D E LRM o M1 H2 := bk_kept hB (fun q h1 h2 => hq2 q (fun z => hw (by rw [← z]; exact ⟨h1, h2⟩)))
    rw [hf]
    exact h_iret (f1 := vp_updL f 0 r.toInt64) hx hb hr hlocks hS2 rfl hB2 hP2 (fun _ => by simp [vp_updL]) dL_flood_15
