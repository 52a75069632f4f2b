/-! THE LAW'S HELPERS, the others -/
theorem h_set (l : Launch) (hst : l.stackTraces = false) (D : va_G) (E : Nat → ClassId) (o w : Nat) (f : Nat → Int64) (M : bM) (x1 : Int32) (x2 : Int32) (hw : ¬ rA o w) (hn : vp_in (M 30 1) 14) (hc : (f_X6_set M x1 x2).1 = 0 ∨ (f_X6_set M x1 x2).1 = 1) : vx_Met l yL_set wsL_set (rmX 7) (bPh D E [.ref (o + 0), .int x1, .int x2, .ref w] o w f M) (bQh D E o w (f_X6_set M x1 x2) 1 9) xNo 1 6 (hA o w) := by
  refine vx_ofWH (cc := cL_set) (maxL := 5) (ret := some .int) (hh := [(0, 10, 13, 13)]) (by decide) rfl ?_
  intro p e s m args below meth c s₁ B hml hv
  obtain ⟨rfl, hB, hP, hKX, hZ, hNc⟩ := hv
  have hx := B.exec
  have hb := B.bytes
  have hr := B.returns
  have hts := atoms_spec (ws := wsL_set) B.pre
  have hown : s.vm.findClass RL = some m.cls := findClass_of_methodNamed B.named
  have hlocks := B.notSynchronized
  have hT := ex_one (ex_tab (hh := [(0, 10, 13, 13)]) B (hts _ List.mem_cons_self))
  have hS : va_S (hA o w) s.heap s.heap [] := ⟨Nat.le_refl _, fun _ _ _ => rfl, fun _ h => by cases h⟩
  have hwlt : w < s.heap.size := va_at.lt hP
  have hl := lv_entry ([.ref (o + 0), .int x1, .int x2, .ref w]) (n := 5) (Nat.le_of_ble_eq_true rfl)
  rw [lg_entry_eq]
  generalize (lg_sl ([.ref (o + 0), .int x1, .int x2, .ref w]) ++ List.replicate (5 - (lg_sl ([.ref (o + 0), .int x1, .int x2, .ref w])).length) Slot.unset).toArray = ls at hl ⊢
  have hl : lv_has ls 5 [(0, .ref (o + 0)), (1, .int x1), (2, .int x2), (3, .ref w)] := hl
  refine lv_aload_n hx hb dL_set_0 rfl (lv_at hl 3 rfl) ?_
  refine lv_iconst (v := 0) hx hb dL_set_1 (by decide) ?_
  refine lv_aload_n hx hb dL_set_2 rfl (lv_at hl 0 rfl) ?_
  refine lv_iload_n hx hb dL_set_3 rfl (lv_at hl 1 rfl) ?_
  refine lv_iload_n hx hb dL_set_4 rfl (lv_at hl 2 rfl) ?_
  refine h_call (h_runV (As := [.int x1, .int x2]) (rest := [.int 0, .ref w]) ⟨hx, hb, hml, hown, hts⟩ (c_X6_set l hst D E o M x1 x2 hn) (cwV 2 hts gL_set_X6_set rfl rfl rfl (by decide +kernel) ⟨Nat.le_of_ble_eq_true rfl, Nat.le_of_ble_eq_true rfl⟩) hKX (bZ.narrow hZ (fun _ h => Or.inl h)) (bk_recv hKX.1.1 hB lay_0 rfl) hB rfl hl rfl (Nat.le_of_ble_eq_true rfl) dL_set_5 ⟨Nat.le_of_ble_eq_true rfl, Nat.le_of_ble_eq_true rfl⟩) hS (fun _ h => Or.inl h) (fun en M1 hf H1 locs q9 ce hB hq hS hcell hcv hcl => ?_) (fun r M1 hf H1 locs hB hq hz hS => ?_)
  · obtain ⟨hne, hf⟩ := hf
    have hP1 : va_at D vwCl (lgc w E f) H1 := va_at.kept hP (hq w hwlt hw)
    rw [hf] at hc ⊢
    rcases hc with hc | hc
    · exact absurd hc hne
    · have hc : en = 1 := hc
      subst hc
      refine h_c1 (en := 1) hown ⟨0, 10, 13, 13⟩ [] hT rfl (by decide) (hts (.classLink RL 13 xIAE) (List.mem_of_getElem? (i := 1) rfl)) (cast_of hKX.2.1 (z := xIAE) (by decide)) hcell hcv hcl ?_
      refine lv_astore (lv' := [(4, .ref q9), (0, .ref (o + 0)), (1, .int x1), (2, .int x2), (3, .ref w)]) hx hb dL_set_13 hl (by decide) rfl (fun ls hl => ?_)
      refine lv_iconst (v := 1) hx hb dL_set_15 (by decide) ?_
      exact h_iret hx hb hr hlocks hS rfl hB hP1 (fun z => absurd z (show ¬ (1 : Nat) = 0 by decide)) dL_set_16
  · have hP1 : va_at D vwCl (lgc w E f) H1 := va_at.kept hP (hq w hw)
    refine lv_i2l (v := r.toInt64) hx hb dL_set_8 rfl ?_
    refine w_last hx hb hKX.1.1 hP1 hS (Or.inr rfl) dL_set_9 (fun H2 locs2 hP2 hq2 hz2 hS2 => ?_)
    refine lv_goto (tgt := 17) hx hb dL_set_10 (by decide) ?_
    refine lv_iconst (v := 0) hx hb dL_set_17 (by decide) ?_
    have hB2 : bk D E LRM o M1 H2 := bk_kept hB (fun q h1 h2 => hq2 q (fun z => hw (by rw [← z]; exact ⟨h1, h2⟩)))
    rw [hf]
    exact h_iret (f1 := vp_updL f 0 r.toInt64) hx hb hr hlocks hS2 rfl hB2 hP2 (fun _ => by simp [vp_updL]) dL_set_18
theorem h_undo (l : Launch) (hst : l.stackTraces = false) (D : va_G) (E : Nat → ClassId) (o w : Nat) (f : Nat → Int64) (M : bM) (hw : ¬ rA o w) (hn : vp_in (M 30 1) 14) (hc : (f_X6_undo M).1 = 0 ∨ (f_X6_undo M).1 = 2) : vx_Met l yL_undo wsL_undo (rmX 7) (bPh D E [.ref (o + 0), .ref w] o w f M) (bQh D E o w (f_X6_undo M) 2 9) xNo 1 6 (hA o w) := by
  refine vx_ofWH (cc := cL_undo) (maxL := 3) (ret := some .int) (hh := [(0, 8, 11, 15)]) (by decide) rfl ?_
  intro p e s m args below meth c s₁ B hml hv
  obtain ⟨rfl, hB, hP, hKX, hZ, hNc⟩ := hv
  have hx := B.exec
  have hb := B.bytes
  have hr := B.returns
  have hts := atoms_spec (ws := wsL_undo) B.pre
  have hown : s.vm.findClass RL = some m.cls := findClass_of_methodNamed B.named
  have hlocks := B.notSynchronized
  have hT := ex_one (ex_tab (hh := [(0, 8, 11, 15)]) B (hts _ List.mem_cons_self))
  have hS : va_S (hA o w) s.heap s.heap [] := ⟨Nat.le_refl _, fun _ _ _ => rfl, fun _ h => by cases h⟩
  have hwlt : w < s.heap.size := va_at.lt hP
  have hl := lv_entry ([.ref (o + 0), .ref w]) (n := 3) (Nat.le_of_ble_eq_true rfl)
  rw [lg_entry_eq]
  generalize (lg_sl ([.ref (o + 0), .ref w]) ++ List.replicate (3 - (lg_sl ([.ref (o + 0), .ref w])).length) Slot.unset).toArray = ls at hl ⊢
  have hl : lv_has ls 3 [(0, .ref (o + 0)), (1, .ref w)] := hl
  refine lv_aload_n hx hb dL_undo_0 rfl (lv_at hl 1 rfl) ?_
  refine lv_iconst (v := 0) hx hb dL_undo_1 (by decide) ?_
  refine lv_aload_n hx hb dL_undo_2 rfl (lv_at hl 0 rfl) ?_
  refine h_call (h_runV (As := []) (rest := [.int 0, .ref w]) ⟨hx, hb, hml, hown, hts⟩ (c_X6_undo l hst D E o M hn) (cwV 0 hts gL_undo_X6_undo rfl rfl rfl (by decide +kernel) ⟨Nat.le_of_ble_eq_true rfl, Nat.le_of_ble_eq_true rfl⟩) hKX (bZ.narrow hZ (fun _ h => Or.inl h)) (bk_recv hKX.1.1 hB lay_0 rfl) hB rfl hl rfl (Nat.le_of_ble_eq_true rfl) dL_undo_3 ⟨Nat.le_of_ble_eq_true rfl, Nat.le_of_ble_eq_true rfl⟩) hS (fun _ h => Or.inl h) (fun en M1 hf H1 locs q9 ce hB hq hS hcell hcv hcl => ?_) (fun r M1 hf H1 locs hB hq hz hS => ?_)
  · obtain ⟨hne, hf⟩ := hf
    have hP1 : va_at D vwCl (lgc w E f) H1 := va_at.kept hP (hq w hwlt hw)
    rw [hf] at hc ⊢
    rcases hc with hc | hc
    · exact absurd hc hne
    · have hc : en = 2 := hc
      subst hc
      refine h_c1 (en := 2) hown ⟨0, 8, 11, 15⟩ [] hT rfl (by decide) (hts (.classLink RL 15 xISE) (List.mem_of_getElem? (i := 1) rfl)) (cast_of hKX.2.1 (z := xISE) (by decide)) hcell hcv hcl ?_
      refine lv_astore_n (lv' := [(2, .ref q9), (0, .ref (o + 0)), (1, .ref w)]) hx hb dL_undo_11 rfl hl (by decide) rfl (fun ls hl => ?_)
      refine lv_iconst (v := 1) hx hb dL_undo_12 (by decide) ?_
      exact h_iret hx hb hr hlocks hS rfl hB hP1 (fun z => absurd z (show ¬ (2 : Nat) = 0 by decide)) dL_undo_13
  · have hP1 : va_at D vwCl (lgc w E f) H1 := va_at.kept hP (hq w hw)
    refine lv_i2l (v := r.toInt64) hx hb dL_undo_6 rfl ?_
    refine w_last hx hb hKX.1.1 hP1 hS (Or.inr rfl) dL_undo_7 (fun H2 locs2 hP2 hq2 hz2 hS2 => ?_)
    refine lv_goto (tgt := 14) hx hb dL_undo_8 (by decide) ?_
    refine lv_iconst (v := 0) hx hb dL_undo_14 (by decide) ?_
    have hB2 : bk D E LRM o M1 H2 := bk_kept hB (fun q h1 h2 => hq2 q (fun z => hw (by rw [← z]; exact ⟨h1, h2⟩)))
    rw [hf]
    exact h_iret (f1 := vp_updL f 0 r.toInt64) hx hb hr hlocks hS2 rfl hB2 hP2 (fun _ => by simp [vp_updL]) dL_undo_15
theorem h_why (l : Launch) (hst : l.stackTraces = false) (D : va_G) (E : Nat → ClassId) (o w : Nat) (f : Nat → Int64) (M : bM) (x1 : Int32) (hw : ¬ rA o w) (hc : (f_X6_why M x1).1 = 0 ∨ (f_X6_why M x1).1 = 1) : vx_Met l yL_why wsL_why (rmX 7) (bPh D E [.ref (o + 0), .int x1, .ref w] o w f M) (bQh D E o w (f_X6_why M x1) 1 9) xNo 1 6 (hA o w) := by
  refine vx_ofWH (cc := cL_why) (maxL := 4) (ret := some .int) (hh := [(0, 9, 12, 13)]) (by decide) rfl ?_
  intro p e s m args below meth c s₁ B hml hv
  obtain ⟨rfl, hB, hP, hKX, hZ, hNc⟩ := hv
  have hx := B.exec
  have hb := B.bytes
  have hr := B.returns
  have hts := atoms_spec (ws := wsL_why) B.pre
  have hown : s.vm.findClass RL = some m.cls := findClass_of_methodNamed B.named
  have hlocks := B.notSynchronized
  have hT := ex_one (ex_tab (hh := [(0, 9, 12, 13)]) B (hts _ List.mem_cons_self))
  have hS : va_S (hA o w) s.heap s.heap [] := ⟨Nat.le_refl _, fun _ _ _ => rfl, fun _ h => by cases h⟩
  have hwlt : w < s.heap.size := va_at.lt hP
  have hl := lv_entry ([.ref (o + 0), .int x1, .ref w]) (n := 4) (Nat.le_of_ble_eq_true rfl)
  rw [lg_entry_eq]
  generalize (lg_sl ([.ref (o + 0), .int x1, .ref w]) ++ List.replicate (4 - (lg_sl ([.ref (o + 0), .int x1, .ref w])).length) Slot.unset).toArray = ls at hl ⊢
  have hl : lv_has ls 4 [(0, .ref (o + 0)), (1, .int x1), (2, .ref w)] := hl
  refine lv_aload_n hx hb dL_why_0 rfl (lv_at hl 2 rfl) ?_
  refine lv_iconst (v := 0) hx hb dL_why_1 (by decide) ?_
  refine lv_aload_n hx hb dL_why_2 rfl (lv_at hl 0 rfl) ?_
  refine lv_iload_n hx hb dL_why_3 rfl (lv_at hl 1 rfl) ?_
  refine h_call (h_runV (As := [.int x1]) (rest := [.int 0, .ref w]) ⟨hx, hb, hml, hown, hts⟩ (c_X6_why l hst D E o M x1) (cwV 1 hts gL_why_X6_why rfl rfl rfl (by decide +kernel) ⟨Nat.le_of_ble_eq_true rfl, Nat.le_of_ble_eq_true rfl⟩) hKX (bZ.narrow hZ (fun _ h => Or.inl h)) (bk_recv hKX.1.1 hB lay_0 rfl) hB rfl hl rfl (Nat.le_of_ble_eq_true rfl) dL_why_4 ⟨Nat.le_of_ble_eq_true rfl, Nat.le_of_ble_eq_true rfl⟩) hS (fun _ h => Or.inl h) (fun en M1 hf H1 locs q9 ce hB hq hS hcell hcv hcl => ?_) (fun r M1 hf H1 locs hB hq hz hS => ?_)
  · obtain ⟨hne, hf⟩ := hf
    have hP1 : va_at D vwCl (lgc w E f) H1 := va_at.kept hP (hq w hwlt hw)
    rw [hf] at hc ⊢
    rcases hc with hc | hc
    · exact absurd hc hne
    · have hc : en = 1 := hc
      subst hc
      refine h_c1 (en := 1) hown ⟨0, 9, 12, 13⟩ [] hT rfl (by decide) (hts (.classLink RL 13 xIAE) (List.mem_of_getElem? (i := 1) rfl)) (cast_of hKX.2.1 (z := xIAE) (by decide)) hcell hcv hcl ?_
      refine lv_astore_n (lv' := [(3, .ref q9), (0, .ref (o + 0)), (1, .int x1), (2, .ref w)]) hx hb dL_why_12 rfl hl (by decide) rfl (fun ls hl => ?_)
      refine lv_iconst (v := 1) hx hb dL_why_13 (by decide) ?_
      exact h_iret hx hb hr hlocks hS rfl hB hP1 (fun z => absurd z (show ¬ (1 : Nat) = 0 by decide)) dL_why_14
  · have hP1 : va_at D vwCl (lgc w E f) H1 := va_at.kept hP (hq w hw)
    refine lv_i2l (v := r.toInt64) hx hb dL_why_7 rfl ?_
    refine w_last hx hb hKX.1.1 hP1 hS (Or.inr rfl) dL_why_8 (fun H2 locs2 hP2 hq2 hz2 hS2 => ?_)
    refine lv_goto (tgt := 15) hx hb dL_why_9 (by decide) ?_
    refine lv_iconst (v := 0) hx hb dL_why_15 (by decide) ?_
    have hB2 : bk D E LRM o M1 H2 := bk_kept hB (fun q h1 h2 => hq2 q (fun z => hw (by rw [← z]; exact ⟨h1, h2⟩)))
    rw [hf]
    exact h_iret (f1 := vp_updL f 0 r.toInt64) hx hb hr hlocks hS2 rfl hB2 hP2 (fun _ => by simp [vp_updL]) dL_why_16
theorem h_whyDam (l : Launch) (hst : l.stackTraces = false) (D : va_G) (E : Nat → ClassId) (o w : Nat) (f : Nat → Int64) (M : bM) (x1 : Int32) (x2 : Int32) (hw : ¬ rA o w) (hc : (f_X6_whyDam M x1 x2).1 = 0 ∨ (f_X6_whyDam M x1 x2).1 = 3) : vx_Met l yL_whyDam wsL_whyDam (rmX 7) (bPh D E [.ref (o + 0), .int x1, .int x2, .ref w] o w f M) (bQh D E o w (f_X6_whyDam M x1 x2) 3 9) xNo 1 6 (hA o w) := by
  refine vx_ofWH (cc := cL_whyDam) (maxL := 5) (ret := some .int) (hh := [(0, 10, 13, 28)]) (by decide) rfl ?_
  intro p e s m args below meth c s₁ B hml hv
  obtain ⟨rfl, hB, hP, hKX, hZ, hNc⟩ := hv
  have hx := B.exec
  have hb := B.bytes
  have hr := B.returns
  have hts := atoms_spec (ws := wsL_whyDam) B.pre
  have hown : s.vm.findClass RL = some m.cls := findClass_of_methodNamed B.named
  have hlocks := B.notSynchronized
  have hT := ex_one (ex_tab (hh := [(0, 10, 13, 28)]) B (hts _ List.mem_cons_self))
  have hS : va_S (hA o w) s.heap s.heap [] := ⟨Nat.le_refl _, fun _ _ _ => rfl, fun _ h => by cases h⟩
  have hwlt : w < s.heap.size := va_at.lt hP
  have hl := lv_entry ([.ref (o + 0), .int x1, .int x2, .ref w]) (n := 5) (Nat.le_of_ble_eq_true rfl)
  rw [lg_entry_eq]
  generalize (lg_sl ([.ref (o + 0), .int x1, .int x2, .ref w]) ++ List.replicate (5 - (lg_sl ([.ref (o + 0), .int x1, .int x2, .ref w])).length) Slot.unset).toArray = ls at hl ⊢
  have hl : lv_has ls 5 [(0, .ref (o + 0)), (1, .int x1), (2, .int x2), (3, .ref w)] := hl
  refine lv_aload_n hx hb dL_whyDam_0 rfl (lv_at hl 3 rfl) ?_
  refine lv_iconst (v := 0) hx hb dL_whyDam_1 (by decide) ?_
  refine lv_aload_n hx hb dL_whyDam_2 rfl (lv_at hl 0 rfl) ?_
  refine lv_iload_n hx hb dL_whyDam_3 rfl (lv_at hl 1 rfl) ?_
  refine lv_iload_n hx hb dL_whyDam_4 rfl (lv_at hl 2 rfl) ?_
  refine h_call (h_runV (As := [.int x1, .int x2]) (rest := [.int 0, .ref w]) ⟨hx, hb, hml, hown, hts⟩ (c_X6_whyDam l hst D E o M x1 x2) (cwV 2 hts gL_whyDam_X6_whyDam rfl rfl rfl (by decide +kernel) ⟨Nat.le_of_ble_eq_true rfl, Nat.le_of_ble_eq_true rfl⟩) hKX (bZ.narrow hZ (fun _ h => Or.inl h)) (bk_recv hKX.1.1 hB lay_0 rfl) hB rfl hl rfl (Nat.le_of_ble_eq_true rfl) dL_whyDam_5 ⟨Nat.le_of_ble_eq_true rfl, Nat.le_of_ble_eq_true rfl⟩) hS (fun _ h => Or.inl h) (fun en M1 hf H1 locs q9 ce hB hq hS hcell hcv hcl => ?_) (fun r M1 hf H1 locs hB hq hz hS => ?_)
  · obtain ⟨hne, hf⟩ := hf
    have hP1 : va_at D vwCl (lgc w E f) H1 := va_at.kept hP (hq w hwlt hw)
    rw [hf] at hc ⊢
    rcases hc with hc | hc
    · exact absurd hc hne
    · have hc : en = 3 := hc
      subst hc
      refine h_c1 (en := 3) hown ⟨0, 10, 13, 28⟩ [] hT rfl (by decide) (hts (.classLink RL 28 xIOB) (List.mem_of_getElem? (i := 1) rfl)) (cast_of hKX.2.1 (z := xIOB) (by decide)) hcell hcv hcl ?_
      refine lv_astore (lv' := [(4, .ref q9), (0, .ref (o + 0)), (1, .int x1), (2, .int x2), (3, .ref w)]) hx hb dL_whyDam_13 hl (by decide) rfl (fun ls hl => ?_)
      refine lv_iconst (v := 1) hx hb dL_whyDam_15 (by decide) ?_
      exact h_iret hx hb hr hlocks hS rfl hB hP1 (fun z => absurd z (show ¬ (3 : Nat) = 0 by decide)) dL_whyDam_16
  · have hP1 : va_at D vwCl (lgc w E f) H1 := va_at.kept hP (hq w hw)
    refine lv_i2l (v := r.toInt64) hx hb dL_whyDam_8 rfl ?_
    refine w_last hx hb hKX.1.1 hP1 hS (Or.inr rfl) dL_whyDam_9 (fun H2 locs2 hP2 hq2 hz2 hS2 => ?_)
    refine lv_goto (tgt := 17) hx hb dL_whyDam_10 (by decide) ?_
    refine lv_iconst (v := 0) hx hb dL_whyDam_17 (by decide) ?_
    have hB2 : bk D E LRM o M1 H2 := bk_kept hB (fun q h1 h2 => hq2 q (fun z => hw (by rw [← z]; exact ⟨h1, h2⟩)))
    rw [hf]
    exact h_iret (f1 := vp_updL f 0 r.toInt64) hx hb hr hlocks hS2 rfl hB2 hP2 (fun _ => by simp [vp_updL]) dL_whyDam_18
theorem h_cheapest (l : Launch) (hst : l.stackTraces = false) (D : va_G) (E : Nat → ClassId) (o w : Nat) (f : Nat → Int64) (M : bM) (x1 : Int32) (x2 : Int32) (hw : ¬ rA o w) (hc : (f_X6_cheapest M x1 x2).1 = 0 ∨ (f_X6_cheapest M x1 x2).1 = 3 ∨ (f_X6_cheapest M x1 x2).1 = 1) : vx_Met l yL_cheapest wsL_cheapest (rmX 7) (bPh D E [.ref (o + 0), .int x1, .int x2, .ref w] o w f M) (bQh D E o w (f_X6_cheapest M x1 x2) 3 1) xNo 1 6 (hA o w) := by
  refine vx_ofWH (cc := cL_cheapest) (maxL := 5) (ret := some .int) (hh := [(0, 10, 13, 28), (0, 10, 17, 13)]) (by decide) rfl ?_
  intro p e s m args below meth c s₁ B hml hv
  obtain ⟨rfl, hB, hP, hKX, hZ, hNc⟩ := hv
  have hx := B.exec
  have hb := B.bytes
  have hr := B.returns
  have hts := atoms_spec (ws := wsL_cheapest) B.pre
  have hown : s.vm.findClass RL = some m.cls := findClass_of_methodNamed B.named
  have hlocks := B.notSynchronized
  have hT := ex_two (ex_tab (hh := [(0, 10, 13, 28), (0, 10, 17, 13)]) B (hts _ List.mem_cons_self))
  have hS : va_S (hA o w) s.heap s.heap [] := ⟨Nat.le_refl _, fun _ _ _ => rfl, fun _ h => by cases h⟩
  have hwlt : w < s.heap.size := va_at.lt hP
  have hl := lv_entry ([.ref (o + 0), .int x1, .int x2, .ref w]) (n := 5) (Nat.le_of_ble_eq_true rfl)
  rw [lg_entry_eq]
  generalize (lg_sl ([.ref (o + 0), .int x1, .int x2, .ref w]) ++ List.replicate (5 - (lg_sl ([.ref (o + 0), .int x1, .int x2, .ref w])).length) Slot.unset).toArray = ls at hl ⊢
  have hl : lv_has ls 5 [(0, .ref (o + 0)), (1, .int x1), (2, .int x2), (3, .ref w)] := hl
  refine lv_aload_n hx hb dL_cheapest_0 rfl (lv_at hl 3 rfl) ?_
  refine lv_iconst (v := 0) hx hb dL_cheapest_1 (by decide) ?_
  refine lv_aload_n hx hb dL_cheapest_2 rfl (lv_at hl 0 rfl) ?_
  refine lv_iload_n hx hb dL_cheapest_3 rfl (lv_at hl 1 rfl) ?_
  refine lv_iload_n hx hb dL_cheapest_4 rfl (lv_at hl 2 rfl) ?_
  refine h_call (h_runV (As := [.int x1, .int x2]) (rest := [.int 0, .ref w]) ⟨hx, hb, hml, hown, hts⟩ (c_X6_cheapest l hst D E o M x1 x2) (cwV 2 hts gL_cheapest_X6_cheapest rfl rfl rfl (by decide +kernel) ⟨Nat.le_of_ble_eq_true rfl, Nat.le_of_ble_eq_true rfl⟩) hKX (bZ.narrow hZ (fun _ h => Or.inl h)) (bk_recv hKX.1.1 hB lay_0 rfl) hB rfl hl rfl (Nat.le_of_ble_eq_true rfl) dL_cheapest_5 ⟨Nat.le_of_ble_eq_true rfl, Nat.le_of_ble_eq_true rfl⟩) hS (fun _ h => Or.inl h) (fun en M1 hf H1 locs q9 ce hB hq hS hcell hcv hcl => ?_) (fun r M1 hf H1 locs hB hq hz hS => ?_)
  · obtain ⟨hne, hf⟩ := hf
    have hP1 : va_at D vwCl (lgc w E f) H1 := va_at.kept hP (hq w hwlt hw)
    rw [hf] at hc ⊢
    rcases hc with hc | hc | hc
    · exact absurd hc hne
    · have hc : en = 3 := hc
      subst hc
      refine h_c1 (en := 3) hown ⟨0, 10, 13, 28⟩ [⟨0, 10, 17, 13⟩] hT rfl (by decide) (hts (.classLink RL 28 xIOB) (List.mem_of_getElem? (i := 1) rfl)) (cast_of hKX.2.1 (z := xIOB) (by decide)) hcell hcv hcl ?_
      refine lv_astore (lv' := [(4, .ref q9), (0, .ref (o + 0)), (1, .int x1), (2, .int x2), (3, .ref w)]) hx hb dL_cheapest_13 hl (by decide) rfl (fun ls hl => ?_)
      refine lv_iconst (v := 1) hx hb dL_cheapest_15 (by decide) ?_
      exact h_iret hx hb hr hlocks hS rfl hB hP1 (fun z => absurd z (show ¬ (3 : Nat) = 0 by decide)) dL_cheapest_16
    · have hc : en = 1 := hc
      subst hc
      refine h_c2 (en := 1) (nm := xIOB) hown ⟨0, 10, 13, 28⟩ ⟨0, 10, 17, 13⟩ [] hT (by decide) (hts (.classLink RL 28 xIOB) (List.mem_of_getElem? (i := 1) rfl)) (hNc 1 _ rfl) rfl (by decide) (hts (.classLink RL 13 xIAE) (List.mem_of_getElem? (i := 2) rfl)) (cast_of hKX.2.1 (z := xIAE) (by decide)) hcell hcv hcl ?_
      refine lv_astore (lv' := [(4, .ref q9), (0, .ref (o + 0)), (1, .int x1), (2, .int x2), (3, .ref w)]) hx hb dL_cheapest_17 hl (by decide) rfl (fun ls hl => ?_)
      refine lv_iconst (v := 2) hx hb dL_cheapest_19 (by decide) ?_
      exact h_iret hx hb hr hlocks hS rfl hB hP1 (fun z => absurd z (show ¬ (1 : Nat) = 0 by decide)) dL_cheapest_20
  · have hP1 : va_at D vwCl (lgc w E f) H1 := va_at.kept hP (hq w hw)
    refine lv_i2l (v := r.toInt64) hx hb dL_cheapest_8 rfl ?_
    refine w_last hx hb hKX.1.1 hP1 hS (Or.inr rfl) dL_cheapest_9 (fun H2 locs2 hP2 hq2 hz2 hS2 => ?_)
    refine lv_goto (tgt := 21) hx hb dL_cheapest_10 (by decide) ?_
    refine lv_iconst (v := 0) hx hb dL_cheapest_21 (by decide) ?_
    have hB2 : bk D E LRM o M1 H2 := bk_kept hB (fun q h1 h2 => hq2 q (fun z => hw (by rw [← z]; exact ⟨h1, h2⟩)))
    rw [hf]
    exact h_iret (f1 := vp_updL f 0 r.toInt64) hx hb hr hlocks hS2 rfl hB2 hP2 (fun _ => by simp [vp_updL]) dL_cheapest_22
theorem h_meetsIn (l : Launch) (hst : l.stackTraces = false) (D : va_G) (E : Nat → ClassId) (o w : Nat) (f : Nat → Int64) (M : bM) (x1 : Int32) (hw : ¬ rA o w) (hc : (f_X6_meetsIn M x1).1 = 0 ∨ (f_X6_meetsIn M x1).1 = 3) : vx_Met l yL_meetsIn wsL_meetsIn (rmX 7) (bPh D E [.ref (o + 0), .int x1, .ref w] o w f M) (bQh D E o w (f_X6_meetsIn M x1) 3 9) xNo 1 6 (hA o w) := by
  refine vx_ofWH (cc := cL_meetsIn) (maxL := 4) (ret := some .int) (hh := [(0, 9, 12, 28)]) (by decide) rfl ?_
  intro p e s m args below meth c s₁ B hml hv
  obtain ⟨rfl, hB, hP, hKX, hZ, hNc⟩ := hv
  have hx := B.exec
  have hb := B.bytes
  have hr := B.returns
  have hts := atoms_spec (ws := wsL_meetsIn) B.pre
  have hown : s.vm.findClass RL = some m.cls := findClass_of_methodNamed B.named
  have hlocks := B.notSynchronized
  have hT := ex_one (ex_tab (hh := [(0, 9, 12, 28)]) B (hts _ List.mem_cons_self))
  have hS : va_S (hA o w) s.heap s.heap [] := ⟨Nat.le_refl _, fun _ _ _ => rfl, fun _ h => by cases h⟩
  have hwlt : w < s.heap.size := va_at.lt hP
  have hl := lv_entry ([.ref (o + 0), .int x1, .ref w]) (n := 4) (Nat.le_of_ble_eq_true rfl)
  rw [lg_entry_eq]
  generalize (lg_sl ([.ref (o + 0), .int x1, .ref w]) ++ List.replicate (4 - (lg_sl ([.ref (o + 0), .int x1, .ref w])).length) Slot.unset).toArray = ls at hl ⊢
  have hl : lv_has ls 4 [(0, .ref (o + 0)), (1, .int x1), (2, .ref w)] := hl
  refine lv_aload_n hx hb dL_meetsIn_0 rfl (lv_at hl 2 rfl) ?_
  refine lv_iconst (v := 0) hx hb dL_meetsIn_1 (by decide) ?_
  refine lv_aload_n hx hb dL_meetsIn_2 rfl (lv_at hl 0 rfl) ?_
  refine lv_iload_n hx hb dL_meetsIn_3 rfl (lv_at hl 1 rfl) ?_
  refine h_call (h_runV (As := [.int x1]) (rest := [.int 0, .ref w]) ⟨hx, hb, hml, hown, hts⟩ (c_X6_meetsIn l hst D E o M x1) (cwV 1 hts gL_meetsIn_X6_meetsIn rfl rfl rfl (by decide +kernel) ⟨Nat.le_of_ble_eq_true rfl, Nat.le_of_ble_eq_true rfl⟩) hKX (bZ.narrow hZ (fun _ h => Or.inl h)) (bk_recv hKX.1.1 hB lay_0 rfl) hB rfl hl rfl (Nat.le_of_ble_eq_true rfl) dL_meetsIn_4 ⟨Nat.le_of_ble_eq_true rfl, Nat.le_of_ble_eq_true rfl⟩) hS (fun _ h => Or.inl h) (fun en M1 hf H1 locs q9 ce hB hq hS hcell hcv hcl => ?_) (fun r M1 hf H1 locs hB hq hz hS => ?_)
  · obtain ⟨hne, hf⟩ := hf
    have hP1 : va_at D vwCl (lgc w E f) H1 := va_at.kept hP (hq w hwlt hw)
    rw [hf] at hc ⊢
    rcases hc with hc | hc
    · exact absurd hc hne
    · have hc : en = 3 := hc
      subst hc
      refine h_c1 (en := 3) hown ⟨0, 9, 12, 28⟩ [] hT rfl (by decide) (hts (.classLink RL 28 xIOB) (List.mem_of_getElem? (i := 1) rfl)) (cast_of hKX.2.1 (z := xIOB) (by decide)) hcell hcv hcl ?_
      refine lv_astore_n (lv' := [(3, .ref q9), (0, .ref (o + 0)), (1, .int x1), (2, .ref w)]) hx hb dL_meetsIn_12 rfl hl (by decide) rfl (fun ls hl => ?_)
      refine lv_iconst (v := 1) hx hb dL_meetsIn_13 (by decide) ?_
      exact h_iret hx hb hr hlocks hS rfl hB hP1 (fun z => absurd z (show ¬ (3 : Nat) = 0 by decide)) dL_meetsIn_14
  · have hP1 : va_at D vwCl (lgc w E f) H1 := va_at.kept hP (hq w hw)
    refine lv_i2l (v := r.toInt64) hx hb dL_meetsIn_7 rfl ?_
    refine w_last hx hb hKX.1.1 hP1 hS (Or.inr rfl) dL_meetsIn_8 (fun H2 locs2 hP2 hq2 hz2 hS2 => ?_)
    refine lv_goto (tgt := 15) hx hb dL_meetsIn_9 (by decide) ?_
    refine lv_iconst (v := 0) hx hb dL_meetsIn_15 (by decide) ?_
    have hB2 : bk D E LRM o M1 H2 := bk_kept hB (fun q h1 h2 => hq2 q (fun z => hw (by rw [← z]; exact ⟨h1, h2⟩)))
    rw [hf]
    exact h_iret (f1 := vp_updL f 0 r.toInt64) hx hb hr hlocks hS2 rfl hB2 hP2 (fun _ => by simp [vp_updL]) dL_meetsIn_16
theorem h_runScript (l : Launch) (hst : l.stackTraces = false) (D : va_G) (E : Nat → ClassId) (o w : Nat) (f : Nat → Int64) (M : bM) (x1 : Int32) (x2 : Int64) (hw : ¬ rA o w) (hc : (f_X6_runScript M x1 x2).1 = 0 ∨ (f_X6_runScript M x1 x2).1 = 1) : vx_Met l yL_runScript wsL_runScript (rmX 7) (bPh D E [.ref (o + 0), .int x1, .long x2, .ref w] o w f M) (bQh D E o w (f_X6_runScript M x1 x2) 1 9) xNo 1 6 (hA o w) := by
  refine vx_ofWH (cc := cL_runScript) (maxL := 6) (ret := some .int) (hh := [(0, 11, 14, 13)]) (by decide) rfl ?_
  intro p e s m args below meth c s₁ B hml hv
  obtain ⟨rfl, hB, hP, hKX, hZ, hNc⟩ := hv
  have hx := B.exec
  have hb := B.bytes
  have hr := B.returns
  have hts := atoms_spec (ws := wsL_runScript) B.pre
  have hown : s.vm.findClass RL = some m.cls := findClass_of_methodNamed B.named
  have hlocks := B.notSynchronized
  have hT := ex_one (ex_tab (hh := [(0, 11, 14, 13)]) B (hts _ List.mem_cons_self))
  have hS : va_S (hA o w) s.heap s.heap [] := ⟨Nat.le_refl _, fun _ _ _ => rfl, fun _ h => by cases h⟩
  have hwlt : w < s.heap.size := va_at.lt hP
  have hl := lv_entry ([.ref (o + 0), .int x1, .long x2, .ref w]) (n := 6) (Nat.le_of_ble_eq_true rfl)
  rw [lg_entry_eq]
  generalize (lg_sl ([.ref (o + 0), .int x1, .long x2, .ref w]) ++ List.replicate (6 - (lg_sl ([.ref (o + 0), .int x1, .long x2, .ref w])).length) Slot.unset).toArray = ls at hl ⊢
  have hl : lv_has ls 6 [(0, .ref (o + 0)), (1, .int x1), (2, .long x2), (4, .ref w)] := hl
  refine lv_aload hx hb dL_runScript_0 (lv_at hl 3 rfl) ?_
  refine lv_iconst (v := 0) hx hb dL_runScript_2 (by decide) ?_
  refine lv_aload_n hx hb dL_runScript_3 rfl (lv_at hl 0 rfl) ?_
  refine lv_iload_n hx hb dL_runScript_4 rfl (lv_at hl 1 rfl) ?_
  refine lv_lload_n hx hb dL_runScript_5 rfl (lv_at hl 2 rfl) ?_
  refine h_call (h_runV (As := [.int x1, .long x2]) (rest := [.int 0, .ref w]) ⟨hx, hb, hml, hown, hts⟩ (c_X6_runScript l hst D E o M x1 x2) (cwV 2 hts gL_runScript_X6_runScript rfl rfl rfl (by decide +kernel) ⟨Nat.le_of_ble_eq_true rfl, Nat.le_of_ble_eq_true rfl⟩) hKX (bZ.narrow hZ (fun _ h => Or.inl h)) (bk_recv hKX.1.1 hB lay_0 rfl) hB rfl hl rfl (Nat.le_of_ble_eq_true rfl) dL_runScript_6 ⟨Nat.le_of_ble_eq_true rfl, Nat.le_of_ble_eq_true rfl⟩) hS (fun _ h => Or.inl h) (fun en M1 hf H1 locs q9 ce hB hq hS hcell hcv hcl => ?_) (fun r M1 hf H1 locs hB hq hz hS => ?_)
  · obtain ⟨hne, hf⟩ := hf
    have hP1 : va_at D vwCl (lgc w E f) H1 := va_at.kept hP (hq w hwlt hw)
    rw [hf] at hc ⊢
    rcases hc with hc | hc
    · exact absurd hc hne
    · have hc : en = 1 := hc
      subst hc
      refine h_c1 (en := 1) hown ⟨0, 11, 14, 13⟩ [] hT rfl (by decide) (hts (.classLink RL 13 xIAE) (List.mem_of_getElem? (i := 1) rfl)) (cast_of hKX.2.1 (z := xIAE) (by decide)) hcell hcv hcl ?_
      refine lv_astore (lv' := [(5, .ref q9), (0, .ref (o + 0)), (1, .int x1), (2, .long x2), (4, .ref w)]) hx hb dL_runScript_14 hl (by decide) rfl (fun ls hl => ?_)
      refine lv_iconst (v := 1) hx hb dL_runScript_16 (by decide) ?_
      exact h_iret hx hb hr hlocks hS rfl hB hP1 (fun z => absurd z (show ¬ (1 : Nat) = 0 by decide)) dL_runScript_17
  · have hP1 : va_at D vwCl (lgc w E f) H1 := va_at.kept hP (hq w hw)
    refine lv_i2l (v := r.toInt64) hx hb dL_runScript_9 rfl ?_
    refine w_last hx hb hKX.1.1 hP1 hS (Or.inr rfl) dL_runScript_10 (fun H2 locs2 hP2 hq2 hz2 hS2 => ?_)
    refine lv_goto (tgt := 18) hx hb dL_runScript_11 (by decide) ?_
    refine lv_iconst (v := 0) hx hb dL_runScript_18 (by decide) ?_
    have hB2 : bk D E LRM o M1 H2 := bk_kept hB (fun q h1 h2 => hq2 q (fun z => hw (by rw [← z]; exact ⟨h1, h2⟩)))
    rw [hf]
    exact h_iret (f1 := vp_updL f 0 r.toInt64) hx hb hr hlocks hS2 rfl hB2 hP2 (fun _ => by simp [vp_updL]) dL_runScript_19
theorem h_simulate (l : Launch) (hst : l.stackTraces = false) (D : va_G) (E : Nat → ClassId) (o w : Nat) (f : Nat → Int64) (M : bM) (x1 : Int64) (x2 : Int32) (hw : ¬ rA o w) (hc : (f_X6_simulate M x1 x2).1 = 0 ∨ (f_X6_simulate M x1 x2).1 = 1) : vx_Met l yL_simulate wsL_simulate (rmX 7) (bPh D E [.ref (o + 0), .long x1, .int x2, .ref w] o w f M) (bQh D E o w (f_X6_simulate M x1 x2) 1 9) xNo 1 6 (hA o w) := by
  refine vx_ofWH (cc := cL_simulate) (maxL := 6) (ret := some .int) (hh := [(0, 11, 14, 13)]) (by decide) rfl ?_
  intro p e s m args below meth c s₁ B hml hv
  obtain ⟨rfl, hB, hP, hKX, hZ, hNc⟩ := hv
  have hx := B.exec
  have hb := B.bytes
  have hr := B.returns
  have hts := atoms_spec (ws := wsL_simulate) B.pre
  have hown : s.vm.findClass RL = some m.cls := findClass_of_methodNamed B.named
  have hlocks := B.notSynchronized
  have hT := ex_one (ex_tab (hh := [(0, 11, 14, 13)]) B (hts _ List.mem_cons_self))
  have hS : va_S (hA o w) s.heap s.heap [] := ⟨Nat.le_refl _, fun _ _ _ => rfl, fun _ h => by cases h⟩
  have hwlt : w < s.heap.size := va_at.lt hP
  have hl := lv_entry ([.ref (o + 0), .long x1, .int x2, .ref w]) (n := 6) (Nat.le_of_ble_eq_true rfl)
  rw [lg_entry_eq]
  generalize (lg_sl ([.ref (o + 0), .long x1, .int x2, .ref w]) ++ List.replicate (6 - (lg_sl ([.ref (o + 0), .long x1, .int x2, .ref w])).length) Slot.unset).toArray = ls at hl ⊢
  have hl : lv_has ls 6 [(0, .ref (o + 0)), (1, .long x1), (3, .int x2), (4, .ref w)] := hl
  refine lv_aload hx hb dL_simulate_0 (lv_at hl 3 rfl) ?_
  refine lv_iconst (v := 0) hx hb dL_simulate_2 (by decide) ?_
  refine lv_aload_n hx hb dL_simulate_3 rfl (lv_at hl 0 rfl) ?_
  refine lv_lload_n hx hb dL_simulate_4 rfl (lv_at hl 1 rfl) ?_
  refine lv_iload_n hx hb dL_simulate_5 rfl (lv_at hl 2 rfl) ?_
  refine h_call (h_runV (As := [.long x1, .int x2]) (rest := [.int 0, .ref w]) ⟨hx, hb, hml, hown, hts⟩ (c_X6_simulate l hst D E o M x1 x2) (cwV 2 hts gL_simulate_X6_simulate rfl rfl rfl (by decide +kernel) ⟨Nat.le_of_ble_eq_true rfl, Nat.le_of_ble_eq_true rfl⟩) hKX (bZ.narrow hZ (fun _ h => Or.inl h)) (bk_recv hKX.1.1 hB lay_0 rfl) hB rfl hl rfl (Nat.le_of_ble_eq_true rfl) dL_simulate_6 ⟨Nat.le_of_ble_eq_true rfl, Nat.le_of_ble_eq_true rfl⟩) hS (fun _ h => Or.inl h) (fun en M1 hf H1 locs q9 ce hB hq hS hcell hcv hcl => ?_) (fun r M1 hf H1 locs hB hq hz hS => ?_)
  · obtain ⟨hne, hf⟩ := hf
    have hP1 : va_at D vwCl (lgc w E f) H1 := va_at.kept hP (hq w hwlt hw)
    rw [hf] at hc ⊢
    rcases hc with hc | hc
    · exact absurd hc hne
    · have hc : en = 1 := hc
      subst hc
      refine h_c1 (en := 1) hown ⟨0, 11, 14, 13⟩ [] hT rfl (by decide) (hts (.classLink RL 13 xIAE) (List.mem_of_getElem? (i := 1) rfl)) (cast_of hKX.2.1 (z := xIAE) (by decide)) hcell hcv hcl ?_
      refine lv_astore (lv' := [(5, .ref q9), (0, .ref (o + 0)), (1, .long x1), (3, .int x2), (4, .ref w)]) hx hb dL_simulate_14 hl (by decide) rfl (fun ls hl => ?_)
      refine lv_iconst (v := 1) hx hb dL_simulate_16 (by decide) ?_
      exact h_iret hx hb hr hlocks hS rfl hB hP1 (fun z => absurd z (show ¬ (1 : Nat) = 0 by decide)) dL_simulate_17
  · have hP1 : va_at D vwCl (lgc w E f) H1 := va_at.kept hP (hq w hw)
    refine lv_i2l (v := r.toInt64) hx hb dL_simulate_9 rfl ?_
    refine w_last hx hb hKX.1.1 hP1 hS (Or.inr rfl) dL_simulate_10 (fun H2 locs2 hP2 hq2 hz2 hS2 => ?_)
    refine lv_goto (tgt := 18) hx hb dL_simulate_11 (by decide) ?_
    refine lv_iconst (v := 0) hx hb dL_simulate_18 (by decide) ?_
    have hB2 : bk D E LRM o M1 H2 := bk_kept hB (fun q h1 h2 => hq2 q (fun z => hw (by rw [← z]; exact ⟨h1, h2⟩)))
    rw [hf]
    exact h_iret (f1 := vp_updL f 0 r.toInt64) hx hb hr hlocks hS2 rfl hB2 hP2 (fun _ => by simp [vp_updL]) dL_simulate_19
theorem h_save (l : Launch) (hst : l.stackTraces = false) (D : va_G) (E : Nat → ClassId) (o w : Nat) (f : Nat → Int64) (M : bM) (x1 : Int32) (hw : ¬ rA o w) (hc : (f_X6_save M x1).1 = 0 ∨ (f_X6_save M x1).1 = 3) : vx_Met l yL_save wsL_save (rmX 7) (bPh D E [.ref (o + 0), .int x1, .ref w] o w f M) (bQh D E o w (f_X6_save M x1) 3 9) xNo 1 6 (hA o w) := by
  refine vx_ofWH (cc := cL_save) (maxL := 4) (ret := some .int) (hh := [(0, 9, 12, 28)]) (by decide) rfl ?_
  intro p e s m args below meth c s₁ B hml hv
  obtain ⟨rfl, hB, hP, hKX, hZ, hNc⟩ := hv
  have hx := B.exec
  have hb := B.bytes
  have hr := B.returns
  have hts := atoms_spec (ws := wsL_save) B.pre
  have hown : s.vm.findClass RL = some m.cls := findClass_of_methodNamed B.named
  have hlocks := B.notSynchronized
  have hT := ex_one (ex_tab (hh := [(0, 9, 12, 28)]) B (hts _ List.mem_cons_self))
  have hS : va_S (hA o w) s.heap s.heap [] := ⟨Nat.le_refl _, fun _ _ _ => rfl, fun _ h => by cases h⟩
  have hwlt : w < s.heap.size := va_at.lt hP
  have hl := lv_entry ([.ref (o + 0), .int x1, .ref w]) (n := 4) (Nat.le_of_ble_eq_true rfl)
  rw [lg_entry_eq]
  generalize (lg_sl ([.ref (o + 0), .int x1, .ref w]) ++ List.replicate (4 - (lg_sl ([.ref (o + 0), .int x1, .ref w])).length) Slot.unset).toArray = ls at hl ⊢
  have hl : lv_has ls 4 [(0, .ref (o + 0)), (1, .int x1), (2, .ref w)] := hl
  refine lv_aload_n hx hb dL_save_0 rfl (lv_at hl 2 rfl) ?_
  refine lv_iconst (v := 0) hx hb dL_save_1 (by decide) ?_
  refine lv_aload_n hx hb dL_save_2 rfl (lv_at hl 0 rfl) ?_
  refine lv_iload_n hx hb dL_save_3 rfl (lv_at hl 1 rfl) ?_
  refine h_call (h_runV (As := [.int x1]) (rest := [.int 0, .ref w]) ⟨hx, hb, hml, hown, hts⟩ (c_X6_save l hst D E o M x1) (cwV 1 hts gL_save_X6_save rfl rfl rfl (by decide +kernel) ⟨Nat.le_of_ble_eq_true rfl, Nat.le_of_ble_eq_true rfl⟩) hKX (bZ.narrow hZ (fun _ h => Or.inl h)) (bk_recv hKX.1.1 hB lay_0 rfl) hB rfl hl rfl (Nat.le_of_ble_eq_true rfl) dL_save_4 ⟨Nat.le_of_ble_eq_true rfl, Nat.le_of_ble_eq_true rfl⟩) hS (fun _ h => Or.inl h) (fun en M1 hf H1 locs q9 ce hB hq hS hcell hcv hcl => ?_) (fun r M1 hf H1 locs hB hq hz hS => ?_)
  · obtain ⟨hne, hf⟩ := hf
    have hP1 : va_at D vwCl (lgc w E f) H1 := va_at.kept hP (hq w hwlt hw)
    rw [hf] at hc ⊢
    rcases hc with hc | hc
    · exact absurd hc hne
    · have hc : en = 3 := hc
      subst hc
      refine h_c1 (en := 3) hown ⟨0, 9, 12, 28⟩ [] hT rfl (by decide) (hts (.classLink RL 28 xIOB) (List.mem_of_getElem? (i := 1) rfl)) (cast_of hKX.2.1 (z := xIOB) (by decide)) hcell hcv hcl ?_
      refine lv_astore_n (lv' := [(3, .ref q9), (0, .ref (o + 0)), (1, .int x1), (2, .ref w)]) hx hb dL_save_12 rfl hl (by decide) rfl (fun ls hl => ?_)
      refine lv_iconst (v := 1) hx hb dL_save_13 (by decide) ?_
      exact h_iret hx hb hr hlocks hS rfl hB hP1 (fun z => absurd z (show ¬ (3 : Nat) = 0 by decide)) dL_save_14
  · have hP1 : va_at D vwCl (lgc w E f) H1 := va_at.kept hP (hq w hw)
    refine lv_i2l (v := r.toInt64) hx hb dL_save_7 rfl ?_
    refine w_last hx hb hKX.1.1 hP1 hS (Or.inr rfl) dL_save_8 (fun H2 locs2 hP2 hq2 hz2 hS2 => ?_)
    refine lv_goto (tgt := 15) hx hb dL_save_9 (by decide) ?_
    refine lv_iconst (v := 0) hx hb dL_save_15 (by decide) ?_
    have hB2 : bk D E LRM o M1 H2 := bk_kept hB (fun q h1 h2 => hq2 q (fun z => hw (by rw [← z]; exact ⟨h1, h2⟩)))
    rw [hf]
    exact h_iret (f1 := vp_updL f 0 r.toInt64) hx hb hr hlocks hS2 rfl hB2 hP2 (fun _ => by simp [vp_updL]) dL_save_16
theorem h_restore (l : Launch) (hst : l.stackTraces = false) (D : va_G) (E : Nat → ClassId) (o w : Nat) (f : Nat → Int64) (M : bM) (x1 : Int32) (hw : ¬ rA o w) (hc : (f_X6_restore M x1).1 = 0 ∨ (f_X6_restore M x1).1 = 3 ∨ (f_X6_restore M x1).1 = 2) : vx_Met l yL_restore wsL_restore (rmX 7) (bPh D E [.ref (o + 0), .int x1, .ref w] o w f M) (bQh D E o w (f_X6_restore M x1) 3 2) xNo 1 6 (hA o w) := by
  refine vx_ofWH (cc := cL_restore) (maxL := 4) (ret := some .int) (hh := [(0, 9, 12, 28), (0, 9, 15, 15)]) (by decide) rfl ?_
  intro p e s m args below meth c s₁ B hml hv
  obtain ⟨rfl, hB, hP, hKX, hZ, hNc⟩ := hv
  have hx := B.exec
  have hb := B.bytes
  have hr := B.returns
  have hts := atoms_spec (ws := wsL_restore) B.pre
  have hown : s.vm.findClass RL = some m.cls := findClass_of_methodNamed B.named
  have hlocks := B.notSynchronized
  have hT := ex_two (ex_tab (hh := [(0, 9, 12, 28), (0, 9, 15, 15)]) B (hts _ List.mem_cons_self))
  have hS : va_S (hA o w) s.heap s.heap [] := ⟨Nat.le_refl _, fun _ _ _ => rfl, fun _ h => by cases h⟩
  have hwlt : w < s.heap.size := va_at.lt hP
  have hl := lv_entry ([.ref (o + 0), .int x1, .ref w]) (n := 4) (Nat.le_of_ble_eq_true rfl)
  rw [lg_entry_eq]
  generalize (lg_sl ([.ref (o + 0), .int x1, .ref w]) ++ List.replicate (4 - (lg_sl ([.ref (o + 0), .int x1, .ref w])).length) Slot.unset).toArray = ls at hl ⊢
  have hl : lv_has ls 4 [(0, .ref (o + 0)), (1, .int x1), (2, .ref w)] := hl
  refine lv_aload_n hx hb dL_restore_0 rfl (lv_at hl 2 rfl) ?_
  refine lv_iconst (v := 0) hx hb dL_restore_1 (by decide) ?_
  refine lv_aload_n hx hb dL_restore_2 rfl (lv_at hl 0 rfl) ?_
  refine lv_iload_n hx hb dL_restore_3 rfl (lv_at hl 1 rfl) ?_
  refine h_call (h_runV (As := [.int x1]) (rest := [.int 0, .ref w]) ⟨hx, hb, hml, hown, hts⟩ (c_X6_restore l hst D E o M x1) (cwV 1 hts gL_restore_X6_restore rfl rfl rfl (by decide +kernel) ⟨Nat.le_of_ble_eq_true rfl, Nat.le_of_ble_eq_true rfl⟩) hKX (bZ.narrow hZ (fun _ h => Or.inl h)) (bk_recv hKX.1.1 hB lay_0 rfl) hB rfl hl rfl (Nat.le_of_ble_eq_true rfl) dL_restore_4 ⟨Nat.le_of_ble_eq_true rfl, Nat.le_of_ble_eq_true rfl⟩) hS (fun _ h => Or.inl h) (fun en M1 hf H1 locs q9 ce hB hq hS hcell hcv hcl => ?_) (fun r M1 hf H1 locs hB hq hz hS => ?_)
  · obtain ⟨hne, hf⟩ := hf
    have hP1 : va_at D vwCl (lgc w E f) H1 := va_at.kept hP (hq w hwlt hw)
    rw [hf] at hc ⊢
    rcases hc with hc | hc | hc
    · exact absurd hc hne
    · have hc : en = 3 := hc
      subst hc
      refine h_c1 (en := 3) hown ⟨0, 9, 12, 28⟩ [⟨0, 9, 15, 15⟩] hT rfl (by decide) (hts (.classLink RL 28 xIOB) (List.mem_of_getElem? (i := 1) rfl)) (cast_of hKX.2.1 (z := xIOB) (by decide)) hcell hcv hcl ?_
      refine lv_astore_n (lv' := [(3, .ref q9), (0, .ref (o + 0)), (1, .int x1), (2, .ref w)]) hx hb dL_restore_12 rfl hl (by decide) rfl (fun ls hl => ?_)
      refine lv_iconst (v := 1) hx hb dL_restore_13 (by decide) ?_
      exact h_iret hx hb hr hlocks hS rfl hB hP1 (fun z => absurd z (show ¬ (3 : Nat) = 0 by decide)) dL_restore_14
    · have hc : en = 2 := hc
      subst hc
      refine h_c2 (en := 2) (nm := xIOB) hown ⟨0, 9, 12, 28⟩ ⟨0, 9, 15, 15⟩ [] hT (by decide) (hts (.classLink RL 28 xIOB) (List.mem_of_getElem? (i := 1) rfl)) (hNc 2 _ rfl) rfl (by decide) (hts (.classLink RL 15 xISE) (List.mem_of_getElem? (i := 2) rfl)) (cast_of hKX.2.1 (z := xISE) (by decide)) hcell hcv hcl ?_
      refine lv_astore_n (lv' := [(3, .ref q9), (0, .ref (o + 0)), (1, .int x1), (2, .ref w)]) hx hb dL_restore_15 rfl hl (by decide) rfl (fun ls hl => ?_)
      refine lv_iconst (v := 2) hx hb dL_restore_16 (by decide) ?_
      exact h_iret hx hb hr hlocks hS rfl hB hP1 (fun z => absurd z (show ¬ (2 : Nat) = 0 by decide)) dL_restore_17
  · have hP1 : va_at D vwCl (lgc w E f) H1 := va_at.kept hP (hq w hw)
    refine lv_i2l (v := r.toInt64) hx hb dL_restore_7 rfl ?_
    refine w_last hx hb hKX.1.1 hP1 hS (Or.inr rfl) dL_restore_8 (fun H2 locs2 hP2 hq2 hz2 hS2 => ?_)
    refine lv_goto (tgt := 18) hx hb dL_restore_9 (by decide) ?_
    refine lv_iconst (v := 0) hx hb dL_restore_18 (by decide) ?_
    have hB2 : bk D E LRM o M1 H2 := bk_kept hB (fun q h1 h2 => hq2 q (fun z => hw (by rw [← z]; exact ⟨h1, h2⟩)))
    rw [hf]
    exact h_iret (f1 := vp_updL f 0 r.toInt64) hx hb hr hlocks hS2 rfl hB2 hP2 (fun _ => by simp [vp_updL]) dL_restore_19
