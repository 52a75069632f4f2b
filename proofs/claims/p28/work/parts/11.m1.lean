def f_X6_fits (x1 : Int32) : Int32 := (if x1 < 0 then 0 else (if 64 ≤ x1 then 0 else 1))
theorem u_f_X6_fits (x1 : Int32) : f_X6_fits x1 = (if x1 < 0 then 0 else (if 64 ≤ x1 then 0 else 1)) := rfl
theorem p_X6_fits_e2 (x1 : Int32) (c1 : x1 < 0) : f_X6_fits x1 = 0 := by exact Eq.trans (u_f_X6_fits x1) (if_pos c1)
theorem p_X6_fits_e4 (x1 : Int32) (c1 : ¬ x1 < 0) (c3 : 64 ≤ x1) : f_X6_fits x1 = 0 := by exact Eq.trans (u_f_X6_fits x1) (Eq.trans (if_neg c1) (if_pos c3))
theorem p_X6_fits_e5 (x1 : Int32) (c1 : ¬ x1 < 0) (c3 : ¬ 64 ≤ x1) : f_X6_fits x1 = 1 := by exact Eq.trans (u_f_X6_fits x1) (Eq.trans (if_neg c1) (if_neg c3))
set_option maxHeartbeats 4000000 in
set_option maxRecDepth 100000 in
theorem c_X6_fits (l : Launch) (D : va_G) (E : Nat → ClassId) (x1 : Int32) : Met l yX6_fits wsX6_fits (rmF 0) (bPc D E [.int x1] (fun _ => True)) (bQ (aI fun r _ => r = f_X6_fits x1) bNo) 0 0 bNo := by
  refine Met.ofW (cc := cX6_fits) (maxL := 1) (ret := (some .boolean)) (by decide) rfl ?_
  intro p e s m args below meth c s₁ B hml hv
  obtain ⟨rfl, hB, hK⟩ := hv
  have hx := B.exec
  have hb := B.bytes
  have hr := B.returns
  have hts := atoms_spec (ws := wsX6_fits) B.pre
  have hown : s.vm.findClass RX6 = some m.cls := findClass_of_methodNamed B.named
  have hlocks := B.notSynchronized
  have hS : bS bNo s.heap s.heap [] := bS.rf
  have hl := lv_entry ([.int x1]) (n := 1) (Nat.le_of_ble_eq_true rfl)
  rw [lg_entry_eq]
  generalize (lg_sl ([.int x1]) ++ List.replicate (1 - (lg_sl ([.int x1])).length) Slot.unset).toArray = ls at hl ⊢
  have hl : lv_has ls 1 [(0, .int x1)] := hl
  refine lv_iload_n hx hb dX6_fits_0 rfl (lv_at hl 0 rfl) ?_
  refine lv_if_lt (tgt := 14) hx hb dX6_fits_1 (by decide) (fun c1 => ?_) (fun c1 => ?_)
  · refine lv_iconst (v := 0) hx hb dX6_fits_14 (by decide) ?_
    have e2 := p_X6_fits_e2 x1 c1
    exact b_zret hx hb hr rfl hlocks hS ⟨_, rfl, e2.symm⟩ dX6_fits_15
  · refine lv_iload_n hx hb dX6_fits_4 rfl (lv_at hl 0 rfl) ?_
    refine lv_bipush (v := 64) hx hb dX6_fits_5 (by decide) ?_
    refine lv_icmp_ge (tgt := 14) hx hb dX6_fits_7 (by decide) (fun c3 => ?_) (fun c3 => ?_)
    · refine lv_iconst (v := 0) hx hb dX6_fits_14 (by decide) ?_
      have e4 := p_X6_fits_e4 x1 c1 c3
      exact b_zret hx hb hr rfl hlocks hS ⟨_, rfl, e4.symm⟩ dX6_fits_15
    · refine lv_iconst (v := 1) hx hb dX6_fits_10 (by decide) ?_
      refine lv_goto (tgt := 15) hx hb dX6_fits_11 (by decide) ?_
      have e5 := p_X6_fits_e5 x1 c1 c3
      exact b_zret hx hb hr rfl hlocks hS ⟨_, rfl, e5.symm⟩ dX6_fits_15
theorem fits_in {x : Int32} (h : ¬ f_X6_fits x = 0) : vp_in x 64 := by
  unfold f_X6_fits at h
  by_cases h1 : x < 0
  · rw [if_pos h1] at h; exact absurd rfl h
  · rw [if_neg h1] at h
    by_cases h2 : (64 : Int32) ≤ x
    · rw [if_pos h2] at h; exact absurd rfl h
    · exact in_of rfl (by decide) h1 h2
def f_X6_isPlayer (x1 : Int32) : Int32 := (if x1 = 0 then 1 else (if x1 = 1 then 1 else 0))
theorem u_f_X6_isPlayer (x1 : Int32) : f_X6_isPlayer x1 = (if x1 = 0 then 1 else (if x1 = 1 then 1 else 0)) := rfl
theorem p_X6_isPlayer_e2 (x1 : Int32) (c1 : x1 = 0) : f_X6_isPlayer x1 = 1 := by exact Eq.trans (u_f_X6_isPlayer x1) (if_pos c1)
theorem p_X6_isPlayer_e4 (x1 : Int32) (c1 : ¬ x1 = 0) (c3 : ¬ x1 = 1) : f_X6_isPlayer x1 = 0 := by exact Eq.trans (u_f_X6_isPlayer x1) (Eq.trans (if_neg c1) (if_neg c3))
theorem p_X6_isPlayer_e5 (x1 : Int32) (c1 : ¬ x1 = 0) (c3 : x1 = 1) : f_X6_isPlayer x1 = 1 := by exact Eq.trans (u_f_X6_isPlayer x1) (Eq.trans (if_neg c1) (if_pos c3))
set_option maxHeartbeats 4000000 in
set_option maxRecDepth 100000 in
theorem c_X6_isPlayer (l : Launch) (D : va_G) (E : Nat → ClassId) (x1 : Int32) : Met l yX6_isPlayer wsX6_isPlayer (rmF 0) (bPc D E [.int x1] (fun _ => True)) (bQ (aI fun r _ => r = f_X6_isPlayer x1) bNo) 0 0 bNo := by
  refine Met.ofW (cc := cX6_isPlayer) (maxL := 1) (ret := (some .boolean)) (by decide) rfl ?_
  intro p e s m args below meth c s₁ B hml hv
  obtain ⟨rfl, hB, hK⟩ := hv
  have hx := B.exec
  have hb := B.bytes
  have hr := B.returns
  have hts := atoms_spec (ws := wsX6_isPlayer) B.pre
  have hown : s.vm.findClass RX6 = some m.cls := findClass_of_methodNamed B.named
  have hlocks := B.notSynchronized
  have hS : bS bNo s.heap s.heap [] := bS.rf
  have hl := lv_entry ([.int x1]) (n := 1) (Nat.le_of_ble_eq_true rfl)
  rw [lg_entry_eq]
  generalize (lg_sl ([.int x1]) ++ List.replicate (1 - (lg_sl ([.int x1])).length) Slot.unset).toArray = ls at hl ⊢
  have hl : lv_has ls 1 [(0, .int x1)] := hl
  refine lv_iload_n hx hb dX6_isPlayer_0 rfl (lv_at hl 0 rfl) ?_
  refine lv_if_eq (tgt := 9) hx hb dX6_isPlayer_1 (by decide) (fun c1 => ?_) (fun c1 => ?_)
  · refine lv_iconst (v := 1) hx hb dX6_isPlayer_9 (by decide) ?_
    refine lv_goto (tgt := 14) hx hb dX6_isPlayer_10 (by decide) ?_
    have e2 := p_X6_isPlayer_e2 x1 c1
    exact b_zret hx hb hr rfl hlocks hS ⟨_, rfl, e2.symm⟩ dX6_isPlayer_14
  · refine lv_iload_n hx hb dX6_isPlayer_4 rfl (lv_at hl 0 rfl) ?_
    refine lv_iconst (v := 1) hx hb dX6_isPlayer_5 (by decide) ?_
    refine lv_icmp_ne (tgt := 13) hx hb dX6_isPlayer_6 (by decide) (fun c3 => ?_) (fun c3 => ?_)
    · refine lv_iconst (v := 0) hx hb dX6_isPlayer_13 (by decide) ?_
      have e4 := p_X6_isPlayer_e4 x1 c1 c3
      exact b_zret hx hb hr rfl hlocks hS ⟨_, rfl, e4.symm⟩ dX6_isPlayer_14
    · refine lv_iconst (v := 1) hx hb dX6_isPlayer_9 (by decide) ?_
      refine lv_goto (tgt := 14) hx hb dX6_isPlayer_10 (by decide) ?_
      have e5 := p_X6_isPlayer_e5 x1 c1 c3
      exact b_zret hx hb hr rfl hlocks hS ⟨_, rfl, e5.symm⟩ dX6_isPlayer_14
def f_X6_isDirection (x1 : Int32) : Int32 := (if x1 < 0 then 0 else (if 3 ≤ x1 then 0 else 1))
theorem u_f_X6_isDirection (x1 : Int32) : f_X6_isDirection x1 = (if x1 < 0 then 0 else (if 3 ≤ x1 then 0 else 1)) := rfl
theorem p_X6_isDirection_e2 (x1 : Int32) (c1 : x1 < 0) : f_X6_isDirection x1 = 0 := by exact Eq.trans (u_f_X6_isDirection x1) (if_pos c1)
theorem p_X6_isDirection_e4 (x1 : Int32) (c1 : ¬ x1 < 0) (c3 : 3 ≤ x1) : f_X6_isDirection x1 = 0 := by exact Eq.trans (u_f_X6_isDirection x1) (Eq.trans (if_neg c1) (if_pos c3))
theorem p_X6_isDirection_e5 (x1 : Int32) (c1 : ¬ x1 < 0) (c3 : ¬ 3 ≤ x1) : f_X6_isDirection x1 = 1 := by exact Eq.trans (u_f_X6_isDirection x1) (Eq.trans (if_neg c1) (if_neg c3))
set_option maxHeartbeats 4000000 in
set_option maxRecDepth 100000 in
theorem c_X6_isDirection (l : Launch) (D : va_G) (E : Nat → ClassId) (x1 : Int32) : Met l yX6_isDirection wsX6_isDirection (rmF 0) (bPc D E [.int x1] (fun _ => True)) (bQ (aI fun r _ => r = f_X6_isDirection x1) bNo) 0 0 bNo := by
  refine Met.ofW (cc := cX6_isDirection) (maxL := 1) (ret := (some .boolean)) (by decide) rfl ?_
  intro p e s m args below meth c s₁ B hml hv
  obtain ⟨rfl, hB, hK⟩ := hv
  have hx := B.exec
  have hb := B.bytes
  have hr := B.returns
  have hts := atoms_spec (ws := wsX6_isDirection) B.pre
  have hown : s.vm.findClass RX6 = some m.cls := findClass_of_methodNamed B.named
  have hlocks := B.notSynchronized
  have hS : bS bNo s.heap s.heap [] := bS.rf
  have hl := lv_entry ([.int x1]) (n := 1) (Nat.le_of_ble_eq_true rfl)
  rw [lg_entry_eq]
  generalize (lg_sl ([.int x1]) ++ List.replicate (1 - (lg_sl ([.int x1])).length) Slot.unset).toArray = ls at hl ⊢
  have hl : lv_has ls 1 [(0, .int x1)] := hl
  refine lv_iload_n hx hb dX6_isDirection_0 rfl (lv_at hl 0 rfl) ?_
  refine lv_if_lt (tgt := 13) hx hb dX6_isDirection_1 (by decide) (fun c1 => ?_) (fun c1 => ?_)
  · refine lv_iconst (v := 0) hx hb dX6_isDirection_13 (by decide) ?_
    have e2 := p_X6_isDirection_e2 x1 c1
    exact b_zret hx hb hr rfl hlocks hS ⟨_, rfl, e2.symm⟩ dX6_isDirection_14
  · refine lv_iload_n hx hb dX6_isDirection_4 rfl (lv_at hl 0 rfl) ?_
    refine lv_iconst (v := 3) hx hb dX6_isDirection_5 (by decide) ?_
    refine lv_icmp_ge (tgt := 13) hx hb dX6_isDirection_6 (by decide) (fun c3 => ?_) (fun c3 => ?_)
    · refine lv_iconst (v := 0) hx hb dX6_isDirection_13 (by decide) ?_
      have e4 := p_X6_isDirection_e4 x1 c1 c3
      exact b_zret hx hb hr rfl hlocks hS ⟨_, rfl, e4.symm⟩ dX6_isDirection_14
    · refine lv_iconst (v := 1) hx hb dX6_isDirection_9 (by decide) ?_
      refine lv_goto (tgt := 14) hx hb dX6_isDirection_10 (by decide) ?_
      have e5 := p_X6_isDirection_e5 x1 c1 c3
      exact b_zret hx hb hr rfl hlocks hS ⟨_, rfl, e5.symm⟩ dX6_isDirection_14
def f_X6_isSettingValue (x1 : Int32) (x2 : Int32) : Int32 := (if x1 = 0 then (if x2 < 1 then 0 else (if 40 < x2 then 0 else 1)) else (if x1 = 1 then (if x2 < 1 then 0 else (if 9 < x2 then 0 else 1)) else 0))
theorem u_f_X6_isSettingValue (x1 : Int32) (x2 : Int32) : f_X6_isSettingValue x1 x2 = (if x1 = 0 then (if x2 < 1 then 0 else (if 40 < x2 then 0 else 1)) else (if x1 = 1 then (if x2 < 1 then 0 else (if 9 < x2 then 0 else 1)) else 0)) := rfl
theorem p_X6_isSettingValue_e3 (x1 : Int32) (x2 : Int32) (c1 : ¬ x1 = 0) (c2 : ¬ x1 = 1) : f_X6_isSettingValue x1 x2 = 0 := by exact Eq.trans (u_f_X6_isSettingValue x1 x2) (Eq.trans (if_neg c1) (if_neg c2))
theorem p_X6_isSettingValue_e5 (x1 : Int32) (x2 : Int32) (c1 : ¬ x1 = 0) (c2 : x1 = 1) (c4 : x2 < 1) : f_X6_isSettingValue x1 x2 = 0 := by exact Eq.trans (u_f_X6_isSettingValue x1 x2) (Eq.trans (if_neg c1) (Eq.trans (if_pos c2) (if_pos c4)))
theorem p_X6_isSettingValue_e7 (x1 : Int32) (x2 : Int32) (c1 : ¬ x1 = 0) (c2 : x1 = 1) (c4 : ¬ x2 < 1) (c6 : 9 < x2) : f_X6_isSettingValue x1 x2 = 0 := by exact Eq.trans (u_f_X6_isSettingValue x1 x2) (Eq.trans (if_neg c1) (Eq.trans (if_pos c2) (Eq.trans (if_neg c4) (if_pos c6))))
theorem p_X6_isSettingValue_e8 (x1 : Int32) (x2 : Int32) (c1 : ¬ x1 = 0) (c2 : x1 = 1) (c4 : ¬ x2 < 1) (c6 : ¬ 9 < x2) : f_X6_isSettingValue x1 x2 = 1 := by exact Eq.trans (u_f_X6_isSettingValue x1 x2) (Eq.trans (if_neg c1) (Eq.trans (if_pos c2) (Eq.trans (if_neg c4) (if_neg c6))))
theorem p_X6_isSettingValue_e10 (x1 : Int32) (x2 : Int32) (c1 : x1 = 0) (c9 : x2 < 1) : f_X6_isSettingValue x1 x2 = 0 := by exact Eq.trans (u_f_X6_isSettingValue x1 x2) (Eq.trans (if_pos c1) (if_pos c9))
theorem p_X6_isSettingValue_e12 (x1 : Int32) (x2 : Int32) (c1 : x1 = 0) (c9 : ¬ x2 < 1) (c11 : 40 < x2) : f_X6_isSettingValue x1 x2 = 0 := by exact Eq.trans (u_f_X6_isSettingValue x1 x2) (Eq.trans (if_pos c1) (Eq.trans (if_neg c9) (if_pos c11)))
theorem p_X6_isSettingValue_e13 (x1 : Int32) (x2 : Int32) (c1 : x1 = 0) (c9 : ¬ x2 < 1) (c11 : ¬ 40 < x2) : f_X6_isSettingValue x1 x2 = 1 := by exact Eq.trans (u_f_X6_isSettingValue x1 x2) (Eq.trans (if_pos c1) (Eq.trans (if_neg c9) (if_neg c11)))
set_option maxHeartbeats 4000000 in
set_option maxRecDepth 100000 in
theorem c_X6_isSettingValue (l : Launch) (D : va_G) (E : Nat → ClassId) (x1 : Int32) (x2 : Int32) : Met l yX6_isSettingValue wsX6_isSettingValue (rmF 0) (bPc D E [.int x1, .int x2] (fun _ => True)) (bQ (aI fun r _ => r = f_X6_isSettingValue x1 x2) bNo) 0 0 bNo := by
  refine Met.ofW (cc := cX6_isSettingValue) (maxL := 2) (ret := (some .boolean)) (by decide) rfl ?_
  intro p e s m args below meth c s₁ B hml hv
  obtain ⟨rfl, hB, hK⟩ := hv
  have hx := B.exec
  have hb := B.bytes
  have hr := B.returns
  have hts := atoms_spec (ws := wsX6_isSettingValue) B.pre
  have hown : s.vm.findClass RX6 = some m.cls := findClass_of_methodNamed B.named
  have hlocks := B.notSynchronized
  have hS : bS bNo s.heap s.heap [] := bS.rf
  have hl := lv_entry ([.int x1, .int x2]) (n := 2) (Nat.le_of_ble_eq_true rfl)
  rw [lg_entry_eq]
  generalize (lg_sl ([.int x1, .int x2]) ++ List.replicate (2 - (lg_sl ([.int x1, .int x2])).length) Slot.unset).toArray = ls at hl ⊢
  have hl : lv_has ls 2 [(0, .int x1), (1, .int x2)] := hl
  refine lv_iload_n hx hb dX6_isSettingValue_0 rfl (lv_at hl 0 rfl) ?_
  refine lv_if_ne (tgt := 21) hx hb dX6_isSettingValue_1 (by decide) (fun c1 => ?_) (fun c1 => ?_)
  · refine lv_iload_n hx hb dX6_isSettingValue_21 rfl (lv_at hl 0 rfl) ?_
    refine lv_iconst (v := 1) hx hb dX6_isSettingValue_22 (by decide) ?_
    refine lv_icmp_ne (tgt := 41) hx hb dX6_isSettingValue_23 (by decide) (fun c2 => ?_) (fun c2 => ?_)
    · refine lv_iconst (v := 0) hx hb dX6_isSettingValue_41 (by decide) ?_
      have e3 := p_X6_isSettingValue_e3 x1 x2 c1 c2
      exact b_zret hx hb hr rfl hlocks hS ⟨_, rfl, e3.symm⟩ dX6_isSettingValue_42
    · refine lv_iload_n hx hb dX6_isSettingValue_26 rfl (lv_at hl 1 rfl) ?_
      refine lv_iconst (v := 1) hx hb dX6_isSettingValue_27 (by decide) ?_
      refine lv_icmp_lt (tgt := 41) hx hb dX6_isSettingValue_28 (by decide) (fun c4 => ?_) (fun c4 => ?_)
      · refine lv_iconst (v := 0) hx hb dX6_isSettingValue_41 (by decide) ?_
        have e5 := p_X6_isSettingValue_e5 x1 x2 c1 c2 c4
        exact b_zret hx hb hr rfl hlocks hS ⟨_, rfl, e5.symm⟩ dX6_isSettingValue_42
      · refine lv_iload_n hx hb dX6_isSettingValue_31 rfl (lv_at hl 1 rfl) ?_
        refine lv_bipush (v := 9) hx hb dX6_isSettingValue_32 (by decide) ?_
        refine lv_icmp_gt (tgt := 41) hx hb dX6_isSettingValue_34 (by decide) (fun c6 => ?_) (fun c6 => ?_)
        · refine lv_iconst (v := 0) hx hb dX6_isSettingValue_41 (by decide) ?_
          have e7 := p_X6_isSettingValue_e7 x1 x2 c1 c2 c4 c6
          exact b_zret hx hb hr rfl hlocks hS ⟨_, rfl, e7.symm⟩ dX6_isSettingValue_42
        · refine lv_iconst (v := 1) hx hb dX6_isSettingValue_37 (by decide) ?_
          refine lv_goto (tgt := 42) hx hb dX6_isSettingValue_38 (by decide) ?_
          have e8 := p_X6_isSettingValue_e8 x1 x2 c1 c2 c4 c6
          exact b_zret hx hb hr rfl hlocks hS ⟨_, rfl, e8.symm⟩ dX6_isSettingValue_42
  · refine lv_iload_n hx hb dX6_isSettingValue_4 rfl (lv_at hl 1 rfl) ?_
    refine lv_iconst (v := 1) hx hb dX6_isSettingValue_5 (by decide) ?_
    refine lv_icmp_lt (tgt := 19) hx hb dX6_isSettingValue_6 (by decide) (fun c9 => ?_) (fun c9 => ?_)
    · refine lv_iconst (v := 0) hx hb dX6_isSettingValue_19 (by decide) ?_
      have e10 := p_X6_isSettingValue_e10 x1 x2 c1 c9
      exact b_zret hx hb hr rfl hlocks hS ⟨_, rfl, e10.symm⟩ dX6_isSettingValue_20
    · refine lv_iload_n hx hb dX6_isSettingValue_9 rfl (lv_at hl 1 rfl) ?_
      refine lv_bipush (v := 40) hx hb dX6_isSettingValue_10 (by decide) ?_
      refine lv_icmp_gt (tgt := 19) hx hb dX6_isSettingValue_12 (by decide) (fun c11 => ?_) (fun c11 => ?_)
      · refine lv_iconst (v := 0) hx hb dX6_isSettingValue_19 (by decide) ?_
        have e12 := p_X6_isSettingValue_e12 x1 x2 c1 c9 c11
        exact b_zret hx hb hr rfl hlocks hS ⟨_, rfl, e12.symm⟩ dX6_isSettingValue_20
      · refine lv_iconst (v := 1) hx hb dX6_isSettingValue_15 (by decide) ?_
        refine lv_goto (tgt := 20) hx hb dX6_isSettingValue_16 (by decide) ?_
        have e13 := p_X6_isSettingValue_e13 x1 x2 c1 c9 c11
        exact b_zret hx hb hr rfl hlocks hS ⟨_, rfl, e13.symm⟩ dX6_isSettingValue_20
def f_X6_cellAt (x1 : Int32) (x2 : Int32) : Int32 := (if x1 < 0 then (-1) else (if 8 ≤ x1 then (-1) else (if x2 < 0 then (-1) else (if x2 < 8 then (((8 : Int32) * x2) + x1) else (-1)))))
theorem u_f_X6_cellAt (x1 : Int32) (x2 : Int32) : f_X6_cellAt x1 x2 = (if x1 < 0 then (-1) else (if 8 ≤ x1 then (-1) else (if x2 < 0 then (-1) else (if x2 < 8 then (((8 : Int32) * x2) + x1) else (-1))))) := rfl
theorem p_X6_cellAt_e2 (x1 : Int32) (x2 : Int32) (c1 : x1 < 0) : f_X6_cellAt x1 x2 = (-1) := by exact Eq.trans (u_f_X6_cellAt x1 x2) (if_pos c1)
theorem p_X6_cellAt_e4 (x1 : Int32) (x2 : Int32) (c1 : ¬ x1 < 0) (c3 : 8 ≤ x1) : f_X6_cellAt x1 x2 = (-1) := by exact Eq.trans (u_f_X6_cellAt x1 x2) (Eq.trans (if_neg c1) (if_pos c3))
theorem p_X6_cellAt_e6 (x1 : Int32) (x2 : Int32) (c1 : ¬ x1 < 0) (c3 : ¬ 8 ≤ x1) (c5 : x2 < 0) : f_X6_cellAt x1 x2 = (-1) := by exact Eq.trans (u_f_X6_cellAt x1 x2) (Eq.trans (if_neg c1) (Eq.trans (if_neg c3) (if_pos c5)))
theorem p_X6_cellAt_e8 (x1 : Int32) (x2 : Int32) (c1 : ¬ x1 < 0) (c3 : ¬ 8 ≤ x1) (c5 : ¬ x2 < 0) (c7 : x2 < 8) : f_X6_cellAt x1 x2 = (((8 : Int32) * x2) + x1) := by exact Eq.trans (u_f_X6_cellAt x1 x2) (Eq.trans (if_neg c1) (Eq.trans (if_neg c3) (Eq.trans (if_neg c5) (if_pos c7))))
theorem p_X6_cellAt_e9 (x1 : Int32) (x2 : Int32) (c1 : ¬ x1 < 0) (c3 : ¬ 8 ≤ x1) (c5 : ¬ x2 < 0) (c7 : ¬ x2 < 8) : f_X6_cellAt x1 x2 = (-1) := by exact Eq.trans (u_f_X6_cellAt x1 x2) (Eq.trans (if_neg c1) (Eq.trans (if_neg c3) (Eq.trans (if_neg c5) (if_neg c7))))
set_option maxHeartbeats 4000000 in
set_option maxRecDepth 100000 in
theorem c_X6_cellAt (l : Launch) (D : va_G) (E : Nat → ClassId) (x1 : Int32) (x2 : Int32) : Met l yX6_cellAt wsX6_cellAt (rmF 0) (bPc D E [.int x1, .int x2] (fun _ => True)) (bQ (aI fun r _ => r = f_X6_cellAt x1 x2) bNo) 0 0 bNo := by
  refine Met.ofW (cc := cX6_cellAt) (maxL := 2) (ret := (some .int)) (by decide) rfl ?_
  intro p e s m args below meth c s₁ B hml hv
  obtain ⟨rfl, hB, hK⟩ := hv
  have hx := B.exec
  have hb := B.bytes
  have hr := B.returns
  have hts := atoms_spec (ws := wsX6_cellAt) B.pre
  have hown : s.vm.findClass RX6 = some m.cls := findClass_of_methodNamed B.named
  have hlocks := B.notSynchronized
  have hS : bS bNo s.heap s.heap [] := bS.rf
  have hl := lv_entry ([.int x1, .int x2]) (n := 2) (Nat.le_of_ble_eq_true rfl)
  rw [lg_entry_eq]
  generalize (lg_sl ([.int x1, .int x2]) ++ List.replicate (2 - (lg_sl ([.int x1, .int x2])).length) Slot.unset).toArray = ls at hl ⊢
  have hl : lv_has ls 2 [(0, .int x1), (1, .int x2)] := hl
  refine lv_iload_n hx hb dX6_cellAt_0 rfl (lv_at hl 0 rfl) ?_
  refine lv_if_lt (tgt := 20) hx hb dX6_cellAt_1 (by decide) (fun c1 => ?_) (fun c1 => ?_)
  · refine lv_iconst (v := (-1)) hx hb dX6_cellAt_20 (by decide) ?_
    have e2 := p_X6_cellAt_e2 x1 x2 c1
    exact b_iret hx hb hr hlocks hS ⟨_, rfl, e2.symm⟩ dX6_cellAt_21
  · refine lv_iload_n hx hb dX6_cellAt_4 rfl (lv_at hl 0 rfl) ?_
    refine lv_bipush (v := 8) hx hb dX6_cellAt_5 (by decide) ?_
    refine lv_icmp_ge (tgt := 20) hx hb dX6_cellAt_7 (by decide) (fun c3 => ?_) (fun c3 => ?_)
    · refine lv_iconst (v := (-1)) hx hb dX6_cellAt_20 (by decide) ?_
      have e4 := p_X6_cellAt_e4 x1 x2 c1 c3
      exact b_iret hx hb hr hlocks hS ⟨_, rfl, e4.symm⟩ dX6_cellAt_21
    · refine lv_iload_n hx hb dX6_cellAt_10 rfl (lv_at hl 1 rfl) ?_
      refine lv_if_lt (tgt := 20) hx hb dX6_cellAt_11 (by decide) (fun c5 => ?_) (fun c5 => ?_)
      · refine lv_iconst (v := (-1)) hx hb dX6_cellAt_20 (by decide) ?_
        have e6 := p_X6_cellAt_e6 x1 x2 c1 c3 c5
        exact b_iret hx hb hr hlocks hS ⟨_, rfl, e6.symm⟩ dX6_cellAt_21
      · refine lv_iload_n hx hb dX6_cellAt_14 rfl (lv_at hl 1 rfl) ?_
        refine lv_bipush (v := 8) hx hb dX6_cellAt_15 (by decide) ?_
        refine lv_icmp_lt (tgt := 22) hx hb dX6_cellAt_17 (by decide) (fun c7 => ?_) (fun c7 => ?_)
        · refine lv_bipush (v := 8) hx hb dX6_cellAt_22 (by decide) ?_
          refine lv_iload_n hx hb dX6_cellAt_24 rfl (lv_at hl 1 rfl) ?_
          refine lv_imul hx hb dX6_cellAt_25 ?_
          refine lv_iload_n hx hb dX6_cellAt_26 rfl (lv_at hl 0 rfl) ?_
          refine lv_iadd hx hb dX6_cellAt_27 ?_
          have e8 := p_X6_cellAt_e8 x1 x2 c1 c3 c5 c7
          exact b_iret hx hb hr hlocks hS ⟨_, rfl, e8.symm⟩ dX6_cellAt_28
        · refine lv_iconst (v := (-1)) hx hb dX6_cellAt_20 (by decide) ?_
          have e9 := p_X6_cellAt_e9 x1 x2 c1 c3 c5 c7
          exact b_iret hx hb hr hlocks hS ⟨_, rfl, e9.symm⟩ dX6_cellAt_21
def f_X6_nextNumber (x1 : Int64) : Int64 := ((x1 * 6364136223846793005) + 1442695040888963407)
theorem u_f_X6_nextNumber (x1 : Int64) : f_X6_nextNumber x1 = ((x1 * 6364136223846793005) + 1442695040888963407) := rfl
theorem p_X6_nextNumber_e1 (x1 : Int64)  : f_X6_nextNumber x1 = ((x1 * 6364136223846793005) + 1442695040888963407) := by exact u_f_X6_nextNumber x1
set_option maxHeartbeats 4000000 in
set_option maxRecDepth 100000 in
theorem c_X6_nextNumber (l : Launch) (D : va_G) (E : Nat → ClassId) (x1 : Int64) : Met l yX6_nextNumber wsX6_nextNumber (rmF 0) (bPc D E [.long x1] (fun _ => True)) (bQ (aL fun r _ => r = f_X6_nextNumber x1) bNo) 0 0 bNo := by
  refine Met.ofW (cc := cX6_nextNumber) (maxL := 2) (ret := (some .long)) (by decide) rfl ?_
  intro p e s m args below meth c s₁ B hml hv
  obtain ⟨rfl, hB, hK⟩ := hv
  have hx := B.exec
  have hb := B.bytes
  have hr := B.returns
  have hts := atoms_spec (ws := wsX6_nextNumber) B.pre
  have hown : s.vm.findClass RX6 = some m.cls := findClass_of_methodNamed B.named
  have hlocks := B.notSynchronized
  have hS : bS bNo s.heap s.heap [] := bS.rf
  have hl := lv_entry ([.long x1]) (n := 2) (Nat.le_of_ble_eq_true rfl)
  rw [lg_entry_eq]
  generalize (lg_sl ([.long x1]) ++ List.replicate (2 - (lg_sl ([.long x1])).length) Slot.unset).toArray = ls at hl ⊢
  have hl : lv_has ls 2 [(0, .long x1)] := hl
  refine lv_lload_n hx hb dX6_nextNumber_0 rfl (lv_at hl 0 rfl) ?_
  refine lv_ldc2 (v := 6364136223846793005) hx hb hown (hts (.constantLong RX6 348 (6364136223846793005)) (List.mem_of_getElem? (i := 1) rfl)) dX6_nextNumber_1 ?_
  refine lv_lmul hx hb dX6_nextNumber_4 ?_
  refine lv_ldc2 (v := 1442695040888963407) hx hb hown (hts (.constantLong RX6 350 (1442695040888963407)) (List.mem_of_getElem? (i := 2) rfl)) dX6_nextNumber_5 ?_
  refine lv_ladd hx hb dX6_nextNumber_8 ?_
  have e1 := p_X6_nextNumber_e1 x1 
  exact b_lret hx hb hr hlocks hS ⟨_, rfl, e1.symm⟩ dX6_nextNumber_9
def f_X6_drawnFrom (x1 : Int64) : Int32 := ((x1.toUInt64 >>> ((33 : Int32).toInt64.toUInt64 &&& Int64.toUInt64 63)).toInt64).toInt32
theorem u_f_X6_drawnFrom (x1 : Int64) : f_X6_drawnFrom x1 = ((x1.toUInt64 >>> ((33 : Int32).toInt64.toUInt64 &&& Int64.toUInt64 63)).toInt64).toInt32 := rfl
theorem p_X6_drawnFrom_e1 (x1 : Int64)  : f_X6_drawnFrom x1 = ((x1.toUInt64 >>> ((33 : Int32).toInt64.toUInt64 &&& Int64.toUInt64 63)).toInt64).toInt32 := by exact u_f_X6_drawnFrom x1
set_option maxHeartbeats 4000000 in
set_option maxRecDepth 100000 in
theorem c_X6_drawnFrom (l : Launch) (D : va_G) (E : Nat → ClassId) (x1 : Int64) : Met l yX6_drawnFrom wsX6_drawnFrom (rmF 0) (bPc D E [.long x1] (fun _ => True)) (bQ (aI fun r _ => r = f_X6_drawnFrom x1) bNo) 0 0 bNo := by
  refine Met.ofW (cc := cX6_drawnFrom) (maxL := 2) (ret := (some .int)) (by decide) rfl ?_
  intro p e s m args below meth c s₁ B hml hv
  obtain ⟨rfl, hB, hK⟩ := hv
  have hx := B.exec
  have hb := B.bytes
  have hr := B.returns
  have hts := atoms_spec (ws := wsX6_drawnFrom) B.pre
  have hown : s.vm.findClass RX6 = some m.cls := findClass_of_methodNamed B.named
  have hlocks := B.notSynchronized
  have hS : bS bNo s.heap s.heap [] := bS.rf
  have hl := lv_entry ([.long x1]) (n := 2) (Nat.le_of_ble_eq_true rfl)
  rw [lg_entry_eq]
  generalize (lg_sl ([.long x1]) ++ List.replicate (2 - (lg_sl ([.long x1])).length) Slot.unset).toArray = ls at hl ⊢
  have hl : lv_has ls 2 [(0, .long x1)] := hl
  refine lv_lload_n hx hb dX6_drawnFrom_0 rfl (lv_at hl 0 rfl) ?_
  refine lv_bipush (v := 33) hx hb dX6_drawnFrom_1 (by decide) ?_
  refine lv_lushr hx hb dX6_drawnFrom_3 rfl ?_
  refine lv_l2i hx hb dX6_drawnFrom_4 rfl ?_
  have e1 := p_X6_drawnFrom_e1 x1 
  exact b_iret hx hb hr hlocks hS ⟨_, rfl, e1.symm⟩ dX6_drawnFrom_5
def f_X6_cellBeside (x1 : Int32) (x2 : Int32) : Int32 := (let r1 : Int32 := f_X6_fits x1; (if r1 = 0 then (-1) else (let x3 : Int32 := (x1 - x1 / 8 * 8); (let x4 : Int32 := (x1 / 8); (if x2 = 0 then (let r6 : Int32 := f_X6_cellAt x3 (x4 + 1); r6) else (if x2 = 1 then (let r9 : Int32 := f_X6_cellAt (x3 + 1) x4; r9) else (if x2 = 2 then (let r12 : Int32 := f_X6_cellAt (x3 - 1) x4; r12) else (-1))))))))
theorem u_f_X6_cellBeside (x1 : Int32) (x2 : Int32) : f_X6_cellBeside x1 x2 = (let r1 : Int32 := f_X6_fits x1; (if r1 = 0 then (-1) else (let x3 : Int32 := (x1 - x1 / 8 * 8); (let x4 : Int32 := (x1 / 8); (if x2 = 0 then (let r6 : Int32 := f_X6_cellAt x3 (x4 + 1); r6) else (if x2 = 1 then (let r9 : Int32 := f_X6_cellAt (x3 + 1) x4; r9) else (if x2 = 2 then (let r12 : Int32 := f_X6_cellAt (x3 - 1) x4; r12) else (-1)))))))) := rfl
theorem p_X6_cellBeside_e7 (x1 : Int32) (x2 : Int32) (r1 : Int32) (hr1 : f_X6_fits x1 = r1) (c2 : ¬ r1 = 0) (x3 : Int32) (hx3 : (x1 - x1 / 8 * 8) = x3) (x4 : Int32) (hx4 : (x1 / 8) = x4) (c5 : x2 = 0) (r6 : Int32) (hr6 : f_X6_cellAt x3 (x4 + 1) = r6) : f_X6_cellBeside x1 x2 = r6 := by subst hr6 hx4 hx3 hr1; exact Eq.trans (u_f_X6_cellBeside x1 x2) (Eq.trans (if_neg c2) (if_pos c5))
theorem p_X6_cellBeside_e10 (x1 : Int32) (x2 : Int32) (r1 : Int32) (hr1 : f_X6_fits x1 = r1) (c2 : ¬ r1 = 0) (x3 : Int32) (hx3 : (x1 - x1 / 8 * 8) = x3) (x4 : Int32) (hx4 : (x1 / 8) = x4) (c5 : ¬ x2 = 0) (c8 : x2 = 1) (r9 : Int32) (hr9 : f_X6_cellAt (x3 + 1) x4 = r9) : f_X6_cellBeside x1 x2 = r9 := by subst hr9 hx4 hx3 hr1; exact Eq.trans (u_f_X6_cellBeside x1 x2) (Eq.trans (if_neg c2) (Eq.trans (if_neg c5) (if_pos c8)))
theorem p_X6_cellBeside_e13 (x1 : Int32) (x2 : Int32) (r1 : Int32) (hr1 : f_X6_fits x1 = r1) (c2 : ¬ r1 = 0) (x3 : Int32) (hx3 : (x1 - x1 / 8 * 8) = x3) (x4 : Int32) (hx4 : (x1 / 8) = x4) (c5 : ¬ x2 = 0) (c8 : ¬ x2 = 1) (c11 : x2 = 2) (r12 : Int32) (hr12 : f_X6_cellAt (x3 - 1) x4 = r12) : f_X6_cellBeside x1 x2 = r12 := by subst hr12 hx4 hx3 hr1; exact Eq.trans (u_f_X6_cellBeside x1 x2) (Eq.trans (if_neg c2) (Eq.trans (if_neg c5) (Eq.trans (if_neg c8) (if_pos c11))))
theorem p_X6_cellBeside_e14 (x1 : Int32) (x2 : Int32) (r1 : Int32) (hr1 : f_X6_fits x1 = r1) (c2 : ¬ r1 = 0) (x3 : Int32) (hx3 : (x1 - x1 / 8 * 8) = x3) (x4 : Int32) (hx4 : (x1 / 8) = x4) (c5 : ¬ x2 = 0) (c8 : ¬ x2 = 1) (c11 : ¬ x2 = 2) : f_X6_cellBeside x1 x2 = (-1) := by subst hx4 hx3 hr1; exact Eq.trans (u_f_X6_cellBeside x1 x2) (Eq.trans (if_neg c2) (Eq.trans (if_neg c5) (Eq.trans (if_neg c8) (if_neg c11))))
theorem p_X6_cellBeside_e15 (x1 : Int32) (x2 : Int32) (r1 : Int32) (hr1 : f_X6_fits x1 = r1) (c2 : r1 = 0) : f_X6_cellBeside x1 x2 = (-1) := by subst hr1; exact Eq.trans (u_f_X6_cellBeside x1 x2) (if_pos c2)
set_option maxHeartbeats 4000000 in
set_option maxRecDepth 100000 in
theorem c_X6_cellBeside (l : Launch) (D : va_G) (E : Nat → ClassId) (x1 : Int32) (x2 : Int32) : Met l yX6_cellBeside wsX6_cellBeside (rmF 1) (bPc D E [.int x1, .int x2] (fun _ => True)) (bQ (aI fun r _ => r = f_X6_cellBeside x1 x2) bNo) 0 0 bNo := by
  refine Met.ofW (cc := cX6_cellBeside) (maxL := 4) (ret := (some .int)) (by decide) rfl ?_
  intro p e s m args below meth c s₁ B hml hv
  obtain ⟨rfl, hB, hK⟩ := hv
  have hx := B.exec
  have hb := B.bytes
  have hr := B.returns
  have hts := atoms_spec (ws := wsX6_cellBeside) B.pre
  have hown : s.vm.findClass RX6 = some m.cls := findClass_of_methodNamed B.named
  have hlocks := B.notSynchronized
  have hS : bS bNo s.heap s.heap [] := bS.rf
  have hl := lv_entry ([.int x1, .int x2]) (n := 4) (Nat.le_of_ble_eq_true rfl)
  rw [lg_entry_eq]
  generalize (lg_sl ([.int x1, .int x2]) ++ List.replicate (4 - (lg_sl ([.int x1, .int x2])).length) Slot.unset).toArray = ls at hl ⊢
  have hl : lv_has ls 4 [(0, .int x1), (1, .int x2)] := hl
  refine lv_iload_n hx hb dX6_cellBeside_0 rfl (lv_at hl 0 rfl) ?_
  refine b_pI (b_runS (As := [.int x1]) (rest := []) ⟨hx, hb, hml, hown, hts⟩ (c_X6_fits l D E x1) (va_cwS 1 hts gX6_cellBeside_X6_fits rfl rfl rfl (by decide +kernel) ⟨Nat.le_of_ble_eq_true rfl, Nat.le_of_ble_eq_true rfl⟩) hK trivial rfl hl rfl (Nat.le_of_ble_eq_true rfl) dX6_cellBeside_1 ⟨Nat.zero_le _, Nat.zero_le _⟩) hS (fun r1 hr1 locs hS => ?_)
  refine lv_if_ne (tgt := 9) hx hb dX6_cellBeside_4 (by decide) (fun c2 => ?_) (fun c2 => ?_)
  · refine lv_iload_n hx hb dX6_cellBeside_9 rfl (lv_at hl 0 rfl) ?_
    refine lv_bipush (v := 8) hx hb dX6_cellBeside_10 (by decide) ?_
    refine lv_irem hx hb dX6_cellBeside_12 (by decide) ?_
    refine lv_topi (fun x3 hx3 => ?_)
    refine lv_istore_n (lv' := [(2, .int x3), (0, .int x1), (1, .int x2)]) hx hb dX6_cellBeside_13 rfl hl (by decide) rfl (fun ls hl => ?_)
    refine lv_iload_n hx hb dX6_cellBeside_14 rfl (lv_at hl 1 rfl) ?_
    refine lv_bipush (v := 8) hx hb dX6_cellBeside_15 (by decide) ?_
    refine lv_idiv hx hb dX6_cellBeside_17 (by decide) ?_
    refine lv_topi (fun x4 hx4 => ?_)
    refine lv_istore_n (lv' := [(3, .int x4), (2, .int x3), (0, .int x1), (1, .int x2)]) hx hb dX6_cellBeside_18 rfl hl (by decide) rfl (fun ls hl => ?_)
    refine lv_iload_n hx hb dX6_cellBeside_19 rfl (lv_at hl 3 rfl) ?_
    by_cases c5 : x2 = 0
    · refine b_tabI (tgt := 48) hx hb 0 dX6_cellBeside_20 (by rw [c5]; rfl) (by decide) (by decide) rfl (by decide) ?_
      refine lv_iload_n hx hb dX6_cellBeside_48 rfl (lv_at hl 1 rfl) ?_
      refine lv_iload_n hx hb dX6_cellBeside_49 rfl (lv_at hl 0 rfl) ?_
      refine lv_iconst (v := 1) hx hb dX6_cellBeside_50 (by decide) ?_
      refine lv_iadd hx hb dX6_cellBeside_51 ?_
      refine b_pI (b_runS (As := [.int x3, .int (x4 + 1)]) (rest := []) ⟨hx, hb, hml, hown, hts⟩ (c_X6_cellAt l D E x3 (x4 + 1)) (va_cwS 2 hts gX6_cellBeside_X6_cellAt rfl rfl rfl (by decide +kernel) ⟨Nat.le_of_ble_eq_true rfl, Nat.le_of_ble_eq_true rfl⟩) hK trivial rfl hl rfl (Nat.le_of_ble_eq_true rfl) dX6_cellBeside_52 ⟨Nat.zero_le _, Nat.zero_le _⟩) hS (fun r6 hr6 locs hS => ?_)
      have e7 := p_X6_cellBeside_e7 x1 x2 r1 hr1.symm c2 x3 hx3.symm x4 hx4.symm c5 r6 hr6.symm
      exact b_iret hx hb hr hlocks hS ⟨_, rfl, e7.symm⟩ dX6_cellBeside_55
    by_cases c8 : x2 = 1
    · refine b_tabI (tgt := 56) hx hb 1 dX6_cellBeside_20 (by rw [c8]; rfl) (by decide) (by decide) rfl (by decide) ?_
      refine lv_iload_n hx hb dX6_cellBeside_56 rfl (lv_at hl 1 rfl) ?_
      refine lv_iconst (v := 1) hx hb dX6_cellBeside_57 (by decide) ?_
      refine lv_iadd hx hb dX6_cellBeside_58 ?_
      refine lv_iload_n hx hb dX6_cellBeside_59 rfl (lv_at hl 0 rfl) ?_
      refine b_pI (b_runS (As := [.int (x3 + 1), .int x4]) (rest := []) ⟨hx, hb, hml, hown, hts⟩ (c_X6_cellAt l D E (x3 + 1) x4) (va_cwS 2 hts gX6_cellBeside_X6_cellAt rfl rfl rfl (by decide +kernel) ⟨Nat.le_of_ble_eq_true rfl, Nat.le_of_ble_eq_true rfl⟩) hK trivial rfl hl rfl (Nat.le_of_ble_eq_true rfl) dX6_cellBeside_60 ⟨Nat.zero_le _, Nat.zero_le _⟩) hS (fun r9 hr9 locs hS => ?_)
      have e10 := p_X6_cellBeside_e10 x1 x2 r1 hr1.symm c2 x3 hx3.symm x4 hx4.symm c5 c8 r9 hr9.symm
      exact b_iret hx hb hr hlocks hS ⟨_, rfl, e10.symm⟩ dX6_cellBeside_63
    by_cases c11 : x2 = 2
    · refine b_tabI (tgt := 64) hx hb 2 dX6_cellBeside_20 (by rw [c11]; rfl) (by decide) (by decide) rfl (by decide) ?_
      refine lv_iload_n hx hb dX6_cellBeside_64 rfl (lv_at hl 1 rfl) ?_
      refine lv_iconst (v := 1) hx hb dX6_cellBeside_65 (by decide) ?_
      refine lv_isub hx hb dX6_cellBeside_66 ?_
      refine lv_iload_n hx hb dX6_cellBeside_67 rfl (lv_at hl 0 rfl) ?_
      refine b_pI (b_runS (As := [.int (x3 - 1), .int x4]) (rest := []) ⟨hx, hb, hml, hown, hts⟩ (c_X6_cellAt l D E (x3 - 1) x4) (va_cwS 2 hts gX6_cellBeside_X6_cellAt rfl rfl rfl (by decide +kernel) ⟨Nat.le_of_ble_eq_true rfl, Nat.le_of_ble_eq_true rfl⟩) hK trivial rfl hl rfl (Nat.le_of_ble_eq_true rfl) dX6_cellBeside_68 ⟨Nat.zero_le _, Nat.zero_le _⟩) hS (fun r12 hr12 locs hS => ?_)
      have e13 := p_X6_cellBeside_e13 x1 x2 r1 hr1.symm c2 x3 hx3.symm x4 hx4.symm c5 c8 c11 r12 hr12.symm
      exact b_iret hx hb hr hlocks hS ⟨_, rfl, e13.symm⟩ dX6_cellBeside_71
    refine b_tabD (tgt := 72) hx hb [0, 1, 2] dX6_cellBeside_20 (by decide) (by decide) (List.forall_mem_cons.mpr ⟨lv_neT c5 (a := 0) rfl, (List.forall_mem_cons.mpr ⟨lv_neT c8 (a := 1) rfl, (List.forall_mem_cons.mpr ⟨lv_neT c11 (a := 2) rfl, (fun v h => absurd h List.not_mem_nil)⟩)⟩)⟩) (by decide) ?_
    refine lv_iconst (v := (-1)) hx hb dX6_cellBeside_72 (by decide) ?_
    have e14 := p_X6_cellBeside_e14 x1 x2 r1 hr1.symm c2 x3 hx3.symm x4 hx4.symm c5 c8 c11
    exact b_iret hx hb hr hlocks hS ⟨_, rfl, e14.symm⟩ dX6_cellBeside_73
  · refine lv_iconst (v := (-1)) hx hb dX6_cellBeside_7 (by decide) ?_
    have e15 := p_X6_cellBeside_e15 x1 x2 r1 hr1.symm c2
    exact b_iret hx hb hr hlocks hS ⟨_, rfl, e15.symm⟩ dX6_cellBeside_8
def lp_X6_copyRow_2 (k1 : Nat) (k2 : Nat) : Nat → Nat → bM → (bM)
  | 0, i1, M2 => M2
  | n1 + 1, i1, M2 => (let M7 : bM := up2 M2 k2 i1 (M2 k1 i1); lp_X6_copyRow_2 k1 k2 n1 (i1 + 1) M7)
theorem u0_lp_X6_copyRow_2 (k1 : Nat) (k2 : Nat) (i1 : Nat) (M2 : bM) : lp_X6_copyRow_2 k1 k2 0 i1 M2 = M2 := rfl
theorem u1_lp_X6_copyRow_2 (k1 : Nat) (k2 : Nat) (n1 i1 : Nat) (M2 : bM) : lp_X6_copyRow_2 k1 k2 (n1 + 1) i1 M2 = (let M7 : bM := up2 M2 k2 i1 (M2 k1 i1); lp_X6_copyRow_2 k1 k2 n1 (i1 + 1) M7) := rfl
def f_X6_copyRow (M : bM) (k1 : Nat) (k2 : Nat) : bM := (let M9 : bM := (lp_X6_copyRow_2 k1 k2 64 0 M); M9)
theorem u_f_X6_copyRow (M : bM) (k1 : Nat) (k2 : Nat) : f_X6_copyRow M k1 k2 = (let M9 : bM := (lp_X6_copyRow_2 k1 k2 64 0 M); M9) := rfl
theorem p_X6_copyRow_e4 (M : bM) (k1 : Nat) (k2 : Nat) (M2 : bM) (i1 : Nat)  : lp_X6_copyRow_2 k1 k2 0 i1 M2 = M2 := by exact u0_lp_X6_copyRow_2 k1 k2 i1 M2
theorem p_X6_copyRow_e8 (M : bM) (k1 : Nat) (k2 : Nat) (M2 : bM) (i1 : Nat) (n1 : Nat) (M7 : bM) (hM7 : up2 M2 k2 i1 (M2 k1 i1) = M7) : lp_X6_copyRow_2 k1 k2 (n1 + 1) i1 M2 = lp_X6_copyRow_2 k1 k2 n1 (i1 + 1) M7 := by subst hM7; exact u1_lp_X6_copyRow_2 k1 k2 n1 i1 M2
theorem p_X6_copyRow_e10 (M : bM) (k1 : Nat) (k2 : Nat) (M9 : bM) (hM9 : (lp_X6_copyRow_2 k1 k2 64 0 M) = M9) : f_X6_copyRow M k1 k2 = M9 := by subst hM9; exact u_f_X6_copyRow M k1 k2
set_option maxHeartbeats 4000000 in
set_option maxRecDepth 100000 in
theorem c_X6_copyRow (l : Launch) (D : va_G) (E : Nat → ClassId) (o : Nat) (M : bM) (k1 : Nat) (k2 : Nat) (hk1 : LRM[k1]? = some (.inl (0, 64))) (hk2 : LRM[k2]? = some (.inl (0, 64))) : Met l yX6_copyRow wsX6_copyRow (rmF 0) (bPc D E [.ref (o + k1), .ref (o + k2)] (fun H => bk D E LRM o M H)) (bQ (aV fun H => ∃ M1 : bM, M1 = f_X6_copyRow M k1 k2 ∧ bk D E LRM o M1 H) (rA o)) 0 0 (rA o) := by
  refine Met.ofW (cc := cX6_copyRow) (maxL := 3) (ret := none) (by decide) rfl ?_
  intro p e s m args below meth c s₁ B hml hv
  obtain ⟨rfl, hB, hK⟩ := hv
  have hx := B.exec
  have hb := B.bytes
  have hr := B.returns
  have hts := atoms_spec (ws := wsX6_copyRow) B.pre
  have hown : s.vm.findClass RX6 = some m.cls := findClass_of_methodNamed B.named
  have hlocks := B.notSynchronized
  have hS : bS (rA o) s.heap s.heap [] := bS.rf
  have hl := lv_entry ([.ref (o + k1), .ref (o + k2)]) (n := 3) (Nat.le_of_ble_eq_true rfl)
  rw [lg_entry_eq]
  generalize (lg_sl ([.ref (o + k1), .ref (o + k2)]) ++ List.replicate (3 - (lg_sl ([.ref (o + k1), .ref (o + k2)])).length) Slot.unset).toArray = ls at hl ⊢
  have hl : lv_has ls 3 [(0, .ref (o + k1)), (1, .ref (o + k2))] := hl
  have hB : bk D E LRM o M s.heap := hB
  refine lv_iconst (v := 0) hx hb dX6_copyRow_0 (by decide) ?_
  refine lv_istore_n (lv' := [(2, .int 0), (0, .ref (o + k1)), (1, .ref (o + k2))]) hx hb dX6_copyRow_1 rfl hl (by decide) rfl (fun ls hl => ?_)
  have lp1 : ∀ (n1 i1 : Nat) (M2 : bM), i1 + n1 = 64 → ∀ (H : Heap) (locs : List Loc), bk D E LRM o M2 H → bS (rA o) s.heap H locs → ∀ ls : Array Slot, lv_has ls 3 [(2, .int (nI i1)), (0, .ref (o + k1)), (1, .ref (o + k2))] → (∀ (H : Heap) (locs : List Loc), bk D E LRM o (lp_X6_copyRow_2 k1 k2 n1 i1 M2) H → bS (rA o) s.heap H locs → ∀ ls : Array Slot, lv_has ls 3 [(0, .ref (o + k1)), (1, .ref (o + k2))] → W p l e (headSpec wsX6_copyRow (rmF 0)).room s m ([.ref (o + k1), .ref (o + k2)] : List Value).toArray below meth c H locs 0 0 (MQ below (bQ (aV fun H => ∃ M1 : bM, M1 = f_X6_copyRow M k1 k2 ∧ bk D E LRM o M1 H) (rA o)) ([.ref (o + k1), .ref (o + k2)] : List Value).toArray s 0 0 (rA o)) (F0 m 26 ls [])) → W p l e (headSpec wsX6_copyRow (rmF 0)).room s m ([.ref (o + k1), .ref (o + k2)] : List Value).toArray below meth c H locs 0 0 (MQ below (bQ (aV fun H => ∃ M1 : bM, M1 = f_X6_copyRow M k1 k2 ∧ bk D E LRM o M1 H) (rA o)) ([.ref (o + k1), .ref (o + k2)] : List Value).toArray s 0 0 (rA o)) (F0 m 2 ls []) := by
    intro n1
    induction n1 with
    | zero =>
      intro i1 M2 hi1 H locs hB hS ls hl hexit1
      have hz1 : i1 = 64 := by omega
      refine lv_iload_n hx hb dX6_copyRow_2 rfl (lv_at hl 0 rfl) ?_
      refine lv_aload_n hx hb dX6_copyRow_3 rfl (lv_at hl 1 rfl) ?_
      refine b_alen hx hb hK.1 hB k1 hk1 (v := 64) rfl dX6_copyRow_4 ?_
      refine lv_icmp_ge (tgt := 26) hx hb dX6_copyRow_5 (by decide) (fun c3 => ?_) (fun c3 => absurd (by rw [hz1]; exact Int32.le_refl _) c3)
      have e4 := p_X6_copyRow_e4 M k1 k2 M2 i1 
      rw [e4] at hexit1
      exact hexit1 _ _  hB hS ls (lv_sub hl [1, 2] rfl)
    | succ n1 ih1 =>
      intro i1 M2 hi1 H locs hB hS ls hl hexit1
      refine lv_iload_n hx hb dX6_copyRow_2 rfl (lv_at hl 0 rfl) ?_
      refine lv_aload_n hx hb dX6_copyRow_3 rfl (lv_at hl 1 rfl) ?_
      refine b_alen hx hb hK.1 hB k1 hk1 (v := 64) rfl dX6_copyRow_4 ?_
      refine lv_icmp_ge (tgt := 26) hx hb dX6_copyRow_5 (by decide) (fun c5 => absurd c5 (nI_ge (a := i1) (b := 64) (by omega) (by decide))) (fun c5 => ?_)
      refine lv_iload_n hx hb dX6_copyRow_8 rfl (lv_at hl 0 rfl) ?_
      refine lv_aload_n hx hb dX6_copyRow_9 rfl (lv_at hl 2 rfl) ?_
      refine b_alen hx hb hK.1 hB k2 hk2 (v := 64) rfl dX6_copyRow_10 ?_
      refine lv_icmp_ge (tgt := 26) hx hb dX6_copyRow_11 (by decide) (fun c6 => absurd c6 (nI_ge (a := i1) (b := 64) (by omega) (by decide))) (fun c6 => ?_)
      refine lv_aload_n hx hb dX6_copyRow_14 rfl (lv_at hl 2 rfl) ?_
      refine lv_iload_n hx hb dX6_copyRow_15 rfl (lv_at hl 0 rfl) ?_
      refine lv_aload_n hx hb dX6_copyRow_16 rfl (lv_at hl 1 rfl) ?_
      refine lv_iload_n hx hb dX6_copyRow_17 rfl (lv_at hl 0 rfl) ?_
      refine b_iald hx hb hK.1 hB k1 hk1 (vp_in_nI (by omega) (by decide)) dX6_copyRow_18 ?_
      rw [nI_clamp (n := i1) (by omega)]
      refine b_iast hx hb hK.1 hB hS k2 (rA_of hk2) hk2 (vp_in_nI (by omega) (by decide)) dX6_copyRow_19 (fun M7 hM7 H locs hB _ hS => ?_)
      rw [nI_clamp (n := i1) (by omega)] at hM7
      refine lv_iinc (v := nI (i1 + 1)) (lv' := [(2, .int (nI (i1 + 1))), (0, .ref (o + k1)), (1, .ref (o + k2))]) hx hb dX6_copyRow_20 hl (k := 0) rfl (nI_1 i1) (by decide) rfl (fun ls hl => ?_)
      refine lv_goto (tgt := 2) hx hb dX6_copyRow_23 (by decide) ?_
      have e8 := p_X6_copyRow_e8 M k1 k2 M2 i1 n1 M7 hM7.symm
      rw [e8] at hexit1
      exact ih1 (i1 + 1) M7 (by omega) _ _ hB hS ls (lv_sub hl [0, 1, 2] rfl) hexit1
  refine lp1 64 0 M (by omega) _ _ hB hS ls (lv_sub hl [0, 1, 2] rfl) ?_
  intro H locs hB hS ls hl
  obtain ⟨M9, hM9⟩ : ∃ y : bM, y = (lp_X6_copyRow_2 k1 k2 64 0 M) := ⟨_, rfl⟩
  rw [← hM9] at hB
  have hl : lv_has ls 3 [(0, .ref (o + k1)), (1, .ref (o + k2))] := hl
  have e10 := p_X6_copyRow_e10 M k1 k2 M9 hM9.symm
  exact b_vret hx hb hr hlocks hS ⟨rfl, _, e10.symm, hB⟩ dX6_copyRow_26
def f_X2_flowTo (M : bM) (w : Nat) (x1 : Int32) : bM := (let r1 : Int32 := f_X6_fits x1; (if r1 = 0 then M else (let r4 : Int32 := f_X6_fits (M w 3); (if r4 = 0 then M else (let M7 : bM := up2 M (w + 2) (M w 3).toNatClampNeg x1; (let M8 : bM := up2 M7 (w + 3) x1.toNatClampNeg 1; (let M9 : bM := up2 M8 w 3 ((M8 w 3) + 1); M9)))))))
theorem u_f_X2_flowTo (M : bM) (w : Nat) (x1 : Int32) : f_X2_flowTo M w x1 = (let r1 : Int32 := f_X6_fits x1; (if r1 = 0 then M else (let r4 : Int32 := f_X6_fits (M w 3); (if r4 = 0 then M else (let M7 : bM := up2 M (w + 2) (M w 3).toNatClampNeg x1; (let M8 : bM := up2 M7 (w + 3) x1.toNatClampNeg 1; (let M9 : bM := up2 M8 w 3 ((M8 w 3) + 1); M9))))))) := rfl
theorem p_X2_flowTo_e3 (M : bM) (w : Nat) (x1 : Int32) (r1 : Int32) (hr1 : f_X6_fits x1 = r1) (c2 : r1 = 0) : f_X2_flowTo M w x1 = M := by subst hr1; exact Eq.trans (u_f_X2_flowTo M w x1) (if_pos c2)
theorem p_X2_flowTo_e6 (M : bM) (w : Nat) (x1 : Int32) (r1 : Int32) (hr1 : f_X6_fits x1 = r1) (c2 : ¬ r1 = 0) (r4 : Int32) (hr4 : f_X6_fits (M w 3) = r4) (c5 : r4 = 0) : f_X2_flowTo M w x1 = M := by subst hr4 hr1; exact Eq.trans (u_f_X2_flowTo M w x1) (Eq.trans (if_neg c2) (if_pos c5))
theorem p_X2_flowTo_e10 (M : bM) (w : Nat) (x1 : Int32) (r1 : Int32) (hr1 : f_X6_fits x1 = r1) (c2 : ¬ r1 = 0) (r4 : Int32) (hr4 : f_X6_fits (M w 3) = r4) (c5 : ¬ r4 = 0) (M7 : bM) (hM7 : up2 M (w + 2) (M w 3).toNatClampNeg x1 = M7) (M8 : bM) (hM8 : up2 M7 (w + 3) x1.toNatClampNeg 1 = M8) (M9 : bM) (hM9 : up2 M8 w 3 ((M8 w 3) + 1) = M9) : f_X2_flowTo M w x1 = M9 := by subst hM9 hM8 hM7 hr4 hr1; exact Eq.trans (u_f_X2_flowTo M w x1) (Eq.trans (if_neg c2) (if_neg c5))
set_option maxHeartbeats 4000000 in
set_option maxRecDepth 100000 in
theorem c_X2_flowTo (l : Launch) (D : va_G) (E : Nat → ClassId) (o : Nat) (M : bM) (w : Nat) (x1 : Int32) (hw : isS w) : Met l yX2_flowTo wsX2_flowTo (rmF 1) (bPc D E [.ref (o + w), .int x1] (fun H => bk D E LRM o M H)) (bQ (aV fun H => ∃ M1 : bM, M1 = f_X2_flowTo M w x1 ∧ bk D E LRM o M1 H) (rA o)) 0 0 (rA o) := by
  refine Met.ofW (cc := cX2_flowTo) (maxL := 2) (ret := none) (by decide) rfl ?_
  intro p e s m args below meth c s₁ B hml hv
  obtain ⟨rfl, hB, hK⟩ := hv
  have hx := B.exec
  have hb := B.bytes
  have hr := B.returns
  have hts := atoms_spec (ws := wsX2_flowTo) B.pre
  have hown : s.vm.findClass RX2 = some m.cls := findClass_of_methodNamed B.named
  have hlocks := B.notSynchronized
  have hS : bS (rA o) s.heap s.heap [] := bS.rf
  have hl := lv_entry ([.ref (o + w), .int x1]) (n := 2) (Nat.le_of_ble_eq_true rfl)
  rw [lg_entry_eq]
  generalize (lg_sl ([.ref (o + w), .int x1]) ++ List.replicate (2 - (lg_sl ([.ref (o + w), .int x1])).length) Slot.unset).toArray = ls at hl ⊢
  have hl : lv_has ls 2 [(0, .ref (o + w)), (1, .int x1)] := hl
  have hB : bk D E LRM o M s.heap := hB
  have hinX2 : ∀ w ∈ wsX20, w ∈ wsX2_flowTo := by decide +kernel
  refine lv_iload_n hx hb dX2_flowTo_0 rfl (lv_at hl 1 rfl) ?_
  refine b_pI (b_runSN (As := [.int x1]) (rest := []) ⟨hx, hb, hml, hown, hts⟩ (c_X6_fits l D E x1) ⟨va_cnB (host := "RiverMeeting") 1 hts gX2_flowTo_X6_fits_n36 rfl rfl rfl (hK.2 5 _ rfl) (hts (.initialized RX6) (List.mem_of_getElem? (i := 5) rfl)) (by decide +kernel) ⟨Nat.le_of_ble_eq_true rfl, Nat.le_of_ble_eq_true rfl⟩, (hts (.static yX6_fits) (List.mem_of_getElem? (i := 4) rfl)), trivial⟩ hK trivial rfl hl rfl (Nat.le_of_ble_eq_true rfl) dX2_flowTo_1 ⟨Nat.zero_le _, Nat.zero_le _⟩) hS (fun r1 hr1 locs hS => ?_)
  refine lv_if_eq (tgt := 44) hx hb dX2_flowTo_4 (by decide) (fun c2 => ?_) (fun c2 => ?_)
  · have e3 := p_X2_flowTo_e3 M w x1 r1 hr1.symm c2
    exact b_vret hx hb hr hlocks hS ⟨rfl, _, e3.symm, hB⟩ dX2_flowTo_44
  · refine lv_aload_n hx hb dX2_flowTo_7 rfl (lv_at hl 0 rfl) ?_
    refine b_get (D := D) (E := E) (L := LRM) (o := o) (M := M) (v := .int (M w 3)) (C := RX2) (T := TX2) (N := 8) hx hb hts hinX2 hown hK.1 hB w hw.1 rfl 3 (by decide) (hts (.fieldLink RX2 22 "RiverMeeting$Side" "length" "I") (List.mem_of_getElem? (i := 1) rfl)) (fun _ h9 => h9) rfl dX2_flowTo_8 ?_
    refine b_pI (b_runSN (As := [.int (M w 3)]) (rest := []) ⟨hx, hb, hml, hown, hts⟩ (c_X6_fits l D E (M w 3)) ⟨va_cnB (host := "RiverMeeting") 1 hts gX2_flowTo_X6_fits_n36 rfl rfl rfl (hK.2 5 _ rfl) (hts (.initialized RX6) (List.mem_of_getElem? (i := 5) rfl)) (by decide +kernel) ⟨Nat.le_of_ble_eq_true rfl, Nat.le_of_ble_eq_true rfl⟩, (hts (.static yX6_fits) (List.mem_of_getElem? (i := 4) rfl)), trivial⟩ hK trivial rfl hl rfl (Nat.le_of_ble_eq_true rfl) dX2_flowTo_11 ⟨Nat.zero_le _, Nat.zero_le _⟩) hS (fun r4 hr4 locs hS => ?_)
    refine lv_if_eq (tgt := 44) hx hb dX2_flowTo_14 (by decide) (fun c5 => ?_) (fun c5 => ?_)
    · have e6 := p_X2_flowTo_e6 M w x1 r1 hr1.symm c2 r4 hr4.symm c5
      exact b_vret hx hb hr hlocks hS ⟨rfl, _, e6.symm, hB⟩ dX2_flowTo_44
    · refine lv_aload_n hx hb dX2_flowTo_17 rfl (lv_at hl 0 rfl) ?_
      refine b_get (D := D) (E := E) (L := LRM) (o := o) (M := M) (v := .ref (o + (w + 2))) (C := RX2) (T := TX2) (N := 8) hx hb hts hinX2 hown hK.1 hB w hw.1 rfl 1 (by decide) (hts (.fieldLink RX2 15 "RiverMeeting$Side" "places" "[I") (List.mem_of_getElem? (i := 2) rfl)) (fun _ h9 => h9) rfl dX2_flowTo_18 ?_
      refine lv_aload_n hx hb dX2_flowTo_21 rfl (lv_at hl 0 rfl) ?_
      refine b_get (D := D) (E := E) (L := LRM) (o := o) (M := M) (v := .int (M w 3)) (C := RX2) (T := TX2) (N := 8) hx hb hts hinX2 hown hK.1 hB w hw.1 rfl 3 (by decide) (hts (.fieldLink RX2 22 "RiverMeeting$Side" "length" "I") (List.mem_of_getElem? (i := 1) rfl)) (fun _ h9 => h9) rfl dX2_flowTo_22 ?_
      refine lv_iload_n hx hb dX2_flowTo_25 rfl (lv_at hl 1 rfl) ?_
      refine b_iast hx hb hK.1 hB hS (w + 2) (rA_of hw.2.2.1) hw.2.2.1 (fits_in (hr4 ▸ c5)) dX2_flowTo_26 (fun M7 hM7 H locs hB _ hS => ?_)
      refine lv_aload_n hx hb dX2_flowTo_27 rfl (lv_at hl 0 rfl) ?_
      refine b_get (D := D) (E := E) (L := LRM) (o := o) (M := M7) (v := .ref (o + (w + 3))) (C := RX2) (T := TX2) (N := 8) hx hb hts hinX2 hown hK.1 hB w hw.1 rfl 2 (by decide) (hts (.fieldLink RX2 18 "RiverMeeting$Side" "bed" "[Z") (List.mem_of_getElem? (i := 3) rfl)) (fun _ h9 => h9) rfl dX2_flowTo_28 ?_
      refine lv_iload_n hx hb dX2_flowTo_31 rfl (lv_at hl 1 rfl) ?_
      refine lv_iconst (v := 1) hx hb dX2_flowTo_32 (by decide) ?_
      refine b_zast hx hb hK.1 hB hS (w + 3) (rA_of hw.2.2.2) hw.2.2.2 (fits_in (hr1 ▸ c2)) dX2_flowTo_33 (fun M8 hM8 H locs hB _ hS => ?_)
      rw [show vp_nar .boolean 1 = 1 from rfl] at hM8
      refine lv_aload_n hx hb dX2_flowTo_34 rfl (lv_at hl 0 rfl) ?_
      refine lv_dup hx hb dX2_flowTo_35 rfl ?_
      refine b_get (D := D) (E := E) (L := LRM) (o := o) (M := M8) (v := .int (M8 w 3)) (C := RX2) (T := TX2) (N := 8) hx hb hts hinX2 hown hK.1 hB w hw.1 rfl 3 (by decide) (hts (.fieldLink RX2 22 "RiverMeeting$Side" "length" "I") (List.mem_of_getElem? (i := 1) rfl)) (fun _ h9 => h9) rfl dX2_flowTo_36 ?_
      refine lv_iconst (v := 1) hx hb dX2_flowTo_39 (by decide) ?_
      refine lv_iadd hx hb dX2_flowTo_40 ?_
      refine b_put (D := D) (E := E) (L := LRM) (o := o) (M := M8) (v := ((M8 w 3) + 1)) (ty := .int) (C := RX2) (T := TX2) (N := 8) hx hb hts hinX2 tyX2 tyX2_ok nmX2 hown hK.1 hB hS w (rA_of hw.1) hw.1 rfl 3 (by decide) rfl (hts (.fieldLink RX2 22 "RiverMeeting$Side" "length" "I") (List.mem_of_getElem? (i := 1) rfl)) (fun _ h9 => h9) rfl (by decide +kernel) rfl rfl dX2_flowTo_41 (fun M9 hM9 H locs hB _ hS => ?_)
      have e10 := p_X2_flowTo_e10 M w x1 r1 hr1.symm c2 r4 hr4.symm c5 M7 hM7.symm M8 hM8.symm M9 hM9.symm
      exact b_vret hx hb hr hlocks hS ⟨rfl, _, e10.symm, hB⟩ dX2_flowTo_44
def f_X2_pay (M : bM) (w : Nat) (x1 : Int32) : bM := (let M1 : bM := up2 M w 4 ((M w 4) + x1); (let M2 : bM := up2 M1 w 7 ((M1 w 7) + x1); M2))
theorem u_f_X2_pay (M : bM) (w : Nat) (x1 : Int32) : f_X2_pay M w x1 = (let M1 : bM := up2 M w 4 ((M w 4) + x1); (let M2 : bM := up2 M1 w 7 ((M1 w 7) + x1); M2)) := rfl
theorem p_X2_pay_e3 (M : bM) (w : Nat) (x1 : Int32) (M1 : bM) (hM1 : up2 M w 4 ((M w 4) + x1) = M1) (M2 : bM) (hM2 : up2 M1 w 7 ((M1 w 7) + x1) = M2) : f_X2_pay M w x1 = M2 := by subst hM2 hM1; exact u_f_X2_pay M w x1
set_option maxHeartbeats 4000000 in
set_option maxRecDepth 100000 in
theorem c_X2_pay (l : Launch) (D : va_G) (E : Nat → ClassId) (o : Nat) (M : bM) (w : Nat) (x1 : Int32) (hw : isS w) : Met l yX2_pay wsX2_pay (rmF 0) (bPc D E [.ref (o + w), .int x1] (fun H => bk D E LRM o M H)) (bQ (aV fun H => ∃ M1 : bM, M1 = f_X2_pay M w x1 ∧ bk D E LRM o M1 H) (rA o)) 0 0 (rA o) := by
  refine Met.ofW (cc := cX2_pay) (maxL := 2) (ret := none) (by decide) rfl ?_
  intro p e s m args below meth c s₁ B hml hv
  obtain ⟨rfl, hB, hK⟩ := hv
  have hx := B.exec
  have hb := B.bytes
  have hr := B.returns
  have hts := atoms_spec (ws := wsX2_pay) B.pre
  have hown : s.vm.findClass RX2 = some m.cls := findClass_of_methodNamed B.named
  have hlocks := B.notSynchronized
  have hS : bS (rA o) s.heap s.heap [] := bS.rf
  have hl := lv_entry ([.ref (o + w), .int x1]) (n := 2) (Nat.le_of_ble_eq_true rfl)
  rw [lg_entry_eq]
  generalize (lg_sl ([.ref (o + w), .int x1]) ++ List.replicate (2 - (lg_sl ([.ref (o + w), .int x1])).length) Slot.unset).toArray = ls at hl ⊢
  have hl : lv_has ls 2 [(0, .ref (o + w)), (1, .int x1)] := hl
  have hB : bk D E LRM o M s.heap := hB
  have hinX2 : ∀ w ∈ wsX20, w ∈ wsX2_pay := by decide +kernel
  refine lv_aload_n hx hb dX2_pay_0 rfl (lv_at hl 0 rfl) ?_
  refine lv_dup hx hb dX2_pay_1 rfl ?_
  refine b_get (D := D) (E := E) (L := LRM) (o := o) (M := M) (v := .int (M w 4)) (C := RX2) (T := TX2) (N := 8) hx hb hts hinX2 hown hK.1 hB w hw.1 rfl 4 (by decide) (hts (.fieldLink RX2 26 "RiverMeeting$Side" "paid" "I") (List.mem_of_getElem? (i := 1) rfl)) (fun _ h9 => h9) rfl dX2_pay_2 ?_
  refine lv_iload_n hx hb dX2_pay_5 rfl (lv_at hl 1 rfl) ?_
  refine lv_iadd hx hb dX2_pay_6 ?_
  refine b_put (D := D) (E := E) (L := LRM) (o := o) (M := M) (v := ((M w 4) + x1)) (ty := .int) (C := RX2) (T := TX2) (N := 8) hx hb hts hinX2 tyX2 tyX2_ok nmX2 hown hK.1 hB hS w (rA_of hw.1) hw.1 rfl 4 (by decide) rfl (hts (.fieldLink RX2 26 "RiverMeeting$Side" "paid" "I") (List.mem_of_getElem? (i := 1) rfl)) (fun _ h9 => h9) rfl (by decide +kernel) rfl rfl dX2_pay_7 (fun M1 hM1 H locs hB _ hS => ?_)
  refine lv_aload_n hx hb dX2_pay_10 rfl (lv_at hl 0 rfl) ?_
  refine lv_dup hx hb dX2_pay_11 rfl ?_
  refine b_get (D := D) (E := E) (L := LRM) (o := o) (M := M1) (v := .int (M1 w 7)) (C := RX2) (T := TX2) (N := 8) hx hb hts hinX2 hown hK.1 hB w hw.1 rfl 7 (by decide) (hts (.fieldLink RX2 40 "RiverMeeting$Side" "paidEver" "I") (List.mem_of_getElem? (i := 2) rfl)) (fun _ h9 => h9) rfl dX2_pay_12 ?_
  refine lv_iload_n hx hb dX2_pay_15 rfl (lv_at hl 1 rfl) ?_
  refine lv_iadd hx hb dX2_pay_16 ?_
  refine b_put (D := D) (E := E) (L := LRM) (o := o) (M := M1) (v := ((M1 w 7) + x1)) (ty := .int) (C := RX2) (T := TX2) (N := 8) hx hb hts hinX2 tyX2 tyX2_ok nmX2 hown hK.1 hB hS w (rA_of hw.1) hw.1 rfl 7 (by decide) rfl (hts (.fieldLink RX2 40 "RiverMeeting$Side" "paidEver" "I") (List.mem_of_getElem? (i := 2) rfl)) (fun _ h9 => h9) rfl (by decide +kernel) rfl rfl dX2_pay_17 (fun M2 hM2 H locs hB _ hS => ?_)
  have e3 := p_X2_pay_e3 M w x1 M1 hM1.symm M2 hM2.symm
  exact b_vret hx hb hr hlocks hS ⟨rfl, _, e3.symm, hB⟩ dX2_pay_20
def f_X2_head (M : bM) (w : Nat) : Int32 := (if (M w 3) ≤ 0 then (-1) else (if 64 < (M w 3) then (-1) else (M (w + 2) ((M w 3) - 1).toNatClampNeg)))
theorem u_f_X2_head (M : bM) (w : Nat) : f_X2_head M w = (if (M w 3) ≤ 0 then (-1) else (if 64 < (M w 3) then (-1) else (M (w + 2) ((M w 3) - 1).toNatClampNeg))) := rfl
theorem p_X2_head_e2 (M : bM) (w : Nat) (c1 : (M w 3) ≤ 0) : f_X2_head M w = (-1) := by exact Eq.trans (u_f_X2_head M w) (if_pos c1)
theorem p_X2_head_e4 (M : bM) (w : Nat) (c1 : ¬ (M w 3) ≤ 0) (c3 : 64 < (M w 3)) : f_X2_head M w = (-1) := by exact Eq.trans (u_f_X2_head M w) (Eq.trans (if_neg c1) (if_pos c3))
theorem p_X2_head_e5 (M : bM) (w : Nat) (c1 : ¬ (M w 3) ≤ 0) (c3 : ¬ 64 < (M w 3)) : f_X2_head M w = (M (w + 2) ((M w 3) - 1).toNatClampNeg) := by exact Eq.trans (u_f_X2_head M w) (Eq.trans (if_neg c1) (if_neg c3))
set_option maxHeartbeats 4000000 in
set_option maxRecDepth 100000 in
theorem c_X2_head (l : Launch) (D : va_G) (E : Nat → ClassId) (o : Nat) (M : bM) (w : Nat) (hw : isS w) : Met l yX2_head wsX2_head (rmF 0) (bPc D E [.ref (o + w)] (fun H => bk D E LRM o M H)) (bQ (aI fun r _ => r = f_X2_head M w) bNo) 0 0 bNo := by
  refine Met.ofW (cc := cX2_head) (maxL := 1) (ret := (some .int)) (by decide) rfl ?_
  intro p e s m args below meth c s₁ B hml hv
  obtain ⟨rfl, hB, hK⟩ := hv
  have hx := B.exec
  have hb := B.bytes
  have hr := B.returns
  have hts := atoms_spec (ws := wsX2_head) B.pre
  have hown : s.vm.findClass RX2 = some m.cls := findClass_of_methodNamed B.named
  have hlocks := B.notSynchronized
  have hS : bS bNo s.heap s.heap [] := bS.rf
  have hl := lv_entry ([.ref (o + w)]) (n := 1) (Nat.le_of_ble_eq_true rfl)
  rw [lg_entry_eq]
  generalize (lg_sl ([.ref (o + w)]) ++ List.replicate (1 - (lg_sl ([.ref (o + w)])).length) Slot.unset).toArray = ls at hl ⊢
  have hl : lv_has ls 1 [(0, .ref (o + w))] := hl
  have hB : bk D E LRM o M s.heap := hB
  have hinX2 : ∀ w ∈ wsX20, w ∈ wsX2_head := by decide +kernel
  refine lv_aload_n hx hb dX2_head_0 rfl (lv_at hl 0 rfl) ?_
  refine b_get (D := D) (E := E) (L := LRM) (o := o) (M := M) (v := .int (M w 3)) (C := RX2) (T := TX2) (N := 8) hx hb hts hinX2 hown hK.1 hB w hw.1 rfl 3 (by decide) (hts (.fieldLink RX2 22 "RiverMeeting$Side" "length" "I") (List.mem_of_getElem? (i := 1) rfl)) (fun _ h9 => h9) rfl dX2_head_1 ?_
  refine lv_if_le (tgt := 30) hx hb dX2_head_4 (by decide) (fun c1 => ?_) (fun c1 => ?_)
  · refine lv_iconst (v := (-1)) hx hb dX2_head_30 (by decide) ?_
    have e2 := p_X2_head_e2 M w c1
    exact b_iret hx hb hr hlocks hS ⟨_, rfl, e2.symm⟩ dX2_head_31
  · refine lv_aload_n hx hb dX2_head_7 rfl (lv_at hl 0 rfl) ?_
    refine b_get (D := D) (E := E) (L := LRM) (o := o) (M := M) (v := .int (M w 3)) (C := RX2) (T := TX2) (N := 8) hx hb hts hinX2 hown hK.1 hB w hw.1 rfl 3 (by decide) (hts (.fieldLink RX2 22 "RiverMeeting$Side" "length" "I") (List.mem_of_getElem? (i := 1) rfl)) (fun _ h9 => h9) rfl dX2_head_8 ?_
    refine lv_bipush (v := 64) hx hb dX2_head_11 (by decide) ?_
    refine lv_icmp_gt (tgt := 30) hx hb dX2_head_13 (by decide) (fun c3 => ?_) (fun c3 => ?_)
    · refine lv_iconst (v := (-1)) hx hb dX2_head_30 (by decide) ?_
      have e4 := p_X2_head_e4 M w c1 c3
      exact b_iret hx hb hr hlocks hS ⟨_, rfl, e4.symm⟩ dX2_head_31
    · refine lv_aload_n hx hb dX2_head_16 rfl (lv_at hl 0 rfl) ?_
      refine b_get (D := D) (E := E) (L := LRM) (o := o) (M := M) (v := .ref (o + (w + 2))) (C := RX2) (T := TX2) (N := 8) hx hb hts hinX2 hown hK.1 hB w hw.1 rfl 1 (by decide) (hts (.fieldLink RX2 15 "RiverMeeting$Side" "places" "[I") (List.mem_of_getElem? (i := 2) rfl)) (fun _ h9 => h9) rfl dX2_head_17 ?_
      refine lv_aload_n hx hb dX2_head_20 rfl (lv_at hl 0 rfl) ?_
      refine b_get (D := D) (E := E) (L := LRM) (o := o) (M := M) (v := .int (M w 3)) (C := RX2) (T := TX2) (N := 8) hx hb hts hinX2 hown hK.1 hB w hw.1 rfl 3 (by decide) (hts (.fieldLink RX2 22 "RiverMeeting$Side" "length" "I") (List.mem_of_getElem? (i := 1) rfl)) (fun _ h9 => h9) rfl dX2_head_21 ?_
      refine lv_iconst (v := 1) hx hb dX2_head_24 (by decide) ?_
      refine lv_isub hx hb dX2_head_25 ?_
      refine b_iald hx hb hK.1 hB (w + 2) hw.2.2.1 (in_pred (N := 64) rfl (by decide) c1 c3) dX2_head_26 ?_
      refine lv_goto (tgt := 31) hx hb dX2_head_27 (by decide) ?_
      have e5 := p_X2_head_e5 M w c1 c3
      exact b_iret hx hb hr hlocks hS ⟨_, rfl, e5.symm⟩ dX2_head_31
def f_X2_placeAt (M : bM) (w : Nat) (x1 : Int32) : Int32 := (if (M w 3) ≤ x1 then (-1) else (let r3 : Int32 := f_X6_fits x1; (if r3 = 0 then (-1) else (M (w + 2) x1.toNatClampNeg))))
theorem u_f_X2_placeAt (M : bM) (w : Nat) (x1 : Int32) : f_X2_placeAt M w x1 = (if (M w 3) ≤ x1 then (-1) else (let r3 : Int32 := f_X6_fits x1; (if r3 = 0 then (-1) else (M (w + 2) x1.toNatClampNeg)))) := rfl
theorem p_X2_placeAt_e2 (M : bM) (w : Nat) (x1 : Int32) (c1 : (M w 3) ≤ x1) : f_X2_placeAt M w x1 = (-1) := by exact Eq.trans (u_f_X2_placeAt M w x1) (if_pos c1)
theorem p_X2_placeAt_e5 (M : bM) (w : Nat) (x1 : Int32) (c1 : ¬ (M w 3) ≤ x1) (r3 : Int32) (hr3 : f_X6_fits x1 = r3) (c4 : r3 = 0) : f_X2_placeAt M w x1 = (-1) := by subst hr3; exact Eq.trans (u_f_X2_placeAt M w x1) (Eq.trans (if_neg c1) (if_pos c4))
theorem p_X2_placeAt_e6 (M : bM) (w : Nat) (x1 : Int32) (c1 : ¬ (M w 3) ≤ x1) (r3 : Int32) (hr3 : f_X6_fits x1 = r3) (c4 : ¬ r3 = 0) : f_X2_placeAt M w x1 = (M (w + 2) x1.toNatClampNeg) := by subst hr3; exact Eq.trans (u_f_X2_placeAt M w x1) (Eq.trans (if_neg c1) (if_neg c4))
set_option maxHeartbeats 4000000 in
set_option maxRecDepth 100000 in
theorem c_X2_placeAt (l : Launch) (D : va_G) (E : Nat → ClassId) (o : Nat) (M : bM) (w : Nat) (x1 : Int32) (hw : isS w) : Met l yX2_placeAt wsX2_placeAt (rmF 1) (bPc D E [.ref (o + w), .int x1] (fun H => bk D E LRM o M H)) (bQ (aI fun r _ => r = f_X2_placeAt M w x1) bNo) 0 0 bNo := by
  refine Met.ofW (cc := cX2_placeAt) (maxL := 2) (ret := (some .int)) (by decide) rfl ?_
  intro p e s m args below meth c s₁ B hml hv
  obtain ⟨rfl, hB, hK⟩ := hv
  have hx := B.exec
  have hb := B.bytes
  have hr := B.returns
  have hts := atoms_spec (ws := wsX2_placeAt) B.pre
  have hown : s.vm.findClass RX2 = some m.cls := findClass_of_methodNamed B.named
  have hlocks := B.notSynchronized
  have hS : bS bNo s.heap s.heap [] := bS.rf
  have hl := lv_entry ([.ref (o + w), .int x1]) (n := 2) (Nat.le_of_ble_eq_true rfl)
  rw [lg_entry_eq]
  generalize (lg_sl ([.ref (o + w), .int x1]) ++ List.replicate (2 - (lg_sl ([.ref (o + w), .int x1])).length) Slot.unset).toArray = ls at hl ⊢
  have hl : lv_has ls 2 [(0, .ref (o + w)), (1, .int x1)] := hl
  have hB : bk D E LRM o M s.heap := hB
  have hinX2 : ∀ w ∈ wsX20, w ∈ wsX2_placeAt := by decide +kernel
  refine lv_iload_n hx hb dX2_placeAt_0 rfl (lv_at hl 1 rfl) ?_
  refine lv_aload_n hx hb dX2_placeAt_1 rfl (lv_at hl 0 rfl) ?_
  refine b_get (D := D) (E := E) (L := LRM) (o := o) (M := M) (v := .int (M w 3)) (C := RX2) (T := TX2) (N := 8) hx hb hts hinX2 hown hK.1 hB w hw.1 rfl 3 (by decide) (hts (.fieldLink RX2 22 "RiverMeeting$Side" "length" "I") (List.mem_of_getElem? (i := 1) rfl)) (fun _ h9 => h9) rfl dX2_placeAt_2 ?_
  refine lv_icmp_ge (tgt := 24) hx hb dX2_placeAt_5 (by decide) (fun c1 => ?_) (fun c1 => ?_)
  · refine lv_iconst (v := (-1)) hx hb dX2_placeAt_24 (by decide) ?_
    have e2 := p_X2_placeAt_e2 M w x1 c1
    exact b_iret hx hb hr hlocks hS ⟨_, rfl, e2.symm⟩ dX2_placeAt_25
  · refine lv_iload_n hx hb dX2_placeAt_8 rfl (lv_at hl 1 rfl) ?_
    refine b_pI (b_runSN (As := [.int x1]) (rest := []) ⟨hx, hb, hml, hown, hts⟩ (c_X6_fits l D E x1) ⟨va_cnB (host := "RiverMeeting") 1 hts gX2_placeAt_X6_fits_n36 rfl rfl rfl (hK.2 5 _ rfl) (hts (.initialized RX6) (List.mem_of_getElem? (i := 4) rfl)) (by decide +kernel) ⟨Nat.le_of_ble_eq_true rfl, Nat.le_of_ble_eq_true rfl⟩, (hts (.static yX6_fits) (List.mem_of_getElem? (i := 3) rfl)), trivial⟩ hK trivial rfl hl rfl (Nat.le_of_ble_eq_true rfl) dX2_placeAt_9 ⟨Nat.zero_le _, Nat.zero_le _⟩) hS (fun r3 hr3 locs hS => ?_)
    refine lv_if_eq (tgt := 24) hx hb dX2_placeAt_12 (by decide) (fun c4 => ?_) (fun c4 => ?_)
    · refine lv_iconst (v := (-1)) hx hb dX2_placeAt_24 (by decide) ?_
      have e5 := p_X2_placeAt_e5 M w x1 c1 r3 hr3.symm c4
      exact b_iret hx hb hr hlocks hS ⟨_, rfl, e5.symm⟩ dX2_placeAt_25
    · refine lv_aload_n hx hb dX2_placeAt_15 rfl (lv_at hl 0 rfl) ?_
      refine b_get (D := D) (E := E) (L := LRM) (o := o) (M := M) (v := .ref (o + (w + 2))) (C := RX2) (T := TX2) (N := 8) hx hb hts hinX2 hown hK.1 hB w hw.1 rfl 1 (by decide) (hts (.fieldLink RX2 15 "RiverMeeting$Side" "places" "[I") (List.mem_of_getElem? (i := 2) rfl)) (fun _ h9 => h9) rfl dX2_placeAt_16 ?_
      refine lv_iload_n hx hb dX2_placeAt_19 rfl (lv_at hl 1 rfl) ?_
      refine b_iald hx hb hK.1 hB (w + 2) hw.2.2.1 (fits_in (hr3 ▸ c4)) dX2_placeAt_20 ?_
      refine lv_goto (tgt := 25) hx hb dX2_placeAt_21 (by decide) ?_
      have e6 := p_X2_placeAt_e6 M w x1 c1 r3 hr3.symm c4
      exact b_iret hx hb hr hlocks hS ⟨_, rfl, e6.symm⟩ dX2_placeAt_25
def f_X2_holds (M : bM) (w : Nat) (x1 : Int32) : Int32 := (let r1 : Int32 := f_X6_fits x1; (if r1 = 0 then 0 else (if (M (w + 3) x1.toNatClampNeg) = 0 then 0 else 1)))
theorem u_f_X2_holds (M : bM) (w : Nat) (x1 : Int32) : f_X2_holds M w x1 = (let r1 : Int32 := f_X6_fits x1; (if r1 = 0 then 0 else (if (M (w + 3) x1.toNatClampNeg) = 0 then 0 else 1))) := rfl
theorem p_X2_holds_e3 (M : bM) (w : Nat) (x1 : Int32) (r1 : Int32) (hr1 : f_X6_fits x1 = r1) (c2 : r1 = 0) : f_X2_holds M w x1 = 0 := by subst hr1; exact Eq.trans (u_f_X2_holds M w x1) (if_pos c2)
theorem p_X2_holds_e5 (M : bM) (w : Nat) (x1 : Int32) (r1 : Int32) (hr1 : f_X6_fits x1 = r1) (c2 : ¬ r1 = 0) (c4 : (M (w + 3) x1.toNatClampNeg) = 0) : f_X2_holds M w x1 = 0 := by subst hr1; exact Eq.trans (u_f_X2_holds M w x1) (Eq.trans (if_neg c2) (if_pos c4))
theorem p_X2_holds_e6 (M : bM) (w : Nat) (x1 : Int32) (r1 : Int32) (hr1 : f_X6_fits x1 = r1) (c2 : ¬ r1 = 0) (c4 : ¬ (M (w + 3) x1.toNatClampNeg) = 0) : f_X2_holds M w x1 = 1 := by subst hr1; exact Eq.trans (u_f_X2_holds M w x1) (Eq.trans (if_neg c2) (if_neg c4))
set_option maxHeartbeats 4000000 in
set_option maxRecDepth 100000 in
theorem c_X2_holds (l : Launch) (D : va_G) (E : Nat → ClassId) (o : Nat) (M : bM) (w : Nat) (x1 : Int32) (hw : isS w) : Met l yX2_holds wsX2_holds (rmF 1) (bPc D E [.ref (o + w), .int x1] (fun H => bk D E LRM o M H)) (bQ (aI fun r _ => r = f_X2_holds M w x1) bNo) 0 0 bNo := by
  refine Met.ofW (cc := cX2_holds) (maxL := 2) (ret := (some .boolean)) (by decide) rfl ?_
  intro p e s m args below meth c s₁ B hml hv
  obtain ⟨rfl, hB, hK⟩ := hv
  have hx := B.exec
  have hb := B.bytes
  have hr := B.returns
  have hts := atoms_spec (ws := wsX2_holds) B.pre
  have hown : s.vm.findClass RX2 = some m.cls := findClass_of_methodNamed B.named
  have hlocks := B.notSynchronized
  have hS : bS bNo s.heap s.heap [] := bS.rf
  have hl := lv_entry ([.ref (o + w), .int x1]) (n := 2) (Nat.le_of_ble_eq_true rfl)
  rw [lg_entry_eq]
  generalize (lg_sl ([.ref (o + w), .int x1]) ++ List.replicate (2 - (lg_sl ([.ref (o + w), .int x1])).length) Slot.unset).toArray = ls at hl ⊢
  have hl : lv_has ls 2 [(0, .ref (o + w)), (1, .int x1)] := hl
  have hB : bk D E LRM o M s.heap := hB
  have hinX2 : ∀ w ∈ wsX20, w ∈ wsX2_holds := by decide +kernel
  refine lv_iload_n hx hb dX2_holds_0 rfl (lv_at hl 1 rfl) ?_
  refine b_pI (b_runSN (As := [.int x1]) (rest := []) ⟨hx, hb, hml, hown, hts⟩ (c_X6_fits l D E x1) ⟨va_cnB (host := "RiverMeeting") 1 hts gX2_holds_X6_fits_n36 rfl rfl rfl (hK.2 5 _ rfl) (hts (.initialized RX6) (List.mem_of_getElem? (i := 3) rfl)) (by decide +kernel) ⟨Nat.le_of_ble_eq_true rfl, Nat.le_of_ble_eq_true rfl⟩, (hts (.static yX6_fits) (List.mem_of_getElem? (i := 2) rfl)), trivial⟩ hK trivial rfl hl rfl (Nat.le_of_ble_eq_true rfl) dX2_holds_1 ⟨Nat.zero_le _, Nat.zero_le _⟩) hS (fun r1 hr1 locs hS => ?_)
  refine lv_if_eq (tgt := 20) hx hb dX2_holds_4 (by decide) (fun c2 => ?_) (fun c2 => ?_)
  · refine lv_iconst (v := 0) hx hb dX2_holds_20 (by decide) ?_
    have e3 := p_X2_holds_e3 M w x1 r1 hr1.symm c2
    exact b_zret hx hb hr rfl hlocks hS ⟨_, rfl, e3.symm⟩ dX2_holds_21
  · refine lv_aload_n hx hb dX2_holds_7 rfl (lv_at hl 0 rfl) ?_
    refine b_get (D := D) (E := E) (L := LRM) (o := o) (M := M) (v := .ref (o + (w + 3))) (C := RX2) (T := TX2) (N := 8) hx hb hts hinX2 hown hK.1 hB w hw.1 rfl 2 (by decide) (hts (.fieldLink RX2 18 "RiverMeeting$Side" "bed" "[Z") (List.mem_of_getElem? (i := 1) rfl)) (fun _ h9 => h9) rfl dX2_holds_8 ?_
    refine lv_iload_n hx hb dX2_holds_11 rfl (lv_at hl 1 rfl) ?_
    refine b_zald hx hb hK.1 hB (w + 3) hw.2.2.2 (fits_in (hr1 ▸ c2)) dX2_holds_12 ?_
    refine lv_if_eq (tgt := 20) hx hb dX2_holds_13 (by decide) (fun c4 => ?_) (fun c4 => ?_)
    · refine lv_iconst (v := 0) hx hb dX2_holds_20 (by decide) ?_
      have e5 := p_X2_holds_e5 M w x1 r1 hr1.symm c2 c4
      exact b_zret hx hb hr rfl hlocks hS ⟨_, rfl, e5.symm⟩ dX2_holds_21
    · refine lv_iconst (v := 1) hx hb dX2_holds_16 (by decide) ?_
      refine lv_goto (tgt := 21) hx hb dX2_holds_17 (by decide) ?_
      have e6 := p_X2_holds_e6 M w x1 r1 hr1.symm c2 c4
      exact b_zret hx hb hr rfl hlocks hS ⟨_, rfl, e6.symm⟩ dX2_holds_21
def f_X2_costOf (M : bM) (w : Nat) (x1 : Int32) : Int32 := (if x1 < 0 then 0 else (if 64 ≤ x1 then 0 else (M (w + 1) x1.toNatClampNeg)))
theorem u_f_X2_costOf (M : bM) (w : Nat) (x1 : Int32) : f_X2_costOf M w x1 = (if x1 < 0 then 0 else (if 64 ≤ x1 then 0 else (M (w + 1) x1.toNatClampNeg))) := rfl
theorem p_X2_costOf_e2 (M : bM) (w : Nat) (x1 : Int32) (c1 : x1 < 0) : f_X2_costOf M w x1 = 0 := by exact Eq.trans (u_f_X2_costOf M w x1) (if_pos c1)
theorem p_X2_costOf_e4 (M : bM) (w : Nat) (x1 : Int32) (c1 : ¬ x1 < 0) (c3 : 64 ≤ x1) : f_X2_costOf M w x1 = 0 := by exact Eq.trans (u_f_X2_costOf M w x1) (Eq.trans (if_neg c1) (if_pos c3))
theorem p_X2_costOf_e5 (M : bM) (w : Nat) (x1 : Int32) (c1 : ¬ x1 < 0) (c3 : ¬ 64 ≤ x1) : f_X2_costOf M w x1 = (M (w + 1) x1.toNatClampNeg) := by exact Eq.trans (u_f_X2_costOf M w x1) (Eq.trans (if_neg c1) (if_neg c3))
set_option maxHeartbeats 4000000 in
set_option maxRecDepth 100000 in
theorem c_X2_costOf (l : Launch) (D : va_G) (E : Nat → ClassId) (o : Nat) (M : bM) (w : Nat) (x1 : Int32) (hw : isS w) : Met l yX2_costOf wsX2_costOf (rmF 0) (bPc D E [.ref (o + w), .int x1] (fun H => bk D E LRM o M H)) (bQ (aI fun r _ => r = f_X2_costOf M w x1) bNo) 0 0 bNo := by
  refine Met.ofW (cc := cX2_costOf) (maxL := 2) (ret := (some .int)) (by decide) rfl ?_
  intro p e s m args below meth c s₁ B hml hv
  obtain ⟨rfl, hB, hK⟩ := hv
  have hx := B.exec
  have hb := B.bytes
  have hr := B.returns
  have hts := atoms_spec (ws := wsX2_costOf) B.pre
  have hown : s.vm.findClass RX2 = some m.cls := findClass_of_methodNamed B.named
  have hlocks := B.notSynchronized
  have hS : bS bNo s.heap s.heap [] := bS.rf
  have hl := lv_entry ([.ref (o + w), .int x1]) (n := 2) (Nat.le_of_ble_eq_true rfl)
  rw [lg_entry_eq]
  generalize (lg_sl ([.ref (o + w), .int x1]) ++ List.replicate (2 - (lg_sl ([.ref (o + w), .int x1])).length) Slot.unset).toArray = ls at hl ⊢
  have hl : lv_has ls 2 [(0, .ref (o + w)), (1, .int x1)] := hl
  have hB : bk D E LRM o M s.heap := hB
  have hinX2 : ∀ w ∈ wsX20, w ∈ wsX2_costOf := by decide +kernel
  refine lv_iload_n hx hb dX2_costOf_0 rfl (lv_at hl 1 rfl) ?_
  refine lv_if_lt (tgt := 19) hx hb dX2_costOf_1 (by decide) (fun c1 => ?_) (fun c1 => ?_)
  · refine lv_iconst (v := 0) hx hb dX2_costOf_19 (by decide) ?_
    have e2 := p_X2_costOf_e2 M w x1 c1
    exact b_iret hx hb hr hlocks hS ⟨_, rfl, e2.symm⟩ dX2_costOf_20
  · refine lv_iload_n hx hb dX2_costOf_4 rfl (lv_at hl 1 rfl) ?_
    refine lv_bipush (v := 64) hx hb dX2_costOf_5 (by decide) ?_
    refine lv_icmp_ge (tgt := 19) hx hb dX2_costOf_7 (by decide) (fun c3 => ?_) (fun c3 => ?_)
    · refine lv_iconst (v := 0) hx hb dX2_costOf_19 (by decide) ?_
      have e4 := p_X2_costOf_e4 M w x1 c1 c3
      exact b_iret hx hb hr hlocks hS ⟨_, rfl, e4.symm⟩ dX2_costOf_20
    · refine lv_aload_n hx hb dX2_costOf_10 rfl (lv_at hl 0 rfl) ?_
      refine b_get (D := D) (E := E) (L := LRM) (o := o) (M := M) (v := .ref (o + (w + 1))) (C := RX2) (T := TX2) (N := 8) hx hb hts hinX2 hown hK.1 hB w hw.1 rfl 0 (by decide) (hts (.fieldLink RX2 9 "RiverMeeting$Side" "costs" "[I") (List.mem_of_getElem? (i := 1) rfl)) (fun _ h9 => h9) rfl dX2_costOf_11 ?_
      refine lv_iload_n hx hb dX2_costOf_14 rfl (lv_at hl 1 rfl) ?_
      refine b_iald hx hb hK.1 hB (w + 1) hw.2.1 (in_of (N := 64) rfl (by decide) c1 c3) dX2_costOf_15 ?_
      refine lv_goto (tgt := 20) hx hb dX2_costOf_16 (by decide) ?_
      have e5 := p_X2_costOf_e5 M w x1 c1 c3
      exact b_iret hx hb hr hlocks hS ⟨_, rfl, e5.symm⟩ dX2_costOf_20
