theorem gR_ext {r r' : Nat → Int32} (h : gR r) (e : ∀ j, j < 404 → r' j = r j) : gR r' := by
  obtain ⟨m, hm, hX⟩ := h
  obtain ⟨x, y, n10, n15, nx, ny⟩ := gR_paid (r' := r) (by omega) hX
  have hX' := hX
  obtain ⟨s8, s9⟩ := gX_set hX
  obtain ⟨a, b, x0, y0, ⟨⟨n3, n2, n1, n4⟩, ⟨n14, n19, na, nb'⟩, _⟩, ⟨c1, c2, c3, c8, c9⟩, ⟨m1, m2, m3⟩, l⟩ := hX'
  have hmk : ∀ c v, c < 64 → (mkIs r' c v ↔ mkIs r c v) := fun c v hc => by
    unfold mkIs; rw [e (212 + c) (by omega)]
  refine ⟨m, hm, a, b, x, y, ⟨⟨?_, ?_, ?_, ?_⟩, ⟨?_, ?_, na, nb'⟩, ⟨?_, ?_, nx, ny⟩⟩, ⟨fun i hi' => ?_, fun i hi' => ?_, fun i hi' => ?_, ?_, ?_⟩, ⟨fun c hc => ?_, ?_, ?_⟩, ?_⟩
  · rw [e _ (by omega)]; exact n3
  · rw [e _ (by omega)]; exact n2
  · unfold phI at n1 ⊢
    rw [e 1 (by omega), e 4 (by omega)]; exact n1
  · rw [e 4 (by omega)]; exact n4
  · rw [e _ (by omega)]; exact n14
  · rw [e _ (by omega)]; exact n19
  · rw [e _ (by omega)]; exact n10
  · rw [e _ (by omega)]; exact n15
  · rw [e _ (by omega)]; exact c1 i hi'
  · rw [e _ (by omega)]; exact c2 i hi'
  · rw [e _ (by omega)]; exact c3 i hi'
  · rw [e _ (by omega)]; exact s8
  · rw [e _ (by omega)]; exact s9
  · obtain ⟨v, hv⟩ := m1 c hc
    exact ⟨v, (hmk c v hc).mpr hv⟩
  · obtain ⟨h', v, hh, e1, e2, e3⟩ := m2
    exact ⟨h', v, hh, by rw [e _ (by omega)]; exact e1, (hmk h' v hh).mpr e2, e3⟩
  · obtain ⟨h', v, hh, e1, e2, e3⟩ := m3
    exact ⟨h', v, hh, by rw [e _ (by omega)]; exact e1, (hmk h' v hh).mpr e2, e3⟩
  · intro e4 c v hc hv
    rw [e 4 (by omega)] at e4
    exact l e4 c v hc ((hmk c v hc).mp hv)
def lp_X7_simulate_48  : Nat → Nat → Int32 → Int64 → bM → (Int32 × Int64 × bM)
  | 0, i21, x22, x23, M24 => (x22, x23, M24)
  | n21 + 1, i21, x22, x23, M24 => (let r28 : Int32 := f_X7_isUnderWay M24 3; (let x29 : Int64 := ((x23 * 6364136223846793005) + 1442695040888963407); (let x30 : Int32 := ((x29.toUInt64 >>> ((33 : Int32).toInt64.toUInt64 &&& Int64.toUInt64 63)).toInt64).toInt32; (let M31 : bM := f_X7_turnOf M24 3 (x30 - x30 / 8 * 8) (x30 / 8); (if r28 = 0 then (let x33 : Int32 := (x22 + 0); lp_X7_simulate_48 n21 (i21 + 1) x33 x29 M31) else (if (M31 3 1) = 2 then (let x38 : Int32 := (x22 + 1); lp_X7_simulate_48 n21 (i21 + 1) x38 x29 M31) else (let x36 : Int32 := (x22 + 0); lp_X7_simulate_48 n21 (i21 + 1) x36 x29 M31)))))))
theorem u0_lp_X7_simulate_48  (i21 : Nat) (x22 : Int32) (x23 : Int64) (M24 : bM) : lp_X7_simulate_48 0 i21 x22 x23 M24 = (x22, x23, M24) := rfl
theorem u1_lp_X7_simulate_48  (n21 i21 : Nat) (x22 : Int32) (x23 : Int64) (M24 : bM) : lp_X7_simulate_48 (n21 + 1) i21 x22 x23 M24 = (let r28 : Int32 := f_X7_isUnderWay M24 3; (let x29 : Int64 := ((x23 * 6364136223846793005) + 1442695040888963407); (let x30 : Int32 := ((x29.toUInt64 >>> ((33 : Int32).toInt64.toUInt64 &&& Int64.toUInt64 63)).toInt64).toInt32; (let M31 : bM := f_X7_turnOf M24 3 (x30 - x30 / 8 * 8) (x30 / 8); (if r28 = 0 then (let x33 : Int32 := (x22 + 0); lp_X7_simulate_48 n21 (i21 + 1) x33 x29 M31) else (if (M31 3 1) = 2 then (let x38 : Int32 := (x22 + 1); lp_X7_simulate_48 n21 (i21 + 1) x38 x29 M31) else (let x36 : Int32 := (x22 + 0); lp_X7_simulate_48 n21 (i21 + 1) x36 x29 M31))))))) := rfl
def f_X7_simulate (M : bM) (x1 : Int64) (x2 : Int32) : Int32 × bM := (let r11 : Int32 := f_X7_in x2.toInt64 1 200; (if r11 = 0 then (let r14 : Int32 := (f_X7_refused M 1).1; (let M13 : bM := (f_X7_refused M 1).2; (0, M13))) else (let r18 : Int32 := (f_X7_refused M 0).1; (let M17 : bM := (f_X7_refused M 0).2; (let M20 : bM := f_X7_copyState M17 2 404 0 3 404 0; (let x40 : Int32 := (lp_X7_simulate_48 x2.toNatClampNeg 0 0 x1 M20).1; (let x41 : Int64 := (lp_X7_simulate_48 x2.toNatClampNeg 0 0 x1 M20).2.1; (let M42 : bM := (lp_X7_simulate_48 x2.toNatClampNeg 0 0 x1 M20).2.2; (let r43 : Int32 := f_X7_of M42 3 0 4; (let r44 : Int32 := f_X7_of M42 3 1 4; ((((((10000 : Int32) * ((M42 3 0) - (M42 2 0))) + ((100 : Int32) * x40)) + r43) + r44), M42)))))))))))
theorem u_f_X7_simulate (M : bM) (x1 : Int64) (x2 : Int32) : f_X7_simulate M x1 x2 = (let r11 : Int32 := f_X7_in x2.toInt64 1 200; (if r11 = 0 then (let r14 : Int32 := (f_X7_refused M 1).1; (let M13 : bM := (f_X7_refused M 1).2; (0, M13))) else (let r18 : Int32 := (f_X7_refused M 0).1; (let M17 : bM := (f_X7_refused M 0).2; (let M20 : bM := f_X7_copyState M17 2 404 0 3 404 0; (let x40 : Int32 := (lp_X7_simulate_48 x2.toNatClampNeg 0 0 x1 M20).1; (let x41 : Int64 := (lp_X7_simulate_48 x2.toNatClampNeg 0 0 x1 M20).2.1; (let M42 : bM := (lp_X7_simulate_48 x2.toNatClampNeg 0 0 x1 M20).2.2; (let r43 : Int32 := f_X7_of M42 3 0 4; (let r44 : Int32 := f_X7_of M42 3 1 4; ((((((10000 : Int32) * ((M42 3 0) - (M42 2 0))) + ((100 : Int32) * x40)) + r43) + r44), M42))))))))))) := rfl
