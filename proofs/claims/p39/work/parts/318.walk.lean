set_option maxHeartbeats 4000000 in
set_option maxRecDepth 100000 in
theorem s_X12_markAt_1 (l : Launch) (D : va_G) (k : Nat → ClassId) (T : zTy) (x_0 : Int32) (h_x_0 : 0 ≤ Int32.toInt x_0 ∧ Int32.toInt x_0 ≤ 399) : zMi l yX12_markAt cX12_markAt 1 (some .int) ({ frames := 0, cells := 0, slots := 0, locals := 0 }) D k T [.int x_0] [] (fun r u => u.1 = 0 ∧ Int32.toInt r = 8 * Int32.toInt x_0 + 3780) (fun u => []) := by
  refine zMi_of (own := RX12) (by decide +kernel) rfl (Nat.le_of_ble_eq_true rfl) ?_
  intro p e s m args below meth c A ls C0 hr hlk hin hP hD hS hA hK hN hT hl
  have hx := C0.1
  have hb := C0.2.1
  have hml := C0.2.2.1
  have hown := C0.2.2.2.1
  have hts := C0.2.2.2.2
  have hl : lv_has ls 1 [(0, .int x_0)] := hl
  have hP : va_P D vwCl [] s.heap := hP
  refine lv_sipush (v := 3780) hx hb dX12_markAt_0 (by decide) ?_
  refine lv_bipush (v := 8) hx hb dX12_markAt_3 (by decide) ?_
  refine lv_iload_n hx hb dX12_markAt_5 rfl (lv_at hl 0 rfl) ?_
  refine lv_imul hx hb dX12_markAt_6 ?_
  refine lv_topi (fun y1 ey1 => ?_)
  have hy1 : Int32.toInt y1 = 8 * Int32.toInt x_0 := by rw [ey1]; exact zi_mulc (by decide) rfl (by first | with_reducible exact h_x_0 | (revert h_x_0; first | omega | (simp only [vp_in_iff, Int32.lt_iff_toInt_lt, Int32.le_iff_toInt_le, Int64.lt_iff_toInt_lt, Int64.le_iff_toInt_le, Int32.toInt_toInt64, ← Int32.toInt_inj, ← Int64.toInt_inj, Int32.reduceToInt, Int64.reduceToInt] <;> omega)))
  refine lv_iadd hx hb dX12_markAt_7 ?_
  refine lv_topi (fun y2 ey2 => ?_)
  have hy2 : Int32.toInt y2 = 3780 + Int32.toInt y1 := by rw [ey2]; exact zi_addc (by decide) rfl (by revert h_x_0 hy1; first | omega | (simp only [vp_in_iff, Int32.lt_iff_toInt_lt, Int32.le_iff_toInt_le, Int64.lt_iff_toInt_lt, Int64.le_iff_toInt_le, Int32.toInt_toInt64, ← Int32.toInt_inj, ← Int64.toInt_inj, Int32.reduceToInt, Int64.reduceToInt] <;> omega))
  exact z_iret C0 hr hlk rfl hK hP hD hS (0, fun _ => 0, fun _ => 0, fun _ => 0, fun _ => (fun _ => 0), fun _ => (fun _ => 0), fun _ => (fun _ => none)) ⟨rfl, (by revert h_x_0 hy1 hy2; first | omega | (simp only [vp_in_iff, Int32.lt_iff_toInt_lt, Int32.le_iff_toInt_le, Int64.lt_iff_toInt_lt, Int64.le_iff_toInt_le, Int32.toInt_toInt64, ← Int32.toInt_inj, ← Int64.toInt_inj, Int32.reduceToInt, Int64.reduceToInt] <;> omega))⟩ [] rfl rfl rfl dX12_markAt_8

