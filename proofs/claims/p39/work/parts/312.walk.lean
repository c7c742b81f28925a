set_option maxHeartbeats 4000000 in
set_option maxRecDepth 100000 in
theorem s_X12_in_1 (l : Launch) (D : va_G) (k : Nat → ClassId) (T : zTy) (g_0 : Int64) (g_1 : Int64) (g_2 : Int64) : zMi l yX12_in cX12_in 6 (some .boolean) ({ frames := 0, cells := 0, slots := 0, locals := 0 }) D k T [.long g_0, .long g_1, .long g_2] [] (fun r u => (u.1 = 0 ∧ r = 0 ∧ ((g_0 < g_1) ∨ (¬ g_0 < g_1 ∧ g_2 < g_0))) ∨ (u.1 = 1 ∧ r = 1 ∧ ((¬ g_0 < g_1 ∧ ¬ g_2 < g_0)))) (fun u => []) := by
  refine zMi_of (own := RX12) (by decide +kernel) rfl (Nat.le_of_ble_eq_true rfl) ?_
  intro p e s m args below meth c A ls C0 hr hlk hin hP hD hS hA hK hN hT hl
  have hx := C0.1
  have hb := C0.2.1
  have hml := C0.2.2.1
  have hown := C0.2.2.2.1
  have hts := C0.2.2.2.2
  have hl : lv_has ls 6 [(0, .long g_0), (2, .long g_1), (4, .long g_2)] := hl
  have hP : va_P D vwCl [] s.heap := hP
  refine lv_lload_n hx hb dX12_in_0 rfl (lv_at hl 0 rfl) ?_
  refine lv_lload_n hx hb dX12_in_1 rfl (lv_at hl 1 rfl) ?_
  refine W.lcmp hx hb dX12_in_2 ?_
  refine lv_if_lt (tgt := 17) hx hb dX12_in_3 (by decide) (fun c1 => ?_) (fun c1 => ?_)
  · have c1 : g_0 < g_1 := (lg_clt _ _).mp c1
    refine lv_iconst (v := 0) hx hb dX12_in_17 (by decide) ?_
    exact z_iret C0 hr hlk rfl hK hP hD hS (0, fun _ => 0, fun _ => 0, fun _ => 0, fun _ => (fun _ => 0), fun _ => (fun _ => 0), fun _ => (fun _ => none)) (Or.inl ⟨rfl, rfl, (Or.inl c1)⟩) [] rfl rfl rfl dX12_in_18
  · have c1 : ¬ g_0 < g_1 := fun q => c1 ((lg_clt _ _).mpr q)
    refine lv_lload_n hx hb dX12_in_6 rfl (lv_at hl 0 rfl) ?_
    refine lv_lload hx hb dX12_in_7 (lv_at hl 2 rfl) ?_
    refine W.lcmp hx hb dX12_in_9 ?_
    refine lv_if_gt (tgt := 17) hx hb dX12_in_10 (by decide) (fun c2 => ?_) (fun c2 => ?_)
    · have c2 : g_2 < g_0 := (lg_cgt _ _).mp c2
      refine lv_iconst (v := 0) hx hb dX12_in_17 (by decide) ?_
      exact z_iret C0 hr hlk rfl hK hP hD hS (0, fun _ => 0, fun _ => 0, fun _ => 0, fun _ => (fun _ => 0), fun _ => (fun _ => 0), fun _ => (fun _ => none)) (Or.inl ⟨rfl, rfl, (Or.inr (⟨c1, c2⟩))⟩) [] rfl rfl rfl dX12_in_18
    · have c2 : ¬ g_2 < g_0 := fun q => c2 ((lg_cgt _ _).mpr q)
      refine lv_iconst (v := 1) hx hb dX12_in_13 (by decide) ?_
      refine lv_goto (tgt := 18) hx hb dX12_in_14 (by decide) ?_
      exact z_iret C0 hr hlk rfl hK hP hD hS (1, fun _ => 0, fun _ => 0, fun _ => 0, fun _ => (fun _ => 0), fun _ => (fun _ => 0), fun _ => (fun _ => none)) (Or.inr (⟨rfl, rfl, ⟨c1, c2⟩⟩)) [] rfl rfl rfl dX12_in_18

set_option maxHeartbeats 4000000 in
set_option maxRecDepth 100000 in
theorem s_X12_told_1 (l : Launch) (D : va_G) (k : Nat → ClassId) (T : zTy) (q_0 : Nat) (q_1 : Nat) (q_2 : Nat) (q_3 : Nat) (q_4 : Nat) (q_5 : Nat) (q_6 : Nat) (q_7 : Nat) (q_8 : Nat) (q_9 : Nat) (q_10 : Nat) (q_11 : Nat) (q_12 : Nat) (q_13 : Nat) (q_14 : Nat) (q_15 : Nat) (q_16 : Nat) (q_17 : Nat) (q_18 : Nat) (q_19 : Nat) (q_20 : Nat) (q_21 : Nat) (q_22 : Nat) (q_23 : Nat) (q_24 : Nat) (q_25 : Nat) (x_0 : Int32) (x_1 : Int32) (x_2 : Int32) (x_3 : Int32) (x_4 : Int32) (x_5 : Int32) (x_6 : Int32) (x_7 : Int32) (g_8 : Int64) (x_9 : Int32) (x_10 : Int32) (x_11 : Int32) (x_12 : Int32) (x_13 : Int32) (x_14 : Int32) (x_15 : Int32) (x_16 : Int32) (g_17 : Int64) (g_18 : Int64) (x_19 : Int32) (x_20 : Int32) (x_21 : Int32) (x_22 : Int32) (x_23 : Int32) (x_24 : Int32) (x_25 : Int32) (x_26 : Int32) (x_27 : Int32) (x_28 : Int32) (x_29 : Int32) (x_30 : Int32) (x_31 : Int32) (h_x_4 : 0 ≤ Int32.toInt x_4 ∧ Int32.toInt x_4 ≤ 400) (h_x_5 : 0 ≤ Int32.toInt x_5 ∧ Int32.toInt x_5 ≤ 400) (h_x_6 : 0 ≤ Int32.toInt x_6 ∧ Int32.toInt x_6 ≤ 400) (h_x_7 : 0 ≤ Int32.toInt x_7 ∧ Int32.toInt x_7 ≤ 3) (h_x_10 : 0 ≤ Int32.toInt x_10 ∧ Int32.toInt x_10 ≤ 1) (h_x_11 : 0 ≤ Int32.toInt x_11 ∧ Int32.toInt x_11 ≤ 12) (h_x_12 : 0 ≤ Int32.toInt x_12 ∧ Int32.toInt x_12 ≤ 400) (h_x_13 : 0 ≤ Int32.toInt x_13 ∧ Int32.toInt x_13 ≤ 50) (h_x_14 : 0 ≤ Int32.toInt x_14 ∧ Int32.toInt x_14 ≤ 400) (h_x_16 : 0 ≤ Int32.toInt x_16 ∧ Int32.toInt x_16 ≤ 1) (h_x_19 : 0 ≤ Int32.toInt x_19 ∧ Int32.toInt x_19 ≤ 400) (h_x_21 : 0 ≤ Int32.toInt x_21 ∧ Int32.toInt x_21 ≤ 400) (h_x_22 : 0 ≤ Int32.toInt x_22 ∧ Int32.toInt x_22 ≤ 400) (h_x_24 : 0 ≤ Int32.toInt x_24 ∧ Int32.toInt x_24 ≤ 1) (h_x_25 : 0 ≤ Int32.toInt x_25 ∧ Int32.toInt x_25 ≤ 6) : zMi l yX12_told cX12_told 2 (some .int) ({ frames := 0, cells := 0, slots := 0, locals := 0 }) D k T [.ref q_0, .int x_0] [(q_0, .inr (12, [.int x_1, .int x_2, .ref q_1, .ref q_2, .ref q_3, .int x_3, .ref q_4, .ref q_5, .ref q_6, .ref q_7, .ref q_8, .int x_4, .int x_5, .int x_6, .int x_7, .long g_8, .int x_9, .int x_10, .int x_11, .ref q_9, .int x_12, .ref q_10, .ref q_11, .int x_13, .ref q_12, .ref q_13, .int x_14, .int x_15, .ref q_14, .ref q_15, .ref q_16, .ref q_17, .int x_16, .long g_17, .long g_18, .int x_19, .int x_20, .int x_21, .int x_22, .ref q_18, .ref q_19, .int x_23, .int x_24, .int x_25, .int x_26, .ref q_20, .ref q_21, .int x_27, .int x_28, .ref q_22, .ref q_23, .ref q_24, .ref q_25, .int x_29, .int x_30, .int x_31]))] (fun r u => u.1 = 0 ∧ x_0 = r) (fun u => [(q_0, .inr (12, [.int x_1, .int (u.2.2.1 0), .ref q_1, .ref q_2, .ref q_3, .int x_3, .ref q_4, .ref q_5, .ref q_6, .ref q_7, .ref q_8, .int x_4, .int x_5, .int x_6, .int x_7, .long g_8, .int x_9, .int x_10, .int x_11, .ref q_9, .int x_12, .ref q_10, .ref q_11, .int x_13, .ref q_12, .ref q_13, .int x_14, .int x_15, .ref q_14, .ref q_15, .ref q_16, .ref q_17, .int x_16, .long g_17, .long g_18, .int x_19, .int x_20, .int x_21, .int x_22, .ref q_18, .ref q_19, .int x_23, .int x_24, .int x_25, .int x_26, .ref q_20, .ref q_21, .int x_27, .int x_28, .ref q_22, .ref q_23, .ref q_24, .ref q_25, .int x_29, .int x_30, .int x_31]))]) := by
  refine zMi_of (own := RX12) (by decide +kernel) rfl (Nat.le_of_ble_eq_true rfl) ?_
  intro p e s m args below meth c A ls C0 hr hlk hin hP hD hS hA hK hN hT hl
  have hx := C0.1
  have hb := C0.2.1
  have hml := C0.2.2.1
  have hown := C0.2.2.2.1
  have hts := C0.2.2.2.2
  have hl : lv_has ls 2 [(0, .ref q_0), (1, .int x_0)] := hl
  have hP : va_P D vwCl [(q_0, .inr (12, [.int x_1, .int x_2, .ref q_1, .ref q_2, .ref q_3, .int x_3, .ref q_4, .ref q_5, .ref q_6, .ref q_7, .ref q_8, .int x_4, .int x_5, .int x_6, .int x_7, .long g_8, .int x_9, .int x_10, .int x_11, .ref q_9, .int x_12, .ref q_10, .ref q_11, .int x_13, .ref q_12, .ref q_13, .int x_14, .int x_15, .ref q_14, .ref q_15, .ref q_16, .ref q_17, .int x_16, .long g_17, .long g_18, .int x_19, .int x_20, .int x_21, .int x_22, .ref q_18, .ref q_19, .int x_23, .int x_24, .int x_25, .int x_26, .ref q_20, .ref q_21, .int x_27, .int x_28, .ref q_22, .ref q_23, .ref q_24, .ref q_25, .int x_29, .int x_30, .int x_31]))] s.heap := hP
  refine lv_aload_n hx hb dX12_told_0 rfl (lv_at hl 0 rfl) ?_
  refine lv_iload_n hx hb dX12_told_1 rfl (lv_at hl 1 rfl) ?_
  refine lv_if_ge (tgt := 9) hx hb dX12_told_2 (by decide) (fun c1 => ?_) (fun c1 => ?_)
  · refine lv_iconst (v := 0) hx hb dX12_told_9 (by decide) ?_
    refine va_put (D := D) (ci := 12) (v := .int 0) (ty := .int) (C := RX12) (T := TX12) (N := 56) hx hb hts inX12 tyX12 tyX12_ok nmX12 hown hK hP hD hS 0 rfl rfl 1 (by decide) (hts _ kF_X12_95) (fun _ h9 => h9) rfl (by decide +kernel) rfl rfl (Nat.le_of_ble_eq_true rfl) dX12_told_10 (fun H locs hP hD hS => ?_)
    have hP : va_P D vwCl [(q_0, .inr (12, [.int x_1, .int 0, .ref q_1, .ref q_2, .ref q_3, .int x_3, .ref q_4, .ref q_5, .ref q_6, .ref q_7, .ref q_8, .int x_4, .int x_5, .int x_6, .int x_7, .long g_8, .int x_9, .int x_10, .int x_11, .ref q_9, .int x_12, .ref q_10, .ref q_11, .int x_13, .ref q_12, .ref q_13, .int x_14, .int x_15, .ref q_14, .ref q_15, .ref q_16, .ref q_17, .int x_16, .long g_17, .long g_18, .int x_19, .int x_20, .int x_21, .int x_22, .ref q_18, .ref q_19, .int x_23, .int x_24, .int x_25, .int x_26, .ref q_20, .ref q_21, .int x_27, .int x_28, .ref q_22, .ref q_23, .ref q_24, .ref q_25, .int x_29, .int x_30, .int x_31]))] H := hP
    have hD : va_D A [(q_0, .inr (12, [.int x_1, .int 0, .ref q_1, .ref q_2, .ref q_3, .int x_3, .ref q_4, .ref q_5, .ref q_6, .ref q_7, .ref q_8, .int x_4, .int x_5, .int x_6, .int x_7, .long g_8, .int x_9, .int x_10, .int x_11, .ref q_9, .int x_12, .ref q_10, .ref q_11, .int x_13, .ref q_12, .ref q_13, .int x_14, .int x_15, .ref q_14, .ref q_15, .ref q_16, .ref q_17, .int x_16, .long g_17, .long g_18, .int x_19, .int x_20, .int x_21, .int x_22, .ref q_18, .ref q_19, .int x_23, .int x_24, .int x_25, .int x_26, .ref q_20, .ref q_21, .int x_27, .int x_28, .ref q_22, .ref q_23, .ref q_24, .ref q_25, .int x_29, .int x_30, .int x_31]))] := hD
    refine lv_iload_n hx hb dX12_told_13 rfl (lv_at hl 1 rfl) ?_
    exact z_iret C0 hr hlk rfl hK hP hD hS (0, fun _ => 0, fun i => [0].getD i 0, fun _ => 0, fun _ => (fun _ => 0), fun _ => (fun _ => 0), fun _ => (fun _ => none)) ⟨rfl, rfl⟩ [0] rfl rfl rfl dX12_told_14
  · refine lv_iload_n hx hb dX12_told_5 rfl (lv_at hl 1 rfl) ?_
    refine lv_goto (tgt := 10) hx hb dX12_told_6 (by decide) ?_
    refine va_put (D := D) (ci := 12) (v := .int x_0) (ty := .int) (C := RX12) (T := TX12) (N := 56) hx hb hts inX12 tyX12 tyX12_ok nmX12 hown hK hP hD hS 0 rfl rfl 1 (by decide) (hts _ kF_X12_95) (fun _ h9 => h9) rfl (by decide +kernel) rfl rfl (Nat.le_of_ble_eq_true rfl) dX12_told_10 (fun H locs hP hD hS => ?_)
    have hP : va_P D vwCl [(q_0, .inr (12, [.int x_1, .int x_0, .ref q_1, .ref q_2, .ref q_3, .int x_3, .ref q_4, .ref q_5, .ref q_6, .ref q_7, .ref q_8, .int x_4, .int x_5, .int x_6, .int x_7, .long g_8, .int x_9, .int x_10, .int x_11, .ref q_9, .int x_12, .ref q_10, .ref q_11, .int x_13, .ref q_12, .ref q_13, .int x_14, .int x_15, .ref q_14, .ref q_15, .ref q_16, .ref q_17, .int x_16, .long g_17, .long g_18, .int x_19, .int x_20, .int x_21, .int x_22, .ref q_18, .ref q_19, .int x_23, .int x_24, .int x_25, .int x_26, .ref q_20, .ref q_21, .int x_27, .int x_28, .ref q_22, .ref q_23, .ref q_24, .ref q_25, .int x_29, .int x_30, .int x_31]))] H := hP
    have hD : va_D A [(q_0, .inr (12, [.int x_1, .int x_0, .ref q_1, .ref q_2, .ref q_3, .int x_3, .ref q_4, .ref q_5, .ref q_6, .ref q_7, .ref q_8, .int x_4, .int x_5, .int x_6, .int x_7, .long g_8, .int x_9, .int x_10, .int x_11, .ref q_9, .int x_12, .ref q_10, .ref q_11, .int x_13, .ref q_12, .ref q_13, .int x_14, .int x_15, .ref q_14, .ref q_15, .ref q_16, .ref q_17, .int x_16, .long g_17, .long g_18, .int x_19, .int x_20, .int x_21, .int x_22, .ref q_18, .ref q_19, .int x_23, .int x_24, .int x_25, .int x_26, .ref q_20, .ref q_21, .int x_27, .int x_28, .ref q_22, .ref q_23, .ref q_24, .ref q_25, .int x_29, .int x_30, .int x_31]))] := hD
    refine lv_iload_n hx hb dX12_told_13 rfl (lv_at hl 1 rfl) ?_
    exact z_iret C0 hr hlk rfl hK hP hD hS (0, fun _ => 0, fun i => [x_0].getD i 0, fun _ => 0, fun _ => (fun _ => 0), fun _ => (fun _ => 0), fun _ => (fun _ => none)) ⟨rfl, rfl⟩ [0] rfl rfl rfl dX12_told_14

set_option maxHeartbeats 4000000 in
set_option maxRecDepth 100000 in
theorem s_X12_childAt_1 (l : Launch) (D : va_G) (k : Nat → ClassId) (T : zTy) (x_0 : Int32) (h_x_0 : 0 ≤ Int32.toInt x_0 ∧ Int32.toInt x_0 ≤ 39) : zMi l yX12_childAt cX12_childAt 1 (some .int) ({ frames := 0, cells := 0, slots := 0, locals := 0 }) D k T [.int x_0] [] (fun r u => u.1 = 0 ∧ Int32.toInt r = 17 * Int32.toInt x_0 + 20) (fun u => []) := by
  refine zMi_of (own := RX12) (by decide +kernel) rfl (Nat.le_of_ble_eq_true rfl) ?_
  intro p e s m args below meth c A ls C0 hr hlk hin hP hD hS hA hK hN hT hl
  have hx := C0.1
  have hb := C0.2.1
  have hml := C0.2.2.1
  have hown := C0.2.2.2.1
  have hts := C0.2.2.2.2
  have hl : lv_has ls 1 [(0, .int x_0)] := hl
  have hP : va_P D vwCl [] s.heap := hP
  refine lv_bipush (v := 20) hx hb dX12_childAt_0 (by decide) ?_
  refine lv_bipush (v := 17) hx hb dX12_childAt_2 (by decide) ?_
  refine lv_iload_n hx hb dX12_childAt_4 rfl (lv_at hl 0 rfl) ?_
  refine lv_imul hx hb dX12_childAt_5 ?_
  refine lv_topi (fun y1 ey1 => ?_)
  have hy1 : Int32.toInt y1 = 17 * Int32.toInt x_0 := by rw [ey1]; exact zi_mulc (by decide) rfl (by first | with_reducible exact h_x_0 | (revert h_x_0; first | omega | (simp only [vp_in_iff, Int32.lt_iff_toInt_lt, Int32.le_iff_toInt_le, Int64.lt_iff_toInt_lt, Int64.le_iff_toInt_le, Int32.toInt_toInt64, ← Int32.toInt_inj, ← Int64.toInt_inj, Int32.reduceToInt, Int64.reduceToInt] <;> omega)))
  refine lv_iadd hx hb dX12_childAt_6 ?_
  refine lv_topi (fun y2 ey2 => ?_)
  have hy2 : Int32.toInt y2 = 20 + Int32.toInt y1 := by rw [ey2]; exact zi_addc (by decide) rfl (by revert h_x_0 hy1; first | omega | (simp only [vp_in_iff, Int32.lt_iff_toInt_lt, Int32.le_iff_toInt_le, Int64.lt_iff_toInt_lt, Int64.le_iff_toInt_le, Int32.toInt_toInt64, ← Int32.toInt_inj, ← Int64.toInt_inj, Int32.reduceToInt, Int64.reduceToInt] <;> omega))
  exact z_iret C0 hr hlk rfl hK hP hD hS (0, fun _ => 0, fun _ => 0, fun _ => 0, fun _ => (fun _ => 0), fun _ => (fun _ => 0), fun _ => (fun _ => none)) ⟨rfl, (by revert h_x_0 hy1 hy2; first | omega | (simp only [vp_in_iff, Int32.lt_iff_toInt_lt, Int32.le_iff_toInt_le, Int64.lt_iff_toInt_lt, Int64.le_iff_toInt_le, Int32.toInt_toInt64, ← Int32.toInt_inj, ← Int64.toInt_inj, Int32.reduceToInt, Int64.reduceToInt] <;> omega))⟩ [] rfl rfl rfl dX12_childAt_7

