set_option maxHeartbeats 4000000 in
set_option maxRecDepth 100000 in
theorem s_X12_isDay_1 (l : Launch) (D : va_G) (k : Nat → ClassId) (T : zTy) (x_0 : Int32) : zMi l yX12_isDay cX12_isDay 1 (some .boolean) ({ frames := 1, cells := 0, slots := 0, locals := 25 }) D k T [.int x_0] [] (fun r u => (u.1 = 0 ∧ r = 0 ∧ (((((Int32.toInt64 x_0) < 0) ∨ (¬ (Int32.toInt64 x_0) < 0 ∧ (399 : Int64) < (Int32.toInt64 x_0)))))) ∨ (u.1 = 1 ∧ r = 1 ∧ (0 ≤ Int32.toInt x_0 ∧ Int32.toInt x_0 ≤ 399) ∧ ((((¬ (Int32.toInt64 x_0) < 0 ∧ ¬ (399 : Int64) < (Int32.toInt64 x_0))))))) (fun u => []) := by
  refine zMi_of (own := RX12) (by decide +kernel) rfl (Nat.le_of_ble_eq_true rfl) ?_
  intro p e s m args below meth c A ls C0 hr hlk hin hP hD hS hA hK hN hT hl
  have hx := C0.1
  have hb := C0.2.1
  have hml := C0.2.2.1
  have hown := C0.2.2.2.1
  have hts := C0.2.2.2.2
  have hl : lv_has ls 1 [(0, .int x_0)] := hl
  have hP : va_P D vwCl [] s.heap := hP
  refine lv_iload_n hx hb dX12_isDay_0 rfl (lv_at hl 0 rfl) ?_
  refine lv_i2l (v := (Int32.toInt64 x_0)) hx hb dX12_isDay_1 rfl ?_
  refine lv_lconst (v := 0) hx hb dX12_isDay_2 (by decide) ?_
  refine lv_ldc2 hx hb hown (hts _ kL_X12_98) dX12_isDay_3 ?_
  refine z_bi0 (z_runS (As := [.long (Int32.toInt64 x_0), .long 0, .long 399]) (rest := []) C0 (s_X12_in_1 l D k T (Int32.toInt64 x_0) 0 399 _) okS_X12_in kM_X12_100 rfl (z_p0 hT hS hA hK hN) rfl hl.1 rfl (Nat.le_of_ble_eq_true rfl) dX12_isDay_6 rfl) hP hS hA (fun r1 u1 H locs hw1 hP hS => ?_)
  obtain ⟨i1, a1, v1, w1, f1, g1, o1⟩ := u1
  dsimp only at hw1
  rcases hw1 with ⟨rfl, rfl, c1⟩ | ⟨rfl, rfl, c1⟩
  · exact z_iret C0 hr hlk rfl hK hP hD hS (0, fun _ => 0, fun _ => 0, fun _ => 0, fun _ => (fun _ => 0), fun _ => (fun _ => 0), fun _ => (fun _ => none)) (Or.inl ⟨rfl, rfl, c1⟩) [] rfl rfl rfl dX12_isDay_9
  · exact z_iret C0 hr hlk rfl hK hP hD hS (1, fun _ => 0, fun _ => 0, fun _ => 0, fun _ => (fun _ => 0), fun _ => (fun _ => 0), fun _ => (fun _ => none)) (Or.inr (⟨rfl, rfl, (show 0 ≤ Int32.toInt x_0 ∧ Int32.toInt x_0 ≤ 399 from (by revert c1; first | (simp only [vp_in_iff, Int32.lt_iff_toInt_lt, Int32.le_iff_toInt_le, Int64.lt_iff_toInt_lt, Int64.le_iff_toInt_le, Int32.toInt_toInt64, ← Int32.toInt_inj, ← Int64.toInt_inj, Int32.reduceToInt, Int64.reduceToInt] <;> omega) | omega)), c1⟩)) [] rfl rfl rfl dX12_isDay_9

set_option maxHeartbeats 4000000 in
set_option maxRecDepth 100000 in
theorem s_X12_isSchool_1 (l : Launch) (D : va_G) (k : Nat → ClassId) (T : zTy) (q_0 : Nat) (q_1 : Nat) (q_2 : Nat) (q_3 : Nat) (q_4 : Nat) (q_5 : Nat) (q_6 : Nat) (q_7 : Nat) (q_8 : Nat) (q_9 : Nat) (q_10 : Nat) (q_11 : Nat) (q_12 : Nat) (q_13 : Nat) (q_14 : Nat) (q_15 : Nat) (q_16 : Nat) (q_17 : Nat) (q_18 : Nat) (q_19 : Nat) (q_20 : Nat) (q_21 : Nat) (q_22 : Nat) (q_23 : Nat) (q_24 : Nat) (q_25 : Nat) (x_0 : Int32) (x_1 : Int32) (x_2 : Int32) (x_3 : Int32) (x_4 : Int32) (x_5 : Int32) (x_6 : Int32) (x_7 : Int32) (g_8 : Int64) (x_9 : Int32) (x_10 : Int32) (x_11 : Int32) (x_12 : Int32) (x_13 : Int32) (x_14 : Int32) (x_15 : Int32) (x_16 : Int32) (g_17 : Int64) (g_18 : Int64) (x_19 : Int32) (x_20 : Int32) (x_21 : Int32) (x_22 : Int32) (x_23 : Int32) (x_24 : Int32) (x_25 : Int32) (x_26 : Int32) (x_27 : Int32) (x_28 : Int32) (x_29 : Int32) (x_30 : Int32) (x_31 : Int32) (f_32 : Nat → Int32) (h_x_4 : 0 ≤ Int32.toInt x_4 ∧ Int32.toInt x_4 ≤ 400) (h_x_5 : 0 ≤ Int32.toInt x_5 ∧ Int32.toInt x_5 ≤ 400) (h_x_6 : 0 ≤ Int32.toInt x_6 ∧ Int32.toInt x_6 ≤ 400) (h_x_7 : 0 ≤ Int32.toInt x_7 ∧ Int32.toInt x_7 ≤ 3) (h_x_10 : 0 ≤ Int32.toInt x_10 ∧ Int32.toInt x_10 ≤ 1) (h_x_11 : 0 ≤ Int32.toInt x_11 ∧ Int32.toInt x_11 ≤ 12) (h_x_12 : 0 ≤ Int32.toInt x_12 ∧ Int32.toInt x_12 ≤ 400) (h_x_13 : 0 ≤ Int32.toInt x_13 ∧ Int32.toInt x_13 ≤ 50) (h_x_14 : 0 ≤ Int32.toInt x_14 ∧ Int32.toInt x_14 ≤ 400) (h_x_16 : 0 ≤ Int32.toInt x_16 ∧ Int32.toInt x_16 ≤ 1) (h_x_19 : 0 ≤ Int32.toInt x_19 ∧ Int32.toInt x_19 ≤ 400) (h_x_21 : 0 ≤ Int32.toInt x_21 ∧ Int32.toInt x_21 ≤ 400) (h_x_22 : 0 ≤ Int32.toInt x_22 ∧ Int32.toInt x_22 ≤ 400) (h_x_24 : 0 ≤ Int32.toInt x_24 ∧ Int32.toInt x_24 ≤ 1) (h_x_25 : 0 ≤ Int32.toInt x_25 ∧ Int32.toInt x_25 ≤ 6) (h_f_32 : zRw f_32) : zMi l yX12_isSchool cX12_isSchool 2 (some .boolean) ({ frames := 1, cells := 0, slots := 0, locals := 25 }) D k T [.ref q_0, .int x_0] [(q_0, .inr (12, [.int x_1, .int x_2, .ref q_1, .ref q_2, .ref q_3, .int x_3, .ref q_4, .ref q_5, .ref q_6, .ref q_7, .ref q_8, .int x_4, .int x_5, .int x_6, .int x_7, .long g_8, .int x_9, .int x_10, .int x_11, .ref q_9, .int x_12, .ref q_10, .ref q_11, .int x_13, .ref q_12, .ref q_13, .int x_14, .int x_15, .ref q_14, .ref q_15, .ref q_16, .ref q_17, .int x_16, .long g_17, .long g_18, .int x_19, .int x_20, .int x_21, .int x_22, .ref q_18, .ref q_19, .int x_23, .int x_24, .int x_25, .int x_26, .ref q_20, .ref q_21, .int x_27, .int x_28, .ref q_22, .ref q_23, .ref q_24, .ref q_25, .int x_29, .int x_30, .int x_31])), (q_1, .inl (k 0, 27101, .inl f_32))] (fun r u => (u.1 = 0 ∧ r = 0) ∨ (u.1 = 1 ∧ r = 1 ∧ (0 ≤ Int32.toInt x_0 ∧ Int32.toInt x_0 ≤ 4))) (fun u => [(q_0, .inr (12, [.int x_1, .int x_2, .ref q_1, .ref q_2, .ref q_3, .int x_3, .ref q_4, .ref q_5, .ref q_6, .ref q_7, .ref q_8, .int x_4, .int x_5, .int x_6, .int x_7, .long g_8, .int x_9, .int x_10, .int x_11, .ref q_9, .int x_12, .ref q_10, .ref q_11, .int x_13, .ref q_12, .ref q_13, .int x_14, .int x_15, .ref q_14, .ref q_15, .ref q_16, .ref q_17, .int x_16, .long g_17, .long g_18, .int x_19, .int x_20, .int x_21, .int x_22, .ref q_18, .ref q_19, .int x_23, .int x_24, .int x_25, .int x_26, .ref q_20, .ref q_21, .int x_27, .int x_28, .ref q_22, .ref q_23, .ref q_24, .ref q_25, .int x_29, .int x_30, .int x_31])), (q_1, .inl (k 0, 27101, .inl f_32))]) := by
  refine zMi_of (own := RX12) (by decide +kernel) rfl (Nat.le_of_ble_eq_true rfl) ?_
  intro p e s m args below meth c A ls C0 hr hlk hin hP hD hS hA hK hN hT hl
  have hx := C0.1
  have hb := C0.2.1
  have hml := C0.2.2.1
  have hown := C0.2.2.2.1
  have hts := C0.2.2.2.2
  have hl : lv_has ls 2 [(0, .ref q_0), (1, .int x_0)] := hl
  have hP : va_P D vwCl [(q_0, .inr (12, [.int x_1, .int x_2, .ref q_1, .ref q_2, .ref q_3, .int x_3, .ref q_4, .ref q_5, .ref q_6, .ref q_7, .ref q_8, .int x_4, .int x_5, .int x_6, .int x_7, .long g_8, .int x_9, .int x_10, .int x_11, .ref q_9, .int x_12, .ref q_10, .ref q_11, .int x_13, .ref q_12, .ref q_13, .int x_14, .int x_15, .ref q_14, .ref q_15, .ref q_16, .ref q_17, .int x_16, .long g_17, .long g_18, .int x_19, .int x_20, .int x_21, .int x_22, .ref q_18, .ref q_19, .int x_23, .int x_24, .int x_25, .int x_26, .ref q_20, .ref q_21, .int x_27, .int x_28, .ref q_22, .ref q_23, .ref q_24, .ref q_25, .int x_29, .int x_30, .int x_31])), (q_1, .inl (k 0, 27101, .inl f_32))] s.heap := hP
  refine lv_iload_n hx hb dX12_isSchool_0 rfl (lv_at hl 1 rfl) ?_
  refine lv_i2l (v := (Int32.toInt64 x_0)) hx hb dX12_isSchool_1 rfl ?_
  refine lv_lconst (v := 0) hx hb dX12_isSchool_2 (by decide) ?_
  refine lv_aload_n hx hb dX12_isSchool_3 rfl (lv_at hl 0 rfl) ?_
  refine va_get (D := D) (ci := 12) (v := .ref q_1) (C := RX12) (T := TX12) (N := 56) hx hb hts inX12 hown hK hP 0 rfl rfl 2 (by decide) (hts _ kF_X12_7) (fun _ h9 => h9) rfl dX12_isSchool_4 ?_
  refine lv_iconst (v := 1) hx hb dX12_isSchool_7 (by decide) ?_
  refine va_iald hx hb hK hP 1 0 rfl rfl (by unfold vp_in; decide) dX12_isSchool_8 ?_
  refine lv_topi (fun y1 ey1 => ?_)
  have hy1 : 0 ≤ Int32.toInt y1 ∧ Int32.toInt y1 ≤ 5 := by rw [ey1]; exact zW_1 h_f_32
  refine lv_i2l (v := (Int32.toInt64 y1)) hx hb dX12_isSchool_9 rfl ?_
  refine lv_lconst (v := 1) hx hb dX12_isSchool_10 (by decide) ?_
  refine lv_lsub hx hb dX12_isSchool_11 ?_
  refine lv_topl (fun w2 ew2 => ?_)
  have hw2 : Int64.toInt w2 = Int64.toInt (Int32.toInt64 y1) - 1 := by rw [ew2]; exact zl_subc rfl (by decide) (by first | with_reducible exact hy1 | (revert hy1; first | omega | (simp only [vp_in_iff, Int32.lt_iff_toInt_lt, Int32.le_iff_toInt_le, Int64.lt_iff_toInt_lt, Int64.le_iff_toInt_le, Int32.toInt_toInt64, ← Int32.toInt_inj, ← Int64.toInt_inj, Int32.reduceToInt, Int64.reduceToInt] <;> omega)))
  refine z_bi0 (z_runS (As := [.long (Int32.toInt64 x_0), .long 0, .long w2]) (rest := []) C0 (s_X12_in_1 l D k T (Int32.toInt64 x_0) 0 w2 _) okS_X12_in kM_X12_100 rfl (z_p0 hT hS hA hK hN) rfl hl.1 rfl (Nat.le_of_ble_eq_true rfl) dX12_isSchool_12 rfl) hP hS hA (fun r3 u3 H locs hw3 hP hS => ?_)
  obtain ⟨i3, a3, v3, w3, f3, g3, o3⟩ := u3
  dsimp only at hw3
  rcases hw3 with ⟨rfl, rfl, c3⟩ | ⟨rfl, rfl, c3⟩
  · exact z_iret C0 hr hlk rfl hK hP hD hS (0, fun _ => 0, fun _ => 0, fun _ => 0, fun _ => (fun _ => 0), fun _ => (fun _ => 0), fun _ => (fun _ => none)) (Or.inl ⟨rfl, rfl⟩) [0, 1] rfl rfl rfl dX12_isSchool_15
  · exact z_iret C0 hr hlk rfl hK hP hD hS (1, fun _ => 0, fun _ => 0, fun _ => 0, fun _ => (fun _ => 0), fun _ => (fun _ => 0), fun _ => (fun _ => none)) (Or.inr (⟨rfl, rfl, (show 0 ≤ Int32.toInt x_0 ∧ Int32.toInt x_0 ≤ 4 from (by revert c3 hy1 hw2; first | (simp only [vp_in_iff, Int32.lt_iff_toInt_lt, Int32.le_iff_toInt_le, Int64.lt_iff_toInt_lt, Int64.le_iff_toInt_le, Int32.toInt_toInt64, ← Int32.toInt_inj, ← Int64.toInt_inj, Int32.reduceToInt, Int64.reduceToInt] <;> omega) | omega))⟩)) [0, 1] rfl rfl rfl dX12_isSchool_15

set_option maxHeartbeats 4000000 in
set_option maxRecDepth 100000 in
theorem s_X12_isChild_1 (l : Launch) (D : va_G) (k : Nat → ClassId) (T : zTy) (q_0 : Nat) (q_1 : Nat) (q_2 : Nat) (q_3 : Nat) (q_4 : Nat) (q_5 : Nat) (q_6 : Nat) (q_7 : Nat) (q_8 : Nat) (q_9 : Nat) (q_10 : Nat) (q_11 : Nat) (q_12 : Nat) (q_13 : Nat) (q_14 : Nat) (q_15 : Nat) (q_16 : Nat) (q_17 : Nat) (q_18 : Nat) (q_19 : Nat) (q_20 : Nat) (q_21 : Nat) (q_22 : Nat) (q_23 : Nat) (q_24 : Nat) (q_25 : Nat) (x_0 : Int32) (x_1 : Int32) (x_2 : Int32) (x_3 : Int32) (x_4 : Int32) (x_5 : Int32) (x_6 : Int32) (x_7 : Int32) (g_8 : Int64) (x_9 : Int32) (x_10 : Int32) (x_11 : Int32) (x_12 : Int32) (x_13 : Int32) (x_14 : Int32) (x_15 : Int32) (x_16 : Int32) (g_17 : Int64) (g_18 : Int64) (x_19 : Int32) (x_20 : Int32) (x_21 : Int32) (x_22 : Int32) (x_23 : Int32) (x_24 : Int32) (x_25 : Int32) (x_26 : Int32) (x_27 : Int32) (x_28 : Int32) (x_29 : Int32) (x_30 : Int32) (x_31 : Int32) (f_32 : Nat → Int32) (h_x_4 : 0 ≤ Int32.toInt x_4 ∧ Int32.toInt x_4 ≤ 400) (h_x_5 : 0 ≤ Int32.toInt x_5 ∧ Int32.toInt x_5 ≤ 400) (h_x_6 : 0 ≤ Int32.toInt x_6 ∧ Int32.toInt x_6 ≤ 400) (h_x_7 : 0 ≤ Int32.toInt x_7 ∧ Int32.toInt x_7 ≤ 3) (h_x_10 : 0 ≤ Int32.toInt x_10 ∧ Int32.toInt x_10 ≤ 1) (h_x_11 : 0 ≤ Int32.toInt x_11 ∧ Int32.toInt x_11 ≤ 12) (h_x_12 : 0 ≤ Int32.toInt x_12 ∧ Int32.toInt x_12 ≤ 400) (h_x_13 : 0 ≤ Int32.toInt x_13 ∧ Int32.toInt x_13 ≤ 50) (h_x_14 : 0 ≤ Int32.toInt x_14 ∧ Int32.toInt x_14 ≤ 400) (h_x_16 : 0 ≤ Int32.toInt x_16 ∧ Int32.toInt x_16 ≤ 1) (h_x_19 : 0 ≤ Int32.toInt x_19 ∧ Int32.toInt x_19 ≤ 400) (h_x_21 : 0 ≤ Int32.toInt x_21 ∧ Int32.toInt x_21 ≤ 400) (h_x_22 : 0 ≤ Int32.toInt x_22 ∧ Int32.toInt x_22 ≤ 400) (h_x_24 : 0 ≤ Int32.toInt x_24 ∧ Int32.toInt x_24 ≤ 1) (h_x_25 : 0 ≤ Int32.toInt x_25 ∧ Int32.toInt x_25 ≤ 6) (h_f_32 : zRw f_32) : zMi l yX12_isChild cX12_isChild 2 (some .boolean) ({ frames := 1, cells := 0, slots := 0, locals := 25 }) D k T [.ref q_0, .int x_0] [(q_0, .inr (12, [.int x_1, .int x_2, .ref q_1, .ref q_2, .ref q_3, .int x_3, .ref q_4, .ref q_5, .ref q_6, .ref q_7, .ref q_8, .int x_4, .int x_5, .int x_6, .int x_7, .long g_8, .int x_9, .int x_10, .int x_11, .ref q_9, .int x_12, .ref q_10, .ref q_11, .int x_13, .ref q_12, .ref q_13, .int x_14, .int x_15, .ref q_14, .ref q_15, .ref q_16, .ref q_17, .int x_16, .long g_17, .long g_18, .int x_19, .int x_20, .int x_21, .int x_22, .ref q_18, .ref q_19, .int x_23, .int x_24, .int x_25, .int x_26, .ref q_20, .ref q_21, .int x_27, .int x_28, .ref q_22, .ref q_23, .ref q_24, .ref q_25, .int x_29, .int x_30, .int x_31])), (q_1, .inl (k 0, 27101, .inl f_32))] (fun r u => (u.1 = 0 ∧ r = 0) ∨ (u.1 = 1 ∧ r = 1 ∧ (0 ≤ Int32.toInt x_0 ∧ Int32.toInt x_0 ≤ 39))) (fun u => [(q_0, .inr (12, [.int x_1, .int x_2, .ref q_1, .ref q_2, .ref q_3, .int x_3, .ref q_4, .ref q_5, .ref q_6, .ref q_7, .ref q_8, .int x_4, .int x_5, .int x_6, .int x_7, .long g_8, .int x_9, .int x_10, .int x_11, .ref q_9, .int x_12, .ref q_10, .ref q_11, .int x_13, .ref q_12, .ref q_13, .int x_14, .int x_15, .ref q_14, .ref q_15, .ref q_16, .ref q_17, .int x_16, .long g_17, .long g_18, .int x_19, .int x_20, .int x_21, .int x_22, .ref q_18, .ref q_19, .int x_23, .int x_24, .int x_25, .int x_26, .ref q_20, .ref q_21, .int x_27, .int x_28, .ref q_22, .ref q_23, .ref q_24, .ref q_25, .int x_29, .int x_30, .int x_31])), (q_1, .inl (k 0, 27101, .inl f_32))]) := by
  refine zMi_of (own := RX12) (by decide +kernel) rfl (Nat.le_of_ble_eq_true rfl) ?_
  intro p e s m args below meth c A ls C0 hr hlk hin hP hD hS hA hK hN hT hl
  have hx := C0.1
  have hb := C0.2.1
  have hml := C0.2.2.1
  have hown := C0.2.2.2.1
  have hts := C0.2.2.2.2
  have hl : lv_has ls 2 [(0, .ref q_0), (1, .int x_0)] := hl
  have hP : va_P D vwCl [(q_0, .inr (12, [.int x_1, .int x_2, .ref q_1, .ref q_2, .ref q_3, .int x_3, .ref q_4, .ref q_5, .ref q_6, .ref q_7, .ref q_8, .int x_4, .int x_5, .int x_6, .int x_7, .long g_8, .int x_9, .int x_10, .int x_11, .ref q_9, .int x_12, .ref q_10, .ref q_11, .int x_13, .ref q_12, .ref q_13, .int x_14, .int x_15, .ref q_14, .ref q_15, .ref q_16, .ref q_17, .int x_16, .long g_17, .long g_18, .int x_19, .int x_20, .int x_21, .int x_22, .ref q_18, .ref q_19, .int x_23, .int x_24, .int x_25, .int x_26, .ref q_20, .ref q_21, .int x_27, .int x_28, .ref q_22, .ref q_23, .ref q_24, .ref q_25, .int x_29, .int x_30, .int x_31])), (q_1, .inl (k 0, 27101, .inl f_32))] s.heap := hP
  refine lv_iload_n hx hb dX12_isChild_0 rfl (lv_at hl 1 rfl) ?_
  refine lv_i2l (v := (Int32.toInt64 x_0)) hx hb dX12_isChild_1 rfl ?_
  refine lv_lconst (v := 0) hx hb dX12_isChild_2 (by decide) ?_
  refine lv_aload_n hx hb dX12_isChild_3 rfl (lv_at hl 0 rfl) ?_
  refine va_get (D := D) (ci := 12) (v := .ref q_1) (C := RX12) (T := TX12) (N := 56) hx hb hts inX12 hown hK hP 0 rfl rfl 2 (by decide) (hts _ kF_X12_7) (fun _ h9 => h9) rfl dX12_isChild_4 ?_
  refine lv_iconst (v := 0) hx hb dX12_isChild_7 (by decide) ?_
  refine va_iald hx hb hK hP 1 0 rfl rfl (by unfold vp_in; decide) dX12_isChild_8 ?_
  refine lv_topi (fun y1 ey1 => ?_)
  have hy1 : 0 ≤ Int32.toInt y1 ∧ Int32.toInt y1 ≤ 40 := by rw [ey1]; exact zW_0 h_f_32
  refine lv_i2l (v := (Int32.toInt64 y1)) hx hb dX12_isChild_9 rfl ?_
  refine lv_lconst (v := 1) hx hb dX12_isChild_10 (by decide) ?_
  refine lv_lsub hx hb dX12_isChild_11 ?_
  refine lv_topl (fun w2 ew2 => ?_)
  have hw2 : Int64.toInt w2 = Int64.toInt (Int32.toInt64 y1) - 1 := by rw [ew2]; exact zl_subc rfl (by decide) (by first | with_reducible exact hy1 | (revert hy1; first | omega | (simp only [vp_in_iff, Int32.lt_iff_toInt_lt, Int32.le_iff_toInt_le, Int64.lt_iff_toInt_lt, Int64.le_iff_toInt_le, Int32.toInt_toInt64, ← Int32.toInt_inj, ← Int64.toInt_inj, Int32.reduceToInt, Int64.reduceToInt] <;> omega)))
  refine z_bi0 (z_runS (As := [.long (Int32.toInt64 x_0), .long 0, .long w2]) (rest := []) C0 (s_X12_in_1 l D k T (Int32.toInt64 x_0) 0 w2 _) okS_X12_in kM_X12_100 rfl (z_p0 hT hS hA hK hN) rfl hl.1 rfl (Nat.le_of_ble_eq_true rfl) dX12_isChild_12 rfl) hP hS hA (fun r3 u3 H locs hw3 hP hS => ?_)
  obtain ⟨i3, a3, v3, w3, f3, g3, o3⟩ := u3
  dsimp only at hw3
  rcases hw3 with ⟨rfl, rfl, c3⟩ | ⟨rfl, rfl, c3⟩
  · exact z_iret C0 hr hlk rfl hK hP hD hS (0, fun _ => 0, fun _ => 0, fun _ => 0, fun _ => (fun _ => 0), fun _ => (fun _ => 0), fun _ => (fun _ => none)) (Or.inl ⟨rfl, rfl⟩) [0, 1] rfl rfl rfl dX12_isChild_15
  · exact z_iret C0 hr hlk rfl hK hP hD hS (1, fun _ => 0, fun _ => 0, fun _ => 0, fun _ => (fun _ => 0), fun _ => (fun _ => 0), fun _ => (fun _ => none)) (Or.inr (⟨rfl, rfl, (show 0 ≤ Int32.toInt x_0 ∧ Int32.toInt x_0 ≤ 39 from (by revert c3 hy1 hw2; first | (simp only [vp_in_iff, Int32.lt_iff_toInt_lt, Int32.le_iff_toInt_le, Int64.lt_iff_toInt_lt, Int64.le_iff_toInt_le, Int32.toInt_toInt64, ← Int32.toInt_inj, ← Int64.toInt_inj, Int32.reduceToInt, Int64.reduceToInt] <;> omega) | omega))⟩)) [0, 1] rfl rfl rfl dX12_isChild_15

