set_option maxHeartbeats 4000000 in
set_option maxRecDepth 100000 in
theorem s_X2_scoreWith_1 (l : Launch) (D : va_G) (k : Nat → ClassId) (q_0 : Nat) (q_1 : Nat) (q_2 : Nat) (q_3 : Nat) (q_4 : Nat) (q_5 : Nat) (q_6 : Nat) (q_7 : Nat) (q_8 : Nat) (q_9 : Nat) (x_0 : Int32) (x_1 : Int32) (x_2 : Int32) (x_3 : Int32) (x_4 : Int32) (x_5 : Int32) (x_6 : Int32) (x_7 : Int32) (f_8 : Nat → Int32) (f_9 : Nat → Int32) (h_x_0 : 0 ≤ Int32.toInt x_0 ∧ Int32.toInt x_0 ≤ 5) (h_x_1 : 0 ≤ Int32.toInt x_1 ∧ Int32.toInt x_1 ≤ 0) (h_x_2 : 0 ≤ Int32.toInt x_2 ∧ Int32.toInt x_2 ≤ 0) (h_x_3 : 0 ≤ Int32.toInt x_3 ∧ Int32.toInt x_3 ≤ 6) : zMi l yX2_scoreWith cX2_scoreWith 4 (some .int) ({ frames := 0, cells := 0, slots := 0, locals := 0 }) D k [.ref q_0, .int x_0, .int x_1, .int x_2] [(q_0, .inr (2, [.ref q_3, .ref q_4, .ref q_5, .int x_3, .int x_4, .ref q_1, .ref q_2, .ref q_6, .int x_5, .int x_6, .int x_7, .ref q_7, .ref q_8, .ref q_9])), (q_1, .inl (k 0, 36, .inl f_8)), (q_2, .inl (k 0, 448, .inl f_9))] (fun r u => u.1 = 0) (fun u => [(q_0, .inr (2, [.ref q_3, .ref q_4, .ref q_5, .int x_3, .int x_4, .ref q_1, .ref q_2, .ref q_6, .int x_5, .int x_6, .int x_7, .ref q_7, .ref q_8, .ref q_9])), (q_1, .inl (k 0, 36, .inl f_8)), (q_2, .inl (k 0, 448, .inl f_9))]) := by
  refine zMi_of (own := RX2) (by decide +kernel) rfl (Nat.le_of_ble_eq_true rfl) ?_
  intro p e s m args below meth c A ls C0 hr hlk hin hP hD hS hA hK hN hl
  have hx := C0.1
  have hb := C0.2.1
  have hml := C0.2.2.1
  have hown := C0.2.2.2.1
  have hts := C0.2.2.2.2
  have hl : lv_has ls 4 [(0, .ref q_0), (1, .int x_0), (2, .int x_1), (3, .int x_2)] := hl
  have hP : va_P D vwCl [(q_0, .inr (2, [.ref q_3, .ref q_4, .ref q_5, .int x_3, .int x_4, .ref q_1, .ref q_2, .ref q_6, .int x_5, .int x_6, .int x_7, .ref q_7, .ref q_8, .ref q_9])), (q_1, .inl (k 0, 36, .inl f_8)), (q_2, .inl (k 0, 448, .inl f_9))] s.heap := hP
  refine lv_iload_n hx hb dX2_scoreWith_0 rfl (lv_at hl 2 rfl) ?_
  refine lv_iload_n hx hb dX2_scoreWith_1 rfl (lv_at hl 3 rfl) ?_
  refine lv_ishr hx hb dX2_scoreWith_2 ?_
  refine lv_topi (fun y1 ey1 => ?_)
  refine lv_iconst (v := 1) hx hb dX2_scoreWith_3 (by decide) ?_
  refine lv_iand hx hb dX2_scoreWith_4 ?_
  refine lv_topi (fun y2 ey2 => ?_)
  have hy2 : 0 ≤ Int32.toInt y2 ∧ Int32.toInt y2 ≤ 1 := by rw [ey2]; exact zo_and _ (by decide)
  refine lv_iconst (v := 1) hx hb dX2_scoreWith_5 (by decide) ?_
  refine lv_icmp_eq (tgt := 24) hx hb dX2_scoreWith_6 (by decide) (fun c3 => ?_) (fun c3 => ?_)
  · refine lv_iconst (v := (-1)) hx hb dX2_scoreWith_24 (by decide) ?_
    exact z_iret C0 hr hlk rfl hK hP hD hS (0, fun _ => 0, fun _ => 0, fun _ => 0, fun _ => (fun _ => 0), fun _ => (fun _ => 0), fun _ => (fun _ => none)) rfl [0, 1, 2] rfl rfl rfl dX2_scoreWith_25
  · refine lv_aload_n hx hb dX2_scoreWith_9 rfl (lv_at hl 0 rfl) ?_
    refine va_get (D := D) (ci := 2) (v := .ref q_1) (C := RX2) (T := TX2) (N := 14) hx hb hts inX2 hown hK hP 0 rfl rfl 5 (by decide) (hts _ kF_X2_19) (fun _ h9 => h9) rfl dX2_scoreWith_10 ?_
    refine lv_iload_n hx hb dX2_scoreWith_13 rfl (lv_at hl 1 rfl) ?_
    refine lv_bipush (v := 6) hx hb dX2_scoreWith_14 (by decide) ?_
    refine lv_imul hx hb dX2_scoreWith_16 ?_
    have e4 : Int32.toInt (x_0 * 6) = Int32.toInt x_0 * Int32.toInt (6 : Int32) := zi_mul (by revert h_x_0; simp only [vp_in_iff, Int32.lt_iff_toInt_lt, Int32.le_iff_toInt_le, Int64.lt_iff_toInt_lt, Int64.le_iff_toInt_le, Int32.toInt_toInt64, ← Int32.toInt_inj, ← Int64.toInt_inj, Int32.reduceToInt, Int64.reduceToInt] <;> omega)
    refine lv_iload_n hx hb dX2_scoreWith_17 rfl (lv_at hl 3 rfl) ?_
    refine lv_iadd hx hb dX2_scoreWith_18 ?_
    have e5 : Int32.toInt ((x_0 * 6) + x_2) = Int32.toInt (x_0 * 6) + Int32.toInt x_2 := zi_add (by revert h_x_0 h_x_2 e4; simp only [vp_in_iff, Int32.lt_iff_toInt_lt, Int32.le_iff_toInt_le, Int64.lt_iff_toInt_lt, Int64.le_iff_toInt_le, Int32.toInt_toInt64, ← Int32.toInt_inj, ← Int64.toInt_inj, Int32.reduceToInt, Int64.reduceToInt] <;> omega)
    refine va_iald hx hb hK hP 1 0 rfl rfl (by revert h_x_0 h_x_2 e4 e5; simp only [vp_in_iff, Int32.lt_iff_toInt_lt, Int32.le_iff_toInt_le, Int64.lt_iff_toInt_lt, Int64.le_iff_toInt_le, Int32.toInt_toInt64, ← Int32.toInt_inj, ← Int64.toInt_inj, Int32.reduceToInt, Int64.reduceToInt] <;> omega) dX2_scoreWith_19 ?_
    refine lv_topi (fun y6 ey6 => ?_)
    refine lv_iconst (v := (-1)) hx hb dX2_scoreWith_20 (by decide) ?_
    refine lv_icmp_ne (tgt := 26) hx hb dX2_scoreWith_21 (by decide) (fun c7 => ?_) (fun c7 => ?_)
    · refine lv_aload_n hx hb dX2_scoreWith_26 rfl (lv_at hl 0 rfl) ?_
      refine va_get (D := D) (ci := 2) (v := .ref q_2) (C := RX2) (T := TX2) (N := 14) hx hb hts inX2 hown hK hP 0 rfl rfl 6 (by decide) (hts _ kF_X2_22) (fun _ h9 => h9) rfl dX2_scoreWith_27 ?_
      refine lv_iload_n hx hb dX2_scoreWith_30 rfl (lv_at hl 1 rfl) ?_
      refine lv_iconst (v := 1) hx hb dX2_scoreWith_31 (by decide) ?_
      refine lv_iadd hx hb dX2_scoreWith_32 ?_
      have e8 : Int32.toInt (x_0 + 1) = Int32.toInt x_0 + Int32.toInt (1 : Int32) := zi_add (by revert h_x_0 e4 e5 h_x_2; simp only [vp_in_iff, Int32.lt_iff_toInt_lt, Int32.le_iff_toInt_le, Int64.lt_iff_toInt_lt, Int64.le_iff_toInt_le, Int32.toInt_toInt64, ← Int32.toInt_inj, ← Int64.toInt_inj, Int32.reduceToInt, Int64.reduceToInt] <;> omega)
      refine lv_bipush (v := 64) hx hb dX2_scoreWith_33 (by decide) ?_
      refine lv_imul hx hb dX2_scoreWith_35 ?_
      have e9 : Int32.toInt ((x_0 + 1) * 64) = Int32.toInt (x_0 + 1) * Int32.toInt (64 : Int32) := zi_mul (by revert h_x_0 e4 e5 e8 h_x_2; simp only [vp_in_iff, Int32.lt_iff_toInt_lt, Int32.le_iff_toInt_le, Int64.lt_iff_toInt_lt, Int64.le_iff_toInt_le, Int32.toInt_toInt64, ← Int32.toInt_inj, ← Int64.toInt_inj, Int32.reduceToInt, Int64.reduceToInt] <;> omega)
      refine lv_iload_n hx hb dX2_scoreWith_36 rfl (lv_at hl 2 rfl) ?_
      refine lv_iconst (v := 1) hx hb dX2_scoreWith_37 (by decide) ?_
      refine lv_iload_n hx hb dX2_scoreWith_38 rfl (lv_at hl 3 rfl) ?_
      refine lv_ishl hx hb dX2_scoreWith_39 ?_
      refine lv_topi (fun y10 ey10 => ?_)
      have hy10 : 1 ≤ Int32.toInt y10 ∧ Int32.toInt y10 ≤ 1 := by rw [ey10]; exact zo_shl1 0 (show 0 ≤ Int32.toInt x_2 ∧ Int32.toInt x_2 ≤ 0 by revert h_x_2 e5 e8 e9 h_x_0 e4; simp only [vp_in_iff, Int32.lt_iff_toInt_lt, Int32.le_iff_toInt_le, Int64.lt_iff_toInt_lt, Int64.le_iff_toInt_le, Int32.toInt_toInt64, ← Int32.toInt_inj, ← Int64.toInt_inj, Int32.reduceToInt, Int64.reduceToInt] <;> omega) (by decide)
      refine lv_ior hx hb dX2_scoreWith_40 ?_
      refine lv_topi (fun y11 ey11 => ?_)
      have hy11 : 0 ≤ Int32.toInt y11 ∧ Int32.toInt y11 ≤ 1 := by rw [ey11]; exact zo_or 1 (show 0 ≤ Int32.toInt x_1 ∧ Int32.toInt x_1 < 2 ^ 1 by revert h_x_1 hy10; simp only [vp_in_iff, Int32.lt_iff_toInt_lt, Int32.le_iff_toInt_le, Int64.lt_iff_toInt_lt, Int64.le_iff_toInt_le, Int32.toInt_toInt64, ← Int32.toInt_inj, ← Int64.toInt_inj, Int32.reduceToInt, Int64.reduceToInt] <;> omega) (show 0 ≤ Int32.toInt y10 ∧ Int32.toInt y10 < 2 ^ 1 by revert h_x_1 hy10; simp only [vp_in_iff, Int32.lt_iff_toInt_lt, Int32.le_iff_toInt_le, Int64.lt_iff_toInt_lt, Int64.le_iff_toInt_le, Int32.toInt_toInt64, ← Int32.toInt_inj, ← Int64.toInt_inj, Int32.reduceToInt, Int64.reduceToInt] <;> omega) (by decide)
      refine lv_iadd hx hb dX2_scoreWith_41 ?_
      have e12 : Int32.toInt (((x_0 + 1) * 64) + y11) = Int32.toInt ((x_0 + 1) * 64) + Int32.toInt y11 := zi_add (by revert h_x_0 e4 e5 e8 e9 hy11 h_x_2; simp only [vp_in_iff, Int32.lt_iff_toInt_lt, Int32.le_iff_toInt_le, Int64.lt_iff_toInt_lt, Int64.le_iff_toInt_le, Int32.toInt_toInt64, ← Int32.toInt_inj, ← Int64.toInt_inj, Int32.reduceToInt, Int64.reduceToInt] <;> omega)
      refine va_iald hx hb hK hP 2 0 rfl rfl (by revert h_x_0 e4 e5 e8 e9 hy11 e12 h_x_2; simp only [vp_in_iff, Int32.lt_iff_toInt_lt, Int32.le_iff_toInt_le, Int64.lt_iff_toInt_lt, Int64.le_iff_toInt_le, Int32.toInt_toInt64, ← Int32.toInt_inj, ← Int64.toInt_inj, Int32.reduceToInt, Int64.reduceToInt] <;> omega) dX2_scoreWith_42 ?_
      refine lv_topi (fun y13 ey13 => ?_)
      refine lv_aload_n hx hb dX2_scoreWith_43 rfl (lv_at hl 0 rfl) ?_
      refine va_get (D := D) (ci := 2) (v := .ref q_1) (C := RX2) (T := TX2) (N := 14) hx hb hts inX2 hown hK hP 0 rfl rfl 5 (by decide) (hts _ kF_X2_19) (fun _ h9 => h9) rfl dX2_scoreWith_44 ?_
      refine lv_iload_n hx hb dX2_scoreWith_47 rfl (lv_at hl 1 rfl) ?_
      refine lv_bipush (v := 6) hx hb dX2_scoreWith_48 (by decide) ?_
      refine lv_imul hx hb dX2_scoreWith_50 ?_
      have e14 : Int32.toInt (x_0 * 6) = Int32.toInt x_0 * Int32.toInt (6 : Int32) := zi_mul (by revert h_x_0 e4 e5 e8 e9 e12 h_x_2 hy11; simp only [vp_in_iff, Int32.lt_iff_toInt_lt, Int32.le_iff_toInt_le, Int64.lt_iff_toInt_lt, Int64.le_iff_toInt_le, Int32.toInt_toInt64, ← Int32.toInt_inj, ← Int64.toInt_inj, Int32.reduceToInt, Int64.reduceToInt] <;> omega)
      refine lv_iload_n hx hb dX2_scoreWith_51 rfl (lv_at hl 3 rfl) ?_
      refine lv_iadd hx hb dX2_scoreWith_52 ?_
      have e15 : Int32.toInt ((x_0 * 6) + x_2) = Int32.toInt (x_0 * 6) + Int32.toInt x_2 := zi_add (by revert h_x_0 h_x_2 e4 e5 e8 e9 e12 e14 hy11; simp only [vp_in_iff, Int32.lt_iff_toInt_lt, Int32.le_iff_toInt_le, Int64.lt_iff_toInt_lt, Int64.le_iff_toInt_le, Int32.toInt_toInt64, ← Int32.toInt_inj, ← Int64.toInt_inj, Int32.reduceToInt, Int64.reduceToInt] <;> omega)
      refine va_iald hx hb hK hP 1 0 rfl rfl (by revert h_x_0 h_x_2 e4 e5 e8 e9 e12 e14 e15 hy11; simp only [vp_in_iff, Int32.lt_iff_toInt_lt, Int32.le_iff_toInt_le, Int64.lt_iff_toInt_lt, Int64.le_iff_toInt_le, Int32.toInt_toInt64, ← Int32.toInt_inj, ← Int64.toInt_inj, Int32.reduceToInt, Int64.reduceToInt] <;> omega) dX2_scoreWith_53 ?_
      refine lv_toc (v := y6) ey6.symm ?_
      refine lv_bipush (v := 8) hx hb dX2_scoreWith_54 (by decide) ?_
      refine lv_imul hx hb dX2_scoreWith_56 ?_
      refine lv_iadd hx hb dX2_scoreWith_57 ?_
      refine lv_iconst (v := 1) hx hb dX2_scoreWith_58 (by decide) ?_
      refine lv_iadd hx hb dX2_scoreWith_59 ?_
      exact z_iret C0 hr hlk rfl hK hP hD hS (0, fun _ => 0, fun _ => 0, fun _ => 0, fun _ => (fun _ => 0), fun _ => (fun _ => 0), fun _ => (fun _ => none)) rfl [0, 1, 2] rfl rfl rfl dX2_scoreWith_60
    · refine lv_iconst (v := (-1)) hx hb dX2_scoreWith_24 (by decide) ?_
      exact z_iret C0 hr hlk rfl hK hP hD hS (0, fun _ => 0, fun _ => 0, fun _ => 0, fun _ => (fun _ => 0), fun _ => (fun _ => 0), fun _ => (fun _ => none)) rfl [0, 1, 2] rfl rfl rfl dX2_scoreWith_25

set_option maxHeartbeats 4000000 in
set_option maxRecDepth 100000 in
theorem s_X2_scoreWith_2 (l : Launch) (D : va_G) (k : Nat → ClassId) (q_0 : Nat) (q_1 : Nat) (q_2 : Nat) (q_3 : Nat) (q_4 : Nat) (q_5 : Nat) (q_6 : Nat) (q_7 : Nat) (q_8 : Nat) (q_9 : Nat) (x_0 : Int32) (x_1 : Int32) (x_2 : Int32) (x_3 : Int32) (x_4 : Int32) (x_5 : Int32) (x_6 : Int32) (x_7 : Int32) (f_8 : Nat → Int32) (f_9 : Nat → Int32) (h_x_0 : 0 ≤ Int32.toInt x_0 ∧ Int32.toInt x_0 ≤ 5) (h_x_1 : 0 ≤ Int32.toInt x_1 ∧ Int32.toInt x_1 ≤ 0) (h_x_2 : 0 ≤ Int32.toInt x_2 ∧ Int32.toInt x_2 ≤ 1) (h_x_3 : 0 ≤ Int32.toInt x_3 ∧ Int32.toInt x_3 ≤ 6) : zMi l yX2_scoreWith cX2_scoreWith 4 (some .int) ({ frames := 0, cells := 0, slots := 0, locals := 0 }) D k [.ref q_0, .int x_0, .int x_1, .int x_2] [(q_0, .inr (2, [.ref q_3, .ref q_4, .ref q_5, .int x_3, .int x_4, .ref q_1, .ref q_2, .ref q_6, .int x_5, .int x_6, .int x_7, .ref q_7, .ref q_8, .ref q_9])), (q_1, .inl (k 0, 36, .inl f_8)), (q_2, .inl (k 0, 448, .inl f_9))] (fun r u => u.1 = 0) (fun u => [(q_0, .inr (2, [.ref q_3, .ref q_4, .ref q_5, .int x_3, .int x_4, .ref q_1, .ref q_2, .ref q_6, .int x_5, .int x_6, .int x_7, .ref q_7, .ref q_8, .ref q_9])), (q_1, .inl (k 0, 36, .inl f_8)), (q_2, .inl (k 0, 448, .inl f_9))]) := by
  refine zMi_of (own := RX2) (by decide +kernel) rfl (Nat.le_of_ble_eq_true rfl) ?_
  intro p e s m args below meth c A ls C0 hr hlk hin hP hD hS hA hK hN hl
  have hx := C0.1
  have hb := C0.2.1
  have hml := C0.2.2.1
  have hown := C0.2.2.2.1
  have hts := C0.2.2.2.2
  have hl : lv_has ls 4 [(0, .ref q_0), (1, .int x_0), (2, .int x_1), (3, .int x_2)] := hl
  have hP : va_P D vwCl [(q_0, .inr (2, [.ref q_3, .ref q_4, .ref q_5, .int x_3, .int x_4, .ref q_1, .ref q_2, .ref q_6, .int x_5, .int x_6, .int x_7, .ref q_7, .ref q_8, .ref q_9])), (q_1, .inl (k 0, 36, .inl f_8)), (q_2, .inl (k 0, 448, .inl f_9))] s.heap := hP
  refine lv_iload_n hx hb dX2_scoreWith_0 rfl (lv_at hl 2 rfl) ?_
  refine lv_iload_n hx hb dX2_scoreWith_1 rfl (lv_at hl 3 rfl) ?_
  refine lv_ishr hx hb dX2_scoreWith_2 ?_
  refine lv_topi (fun y1 ey1 => ?_)
  refine lv_iconst (v := 1) hx hb dX2_scoreWith_3 (by decide) ?_
  refine lv_iand hx hb dX2_scoreWith_4 ?_
  refine lv_topi (fun y2 ey2 => ?_)
  have hy2 : 0 ≤ Int32.toInt y2 ∧ Int32.toInt y2 ≤ 1 := by rw [ey2]; exact zo_and _ (by decide)
  refine lv_iconst (v := 1) hx hb dX2_scoreWith_5 (by decide) ?_
  refine lv_icmp_eq (tgt := 24) hx hb dX2_scoreWith_6 (by decide) (fun c3 => ?_) (fun c3 => ?_)
  · refine lv_iconst (v := (-1)) hx hb dX2_scoreWith_24 (by decide) ?_
    exact z_iret C0 hr hlk rfl hK hP hD hS (0, fun _ => 0, fun _ => 0, fun _ => 0, fun _ => (fun _ => 0), fun _ => (fun _ => 0), fun _ => (fun _ => none)) rfl [0, 1, 2] rfl rfl rfl dX2_scoreWith_25
  · refine lv_aload_n hx hb dX2_scoreWith_9 rfl (lv_at hl 0 rfl) ?_
    refine va_get (D := D) (ci := 2) (v := .ref q_1) (C := RX2) (T := TX2) (N := 14) hx hb hts inX2 hown hK hP 0 rfl rfl 5 (by decide) (hts _ kF_X2_19) (fun _ h9 => h9) rfl dX2_scoreWith_10 ?_
    refine lv_iload_n hx hb dX2_scoreWith_13 rfl (lv_at hl 1 rfl) ?_
    refine lv_bipush (v := 6) hx hb dX2_scoreWith_14 (by decide) ?_
    refine lv_imul hx hb dX2_scoreWith_16 ?_
    have e4 : Int32.toInt (x_0 * 6) = Int32.toInt x_0 * Int32.toInt (6 : Int32) := zi_mul (by revert h_x_0; simp only [vp_in_iff, Int32.lt_iff_toInt_lt, Int32.le_iff_toInt_le, Int64.lt_iff_toInt_lt, Int64.le_iff_toInt_le, Int32.toInt_toInt64, ← Int32.toInt_inj, ← Int64.toInt_inj, Int32.reduceToInt, Int64.reduceToInt] <;> omega)
    refine lv_iload_n hx hb dX2_scoreWith_17 rfl (lv_at hl 3 rfl) ?_
    refine lv_iadd hx hb dX2_scoreWith_18 ?_
    have e5 : Int32.toInt ((x_0 * 6) + x_2) = Int32.toInt (x_0 * 6) + Int32.toInt x_2 := zi_add (by revert h_x_0 h_x_2 e4; simp only [vp_in_iff, Int32.lt_iff_toInt_lt, Int32.le_iff_toInt_le, Int64.lt_iff_toInt_lt, Int64.le_iff_toInt_le, Int32.toInt_toInt64, ← Int32.toInt_inj, ← Int64.toInt_inj, Int32.reduceToInt, Int64.reduceToInt] <;> omega)
    refine va_iald hx hb hK hP 1 0 rfl rfl (by revert h_x_0 h_x_2 e4 e5; simp only [vp_in_iff, Int32.lt_iff_toInt_lt, Int32.le_iff_toInt_le, Int64.lt_iff_toInt_lt, Int64.le_iff_toInt_le, Int32.toInt_toInt64, ← Int32.toInt_inj, ← Int64.toInt_inj, Int32.reduceToInt, Int64.reduceToInt] <;> omega) dX2_scoreWith_19 ?_
    refine lv_topi (fun y6 ey6 => ?_)
    refine lv_iconst (v := (-1)) hx hb dX2_scoreWith_20 (by decide) ?_
    refine lv_icmp_ne (tgt := 26) hx hb dX2_scoreWith_21 (by decide) (fun c7 => ?_) (fun c7 => ?_)
    · refine lv_aload_n hx hb dX2_scoreWith_26 rfl (lv_at hl 0 rfl) ?_
      refine va_get (D := D) (ci := 2) (v := .ref q_2) (C := RX2) (T := TX2) (N := 14) hx hb hts inX2 hown hK hP 0 rfl rfl 6 (by decide) (hts _ kF_X2_22) (fun _ h9 => h9) rfl dX2_scoreWith_27 ?_
      refine lv_iload_n hx hb dX2_scoreWith_30 rfl (lv_at hl 1 rfl) ?_
      refine lv_iconst (v := 1) hx hb dX2_scoreWith_31 (by decide) ?_
      refine lv_iadd hx hb dX2_scoreWith_32 ?_
      have e8 : Int32.toInt (x_0 + 1) = Int32.toInt x_0 + Int32.toInt (1 : Int32) := zi_add (by revert h_x_0 e4 e5 h_x_2; simp only [vp_in_iff, Int32.lt_iff_toInt_lt, Int32.le_iff_toInt_le, Int64.lt_iff_toInt_lt, Int64.le_iff_toInt_le, Int32.toInt_toInt64, ← Int32.toInt_inj, ← Int64.toInt_inj, Int32.reduceToInt, Int64.reduceToInt] <;> omega)
      refine lv_bipush (v := 64) hx hb dX2_scoreWith_33 (by decide) ?_
      refine lv_imul hx hb dX2_scoreWith_35 ?_
      have e9 : Int32.toInt ((x_0 + 1) * 64) = Int32.toInt (x_0 + 1) * Int32.toInt (64 : Int32) := zi_mul (by revert h_x_0 e4 e5 e8 h_x_2; simp only [vp_in_iff, Int32.lt_iff_toInt_lt, Int32.le_iff_toInt_le, Int64.lt_iff_toInt_lt, Int64.le_iff_toInt_le, Int32.toInt_toInt64, ← Int32.toInt_inj, ← Int64.toInt_inj, Int32.reduceToInt, Int64.reduceToInt] <;> omega)
      refine lv_iload_n hx hb dX2_scoreWith_36 rfl (lv_at hl 2 rfl) ?_
      refine lv_iconst (v := 1) hx hb dX2_scoreWith_37 (by decide) ?_
      refine lv_iload_n hx hb dX2_scoreWith_38 rfl (lv_at hl 3 rfl) ?_
      refine lv_ishl hx hb dX2_scoreWith_39 ?_
      refine lv_topi (fun y10 ey10 => ?_)
      have hy10 : 1 ≤ Int32.toInt y10 ∧ Int32.toInt y10 ≤ 2 := by rw [ey10]; exact zo_shl1 1 (show 0 ≤ Int32.toInt x_2 ∧ Int32.toInt x_2 ≤ 1 by revert h_x_2 e5 e8 e9 h_x_0 e4; simp only [vp_in_iff, Int32.lt_iff_toInt_lt, Int32.le_iff_toInt_le, Int64.lt_iff_toInt_lt, Int64.le_iff_toInt_le, Int32.toInt_toInt64, ← Int32.toInt_inj, ← Int64.toInt_inj, Int32.reduceToInt, Int64.reduceToInt] <;> omega) (by decide)
      refine lv_ior hx hb dX2_scoreWith_40 ?_
      refine lv_topi (fun y11 ey11 => ?_)
      have hy11 : 0 ≤ Int32.toInt y11 ∧ Int32.toInt y11 ≤ 3 := by rw [ey11]; exact zo_or 2 (show 0 ≤ Int32.toInt x_1 ∧ Int32.toInt x_1 < 2 ^ 2 by revert h_x_1 hy10; simp only [vp_in_iff, Int32.lt_iff_toInt_lt, Int32.le_iff_toInt_le, Int64.lt_iff_toInt_lt, Int64.le_iff_toInt_le, Int32.toInt_toInt64, ← Int32.toInt_inj, ← Int64.toInt_inj, Int32.reduceToInt, Int64.reduceToInt] <;> omega) (show 0 ≤ Int32.toInt y10 ∧ Int32.toInt y10 < 2 ^ 2 by revert h_x_1 hy10; simp only [vp_in_iff, Int32.lt_iff_toInt_lt, Int32.le_iff_toInt_le, Int64.lt_iff_toInt_lt, Int64.le_iff_toInt_le, Int32.toInt_toInt64, ← Int32.toInt_inj, ← Int64.toInt_inj, Int32.reduceToInt, Int64.reduceToInt] <;> omega) (by decide)
      refine lv_iadd hx hb dX2_scoreWith_41 ?_
      have e12 : Int32.toInt (((x_0 + 1) * 64) + y11) = Int32.toInt ((x_0 + 1) * 64) + Int32.toInt y11 := zi_add (by revert h_x_0 e4 e5 e8 e9 hy11 h_x_2; simp only [vp_in_iff, Int32.lt_iff_toInt_lt, Int32.le_iff_toInt_le, Int64.lt_iff_toInt_lt, Int64.le_iff_toInt_le, Int32.toInt_toInt64, ← Int32.toInt_inj, ← Int64.toInt_inj, Int32.reduceToInt, Int64.reduceToInt] <;> omega)
      refine va_iald hx hb hK hP 2 0 rfl rfl (by revert h_x_0 e4 e5 e8 e9 hy11 e12 h_x_2; simp only [vp_in_iff, Int32.lt_iff_toInt_lt, Int32.le_iff_toInt_le, Int64.lt_iff_toInt_lt, Int64.le_iff_toInt_le, Int32.toInt_toInt64, ← Int32.toInt_inj, ← Int64.toInt_inj, Int32.reduceToInt, Int64.reduceToInt] <;> omega) dX2_scoreWith_42 ?_
      refine lv_topi (fun y13 ey13 => ?_)
      refine lv_aload_n hx hb dX2_scoreWith_43 rfl (lv_at hl 0 rfl) ?_
      refine va_get (D := D) (ci := 2) (v := .ref q_1) (C := RX2) (T := TX2) (N := 14) hx hb hts inX2 hown hK hP 0 rfl rfl 5 (by decide) (hts _ kF_X2_19) (fun _ h9 => h9) rfl dX2_scoreWith_44 ?_
      refine lv_iload_n hx hb dX2_scoreWith_47 rfl (lv_at hl 1 rfl) ?_
      refine lv_bipush (v := 6) hx hb dX2_scoreWith_48 (by decide) ?_
      refine lv_imul hx hb dX2_scoreWith_50 ?_
      have e14 : Int32.toInt (x_0 * 6) = Int32.toInt x_0 * Int32.toInt (6 : Int32) := zi_mul (by revert h_x_0 e4 e5 e8 e9 e12 h_x_2 hy11; simp only [vp_in_iff, Int32.lt_iff_toInt_lt, Int32.le_iff_toInt_le, Int64.lt_iff_toInt_lt, Int64.le_iff_toInt_le, Int32.toInt_toInt64, ← Int32.toInt_inj, ← Int64.toInt_inj, Int32.reduceToInt, Int64.reduceToInt] <;> omega)
      refine lv_iload_n hx hb dX2_scoreWith_51 rfl (lv_at hl 3 rfl) ?_
      refine lv_iadd hx hb dX2_scoreWith_52 ?_
      have e15 : Int32.toInt ((x_0 * 6) + x_2) = Int32.toInt (x_0 * 6) + Int32.toInt x_2 := zi_add (by revert h_x_0 h_x_2 e4 e5 e8 e9 e12 e14 hy11; simp only [vp_in_iff, Int32.lt_iff_toInt_lt, Int32.le_iff_toInt_le, Int64.lt_iff_toInt_lt, Int64.le_iff_toInt_le, Int32.toInt_toInt64, ← Int32.toInt_inj, ← Int64.toInt_inj, Int32.reduceToInt, Int64.reduceToInt] <;> omega)
      refine va_iald hx hb hK hP 1 0 rfl rfl (by revert h_x_0 h_x_2 e4 e5 e8 e9 e12 e14 e15 hy11; simp only [vp_in_iff, Int32.lt_iff_toInt_lt, Int32.le_iff_toInt_le, Int64.lt_iff_toInt_lt, Int64.le_iff_toInt_le, Int32.toInt_toInt64, ← Int32.toInt_inj, ← Int64.toInt_inj, Int32.reduceToInt, Int64.reduceToInt] <;> omega) dX2_scoreWith_53 ?_
      refine lv_toc (v := y6) ey6.symm ?_
      refine lv_bipush (v := 8) hx hb dX2_scoreWith_54 (by decide) ?_
      refine lv_imul hx hb dX2_scoreWith_56 ?_
      refine lv_iadd hx hb dX2_scoreWith_57 ?_
      refine lv_iconst (v := 1) hx hb dX2_scoreWith_58 (by decide) ?_
      refine lv_iadd hx hb dX2_scoreWith_59 ?_
      exact z_iret C0 hr hlk rfl hK hP hD hS (0, fun _ => 0, fun _ => 0, fun _ => 0, fun _ => (fun _ => 0), fun _ => (fun _ => 0), fun _ => (fun _ => none)) rfl [0, 1, 2] rfl rfl rfl dX2_scoreWith_60
    · refine lv_iconst (v := (-1)) hx hb dX2_scoreWith_24 (by decide) ?_
      exact z_iret C0 hr hlk rfl hK hP hD hS (0, fun _ => 0, fun _ => 0, fun _ => 0, fun _ => (fun _ => 0), fun _ => (fun _ => 0), fun _ => (fun _ => none)) rfl [0, 1, 2] rfl rfl rfl dX2_scoreWith_25

set_option maxHeartbeats 4000000 in
set_option maxRecDepth 100000 in
theorem s_X2_scoreWith_3 (l : Launch) (D : va_G) (k : Nat → ClassId) (q_0 : Nat) (q_1 : Nat) (q_2 : Nat) (q_3 : Nat) (q_4 : Nat) (q_5 : Nat) (q_6 : Nat) (q_7 : Nat) (q_8 : Nat) (q_9 : Nat) (x_0 : Int32) (x_1 : Int32) (x_2 : Int32) (x_3 : Int32) (x_4 : Int32) (x_5 : Int32) (x_6 : Int32) (x_7 : Int32) (f_8 : Nat → Int32) (f_9 : Nat → Int32) (h_x_0 : 0 ≤ Int32.toInt x_0 ∧ Int32.toInt x_0 ≤ 5) (h_x_1 : 0 ≤ Int32.toInt x_1 ∧ Int32.toInt x_1 ≤ 0) (h_x_2 : 0 ≤ Int32.toInt x_2 ∧ Int32.toInt x_2 ≤ 2) (h_x_3 : 0 ≤ Int32.toInt x_3 ∧ Int32.toInt x_3 ≤ 6) : zMi l yX2_scoreWith cX2_scoreWith 4 (some .int) ({ frames := 0, cells := 0, slots := 0, locals := 0 }) D k [.ref q_0, .int x_0, .int x_1, .int x_2] [(q_0, .inr (2, [.ref q_3, .ref q_4, .ref q_5, .int x_3, .int x_4, .ref q_1, .ref q_2, .ref q_6, .int x_5, .int x_6, .int x_7, .ref q_7, .ref q_8, .ref q_9])), (q_1, .inl (k 0, 36, .inl f_8)), (q_2, .inl (k 0, 448, .inl f_9))] (fun r u => u.1 = 0) (fun u => [(q_0, .inr (2, [.ref q_3, .ref q_4, .ref q_5, .int x_3, .int x_4, .ref q_1, .ref q_2, .ref q_6, .int x_5, .int x_6, .int x_7, .ref q_7, .ref q_8, .ref q_9])), (q_1, .inl (k 0, 36, .inl f_8)), (q_2, .inl (k 0, 448, .inl f_9))]) := by
  refine zMi_of (own := RX2) (by decide +kernel) rfl (Nat.le_of_ble_eq_true rfl) ?_
  intro p e s m args below meth c A ls C0 hr hlk hin hP hD hS hA hK hN hl
  have hx := C0.1
  have hb := C0.2.1
  have hml := C0.2.2.1
  have hown := C0.2.2.2.1
  have hts := C0.2.2.2.2
  have hl : lv_has ls 4 [(0, .ref q_0), (1, .int x_0), (2, .int x_1), (3, .int x_2)] := hl
  have hP : va_P D vwCl [(q_0, .inr (2, [.ref q_3, .ref q_4, .ref q_5, .int x_3, .int x_4, .ref q_1, .ref q_2, .ref q_6, .int x_5, .int x_6, .int x_7, .ref q_7, .ref q_8, .ref q_9])), (q_1, .inl (k 0, 36, .inl f_8)), (q_2, .inl (k 0, 448, .inl f_9))] s.heap := hP
  refine lv_iload_n hx hb dX2_scoreWith_0 rfl (lv_at hl 2 rfl) ?_
  refine lv_iload_n hx hb dX2_scoreWith_1 rfl (lv_at hl 3 rfl) ?_
  refine lv_ishr hx hb dX2_scoreWith_2 ?_
  refine lv_topi (fun y1 ey1 => ?_)
  refine lv_iconst (v := 1) hx hb dX2_scoreWith_3 (by decide) ?_
  refine lv_iand hx hb dX2_scoreWith_4 ?_
  refine lv_topi (fun y2 ey2 => ?_)
  have hy2 : 0 ≤ Int32.toInt y2 ∧ Int32.toInt y2 ≤ 1 := by rw [ey2]; exact zo_and _ (by decide)
  refine lv_iconst (v := 1) hx hb dX2_scoreWith_5 (by decide) ?_
  refine lv_icmp_eq (tgt := 24) hx hb dX2_scoreWith_6 (by decide) (fun c3 => ?_) (fun c3 => ?_)
  · refine lv_iconst (v := (-1)) hx hb dX2_scoreWith_24 (by decide) ?_
    exact z_iret C0 hr hlk rfl hK hP hD hS (0, fun _ => 0, fun _ => 0, fun _ => 0, fun _ => (fun _ => 0), fun _ => (fun _ => 0), fun _ => (fun _ => none)) rfl [0, 1, 2] rfl rfl rfl dX2_scoreWith_25
  · refine lv_aload_n hx hb dX2_scoreWith_9 rfl (lv_at hl 0 rfl) ?_
    refine va_get (D := D) (ci := 2) (v := .ref q_1) (C := RX2) (T := TX2) (N := 14) hx hb hts inX2 hown hK hP 0 rfl rfl 5 (by decide) (hts _ kF_X2_19) (fun _ h9 => h9) rfl dX2_scoreWith_10 ?_
    refine lv_iload_n hx hb dX2_scoreWith_13 rfl (lv_at hl 1 rfl) ?_
    refine lv_bipush (v := 6) hx hb dX2_scoreWith_14 (by decide) ?_
    refine lv_imul hx hb dX2_scoreWith_16 ?_
    have e4 : Int32.toInt (x_0 * 6) = Int32.toInt x_0 * Int32.toInt (6 : Int32) := zi_mul (by revert h_x_0; simp only [vp_in_iff, Int32.lt_iff_toInt_lt, Int32.le_iff_toInt_le, Int64.lt_iff_toInt_lt, Int64.le_iff_toInt_le, Int32.toInt_toInt64, ← Int32.toInt_inj, ← Int64.toInt_inj, Int32.reduceToInt, Int64.reduceToInt] <;> omega)
    refine lv_iload_n hx hb dX2_scoreWith_17 rfl (lv_at hl 3 rfl) ?_
    refine lv_iadd hx hb dX2_scoreWith_18 ?_
    have e5 : Int32.toInt ((x_0 * 6) + x_2) = Int32.toInt (x_0 * 6) + Int32.toInt x_2 := zi_add (by revert h_x_0 h_x_2 e4; simp only [vp_in_iff, Int32.lt_iff_toInt_lt, Int32.le_iff_toInt_le, Int64.lt_iff_toInt_lt, Int64.le_iff_toInt_le, Int32.toInt_toInt64, ← Int32.toInt_inj, ← Int64.toInt_inj, Int32.reduceToInt, Int64.reduceToInt] <;> omega)
    refine va_iald hx hb hK hP 1 0 rfl rfl (by revert h_x_0 h_x_2 e4 e5; simp only [vp_in_iff, Int32.lt_iff_toInt_lt, Int32.le_iff_toInt_le, Int64.lt_iff_toInt_lt, Int64.le_iff_toInt_le, Int32.toInt_toInt64, ← Int32.toInt_inj, ← Int64.toInt_inj, Int32.reduceToInt, Int64.reduceToInt] <;> omega) dX2_scoreWith_19 ?_
    refine lv_topi (fun y6 ey6 => ?_)
    refine lv_iconst (v := (-1)) hx hb dX2_scoreWith_20 (by decide) ?_
    refine lv_icmp_ne (tgt := 26) hx hb dX2_scoreWith_21 (by decide) (fun c7 => ?_) (fun c7 => ?_)
    · refine lv_aload_n hx hb dX2_scoreWith_26 rfl (lv_at hl 0 rfl) ?_
      refine va_get (D := D) (ci := 2) (v := .ref q_2) (C := RX2) (T := TX2) (N := 14) hx hb hts inX2 hown hK hP 0 rfl rfl 6 (by decide) (hts _ kF_X2_22) (fun _ h9 => h9) rfl dX2_scoreWith_27 ?_
      refine lv_iload_n hx hb dX2_scoreWith_30 rfl (lv_at hl 1 rfl) ?_
      refine lv_iconst (v := 1) hx hb dX2_scoreWith_31 (by decide) ?_
      refine lv_iadd hx hb dX2_scoreWith_32 ?_
      have e8 : Int32.toInt (x_0 + 1) = Int32.toInt x_0 + Int32.toInt (1 : Int32) := zi_add (by revert h_x_0 e4 e5 h_x_2; simp only [vp_in_iff, Int32.lt_iff_toInt_lt, Int32.le_iff_toInt_le, Int64.lt_iff_toInt_lt, Int64.le_iff_toInt_le, Int32.toInt_toInt64, ← Int32.toInt_inj, ← Int64.toInt_inj, Int32.reduceToInt, Int64.reduceToInt] <;> omega)
      refine lv_bipush (v := 64) hx hb dX2_scoreWith_33 (by decide) ?_
      refine lv_imul hx hb dX2_scoreWith_35 ?_
      have e9 : Int32.toInt ((x_0 + 1) * 64) = Int32.toInt (x_0 + 1) * Int32.toInt (64 : Int32) := zi_mul (by revert h_x_0 e4 e5 e8 h_x_2; simp only [vp_in_iff, Int32.lt_iff_toInt_lt, Int32.le_iff_toInt_le, Int64.lt_iff_toInt_lt, Int64.le_iff_toInt_le, Int32.toInt_toInt64, ← Int32.toInt_inj, ← Int64.toInt_inj, Int32.reduceToInt, Int64.reduceToInt] <;> omega)
      refine lv_iload_n hx hb dX2_scoreWith_36 rfl (lv_at hl 2 rfl) ?_
      refine lv_iconst (v := 1) hx hb dX2_scoreWith_37 (by decide) ?_
      refine lv_iload_n hx hb dX2_scoreWith_38 rfl (lv_at hl 3 rfl) ?_
      refine lv_ishl hx hb dX2_scoreWith_39 ?_
      refine lv_topi (fun y10 ey10 => ?_)
      have hy10 : 1 ≤ Int32.toInt y10 ∧ Int32.toInt y10 ≤ 4 := by rw [ey10]; exact zo_shl1 2 (show 0 ≤ Int32.toInt x_2 ∧ Int32.toInt x_2 ≤ 2 by revert h_x_2 e5 e8 e9 h_x_0 e4; simp only [vp_in_iff, Int32.lt_iff_toInt_lt, Int32.le_iff_toInt_le, Int64.lt_iff_toInt_lt, Int64.le_iff_toInt_le, Int32.toInt_toInt64, ← Int32.toInt_inj, ← Int64.toInt_inj, Int32.reduceToInt, Int64.reduceToInt] <;> omega) (by decide)
      refine lv_ior hx hb dX2_scoreWith_40 ?_
      refine lv_topi (fun y11 ey11 => ?_)
      have hy11 : 0 ≤ Int32.toInt y11 ∧ Int32.toInt y11 ≤ 7 := by rw [ey11]; exact zo_or 3 (show 0 ≤ Int32.toInt x_1 ∧ Int32.toInt x_1 < 2 ^ 3 by revert h_x_1 hy10; simp only [vp_in_iff, Int32.lt_iff_toInt_lt, Int32.le_iff_toInt_le, Int64.lt_iff_toInt_lt, Int64.le_iff_toInt_le, Int32.toInt_toInt64, ← Int32.toInt_inj, ← Int64.toInt_inj, Int32.reduceToInt, Int64.reduceToInt] <;> omega) (show 0 ≤ Int32.toInt y10 ∧ Int32.toInt y10 < 2 ^ 3 by revert h_x_1 hy10; simp only [vp_in_iff, Int32.lt_iff_toInt_lt, Int32.le_iff_toInt_le, Int64.lt_iff_toInt_lt, Int64.le_iff_toInt_le, Int32.toInt_toInt64, ← Int32.toInt_inj, ← Int64.toInt_inj, Int32.reduceToInt, Int64.reduceToInt] <;> omega) (by decide)
      refine lv_iadd hx hb dX2_scoreWith_41 ?_
      have e12 : Int32.toInt (((x_0 + 1) * 64) + y11) = Int32.toInt ((x_0 + 1) * 64) + Int32.toInt y11 := zi_add (by revert h_x_0 e4 e5 e8 e9 hy11 h_x_2; simp only [vp_in_iff, Int32.lt_iff_toInt_lt, Int32.le_iff_toInt_le, Int64.lt_iff_toInt_lt, Int64.le_iff_toInt_le, Int32.toInt_toInt64, ← Int32.toInt_inj, ← Int64.toInt_inj, Int32.reduceToInt, Int64.reduceToInt] <;> omega)
      refine va_iald hx hb hK hP 2 0 rfl rfl (by revert h_x_0 e4 e5 e8 e9 hy11 e12 h_x_2; simp only [vp_in_iff, Int32.lt_iff_toInt_lt, Int32.le_iff_toInt_le, Int64.lt_iff_toInt_lt, Int64.le_iff_toInt_le, Int32.toInt_toInt64, ← Int32.toInt_inj, ← Int64.toInt_inj, Int32.reduceToInt, Int64.reduceToInt] <;> omega) dX2_scoreWith_42 ?_
      refine lv_topi (fun y13 ey13 => ?_)
      refine lv_aload_n hx hb dX2_scoreWith_43 rfl (lv_at hl 0 rfl) ?_
      refine va_get (D := D) (ci := 2) (v := .ref q_1) (C := RX2) (T := TX2) (N := 14) hx hb hts inX2 hown hK hP 0 rfl rfl 5 (by decide) (hts _ kF_X2_19) (fun _ h9 => h9) rfl dX2_scoreWith_44 ?_
      refine lv_iload_n hx hb dX2_scoreWith_47 rfl (lv_at hl 1 rfl) ?_
      refine lv_bipush (v := 6) hx hb dX2_scoreWith_48 (by decide) ?_
      refine lv_imul hx hb dX2_scoreWith_50 ?_
      have e14 : Int32.toInt (x_0 * 6) = Int32.toInt x_0 * Int32.toInt (6 : Int32) := zi_mul (by revert h_x_0 e4 e5 e8 e9 e12 h_x_2 hy11; simp only [vp_in_iff, Int32.lt_iff_toInt_lt, Int32.le_iff_toInt_le, Int64.lt_iff_toInt_lt, Int64.le_iff_toInt_le, Int32.toInt_toInt64, ← Int32.toInt_inj, ← Int64.toInt_inj, Int32.reduceToInt, Int64.reduceToInt] <;> omega)
      refine lv_iload_n hx hb dX2_scoreWith_51 rfl (lv_at hl 3 rfl) ?_
      refine lv_iadd hx hb dX2_scoreWith_52 ?_
      have e15 : Int32.toInt ((x_0 * 6) + x_2) = Int32.toInt (x_0 * 6) + Int32.toInt x_2 := zi_add (by revert h_x_0 h_x_2 e4 e5 e8 e9 e12 e14 hy11; simp only [vp_in_iff, Int32.lt_iff_toInt_lt, Int32.le_iff_toInt_le, Int64.lt_iff_toInt_lt, Int64.le_iff_toInt_le, Int32.toInt_toInt64, ← Int32.toInt_inj, ← Int64.toInt_inj, Int32.reduceToInt, Int64.reduceToInt] <;> omega)
      refine va_iald hx hb hK hP 1 0 rfl rfl (by revert h_x_0 h_x_2 e4 e5 e8 e9 e12 e14 e15 hy11; simp only [vp_in_iff, Int32.lt_iff_toInt_lt, Int32.le_iff_toInt_le, Int64.lt_iff_toInt_lt, Int64.le_iff_toInt_le, Int32.toInt_toInt64, ← Int32.toInt_inj, ← Int64.toInt_inj, Int32.reduceToInt, Int64.reduceToInt] <;> omega) dX2_scoreWith_53 ?_
      refine lv_toc (v := y6) ey6.symm ?_
      refine lv_bipush (v := 8) hx hb dX2_scoreWith_54 (by decide) ?_
      refine lv_imul hx hb dX2_scoreWith_56 ?_
      refine lv_iadd hx hb dX2_scoreWith_57 ?_
      refine lv_iconst (v := 1) hx hb dX2_scoreWith_58 (by decide) ?_
      refine lv_iadd hx hb dX2_scoreWith_59 ?_
      exact z_iret C0 hr hlk rfl hK hP hD hS (0, fun _ => 0, fun _ => 0, fun _ => 0, fun _ => (fun _ => 0), fun _ => (fun _ => 0), fun _ => (fun _ => none)) rfl [0, 1, 2] rfl rfl rfl dX2_scoreWith_60
    · refine lv_iconst (v := (-1)) hx hb dX2_scoreWith_24 (by decide) ?_
      exact z_iret C0 hr hlk rfl hK hP hD hS (0, fun _ => 0, fun _ => 0, fun _ => 0, fun _ => (fun _ => 0), fun _ => (fun _ => 0), fun _ => (fun _ => none)) rfl [0, 1, 2] rfl rfl rfl dX2_scoreWith_25

set_option maxHeartbeats 4000000 in
set_option maxRecDepth 100000 in
theorem s_X2_scoreWith_4 (l : Launch) (D : va_G) (k : Nat → ClassId) (q_0 : Nat) (q_1 : Nat) (q_2 : Nat) (q_3 : Nat) (q_4 : Nat) (q_5 : Nat) (q_6 : Nat) (q_7 : Nat) (q_8 : Nat) (q_9 : Nat) (x_0 : Int32) (x_1 : Int32) (x_2 : Int32) (x_3 : Int32) (x_4 : Int32) (x_5 : Int32) (x_6 : Int32) (x_7 : Int32) (f_8 : Nat → Int32) (f_9 : Nat → Int32) (h_x_0 : 0 ≤ Int32.toInt x_0 ∧ Int32.toInt x_0 ≤ 5) (h_x_1 : 0 ≤ Int32.toInt x_1 ∧ Int32.toInt x_1 ≤ 0) (h_x_2 : 0 ≤ Int32.toInt x_2 ∧ Int32.toInt x_2 ≤ 3) (h_x_3 : 0 ≤ Int32.toInt x_3 ∧ Int32.toInt x_3 ≤ 6) : zMi l yX2_scoreWith cX2_scoreWith 4 (some .int) ({ frames := 0, cells := 0, slots := 0, locals := 0 }) D k [.ref q_0, .int x_0, .int x_1, .int x_2] [(q_0, .inr (2, [.ref q_3, .ref q_4, .ref q_5, .int x_3, .int x_4, .ref q_1, .ref q_2, .ref q_6, .int x_5, .int x_6, .int x_7, .ref q_7, .ref q_8, .ref q_9])), (q_1, .inl (k 0, 36, .inl f_8)), (q_2, .inl (k 0, 448, .inl f_9))] (fun r u => u.1 = 0) (fun u => [(q_0, .inr (2, [.ref q_3, .ref q_4, .ref q_5, .int x_3, .int x_4, .ref q_1, .ref q_2, .ref q_6, .int x_5, .int x_6, .int x_7, .ref q_7, .ref q_8, .ref q_9])), (q_1, .inl (k 0, 36, .inl f_8)), (q_2, .inl (k 0, 448, .inl f_9))]) := by
  refine zMi_of (own := RX2) (by decide +kernel) rfl (Nat.le_of_ble_eq_true rfl) ?_
  intro p e s m args below meth c A ls C0 hr hlk hin hP hD hS hA hK hN hl
  have hx := C0.1
  have hb := C0.2.1
  have hml := C0.2.2.1
  have hown := C0.2.2.2.1
  have hts := C0.2.2.2.2
  have hl : lv_has ls 4 [(0, .ref q_0), (1, .int x_0), (2, .int x_1), (3, .int x_2)] := hl
  have hP : va_P D vwCl [(q_0, .inr (2, [.ref q_3, .ref q_4, .ref q_5, .int x_3, .int x_4, .ref q_1, .ref q_2, .ref q_6, .int x_5, .int x_6, .int x_7, .ref q_7, .ref q_8, .ref q_9])), (q_1, .inl (k 0, 36, .inl f_8)), (q_2, .inl (k 0, 448, .inl f_9))] s.heap := hP
  refine lv_iload_n hx hb dX2_scoreWith_0 rfl (lv_at hl 2 rfl) ?_
  refine lv_iload_n hx hb dX2_scoreWith_1 rfl (lv_at hl 3 rfl) ?_
  refine lv_ishr hx hb dX2_scoreWith_2 ?_
  refine lv_topi (fun y1 ey1 => ?_)
  refine lv_iconst (v := 1) hx hb dX2_scoreWith_3 (by decide) ?_
  refine lv_iand hx hb dX2_scoreWith_4 ?_
  refine lv_topi (fun y2 ey2 => ?_)
  have hy2 : 0 ≤ Int32.toInt y2 ∧ Int32.toInt y2 ≤ 1 := by rw [ey2]; exact zo_and _ (by decide)
  refine lv_iconst (v := 1) hx hb dX2_scoreWith_5 (by decide) ?_
  refine lv_icmp_eq (tgt := 24) hx hb dX2_scoreWith_6 (by decide) (fun c3 => ?_) (fun c3 => ?_)
  · refine lv_iconst (v := (-1)) hx hb dX2_scoreWith_24 (by decide) ?_
    exact z_iret C0 hr hlk rfl hK hP hD hS (0, fun _ => 0, fun _ => 0, fun _ => 0, fun _ => (fun _ => 0), fun _ => (fun _ => 0), fun _ => (fun _ => none)) rfl [0, 1, 2] rfl rfl rfl dX2_scoreWith_25
  · refine lv_aload_n hx hb dX2_scoreWith_9 rfl (lv_at hl 0 rfl) ?_
    refine va_get (D := D) (ci := 2) (v := .ref q_1) (C := RX2) (T := TX2) (N := 14) hx hb hts inX2 hown hK hP 0 rfl rfl 5 (by decide) (hts _ kF_X2_19) (fun _ h9 => h9) rfl dX2_scoreWith_10 ?_
    refine lv_iload_n hx hb dX2_scoreWith_13 rfl (lv_at hl 1 rfl) ?_
    refine lv_bipush (v := 6) hx hb dX2_scoreWith_14 (by decide) ?_
    refine lv_imul hx hb dX2_scoreWith_16 ?_
    have e4 : Int32.toInt (x_0 * 6) = Int32.toInt x_0 * Int32.toInt (6 : Int32) := zi_mul (by revert h_x_0; simp only [vp_in_iff, Int32.lt_iff_toInt_lt, Int32.le_iff_toInt_le, Int64.lt_iff_toInt_lt, Int64.le_iff_toInt_le, Int32.toInt_toInt64, ← Int32.toInt_inj, ← Int64.toInt_inj, Int32.reduceToInt, Int64.reduceToInt] <;> omega)
    refine lv_iload_n hx hb dX2_scoreWith_17 rfl (lv_at hl 3 rfl) ?_
    refine lv_iadd hx hb dX2_scoreWith_18 ?_
    have e5 : Int32.toInt ((x_0 * 6) + x_2) = Int32.toInt (x_0 * 6) + Int32.toInt x_2 := zi_add (by revert h_x_0 h_x_2 e4; simp only [vp_in_iff, Int32.lt_iff_toInt_lt, Int32.le_iff_toInt_le, Int64.lt_iff_toInt_lt, Int64.le_iff_toInt_le, Int32.toInt_toInt64, ← Int32.toInt_inj, ← Int64.toInt_inj, Int32.reduceToInt, Int64.reduceToInt] <;> omega)
    refine va_iald hx hb hK hP 1 0 rfl rfl (by revert h_x_0 h_x_2 e4 e5; simp only [vp_in_iff, Int32.lt_iff_toInt_lt, Int32.le_iff_toInt_le, Int64.lt_iff_toInt_lt, Int64.le_iff_toInt_le, Int32.toInt_toInt64, ← Int32.toInt_inj, ← Int64.toInt_inj, Int32.reduceToInt, Int64.reduceToInt] <;> omega) dX2_scoreWith_19 ?_
    refine lv_topi (fun y6 ey6 => ?_)
    refine lv_iconst (v := (-1)) hx hb dX2_scoreWith_20 (by decide) ?_
    refine lv_icmp_ne (tgt := 26) hx hb dX2_scoreWith_21 (by decide) (fun c7 => ?_) (fun c7 => ?_)
    · refine lv_aload_n hx hb dX2_scoreWith_26 rfl (lv_at hl 0 rfl) ?_
      refine va_get (D := D) (ci := 2) (v := .ref q_2) (C := RX2) (T := TX2) (N := 14) hx hb hts inX2 hown hK hP 0 rfl rfl 6 (by decide) (hts _ kF_X2_22) (fun _ h9 => h9) rfl dX2_scoreWith_27 ?_
      refine lv_iload_n hx hb dX2_scoreWith_30 rfl (lv_at hl 1 rfl) ?_
      refine lv_iconst (v := 1) hx hb dX2_scoreWith_31 (by decide) ?_
      refine lv_iadd hx hb dX2_scoreWith_32 ?_
      have e8 : Int32.toInt (x_0 + 1) = Int32.toInt x_0 + Int32.toInt (1 : Int32) := zi_add (by revert h_x_0 e4 e5 h_x_2; simp only [vp_in_iff, Int32.lt_iff_toInt_lt, Int32.le_iff_toInt_le, Int64.lt_iff_toInt_lt, Int64.le_iff_toInt_le, Int32.toInt_toInt64, ← Int32.toInt_inj, ← Int64.toInt_inj, Int32.reduceToInt, Int64.reduceToInt] <;> omega)
      refine lv_bipush (v := 64) hx hb dX2_scoreWith_33 (by decide) ?_
      refine lv_imul hx hb dX2_scoreWith_35 ?_
      have e9 : Int32.toInt ((x_0 + 1) * 64) = Int32.toInt (x_0 + 1) * Int32.toInt (64 : Int32) := zi_mul (by revert h_x_0 e4 e5 e8 h_x_2; simp only [vp_in_iff, Int32.lt_iff_toInt_lt, Int32.le_iff_toInt_le, Int64.lt_iff_toInt_lt, Int64.le_iff_toInt_le, Int32.toInt_toInt64, ← Int32.toInt_inj, ← Int64.toInt_inj, Int32.reduceToInt, Int64.reduceToInt] <;> omega)
      refine lv_iload_n hx hb dX2_scoreWith_36 rfl (lv_at hl 2 rfl) ?_
      refine lv_iconst (v := 1) hx hb dX2_scoreWith_37 (by decide) ?_
      refine lv_iload_n hx hb dX2_scoreWith_38 rfl (lv_at hl 3 rfl) ?_
      refine lv_ishl hx hb dX2_scoreWith_39 ?_
      refine lv_topi (fun y10 ey10 => ?_)
      have hy10 : 1 ≤ Int32.toInt y10 ∧ Int32.toInt y10 ≤ 8 := by rw [ey10]; exact zo_shl1 3 (show 0 ≤ Int32.toInt x_2 ∧ Int32.toInt x_2 ≤ 3 by revert h_x_2 e5 e8 e9 h_x_0 e4; simp only [vp_in_iff, Int32.lt_iff_toInt_lt, Int32.le_iff_toInt_le, Int64.lt_iff_toInt_lt, Int64.le_iff_toInt_le, Int32.toInt_toInt64, ← Int32.toInt_inj, ← Int64.toInt_inj, Int32.reduceToInt, Int64.reduceToInt] <;> omega) (by decide)
      refine lv_ior hx hb dX2_scoreWith_40 ?_
      refine lv_topi (fun y11 ey11 => ?_)
      have hy11 : 0 ≤ Int32.toInt y11 ∧ Int32.toInt y11 ≤ 15 := by rw [ey11]; exact zo_or 4 (show 0 ≤ Int32.toInt x_1 ∧ Int32.toInt x_1 < 2 ^ 4 by revert h_x_1 hy10; simp only [vp_in_iff, Int32.lt_iff_toInt_lt, Int32.le_iff_toInt_le, Int64.lt_iff_toInt_lt, Int64.le_iff_toInt_le, Int32.toInt_toInt64, ← Int32.toInt_inj, ← Int64.toInt_inj, Int32.reduceToInt, Int64.reduceToInt] <;> omega) (show 0 ≤ Int32.toInt y10 ∧ Int32.toInt y10 < 2 ^ 4 by revert h_x_1 hy10; simp only [vp_in_iff, Int32.lt_iff_toInt_lt, Int32.le_iff_toInt_le, Int64.lt_iff_toInt_lt, Int64.le_iff_toInt_le, Int32.toInt_toInt64, ← Int32.toInt_inj, ← Int64.toInt_inj, Int32.reduceToInt, Int64.reduceToInt] <;> omega) (by decide)
      refine lv_iadd hx hb dX2_scoreWith_41 ?_
      have e12 : Int32.toInt (((x_0 + 1) * 64) + y11) = Int32.toInt ((x_0 + 1) * 64) + Int32.toInt y11 := zi_add (by revert h_x_0 e4 e5 e8 e9 hy11 h_x_2; simp only [vp_in_iff, Int32.lt_iff_toInt_lt, Int32.le_iff_toInt_le, Int64.lt_iff_toInt_lt, Int64.le_iff_toInt_le, Int32.toInt_toInt64, ← Int32.toInt_inj, ← Int64.toInt_inj, Int32.reduceToInt, Int64.reduceToInt] <;> omega)
      refine va_iald hx hb hK hP 2 0 rfl rfl (by revert h_x_0 e4 e5 e8 e9 hy11 e12 h_x_2; simp only [vp_in_iff, Int32.lt_iff_toInt_lt, Int32.le_iff_toInt_le, Int64.lt_iff_toInt_lt, Int64.le_iff_toInt_le, Int32.toInt_toInt64, ← Int32.toInt_inj, ← Int64.toInt_inj, Int32.reduceToInt, Int64.reduceToInt] <;> omega) dX2_scoreWith_42 ?_
      refine lv_topi (fun y13 ey13 => ?_)
      refine lv_aload_n hx hb dX2_scoreWith_43 rfl (lv_at hl 0 rfl) ?_
      refine va_get (D := D) (ci := 2) (v := .ref q_1) (C := RX2) (T := TX2) (N := 14) hx hb hts inX2 hown hK hP 0 rfl rfl 5 (by decide) (hts _ kF_X2_19) (fun _ h9 => h9) rfl dX2_scoreWith_44 ?_
      refine lv_iload_n hx hb dX2_scoreWith_47 rfl (lv_at hl 1 rfl) ?_
      refine lv_bipush (v := 6) hx hb dX2_scoreWith_48 (by decide) ?_
      refine lv_imul hx hb dX2_scoreWith_50 ?_
      have e14 : Int32.toInt (x_0 * 6) = Int32.toInt x_0 * Int32.toInt (6 : Int32) := zi_mul (by revert h_x_0 e4 e5 e8 e9 e12 h_x_2 hy11; simp only [vp_in_iff, Int32.lt_iff_toInt_lt, Int32.le_iff_toInt_le, Int64.lt_iff_toInt_lt, Int64.le_iff_toInt_le, Int32.toInt_toInt64, ← Int32.toInt_inj, ← Int64.toInt_inj, Int32.reduceToInt, Int64.reduceToInt] <;> omega)
      refine lv_iload_n hx hb dX2_scoreWith_51 rfl (lv_at hl 3 rfl) ?_
      refine lv_iadd hx hb dX2_scoreWith_52 ?_
      have e15 : Int32.toInt ((x_0 * 6) + x_2) = Int32.toInt (x_0 * 6) + Int32.toInt x_2 := zi_add (by revert h_x_0 h_x_2 e4 e5 e8 e9 e12 e14 hy11; simp only [vp_in_iff, Int32.lt_iff_toInt_lt, Int32.le_iff_toInt_le, Int64.lt_iff_toInt_lt, Int64.le_iff_toInt_le, Int32.toInt_toInt64, ← Int32.toInt_inj, ← Int64.toInt_inj, Int32.reduceToInt, Int64.reduceToInt] <;> omega)
      refine va_iald hx hb hK hP 1 0 rfl rfl (by revert h_x_0 h_x_2 e4 e5 e8 e9 e12 e14 e15 hy11; simp only [vp_in_iff, Int32.lt_iff_toInt_lt, Int32.le_iff_toInt_le, Int64.lt_iff_toInt_lt, Int64.le_iff_toInt_le, Int32.toInt_toInt64, ← Int32.toInt_inj, ← Int64.toInt_inj, Int32.reduceToInt, Int64.reduceToInt] <;> omega) dX2_scoreWith_53 ?_
      refine lv_toc (v := y6) ey6.symm ?_
      refine lv_bipush (v := 8) hx hb dX2_scoreWith_54 (by decide) ?_
      refine lv_imul hx hb dX2_scoreWith_56 ?_
      refine lv_iadd hx hb dX2_scoreWith_57 ?_
      refine lv_iconst (v := 1) hx hb dX2_scoreWith_58 (by decide) ?_
      refine lv_iadd hx hb dX2_scoreWith_59 ?_
      exact z_iret C0 hr hlk rfl hK hP hD hS (0, fun _ => 0, fun _ => 0, fun _ => 0, fun _ => (fun _ => 0), fun _ => (fun _ => 0), fun _ => (fun _ => none)) rfl [0, 1, 2] rfl rfl rfl dX2_scoreWith_60
    · refine lv_iconst (v := (-1)) hx hb dX2_scoreWith_24 (by decide) ?_
      exact z_iret C0 hr hlk rfl hK hP hD hS (0, fun _ => 0, fun _ => 0, fun _ => 0, fun _ => (fun _ => 0), fun _ => (fun _ => 0), fun _ => (fun _ => none)) rfl [0, 1, 2] rfl rfl rfl dX2_scoreWith_25

set_option maxHeartbeats 4000000 in
set_option maxRecDepth 100000 in
theorem s_X2_scoreWith_5 (l : Launch) (D : va_G) (k : Nat → ClassId) (q_0 : Nat) (q_1 : Nat) (q_2 : Nat) (q_3 : Nat) (q_4 : Nat) (q_5 : Nat) (q_6 : Nat) (q_7 : Nat) (q_8 : Nat) (q_9 : Nat) (x_0 : Int32) (x_1 : Int32) (x_2 : Int32) (x_3 : Int32) (x_4 : Int32) (x_5 : Int32) (x_6 : Int32) (x_7 : Int32) (f_8 : Nat → Int32) (f_9 : Nat → Int32) (h_x_0 : 0 ≤ Int32.toInt x_0 ∧ Int32.toInt x_0 ≤ 5) (h_x_1 : 0 ≤ Int32.toInt x_1 ∧ Int32.toInt x_1 ≤ 0) (h_x_2 : 0 ≤ Int32.toInt x_2 ∧ Int32.toInt x_2 ≤ 5) (h_x_3 : 0 ≤ Int32.toInt x_3 ∧ Int32.toInt x_3 ≤ 6) : zMi l yX2_scoreWith cX2_scoreWith 4 (some .int) ({ frames := 0, cells := 0, slots := 0, locals := 0 }) D k [.ref q_0, .int x_0, .int x_1, .int x_2] [(q_0, .inr (2, [.ref q_3, .ref q_4, .ref q_5, .int x_3, .int x_4, .ref q_1, .ref q_2, .ref q_6, .int x_5, .int x_6, .int x_7, .ref q_7, .ref q_8, .ref q_9])), (q_1, .inl (k 0, 36, .inl f_8)), (q_2, .inl (k 0, 448, .inl f_9))] (fun r u => u.1 = 0) (fun u => [(q_0, .inr (2, [.ref q_3, .ref q_4, .ref q_5, .int x_3, .int x_4, .ref q_1, .ref q_2, .ref q_6, .int x_5, .int x_6, .int x_7, .ref q_7, .ref q_8, .ref q_9])), (q_1, .inl (k 0, 36, .inl f_8)), (q_2, .inl (k 0, 448, .inl f_9))]) := by
  refine zMi_of (own := RX2) (by decide +kernel) rfl (Nat.le_of_ble_eq_true rfl) ?_
  intro p e s m args below meth c A ls C0 hr hlk hin hP hD hS hA hK hN hl
  have hx := C0.1
  have hb := C0.2.1
  have hml := C0.2.2.1
  have hown := C0.2.2.2.1
  have hts := C0.2.2.2.2
  have hl : lv_has ls 4 [(0, .ref q_0), (1, .int x_0), (2, .int x_1), (3, .int x_2)] := hl
  have hP : va_P D vwCl [(q_0, .inr (2, [.ref q_3, .ref q_4, .ref q_5, .int x_3, .int x_4, .ref q_1, .ref q_2, .ref q_6, .int x_5, .int x_6, .int x_7, .ref q_7, .ref q_8, .ref q_9])), (q_1, .inl (k 0, 36, .inl f_8)), (q_2, .inl (k 0, 448, .inl f_9))] s.heap := hP
  refine lv_iload_n hx hb dX2_scoreWith_0 rfl (lv_at hl 2 rfl) ?_
  refine lv_iload_n hx hb dX2_scoreWith_1 rfl (lv_at hl 3 rfl) ?_
  refine lv_ishr hx hb dX2_scoreWith_2 ?_
  refine lv_topi (fun y1 ey1 => ?_)
  refine lv_iconst (v := 1) hx hb dX2_scoreWith_3 (by decide) ?_
  refine lv_iand hx hb dX2_scoreWith_4 ?_
  refine lv_topi (fun y2 ey2 => ?_)
  have hy2 : 0 ≤ Int32.toInt y2 ∧ Int32.toInt y2 ≤ 1 := by rw [ey2]; exact zo_and _ (by decide)
  refine lv_iconst (v := 1) hx hb dX2_scoreWith_5 (by decide) ?_
  refine lv_icmp_eq (tgt := 24) hx hb dX2_scoreWith_6 (by decide) (fun c3 => ?_) (fun c3 => ?_)
  · refine lv_iconst (v := (-1)) hx hb dX2_scoreWith_24 (by decide) ?_
    exact z_iret C0 hr hlk rfl hK hP hD hS (0, fun _ => 0, fun _ => 0, fun _ => 0, fun _ => (fun _ => 0), fun _ => (fun _ => 0), fun _ => (fun _ => none)) rfl [0, 1, 2] rfl rfl rfl dX2_scoreWith_25
  · refine lv_aload_n hx hb dX2_scoreWith_9 rfl (lv_at hl 0 rfl) ?_
    refine va_get (D := D) (ci := 2) (v := .ref q_1) (C := RX2) (T := TX2) (N := 14) hx hb hts inX2 hown hK hP 0 rfl rfl 5 (by decide) (hts _ kF_X2_19) (fun _ h9 => h9) rfl dX2_scoreWith_10 ?_
    refine lv_iload_n hx hb dX2_scoreWith_13 rfl (lv_at hl 1 rfl) ?_
    refine lv_bipush (v := 6) hx hb dX2_scoreWith_14 (by decide) ?_
    refine lv_imul hx hb dX2_scoreWith_16 ?_
    have e4 : Int32.toInt (x_0 * 6) = Int32.toInt x_0 * Int32.toInt (6 : Int32) := zi_mul (by revert h_x_0; simp only [vp_in_iff, Int32.lt_iff_toInt_lt, Int32.le_iff_toInt_le, Int64.lt_iff_toInt_lt, Int64.le_iff_toInt_le, Int32.toInt_toInt64, ← Int32.toInt_inj, ← Int64.toInt_inj, Int32.reduceToInt, Int64.reduceToInt] <;> omega)
    refine lv_iload_n hx hb dX2_scoreWith_17 rfl (lv_at hl 3 rfl) ?_
    refine lv_iadd hx hb dX2_scoreWith_18 ?_
    have e5 : Int32.toInt ((x_0 * 6) + x_2) = Int32.toInt (x_0 * 6) + Int32.toInt x_2 := zi_add (by revert h_x_0 h_x_2 e4; simp only [vp_in_iff, Int32.lt_iff_toInt_lt, Int32.le_iff_toInt_le, Int64.lt_iff_toInt_lt, Int64.le_iff_toInt_le, Int32.toInt_toInt64, ← Int32.toInt_inj, ← Int64.toInt_inj, Int32.reduceToInt, Int64.reduceToInt] <;> omega)
    refine va_iald hx hb hK hP 1 0 rfl rfl (by revert h_x_0 h_x_2 e4 e5; simp only [vp_in_iff, Int32.lt_iff_toInt_lt, Int32.le_iff_toInt_le, Int64.lt_iff_toInt_lt, Int64.le_iff_toInt_le, Int32.toInt_toInt64, ← Int32.toInt_inj, ← Int64.toInt_inj, Int32.reduceToInt, Int64.reduceToInt] <;> omega) dX2_scoreWith_19 ?_
    refine lv_topi (fun y6 ey6 => ?_)
    refine lv_iconst (v := (-1)) hx hb dX2_scoreWith_20 (by decide) ?_
    refine lv_icmp_ne (tgt := 26) hx hb dX2_scoreWith_21 (by decide) (fun c7 => ?_) (fun c7 => ?_)
    · refine lv_aload_n hx hb dX2_scoreWith_26 rfl (lv_at hl 0 rfl) ?_
      refine va_get (D := D) (ci := 2) (v := .ref q_2) (C := RX2) (T := TX2) (N := 14) hx hb hts inX2 hown hK hP 0 rfl rfl 6 (by decide) (hts _ kF_X2_22) (fun _ h9 => h9) rfl dX2_scoreWith_27 ?_
      refine lv_iload_n hx hb dX2_scoreWith_30 rfl (lv_at hl 1 rfl) ?_
      refine lv_iconst (v := 1) hx hb dX2_scoreWith_31 (by decide) ?_
      refine lv_iadd hx hb dX2_scoreWith_32 ?_
      have e8 : Int32.toInt (x_0 + 1) = Int32.toInt x_0 + Int32.toInt (1 : Int32) := zi_add (by revert h_x_0 e4 e5 h_x_2; simp only [vp_in_iff, Int32.lt_iff_toInt_lt, Int32.le_iff_toInt_le, Int64.lt_iff_toInt_lt, Int64.le_iff_toInt_le, Int32.toInt_toInt64, ← Int32.toInt_inj, ← Int64.toInt_inj, Int32.reduceToInt, Int64.reduceToInt] <;> omega)
      refine lv_bipush (v := 64) hx hb dX2_scoreWith_33 (by decide) ?_
      refine lv_imul hx hb dX2_scoreWith_35 ?_
      have e9 : Int32.toInt ((x_0 + 1) * 64) = Int32.toInt (x_0 + 1) * Int32.toInt (64 : Int32) := zi_mul (by revert h_x_0 e4 e5 e8 h_x_2; simp only [vp_in_iff, Int32.lt_iff_toInt_lt, Int32.le_iff_toInt_le, Int64.lt_iff_toInt_lt, Int64.le_iff_toInt_le, Int32.toInt_toInt64, ← Int32.toInt_inj, ← Int64.toInt_inj, Int32.reduceToInt, Int64.reduceToInt] <;> omega)
      refine lv_iload_n hx hb dX2_scoreWith_36 rfl (lv_at hl 2 rfl) ?_
      refine lv_iconst (v := 1) hx hb dX2_scoreWith_37 (by decide) ?_
      refine lv_iload_n hx hb dX2_scoreWith_38 rfl (lv_at hl 3 rfl) ?_
      refine lv_ishl hx hb dX2_scoreWith_39 ?_
      refine lv_topi (fun y10 ey10 => ?_)
      have hy10 : 1 ≤ Int32.toInt y10 ∧ Int32.toInt y10 ≤ 32 := by rw [ey10]; exact zo_shl1 5 (show 0 ≤ Int32.toInt x_2 ∧ Int32.toInt x_2 ≤ 5 by revert h_x_2 e5 e8 e9 h_x_0 e4; simp only [vp_in_iff, Int32.lt_iff_toInt_lt, Int32.le_iff_toInt_le, Int64.lt_iff_toInt_lt, Int64.le_iff_toInt_le, Int32.toInt_toInt64, ← Int32.toInt_inj, ← Int64.toInt_inj, Int32.reduceToInt, Int64.reduceToInt] <;> omega) (by decide)
      refine lv_ior hx hb dX2_scoreWith_40 ?_
      refine lv_topi (fun y11 ey11 => ?_)
      have hy11 : 0 ≤ Int32.toInt y11 ∧ Int32.toInt y11 ≤ 63 := by rw [ey11]; exact zo_or 6 (show 0 ≤ Int32.toInt x_1 ∧ Int32.toInt x_1 < 2 ^ 6 by revert h_x_1 hy10; simp only [vp_in_iff, Int32.lt_iff_toInt_lt, Int32.le_iff_toInt_le, Int64.lt_iff_toInt_lt, Int64.le_iff_toInt_le, Int32.toInt_toInt64, ← Int32.toInt_inj, ← Int64.toInt_inj, Int32.reduceToInt, Int64.reduceToInt] <;> omega) (show 0 ≤ Int32.toInt y10 ∧ Int32.toInt y10 < 2 ^ 6 by revert h_x_1 hy10; simp only [vp_in_iff, Int32.lt_iff_toInt_lt, Int32.le_iff_toInt_le, Int64.lt_iff_toInt_lt, Int64.le_iff_toInt_le, Int32.toInt_toInt64, ← Int32.toInt_inj, ← Int64.toInt_inj, Int32.reduceToInt, Int64.reduceToInt] <;> omega) (by decide)
      refine lv_iadd hx hb dX2_scoreWith_41 ?_
      have e12 : Int32.toInt (((x_0 + 1) * 64) + y11) = Int32.toInt ((x_0 + 1) * 64) + Int32.toInt y11 := zi_add (by revert h_x_0 e4 e5 e8 e9 hy11 h_x_2; simp only [vp_in_iff, Int32.lt_iff_toInt_lt, Int32.le_iff_toInt_le, Int64.lt_iff_toInt_lt, Int64.le_iff_toInt_le, Int32.toInt_toInt64, ← Int32.toInt_inj, ← Int64.toInt_inj, Int32.reduceToInt, Int64.reduceToInt] <;> omega)
      refine va_iald hx hb hK hP 2 0 rfl rfl (by revert h_x_0 e4 e5 e8 e9 hy11 e12 h_x_2; simp only [vp_in_iff, Int32.lt_iff_toInt_lt, Int32.le_iff_toInt_le, Int64.lt_iff_toInt_lt, Int64.le_iff_toInt_le, Int32.toInt_toInt64, ← Int32.toInt_inj, ← Int64.toInt_inj, Int32.reduceToInt, Int64.reduceToInt] <;> omega) dX2_scoreWith_42 ?_
      refine lv_topi (fun y13 ey13 => ?_)
      refine lv_aload_n hx hb dX2_scoreWith_43 rfl (lv_at hl 0 rfl) ?_
      refine va_get (D := D) (ci := 2) (v := .ref q_1) (C := RX2) (T := TX2) (N := 14) hx hb hts inX2 hown hK hP 0 rfl rfl 5 (by decide) (hts _ kF_X2_19) (fun _ h9 => h9) rfl dX2_scoreWith_44 ?_
      refine lv_iload_n hx hb dX2_scoreWith_47 rfl (lv_at hl 1 rfl) ?_
      refine lv_bipush (v := 6) hx hb dX2_scoreWith_48 (by decide) ?_
      refine lv_imul hx hb dX2_scoreWith_50 ?_
      have e14 : Int32.toInt (x_0 * 6) = Int32.toInt x_0 * Int32.toInt (6 : Int32) := zi_mul (by revert h_x_0 e4 e5 e8 e9 e12 h_x_2 hy11; simp only [vp_in_iff, Int32.lt_iff_toInt_lt, Int32.le_iff_toInt_le, Int64.lt_iff_toInt_lt, Int64.le_iff_toInt_le, Int32.toInt_toInt64, ← Int32.toInt_inj, ← Int64.toInt_inj, Int32.reduceToInt, Int64.reduceToInt] <;> omega)
      refine lv_iload_n hx hb dX2_scoreWith_51 rfl (lv_at hl 3 rfl) ?_
      refine lv_iadd hx hb dX2_scoreWith_52 ?_
      have e15 : Int32.toInt ((x_0 * 6) + x_2) = Int32.toInt (x_0 * 6) + Int32.toInt x_2 := zi_add (by revert h_x_0 h_x_2 e4 e5 e8 e9 e12 e14 hy11; simp only [vp_in_iff, Int32.lt_iff_toInt_lt, Int32.le_iff_toInt_le, Int64.lt_iff_toInt_lt, Int64.le_iff_toInt_le, Int32.toInt_toInt64, ← Int32.toInt_inj, ← Int64.toInt_inj, Int32.reduceToInt, Int64.reduceToInt] <;> omega)
      refine va_iald hx hb hK hP 1 0 rfl rfl (by revert h_x_0 h_x_2 e4 e5 e8 e9 e12 e14 e15 hy11; simp only [vp_in_iff, Int32.lt_iff_toInt_lt, Int32.le_iff_toInt_le, Int64.lt_iff_toInt_lt, Int64.le_iff_toInt_le, Int32.toInt_toInt64, ← Int32.toInt_inj, ← Int64.toInt_inj, Int32.reduceToInt, Int64.reduceToInt] <;> omega) dX2_scoreWith_53 ?_
      refine lv_toc (v := y6) ey6.symm ?_
      refine lv_bipush (v := 8) hx hb dX2_scoreWith_54 (by decide) ?_
      refine lv_imul hx hb dX2_scoreWith_56 ?_
      refine lv_iadd hx hb dX2_scoreWith_57 ?_
      refine lv_iconst (v := 1) hx hb dX2_scoreWith_58 (by decide) ?_
      refine lv_iadd hx hb dX2_scoreWith_59 ?_
      exact z_iret C0 hr hlk rfl hK hP hD hS (0, fun _ => 0, fun _ => 0, fun _ => 0, fun _ => (fun _ => 0), fun _ => (fun _ => 0), fun _ => (fun _ => none)) rfl [0, 1, 2] rfl rfl rfl dX2_scoreWith_60
    · refine lv_iconst (v := (-1)) hx hb dX2_scoreWith_24 (by decide) ?_
      exact z_iret C0 hr hlk rfl hK hP hD hS (0, fun _ => 0, fun _ => 0, fun _ => 0, fun _ => (fun _ => 0), fun _ => (fun _ => 0), fun _ => (fun _ => none)) rfl [0, 1, 2] rfl rfl rfl dX2_scoreWith_25

set_option maxHeartbeats 4000000 in
set_option maxRecDepth 100000 in
theorem s_X2_weighJoins_1 (l : Launch) (D : va_G) (k : Nat → ClassId) (q_0 : Nat) (q_1 : Nat) (q_2 : Nat) (q_3 : Nat) (q_4 : Nat) (q_5 : Nat) (q_6 : Nat) (q_7 : Nat) (q_8 : Nat) (q_9 : Nat) (q_10 : Nat) (q_11 : Nat) (q_12 : Nat) (q_13 : Nat) (q_14 : Nat) (q_15 : Nat) (q_16 : Nat) (q_17 : Nat) (q_18 : Nat) (x_0 : Int32) (x_1 : Int32) (x_2 : Int32) (x_3 : Int32) (x_4 : Int32) (x_5 : Int32) (x_6 : Int32) (f_7 : Nat → Int32) (f_8 : Nat → Int32) (x_9 : Int32) (x_10 : Int32) (x_11 : Int32) (x_12 : Int32) (f_13 : Nat → Int32) (h_x_0 : 0 ≤ Int32.toInt x_0 ∧ Int32.toInt x_0 ≤ 5) (h_x_1 : 0 ≤ Int32.toInt x_1 ∧ Int32.toInt x_1 ≤ 0) (h_x_2 : 0 ≤ Int32.toInt x_2 ∧ Int32.toInt x_2 ≤ 6) (h_x_9 : 0 ≤ Int32.toInt x_9 ∧ Int32.toInt x_9 ≤ 6) (h_x_10 : 1 ≤ Int32.toInt x_10 ∧ Int32.toInt x_10 ≤ 6) (h_x_11 : 0 ≤ Int32.toInt x_11 ∧ Int32.toInt x_11 ≤ 9) (h_x_12 : 0 ≤ Int32.toInt x_12 ∧ Int32.toInt x_12 ≤ 12) : zMv l yX2_weighJoins cX2_weighJoins 8 none ({ frames := 1, cells := 0, slots := 0, locals := 23 }) D k [.ref q_0, .int x_0, .int x_1] [(q_0, .inr (2, [.ref q_5, .ref q_3, .ref q_6, .int x_2, .int x_3, .ref q_4, .ref q_1, .ref q_2, .int x_4, .int x_5, .int x_6, .ref q_7, .ref q_8, .ref q_9])), (q_1, .inl (k 0, 448, .inl f_7)), (q_2, .inl (k 0, 448, .inl f_8)), (q_3, .inr (4, [.int x_9, .ref q_10, .int x_10, .ref q_11, .ref q_12, .int x_11, .ref q_13, .ref q_14, .ref q_15, .int x_12, .ref q_16, .ref q_17, .ref q_18])), (q_4, .inl (k 0, 36, .inl f_13))] (fun u => u.1 = 0) (fun u => [(q_0, .inr (2, [.ref q_5, .ref q_3, .ref q_6, .int x_2, .int x_3, .ref q_4, .ref q_1, .ref q_2, .int x_4, .int x_5, .int x_6, .ref q_7, .ref q_8, .ref q_9])), (q_1, .inl (k 0, 448, .inl (u.2.2.2.2.1 0))), (q_2, .inl (k 0, 448, .inl (u.2.2.2.2.1 1))), (q_3, .inr (4, [.int x_9, .ref q_10, .int x_10, .ref q_11, .ref q_12, .int x_11, .ref q_13, .ref q_14, .ref q_15, .int x_12, .ref q_16, .ref q_17, .ref q_18])), (q_4, .inl (k 0, 36, .inl f_13))]) := by
  refine zMv_of (own := RX2) (by decide +kernel) rfl (Nat.le_of_ble_eq_true rfl) ?_
  intro p e s m args below meth c A ls C0 hr hlk hin hP hD hS hA hK hN hl
  have hx := C0.1
  have hb := C0.2.1
  have hml := C0.2.2.1
  have hown := C0.2.2.2.1
  have hts := C0.2.2.2.2
  have hl : lv_has ls 8 [(0, .ref q_0), (1, .int x_0), (2, .int x_1)] := hl
  have hP : va_P D vwCl [(q_0, .inr (2, [.ref q_5, .ref q_3, .ref q_6, .int x_2, .int x_3, .ref q_4, .ref q_1, .ref q_2, .int x_4, .int x_5, .int x_6, .ref q_7, .ref q_8, .ref q_9])), (q_1, .inl (k 0, 448, .inl f_7)), (q_2, .inl (k 0, 448, .inl f_8)), (q_3, .inr (4, [.int x_9, .ref q_10, .int x_10, .ref q_11, .ref q_12, .int x_11, .ref q_13, .ref q_14, .ref q_15, .int x_12, .ref q_16, .ref q_17, .ref q_18])), (q_4, .inl (k 0, 36, .inl f_13))] s.heap := hP
  refine lv_iload_n hx hb dX2_weighJoins_0 rfl (lv_at hl 1 rfl) ?_
  refine lv_bipush (v := 64) hx hb dX2_weighJoins_1 (by decide) ?_
  refine lv_imul hx hb dX2_weighJoins_3 ?_
  have e1 : Int32.toInt (x_0 * 64) = Int32.toInt x_0 * Int32.toInt (64 : Int32) := zi_mul (by revert h_x_0; simp only [vp_in_iff, Int32.lt_iff_toInt_lt, Int32.le_iff_toInt_le, Int64.lt_iff_toInt_lt, Int64.le_iff_toInt_le, Int32.toInt_toInt64, ← Int32.toInt_inj, ← Int64.toInt_inj, Int32.reduceToInt, Int64.reduceToInt] <;> omega)
  refine lv_iload_n hx hb dX2_weighJoins_4 rfl (lv_at hl 2 rfl) ?_
  refine lv_iadd hx hb dX2_weighJoins_5 ?_
  have e2 : Int32.toInt ((x_0 * 64) + x_1) = Int32.toInt (x_0 * 64) + Int32.toInt x_1 := zi_add (by revert h_x_0 h_x_1 e1; simp only [vp_in_iff, Int32.lt_iff_toInt_lt, Int32.le_iff_toInt_le, Int64.lt_iff_toInt_lt, Int64.le_iff_toInt_le, Int32.toInt_toInt64, ← Int32.toInt_inj, ← Int64.toInt_inj, Int32.reduceToInt, Int64.reduceToInt] <;> omega)
  refine lv_istore_n (lv' := [(3, .int ((x_0 * 64) + x_1)), (0, .ref q_0), (1, .int x_0), (2, .int x_1)]) hx hb dX2_weighJoins_6 rfl hl (by decide) rfl (fun ls hl => ?_)
  refine lv_aload_n hx hb dX2_weighJoins_7 rfl (lv_at hl 1 rfl) ?_
  refine va_get (D := D) (ci := 2) (v := .ref q_1) (C := RX2) (T := TX2) (N := 14) hx hb hts inX2 hown hK hP 0 rfl rfl 6 (by decide) (hts _ kF_X2_22) (fun _ h9 => h9) rfl dX2_weighJoins_8 ?_
  refine lv_iload_n hx hb dX2_weighJoins_11 rfl (lv_at hl 0 rfl) ?_
  refine lv_bipush (v := 64) hx hb dX2_weighJoins_12 (by decide) ?_
  refine lv_iadd hx hb dX2_weighJoins_14 ?_
  have e3 : Int32.toInt (((x_0 * 64) + x_1) + 64) = Int32.toInt ((x_0 * 64) + x_1) + Int32.toInt (64 : Int32) := zi_add (by revert h_x_0 h_x_1 e1 e2; simp only [vp_in_iff, Int32.lt_iff_toInt_lt, Int32.le_iff_toInt_le, Int64.lt_iff_toInt_lt, Int64.le_iff_toInt_le, Int32.toInt_toInt64, ← Int32.toInt_inj, ← Int64.toInt_inj, Int32.reduceToInt, Int64.reduceToInt] <;> omega)
  refine va_iald hx hb hK hP 1 0 rfl rfl (by revert h_x_0 h_x_1 e1 e2 e3; simp only [vp_in_iff, Int32.lt_iff_toInt_lt, Int32.le_iff_toInt_le, Int64.lt_iff_toInt_lt, Int64.le_iff_toInt_le, Int32.toInt_toInt64, ← Int32.toInt_inj, ← Int64.toInt_inj, Int32.reduceToInt, Int64.reduceToInt] <;> omega) dX2_weighJoins_15 ?_
  refine lv_topi (fun y4 ey4 => ?_)
  refine lv_istore (lv' := [(4, .int y4), (3, .int ((x_0 * 64) + x_1)), (0, .ref q_0), (1, .int x_0), (2, .int x_1)]) hx hb dX2_weighJoins_16 hl (by decide) rfl (fun ls hl => ?_)
  refine lv_aload_n hx hb dX2_weighJoins_18 rfl (lv_at hl 2 rfl) ?_
  refine va_get (D := D) (ci := 2) (v := .ref q_2) (C := RX2) (T := TX2) (N := 14) hx hb hts inX2 hown hK hP 0 rfl rfl 7 (by decide) (hts _ kF_X2_25) (fun _ h9 => h9) rfl dX2_weighJoins_19 ?_
  refine lv_iload_n hx hb dX2_weighJoins_22 rfl (lv_at hl 1 rfl) ?_
  refine lv_bipush (v := 64) hx hb dX2_weighJoins_23 (by decide) ?_
  refine lv_iadd hx hb dX2_weighJoins_25 ?_
  have e5 : Int32.toInt (((x_0 * 64) + x_1) + 64) = Int32.toInt ((x_0 * 64) + x_1) + Int32.toInt (64 : Int32) := zi_add (by revert h_x_0 h_x_1 e1 e2 e3; simp only [vp_in_iff, Int32.lt_iff_toInt_lt, Int32.le_iff_toInt_le, Int64.lt_iff_toInt_lt, Int64.le_iff_toInt_le, Int32.toInt_toInt64, ← Int32.toInt_inj, ← Int64.toInt_inj, Int32.reduceToInt, Int64.reduceToInt] <;> omega)
  refine va_iald hx hb hK hP 2 0 rfl rfl (by revert h_x_0 h_x_1 e1 e2 e3 e5; simp only [vp_in_iff, Int32.lt_iff_toInt_lt, Int32.le_iff_toInt_le, Int64.lt_iff_toInt_lt, Int64.le_iff_toInt_le, Int32.toInt_toInt64, ← Int32.toInt_inj, ← Int64.toInt_inj, Int32.reduceToInt, Int64.reduceToInt] <;> omega) dX2_weighJoins_26 ?_
  refine lv_topi (fun y6 ey6 => ?_)
  refine lv_istore (lv' := [(5, .int y6), (4, .int y4), (3, .int ((x_0 * 64) + x_1)), (0, .ref q_0), (1, .int x_0), (2, .int x_1)]) hx hb dX2_weighJoins_27 hl (by decide) rfl (fun ls hl => ?_)
  refine lv_iconst (v := 0) hx hb dX2_weighJoins_29 (by decide) ?_
  refine lv_istore (lv' := [(6, .int 0), (5, .int y6), (4, .int y4), (3, .int ((x_0 * 64) + x_1)), (0, .ref q_0), (1, .int x_0), (2, .int x_1)]) hx hb dX2_weighJoins_30 hl (by decide) rfl (fun ls hl => ?_)
  have loop25 : ∀ (N26 : Nat) (y22 : Int32) (y23 : Int32) (y24 : Int32) (H : Heap) (locs : List Loc) (ls : Array Slot), Int.toNat (6 - Int32.toInt y22) < N26 → 0 ≤ Int32.toInt y22 ∧ Int32.toInt y22 ≤ 6 → va_P D vwCl [(q_0, .inr (2, [.ref q_5, .ref q_3, .ref q_6, .int x_2, .int x_3, .ref q_4, .ref q_1, .ref q_2, .int x_4, .int x_5, .int x_6, .ref q_7, .ref q_8, .ref q_9])), (q_1, .inl (k 0, 448, .inl f_7)), (q_2, .inl (k 0, 448, .inl f_8)), (q_3, .inr (4, [.int x_9, .ref q_10, .int x_10, .ref q_11, .ref q_12, .int x_11, .ref q_13, .ref q_14, .ref q_15, .int x_12, .ref q_16, .ref q_17, .ref q_18])), (q_4, .inl (k 0, 36, .inl f_13))] H → va_D A [(q_0, .inr (2, [.ref q_5, .ref q_3, .ref q_6, .int x_2, .int x_3, .ref q_4, .ref q_1, .ref q_2, .int x_4, .int x_5, .int x_6, .ref q_7, .ref q_8, .ref q_9])), (q_1, .inl (k 0, 448, .inl f_7)), (q_2, .inl (k 0, 448, .inl f_8)), (q_3, .inr (4, [.int x_9, .ref q_10, .int x_10, .ref q_11, .ref q_12, .int x_11, .ref q_13, .ref q_14, .ref q_15, .int x_12, .ref q_16, .ref q_17, .ref q_18])), (q_4, .inl (k 0, 36, .inl f_13))] → va_S A s.heap H locs → lv_has ls 8 [(6, .int y22), (5, .int y23), (4, .int y24), (3, .int ((x_0 * 64) + x_1)), (0, .ref q_0), (1, .int x_0), (2, .int x_1)] → W p l e { frames := 1, cells := 0, slots := 0, locals := 23 } s m args below meth c H locs 0 0 (MQ below (va_Qv (fun (u : zS) => u.1 = 0) (zB D k A (fun (u : zS) => [(q_0, .inr (2, [.ref q_5, .ref q_3, .ref q_6, .int x_2, .int x_3, .ref q_4, .ref q_1, .ref q_2, .int x_4, .int x_5, .int x_6, .ref q_7, .ref q_8, .ref q_9])), (q_1, .inl (k 0, 448, .inl (u.2.2.2.2.1 0))), (q_2, .inl (k 0, 448, .inl (u.2.2.2.2.1 1))), (q_3, .inr (4, [.int x_9, .ref q_10, .int x_10, .ref q_11, .ref q_12, .int x_11, .ref q_13, .ref q_14, .ref q_15, .int x_12, .ref q_16, .ref q_17, .ref q_18])), (q_4, .inl (k 0, 36, .inl f_13))])) A) args s 0 0 A) (F0 m 32 ls []) := by
    intro N26
    induction N26 with
    | zero => intro y22 y23 y24 H locs ls hm; exact absurd hm (Nat.not_lt_zero _)
    | succ N26 ihN26 =>
      intro y22 y23 y24 H locs ls hN26 hy22 hP hD hS hl
      refine lv_iload hx hb dX2_weighJoins_32 (lv_at hl 0 rfl) ?_
      refine lv_aload_n hx hb dX2_weighJoins_34 rfl (lv_at hl 4 rfl) ?_
      refine va_get (D := D) (ci := 2) (v := .ref q_3) (C := RX2) (T := TX2) (N := 14) hx hb hts inX2 hown hK hP 0 rfl rfl 1 (by decide) (hts _ kF_X2_48) (fun _ h9 => h9) rfl dX2_weighJoins_35 ?_
      refine va_get (D := D) (ci := 4) (v := .int x_9) (C := RX4) (T := TX4) (N := 13) hx hb hts inX4 hown hK hP 3 rfl rfl 0 (by decide) (hts _ kF_X2_49) (fun _ h9 => h9) rfl dX2_weighJoins_38 ?_
      refine lv_icmp_ge (tgt := 104) hx hb dX2_weighJoins_41 (by decide) (fun c27 => ?_) (fun c27 => ?_)
      · refine lv_aload_n hx hb dX2_weighJoins_104 rfl (lv_at hl 4 rfl) ?_
        refine va_get (D := D) (ci := 2) (v := .ref q_1) (C := RX2) (T := TX2) (N := 14) hx hb hts inX2 hown hK hP 0 rfl rfl 6 (by decide) (hts _ kF_X2_22) (fun _ h9 => h9) rfl dX2_weighJoins_105 ?_
        refine lv_iload_n hx hb dX2_weighJoins_108 rfl (lv_at hl 3 rfl) ?_
        refine lv_iload hx hb dX2_weighJoins_109 (lv_at hl 2 rfl) ?_
        refine va_iast hx hb hK hP hD hS 1 0 rfl rfl (by revert h_x_0 h_x_1 e1 e2 e3 e5; simp only [vp_in_iff, Int32.lt_iff_toInt_lt, Int32.le_iff_toInt_le, Int64.lt_iff_toInt_lt, Int64.le_iff_toInt_le, Int32.toInt_toInt64, ← Int32.toInt_inj, ← Int64.toInt_inj, Int32.reduceToInt, Int64.reduceToInt] <;> omega) dX2_weighJoins_111 (fun H locs hP hD hS => ?_)
        obtain ⟨F28, eF28⟩ : ∃ q, q = upd f_7 (Int32.toNatClampNeg ((x_0 * 64) + x_1)) y24 := ⟨_, rfl⟩
        have hP : va_P D vwCl [(q_0, .inr (2, [.ref q_5, .ref q_3, .ref q_6, .int x_2, .int x_3, .ref q_4, .ref q_1, .ref q_2, .int x_4, .int x_5, .int x_6, .ref q_7, .ref q_8, .ref q_9])), (q_1, .inl (k 0, 448, .inl F28)), (q_2, .inl (k 0, 448, .inl f_8)), (q_3, .inr (4, [.int x_9, .ref q_10, .int x_10, .ref q_11, .ref q_12, .int x_11, .ref q_13, .ref q_14, .ref q_15, .int x_12, .ref q_16, .ref q_17, .ref q_18])), (q_4, .inl (k 0, 36, .inl f_13))] H := by rw [eF28]; exact hP
        have hD : va_D A [(q_0, .inr (2, [.ref q_5, .ref q_3, .ref q_6, .int x_2, .int x_3, .ref q_4, .ref q_1, .ref q_2, .int x_4, .int x_5, .int x_6, .ref q_7, .ref q_8, .ref q_9])), (q_1, .inl (k 0, 448, .inl F28)), (q_2, .inl (k 0, 448, .inl f_8)), (q_3, .inr (4, [.int x_9, .ref q_10, .int x_10, .ref q_11, .ref q_12, .int x_11, .ref q_13, .ref q_14, .ref q_15, .int x_12, .ref q_16, .ref q_17, .ref q_18])), (q_4, .inl (k 0, 36, .inl f_13))] := by rw [eF28]; exact hD
        refine lv_aload_n hx hb dX2_weighJoins_112 rfl (lv_at hl 4 rfl) ?_
        refine va_get (D := D) (ci := 2) (v := .ref q_2) (C := RX2) (T := TX2) (N := 14) hx hb hts inX2 hown hK hP 0 rfl rfl 7 (by decide) (hts _ kF_X2_25) (fun _ h9 => h9) rfl dX2_weighJoins_113 ?_
        refine lv_iload_n hx hb dX2_weighJoins_116 rfl (lv_at hl 3 rfl) ?_
        refine lv_iload hx hb dX2_weighJoins_117 (lv_at hl 1 rfl) ?_
        refine va_iast hx hb hK hP hD hS 2 0 rfl rfl (by revert h_x_0 h_x_1 e1 e2 e3 e5; simp only [vp_in_iff, Int32.lt_iff_toInt_lt, Int32.le_iff_toInt_le, Int64.lt_iff_toInt_lt, Int64.le_iff_toInt_le, Int32.toInt_toInt64, ← Int32.toInt_inj, ← Int64.toInt_inj, Int32.reduceToInt, Int64.reduceToInt] <;> omega) dX2_weighJoins_119 (fun H locs hP hD hS => ?_)
        obtain ⟨F29, eF29⟩ : ∃ q, q = upd f_8 (Int32.toNatClampNeg ((x_0 * 64) + x_1)) y23 := ⟨_, rfl⟩
        have hP : va_P D vwCl [(q_0, .inr (2, [.ref q_5, .ref q_3, .ref q_6, .int x_2, .int x_3, .ref q_4, .ref q_1, .ref q_2, .int x_4, .int x_5, .int x_6, .ref q_7, .ref q_8, .ref q_9])), (q_1, .inl (k 0, 448, .inl F28)), (q_2, .inl (k 0, 448, .inl F29)), (q_3, .inr (4, [.int x_9, .ref q_10, .int x_10, .ref q_11, .ref q_12, .int x_11, .ref q_13, .ref q_14, .ref q_15, .int x_12, .ref q_16, .ref q_17, .ref q_18])), (q_4, .inl (k 0, 36, .inl f_13))] H := by rw [eF29]; exact hP
        have hD : va_D A [(q_0, .inr (2, [.ref q_5, .ref q_3, .ref q_6, .int x_2, .int x_3, .ref q_4, .ref q_1, .ref q_2, .int x_4, .int x_5, .int x_6, .ref q_7, .ref q_8, .ref q_9])), (q_1, .inl (k 0, 448, .inl F28)), (q_2, .inl (k 0, 448, .inl F29)), (q_3, .inr (4, [.int x_9, .ref q_10, .int x_10, .ref q_11, .ref q_12, .int x_11, .ref q_13, .ref q_14, .ref q_15, .int x_12, .ref q_16, .ref q_17, .ref q_18])), (q_4, .inl (k 0, 36, .inl f_13))] := by rw [eF29]; exact hD
        exact z_vret C0 hr hlk hK hP hD hS (0, fun _ => 0, fun _ => 0, fun _ => 0, fun i => [F28, F29].getD i (fun _ => 0), fun _ => (fun _ => 0), fun _ => (fun _ => none)) rfl [0, 1, 2, 3, 4] rfl rfl rfl dX2_weighJoins_120
      · refine lv_aload_n hx hb dX2_weighJoins_44 rfl (lv_at hl 4 rfl) ?_
        refine lv_iload_n hx hb dX2_weighJoins_45 rfl (lv_at hl 5 rfl) ?_
        refine lv_iload_n hx hb dX2_weighJoins_46 rfl (lv_at hl 6 rfl) ?_
        refine lv_iload hx hb dX2_weighJoins_47 (lv_at hl 0 rfl) ?_
        refine z_bi (wr := [(q_2, .inl (k 0, 448, .inl f_8)), (q_3, .inr (4, [.int x_9, .ref q_10, .int x_10, .ref q_11, .ref q_12, .int x_11, .ref q_13, .ref q_14, .ref q_15, .int x_12, .ref q_16, .ref q_17, .ref q_18]))]) (z_runV (C := RX2) (As := [.int x_0, .int x_1, .int y22]) (rest := []) C0 (s_X2_scoreWith_5 l D k q_0 q_4 q_1 q_5 q_3 q_6 q_2 q_7 q_8 q_9 x_0 x_1 y22 x_2 x_3 x_4 x_5 x_6 f_13 f_7 (by revert h_x_0 e1 e2 e3 e5 h_x_1; simp only [vp_in_iff, Int32.lt_iff_toInt_lt, Int32.le_iff_toInt_le, Int64.lt_iff_toInt_lt, Int64.le_iff_toInt_le, Int32.toInt_toInt64, ← Int32.toInt_inj, ← Int64.toInt_inj, Int32.reduceToInt, Int64.reduceToInt] <;> omega) (by revert h_x_1 e2 e3 e5 h_x_0 e1; simp only [vp_in_iff, Int32.lt_iff_toInt_lt, Int32.le_iff_toInt_le, Int64.lt_iff_toInt_lt, Int64.le_iff_toInt_le, Int32.toInt_toInt64, ← Int32.toInt_inj, ← Int64.toInt_inj, Int32.reduceToInt, Int64.reduceToInt] <;> omega) (by revert hN26 hy22 c27 h_x_9; simp only [vp_in_iff, Int32.lt_iff_toInt_lt, Int32.le_iff_toInt_le, Int64.lt_iff_toInt_lt, Int64.le_iff_toInt_le, Int32.toInt_toInt64, ← Int32.toInt_inj, ← Int64.toInt_inj, Int32.reduceToInt, Int64.reduceToInt] <;> omega) (by revert h_x_2; simp only [vp_in_iff, Int32.lt_iff_toInt_lt, Int32.le_iff_toInt_le, Int64.lt_iff_toInt_lt, Int64.le_iff_toInt_le, Int32.toInt_toInt64, ← Int32.toInt_inj, ← Int64.toInt_inj, Int32.reduceToInt, Int64.reduceToInt] <;> omega) _) okV_X2_scoreWith kM_X2_78 rfl (z_pV (q0 := 0) hK hN hP hD [0, 4, 1] rfl rfl rfl rfl rfl) rfl hl.1 rfl (Nat.le_of_ble_eq_true rfl) dX2_weighJoins_49 rfl) hP hD hS hA [0, 4, 1] [2, 3] rfl rfl rfl rfl (fun r30 u30 H locs hw30 hP hD hS => ?_)
        obtain ⟨i30, a30, v30, w30, f30, g30, o30⟩ := u30
        dsimp only at hw30
        obtain rfl := hw30
        have hP : va_P D vwCl [(q_2, .inl (k 0, 448, .inl f_8)), (q_3, .inr (4, [.int x_9, .ref q_10, .int x_10, .ref q_11, .ref q_12, .int x_11, .ref q_13, .ref q_14, .ref q_15, .int x_12, .ref q_16, .ref q_17, .ref q_18])), (q_0, .inr (2, [.ref q_5, .ref q_3, .ref q_6, .int x_2, .int x_3, .ref q_4, .ref q_1, .ref q_2, .int x_4, .int x_5, .int x_6, .ref q_7, .ref q_8, .ref q_9])), (q_4, .inl (k 0, 36, .inl f_13)), (q_1, .inl (k 0, 448, .inl f_7))] H := hP
        have hD : va_D A [(q_2, .inl (k 0, 448, .inl f_8)), (q_3, .inr (4, [.int x_9, .ref q_10, .int x_10, .ref q_11, .ref q_12, .int x_11, .ref q_13, .ref q_14, .ref q_15, .int x_12, .ref q_16, .ref q_17, .ref q_18])), (q_0, .inr (2, [.ref q_5, .ref q_3, .ref q_6, .int x_2, .int x_3, .ref q_4, .ref q_1, .ref q_2, .int x_4, .int x_5, .int x_6, .ref q_7, .ref q_8, .ref q_9])), (q_4, .inl (k 0, 36, .inl f_13)), (q_1, .inl (k 0, 448, .inl f_7))] := hD
        refine lv_istore (lv' := [(7, .int r30), (6, .int y22), (5, .int y23), (4, .int y24), (3, .int ((x_0 * 64) + x_1)), (0, .ref q_0), (1, .int x_0), (2, .int x_1)]) hx hb dX2_weighJoins_52 hl (by decide) rfl (fun ls hl => ?_)
        refine lv_iload hx hb dX2_weighJoins_54 (lv_at hl 0 rfl) ?_
        refine lv_iload hx hb dX2_weighJoins_56 (lv_at hl 3 rfl) ?_
        refine lv_icmp_le (tgt := 68) hx hb dX2_weighJoins_58 (by decide) (fun c31 => ?_) (fun c31 => ?_)
        · refine lv_iload hx hb dX2_weighJoins_68 (lv_at hl 0 rfl) ?_
          refine lv_iload hx hb dX2_weighJoins_70 (lv_at hl 3 rfl) ?_
          refine lv_icmp_ne (tgt := 98) hx hb dX2_weighJoins_72 (by decide) (fun c32 => ?_) (fun c32 => ?_)
          · have e33 : Int32.toInt (y22 + 1) = Int32.toInt y22 + Int32.toInt (1 : Int32) := zi_add (by revert hN26 hy22 c27 h_x_9; simp only [vp_in_iff, Int32.lt_iff_toInt_lt, Int32.le_iff_toInt_le, Int64.lt_iff_toInt_lt, Int64.le_iff_toInt_le, Int32.toInt_toInt64, ← Int32.toInt_inj, ← Int64.toInt_inj, Int32.reduceToInt, Int64.reduceToInt] <;> omega)
            refine lv_iinc (v := (y22 + 1)) (lv' := [(6, .int (y22 + 1)), (7, .int r30), (5, .int y23), (4, .int y24), (3, .int ((x_0 * 64) + x_1)), (0, .ref q_0), (1, .int x_0), (2, .int x_1)]) hx hb dX2_weighJoins_98 hl (k := 1) rfl rfl (by decide) rfl (fun ls hl => ?_)
            refine lv_goto (tgt := 32) hx hb dX2_weighJoins_101 (by decide) ?_
            exact ihN26 (y22 + 1) y23 y24 _ _ ls (by revert hN26 hy22 c27 e33 h_x_9; simp only [vp_in_iff, Int32.lt_iff_toInt_lt, Int32.le_iff_toInt_le, Int64.lt_iff_toInt_lt, Int64.le_iff_toInt_le, Int32.toInt_toInt64, ← Int32.toInt_inj, ← Int64.toInt_inj, Int32.reduceToInt, Int64.reduceToInt] <;> omega) (by revert hN26 hy22 c27 e33 h_x_9; simp only [vp_in_iff, Int32.lt_iff_toInt_lt, Int32.le_iff_toInt_le, Int64.lt_iff_toInt_lt, Int64.le_iff_toInt_le, Int32.toInt_toInt64, ← Int32.toInt_inj, ← Int64.toInt_inj, Int32.reduceToInt, Int64.reduceToInt] <;> omega) (z_sub hP [2, 4, 0, 1, 3] rfl) (hD.sub [2, 4, 0, 1, 3] rfl rfl) hS (lv_sub hl [0, 2, 3, 4, 5, 6, 7] rfl)
          · refine lv_iload hx hb dX2_weighJoins_75 (lv_at hl 2 rfl) ?_
            refine lv_aload_n hx hb dX2_weighJoins_77 rfl (lv_at hl 5 rfl) ?_
            refine va_get (D := D) (ci := 2) (v := .ref q_2) (C := RX2) (T := TX2) (N := 14) hx hb hts inX2 hown hK hP 2 rfl rfl 7 (by decide) (hts _ kF_X2_25) (fun _ h9 => h9) rfl dX2_weighJoins_78 ?_
            refine lv_iload_n hx hb dX2_weighJoins_81 rfl (lv_at hl 6 rfl) ?_
            refine lv_iconst (v := 1) hx hb dX2_weighJoins_82 (by decide) ?_
            refine lv_iadd hx hb dX2_weighJoins_83 ?_
            have e34 : Int32.toInt (x_0 + 1) = Int32.toInt x_0 + Int32.toInt (1 : Int32) := zi_add (by revert h_x_0 e1 e2 e3 e5 h_x_1; simp only [vp_in_iff, Int32.lt_iff_toInt_lt, Int32.le_iff_toInt_le, Int64.lt_iff_toInt_lt, Int64.le_iff_toInt_le, Int32.toInt_toInt64, ← Int32.toInt_inj, ← Int64.toInt_inj, Int32.reduceToInt, Int64.reduceToInt] <;> omega)
            refine lv_bipush (v := 64) hx hb dX2_weighJoins_84 (by decide) ?_
            refine lv_imul hx hb dX2_weighJoins_86 ?_
            have e35 : Int32.toInt ((x_0 + 1) * 64) = Int32.toInt (x_0 + 1) * Int32.toInt (64 : Int32) := zi_mul (by revert h_x_0 e1 e2 e3 e5 e34 h_x_1; simp only [vp_in_iff, Int32.lt_iff_toInt_lt, Int32.le_iff_toInt_le, Int64.lt_iff_toInt_lt, Int64.le_iff_toInt_le, Int32.toInt_toInt64, ← Int32.toInt_inj, ← Int64.toInt_inj, Int32.reduceToInt, Int64.reduceToInt] <;> omega)
            refine lv_iload_n hx hb dX2_weighJoins_87 rfl (lv_at hl 7 rfl) ?_
            refine lv_iconst (v := 1) hx hb dX2_weighJoins_88 (by decide) ?_
            refine lv_iload hx hb dX2_weighJoins_89 (lv_at hl 1 rfl) ?_
            refine lv_ishl hx hb dX2_weighJoins_91 ?_
            refine lv_topi (fun y36 ey36 => ?_)
            have hy36 : 1 ≤ Int32.toInt y36 ∧ Int32.toInt y36 ≤ 32 := by rw [ey36]; exact zo_shl1 5 (show 0 ≤ Int32.toInt y22 ∧ Int32.toInt y22 ≤ 5 by revert hN26 hy22 c27 h_x_9; simp only [vp_in_iff, Int32.lt_iff_toInt_lt, Int32.le_iff_toInt_le, Int64.lt_iff_toInt_lt, Int64.le_iff_toInt_le, Int32.toInt_toInt64, ← Int32.toInt_inj, ← Int64.toInt_inj, Int32.reduceToInt, Int64.reduceToInt] <;> omega) (by decide)
            refine lv_ior hx hb dX2_weighJoins_92 ?_
            refine lv_topi (fun y37 ey37 => ?_)
            have hy37 : 0 ≤ Int32.toInt y37 ∧ Int32.toInt y37 ≤ 63 := by rw [ey37]; exact zo_or 6 (show 0 ≤ Int32.toInt x_1 ∧ Int32.toInt x_1 < 2 ^ 6 by revert h_x_1 e2 e3 e5 e34 e35 hy36 h_x_0 e1; simp only [vp_in_iff, Int32.lt_iff_toInt_lt, Int32.le_iff_toInt_le, Int64.lt_iff_toInt_lt, Int64.le_iff_toInt_le, Int32.toInt_toInt64, ← Int32.toInt_inj, ← Int64.toInt_inj, Int32.reduceToInt, Int64.reduceToInt] <;> omega) (show 0 ≤ Int32.toInt y36 ∧ Int32.toInt y36 < 2 ^ 6 by revert h_x_1 e2 e3 e5 e34 e35 hy36 h_x_0 e1; simp only [vp_in_iff, Int32.lt_iff_toInt_lt, Int32.le_iff_toInt_le, Int64.lt_iff_toInt_lt, Int64.le_iff_toInt_le, Int32.toInt_toInt64, ← Int32.toInt_inj, ← Int64.toInt_inj, Int32.reduceToInt, Int64.reduceToInt] <;> omega) (by decide)
            refine lv_iadd hx hb dX2_weighJoins_93 ?_
            have e38 : Int32.toInt (((x_0 + 1) * 64) + y37) = Int32.toInt ((x_0 + 1) * 64) + Int32.toInt y37 := zi_add (by revert h_x_0 e1 e2 e3 e5 e34 e35 hy37 h_x_1; simp only [vp_in_iff, Int32.lt_iff_toInt_lt, Int32.le_iff_toInt_le, Int64.lt_iff_toInt_lt, Int64.le_iff_toInt_le, Int32.toInt_toInt64, ← Int32.toInt_inj, ← Int64.toInt_inj, Int32.reduceToInt, Int64.reduceToInt] <;> omega)
            refine va_iald hx hb hK hP 0 0 rfl rfl (by revert h_x_0 e1 e2 e3 e5 e34 e35 hy37 e38 h_x_1; simp only [vp_in_iff, Int32.lt_iff_toInt_lt, Int32.le_iff_toInt_le, Int64.lt_iff_toInt_lt, Int64.le_iff_toInt_le, Int32.toInt_toInt64, ← Int32.toInt_inj, ← Int64.toInt_inj, Int32.reduceToInt, Int64.reduceToInt] <;> omega) dX2_weighJoins_94 ?_
            refine lv_topi (fun y39 ey39 => ?_)
            refine lv_iadd hx hb dX2_weighJoins_95 ?_
            refine lv_istore (lv' := [(5, .int (y23 + y39)), (7, .int r30), (6, .int y22), (4, .int y24), (3, .int ((x_0 * 64) + x_1)), (0, .ref q_0), (1, .int x_0), (2, .int x_1)]) hx hb dX2_weighJoins_96 hl (by decide) rfl (fun ls hl => ?_)
            have e40 : Int32.toInt (y22 + 1) = Int32.toInt y22 + Int32.toInt (1 : Int32) := zi_add (by revert hN26 hy22 c27 h_x_9; simp only [vp_in_iff, Int32.lt_iff_toInt_lt, Int32.le_iff_toInt_le, Int64.lt_iff_toInt_lt, Int64.le_iff_toInt_le, Int32.toInt_toInt64, ← Int32.toInt_inj, ← Int64.toInt_inj, Int32.reduceToInt, Int64.reduceToInt] <;> omega)
            refine lv_iinc (v := (y22 + 1)) (lv' := [(6, .int (y22 + 1)), (5, .int (y23 + y39)), (7, .int r30), (4, .int y24), (3, .int ((x_0 * 64) + x_1)), (0, .ref q_0), (1, .int x_0), (2, .int x_1)]) hx hb dX2_weighJoins_98 hl (k := 2) rfl rfl (by decide) rfl (fun ls hl => ?_)
            refine lv_goto (tgt := 32) hx hb dX2_weighJoins_101 (by decide) ?_
            exact ihN26 (y22 + 1) (y23 + y39) y24 _ _ ls (by revert hN26 hy22 c27 e40 h_x_9; simp only [vp_in_iff, Int32.lt_iff_toInt_lt, Int32.le_iff_toInt_le, Int64.lt_iff_toInt_lt, Int64.le_iff_toInt_le, Int32.toInt_toInt64, ← Int32.toInt_inj, ← Int64.toInt_inj, Int32.reduceToInt, Int64.reduceToInt] <;> omega) (by revert hN26 hy22 c27 e40 h_x_9; simp only [vp_in_iff, Int32.lt_iff_toInt_lt, Int32.le_iff_toInt_le, Int64.lt_iff_toInt_lt, Int64.le_iff_toInt_le, Int32.toInt_toInt64, ← Int32.toInt_inj, ← Int64.toInt_inj, Int32.reduceToInt, Int64.reduceToInt] <;> omega) (z_sub hP [2, 4, 0, 1, 3] rfl) (hD.sub [2, 4, 0, 1, 3] rfl rfl) hS (lv_sub hl [0, 1, 3, 4, 5, 6, 7] rfl)
        · refine lv_iload hx hb dX2_weighJoins_61 (lv_at hl 0 rfl) ?_
          refine lv_istore (lv' := [(4, .int r30), (7, .int r30), (6, .int y22), (5, .int y23), (3, .int ((x_0 * 64) + x_1)), (0, .ref q_0), (1, .int x_0), (2, .int x_1)]) hx hb dX2_weighJoins_63 hl (by decide) rfl (fun ls hl => ?_)
          refine lv_iconst (v := 0) hx hb dX2_weighJoins_65 (by decide) ?_
          refine lv_istore (lv' := [(5, .int 0), (4, .int r30), (7, .int r30), (6, .int y22), (3, .int ((x_0 * 64) + x_1)), (0, .ref q_0), (1, .int x_0), (2, .int x_1)]) hx hb dX2_weighJoins_66 hl (by decide) rfl (fun ls hl => ?_)
          refine lv_iload hx hb dX2_weighJoins_68 (lv_at hl 2 rfl) ?_
          refine lv_iload hx hb dX2_weighJoins_70 (lv_at hl 1 rfl) ?_
          refine lv_icmp_ne (tgt := 98) hx hb dX2_weighJoins_72 (by decide) (fun c41 => absurd rfl c41) (fun _ => ?_)
          refine lv_iload hx hb dX2_weighJoins_75 (lv_at hl 0 rfl) ?_
          refine lv_aload_n hx hb dX2_weighJoins_77 rfl (lv_at hl 5 rfl) ?_
          refine va_get (D := D) (ci := 2) (v := .ref q_2) (C := RX2) (T := TX2) (N := 14) hx hb hts inX2 hown hK hP 2 rfl rfl 7 (by decide) (hts _ kF_X2_25) (fun _ h9 => h9) rfl dX2_weighJoins_78 ?_
          refine lv_iload_n hx hb dX2_weighJoins_81 rfl (lv_at hl 6 rfl) ?_
          refine lv_iconst (v := 1) hx hb dX2_weighJoins_82 (by decide) ?_
          refine lv_iadd hx hb dX2_weighJoins_83 ?_
          have e42 : Int32.toInt (x_0 + 1) = Int32.toInt x_0 + Int32.toInt (1 : Int32) := zi_add (by revert h_x_0 e1 e2 e3 e5 h_x_1; simp only [vp_in_iff, Int32.lt_iff_toInt_lt, Int32.le_iff_toInt_le, Int64.lt_iff_toInt_lt, Int64.le_iff_toInt_le, Int32.toInt_toInt64, ← Int32.toInt_inj, ← Int64.toInt_inj, Int32.reduceToInt, Int64.reduceToInt] <;> omega)
          refine lv_bipush (v := 64) hx hb dX2_weighJoins_84 (by decide) ?_
          refine lv_imul hx hb dX2_weighJoins_86 ?_
          have e43 : Int32.toInt ((x_0 + 1) * 64) = Int32.toInt (x_0 + 1) * Int32.toInt (64 : Int32) := zi_mul (by revert h_x_0 e1 e2 e3 e5 e42 h_x_1; simp only [vp_in_iff, Int32.lt_iff_toInt_lt, Int32.le_iff_toInt_le, Int64.lt_iff_toInt_lt, Int64.le_iff_toInt_le, Int32.toInt_toInt64, ← Int32.toInt_inj, ← Int64.toInt_inj, Int32.reduceToInt, Int64.reduceToInt] <;> omega)
          refine lv_iload_n hx hb dX2_weighJoins_87 rfl (lv_at hl 7 rfl) ?_
          refine lv_iconst (v := 1) hx hb dX2_weighJoins_88 (by decide) ?_
          refine lv_iload hx hb dX2_weighJoins_89 (lv_at hl 3 rfl) ?_
          refine lv_ishl hx hb dX2_weighJoins_91 ?_
          refine lv_topi (fun y44 ey44 => ?_)
          have hy44 : 1 ≤ Int32.toInt y44 ∧ Int32.toInt y44 ≤ 32 := by rw [ey44]; exact zo_shl1 5 (show 0 ≤ Int32.toInt y22 ∧ Int32.toInt y22 ≤ 5 by revert hN26 hy22 c27 h_x_9; simp only [vp_in_iff, Int32.lt_iff_toInt_lt, Int32.le_iff_toInt_le, Int64.lt_iff_toInt_lt, Int64.le_iff_toInt_le, Int32.toInt_toInt64, ← Int32.toInt_inj, ← Int64.toInt_inj, Int32.reduceToInt, Int64.reduceToInt] <;> omega) (by decide)
          refine lv_ior hx hb dX2_weighJoins_92 ?_
          refine lv_topi (fun y45 ey45 => ?_)
          have hy45 : 0 ≤ Int32.toInt y45 ∧ Int32.toInt y45 ≤ 63 := by rw [ey45]; exact zo_or 6 (show 0 ≤ Int32.toInt x_1 ∧ Int32.toInt x_1 < 2 ^ 6 by revert h_x_1 e2 e3 e5 e42 e43 hy44 h_x_0 e1; simp only [vp_in_iff, Int32.lt_iff_toInt_lt, Int32.le_iff_toInt_le, Int64.lt_iff_toInt_lt, Int64.le_iff_toInt_le, Int32.toInt_toInt64, ← Int32.toInt_inj, ← Int64.toInt_inj, Int32.reduceToInt, Int64.reduceToInt] <;> omega) (show 0 ≤ Int32.toInt y44 ∧ Int32.toInt y44 < 2 ^ 6 by revert h_x_1 e2 e3 e5 e42 e43 hy44 h_x_0 e1; simp only [vp_in_iff, Int32.lt_iff_toInt_lt, Int32.le_iff_toInt_le, Int64.lt_iff_toInt_lt, Int64.le_iff_toInt_le, Int32.toInt_toInt64, ← Int32.toInt_inj, ← Int64.toInt_inj, Int32.reduceToInt, Int64.reduceToInt] <;> omega) (by decide)
          refine lv_iadd hx hb dX2_weighJoins_93 ?_
          have e46 : Int32.toInt (((x_0 + 1) * 64) + y45) = Int32.toInt ((x_0 + 1) * 64) + Int32.toInt y45 := zi_add (by revert h_x_0 e1 e2 e3 e5 e42 e43 hy45 h_x_1; simp only [vp_in_iff, Int32.lt_iff_toInt_lt, Int32.le_iff_toInt_le, Int64.lt_iff_toInt_lt, Int64.le_iff_toInt_le, Int32.toInt_toInt64, ← Int32.toInt_inj, ← Int64.toInt_inj, Int32.reduceToInt, Int64.reduceToInt] <;> omega)
          refine va_iald hx hb hK hP 0 0 rfl rfl (by revert h_x_0 e1 e2 e3 e5 e42 e43 hy45 e46 h_x_1; simp only [vp_in_iff, Int32.lt_iff_toInt_lt, Int32.le_iff_toInt_le, Int64.lt_iff_toInt_lt, Int64.le_iff_toInt_le, Int32.toInt_toInt64, ← Int32.toInt_inj, ← Int64.toInt_inj, Int32.reduceToInt, Int64.reduceToInt] <;> omega) dX2_weighJoins_94 ?_
          refine lv_topi (fun y47 ey47 => ?_)
          refine lv_iadd hx hb dX2_weighJoins_95 ?_
          have e48 : Int32.toInt (0 + y47) = Int32.toInt (0 : Int32) + Int32.toInt y47 := zi_add (by simp only [vp_in_iff, Int32.lt_iff_toInt_lt, Int32.le_iff_toInt_le, Int64.lt_iff_toInt_lt, Int64.le_iff_toInt_le, Int32.toInt_toInt64, ← Int32.toInt_inj, ← Int64.toInt_inj, Int32.reduceToInt, Int64.reduceToInt] <;> omega)
          refine lv_istore (lv' := [(5, .int (0 + y47)), (4, .int r30), (7, .int r30), (6, .int y22), (3, .int ((x_0 * 64) + x_1)), (0, .ref q_0), (1, .int x_0), (2, .int x_1)]) hx hb dX2_weighJoins_96 hl (by decide) rfl (fun ls hl => ?_)
          have e49 : Int32.toInt (y22 + 1) = Int32.toInt y22 + Int32.toInt (1 : Int32) := zi_add (by revert hN26 hy22 c27 h_x_9; simp only [vp_in_iff, Int32.lt_iff_toInt_lt, Int32.le_iff_toInt_le, Int64.lt_iff_toInt_lt, Int64.le_iff_toInt_le, Int32.toInt_toInt64, ← Int32.toInt_inj, ← Int64.toInt_inj, Int32.reduceToInt, Int64.reduceToInt] <;> omega)
          refine lv_iinc (v := (y22 + 1)) (lv' := [(6, .int (y22 + 1)), (5, .int (0 + y47)), (4, .int r30), (7, .int r30), (3, .int ((x_0 * 64) + x_1)), (0, .ref q_0), (1, .int x_0), (2, .int x_1)]) hx hb dX2_weighJoins_98 hl (k := 3) rfl rfl (by decide) rfl (fun ls hl => ?_)
          refine lv_goto (tgt := 32) hx hb dX2_weighJoins_101 (by decide) ?_
          exact ihN26 (y22 + 1) (0 + y47) r30 _ _ ls (by revert hN26 hy22 c27 e49 h_x_9; simp only [vp_in_iff, Int32.lt_iff_toInt_lt, Int32.le_iff_toInt_le, Int64.lt_iff_toInt_lt, Int64.le_iff_toInt_le, Int32.toInt_toInt64, ← Int32.toInt_inj, ← Int64.toInt_inj, Int32.reduceToInt, Int64.reduceToInt] <;> omega) (by revert hN26 hy22 c27 e49 h_x_9; simp only [vp_in_iff, Int32.lt_iff_toInt_lt, Int32.le_iff_toInt_le, Int64.lt_iff_toInt_lt, Int64.le_iff_toInt_le, Int32.toInt_toInt64, ← Int32.toInt_inj, ← Int64.toInt_inj, Int32.reduceToInt, Int64.reduceToInt] <;> omega) (z_sub hP [2, 4, 0, 1, 3] rfl) (hD.sub [2, 4, 0, 1, 3] rfl rfl) hS (lv_sub hl [0, 1, 2, 4, 5, 6, 7] rfl)
  exact loop25 _ 0 y6 y4 _ _ _ (Nat.lt_succ_self _) (by simp only [vp_in_iff, Int32.lt_iff_toInt_lt, Int32.le_iff_toInt_le, Int64.lt_iff_toInt_lt, Int64.le_iff_toInt_le, Int32.toInt_toInt64, ← Int32.toInt_inj, ← Int64.toInt_inj, Int32.reduceToInt, Int64.reduceToInt] <;> omega) hP hD hS (lv_sub hl [0, 1, 2, 3, 4, 5, 6] rfl)

set_option maxHeartbeats 4000000 in
set_option maxRecDepth 100000 in
theorem s_X2_scoreWith_6 (l : Launch) (D : va_G) (k : Nat → ClassId) (q_0 : Nat) (q_1 : Nat) (q_2 : Nat) (q_3 : Nat) (q_4 : Nat) (q_5 : Nat) (q_6 : Nat) (q_7 : Nat) (q_8 : Nat) (q_9 : Nat) (x_0 : Int32) (x_1 : Int32) (x_2 : Int32) (x_3 : Int32) (x_4 : Int32) (x_5 : Int32) (x_6 : Int32) (x_7 : Int32) (f_8 : Nat → Int32) (f_9 : Nat → Int32) (h_x_0 : 0 ≤ Int32.toInt x_0 ∧ Int32.toInt x_0 ≤ 5) (h_x_1 : 0 ≤ Int32.toInt x_1 ∧ Int32.toInt x_1 ≤ 1) (h_x_2 : 0 ≤ Int32.toInt x_2 ∧ Int32.toInt x_2 ≤ 0) (h_x_3 : 0 ≤ Int32.toInt x_3 ∧ Int32.toInt x_3 ≤ 6) : zMi l yX2_scoreWith cX2_scoreWith 4 (some .int) ({ frames := 0, cells := 0, slots := 0, locals := 0 }) D k [.ref q_0, .int x_0, .int x_1, .int x_2] [(q_0, .inr (2, [.ref q_3, .ref q_4, .ref q_5, .int x_3, .int x_4, .ref q_1, .ref q_2, .ref q_6, .int x_5, .int x_6, .int x_7, .ref q_7, .ref q_8, .ref q_9])), (q_1, .inl (k 0, 36, .inl f_8)), (q_2, .inl (k 0, 448, .inl f_9))] (fun r u => u.1 = 0) (fun u => [(q_0, .inr (2, [.ref q_3, .ref q_4, .ref q_5, .int x_3, .int x_4, .ref q_1, .ref q_2, .ref q_6, .int x_5, .int x_6, .int x_7, .ref q_7, .ref q_8, .ref q_9])), (q_1, .inl (k 0, 36, .inl f_8)), (q_2, .inl (k 0, 448, .inl f_9))]) := by
  refine zMi_of (own := RX2) (by decide +kernel) rfl (Nat.le_of_ble_eq_true rfl) ?_
  intro p e s m args below meth c A ls C0 hr hlk hin hP hD hS hA hK hN hl
  have hx := C0.1
  have hb := C0.2.1
  have hml := C0.2.2.1
  have hown := C0.2.2.2.1
  have hts := C0.2.2.2.2
  have hl : lv_has ls 4 [(0, .ref q_0), (1, .int x_0), (2, .int x_1), (3, .int x_2)] := hl
  have hP : va_P D vwCl [(q_0, .inr (2, [.ref q_3, .ref q_4, .ref q_5, .int x_3, .int x_4, .ref q_1, .ref q_2, .ref q_6, .int x_5, .int x_6, .int x_7, .ref q_7, .ref q_8, .ref q_9])), (q_1, .inl (k 0, 36, .inl f_8)), (q_2, .inl (k 0, 448, .inl f_9))] s.heap := hP
  refine lv_iload_n hx hb dX2_scoreWith_0 rfl (lv_at hl 2 rfl) ?_
  refine lv_iload_n hx hb dX2_scoreWith_1 rfl (lv_at hl 3 rfl) ?_
  refine lv_ishr hx hb dX2_scoreWith_2 ?_
  refine lv_topi (fun y1 ey1 => ?_)
  refine lv_iconst (v := 1) hx hb dX2_scoreWith_3 (by decide) ?_
  refine lv_iand hx hb dX2_scoreWith_4 ?_
  refine lv_topi (fun y2 ey2 => ?_)
  have hy2 : 0 ≤ Int32.toInt y2 ∧ Int32.toInt y2 ≤ 1 := by rw [ey2]; exact zo_and _ (by decide)
  refine lv_iconst (v := 1) hx hb dX2_scoreWith_5 (by decide) ?_
  refine lv_icmp_eq (tgt := 24) hx hb dX2_scoreWith_6 (by decide) (fun c3 => ?_) (fun c3 => ?_)
  · refine lv_iconst (v := (-1)) hx hb dX2_scoreWith_24 (by decide) ?_
    exact z_iret C0 hr hlk rfl hK hP hD hS (0, fun _ => 0, fun _ => 0, fun _ => 0, fun _ => (fun _ => 0), fun _ => (fun _ => 0), fun _ => (fun _ => none)) rfl [0, 1, 2] rfl rfl rfl dX2_scoreWith_25
  · refine lv_aload_n hx hb dX2_scoreWith_9 rfl (lv_at hl 0 rfl) ?_
    refine va_get (D := D) (ci := 2) (v := .ref q_1) (C := RX2) (T := TX2) (N := 14) hx hb hts inX2 hown hK hP 0 rfl rfl 5 (by decide) (hts _ kF_X2_19) (fun _ h9 => h9) rfl dX2_scoreWith_10 ?_
    refine lv_iload_n hx hb dX2_scoreWith_13 rfl (lv_at hl 1 rfl) ?_
    refine lv_bipush (v := 6) hx hb dX2_scoreWith_14 (by decide) ?_
    refine lv_imul hx hb dX2_scoreWith_16 ?_
    have e4 : Int32.toInt (x_0 * 6) = Int32.toInt x_0 * Int32.toInt (6 : Int32) := zi_mul (by revert h_x_0; simp only [vp_in_iff, Int32.lt_iff_toInt_lt, Int32.le_iff_toInt_le, Int64.lt_iff_toInt_lt, Int64.le_iff_toInt_le, Int32.toInt_toInt64, ← Int32.toInt_inj, ← Int64.toInt_inj, Int32.reduceToInt, Int64.reduceToInt] <;> omega)
    refine lv_iload_n hx hb dX2_scoreWith_17 rfl (lv_at hl 3 rfl) ?_
    refine lv_iadd hx hb dX2_scoreWith_18 ?_
    have e5 : Int32.toInt ((x_0 * 6) + x_2) = Int32.toInt (x_0 * 6) + Int32.toInt x_2 := zi_add (by revert h_x_0 h_x_2 e4; simp only [vp_in_iff, Int32.lt_iff_toInt_lt, Int32.le_iff_toInt_le, Int64.lt_iff_toInt_lt, Int64.le_iff_toInt_le, Int32.toInt_toInt64, ← Int32.toInt_inj, ← Int64.toInt_inj, Int32.reduceToInt, Int64.reduceToInt] <;> omega)
    refine va_iald hx hb hK hP 1 0 rfl rfl (by revert h_x_0 h_x_2 e4 e5; simp only [vp_in_iff, Int32.lt_iff_toInt_lt, Int32.le_iff_toInt_le, Int64.lt_iff_toInt_lt, Int64.le_iff_toInt_le, Int32.toInt_toInt64, ← Int32.toInt_inj, ← Int64.toInt_inj, Int32.reduceToInt, Int64.reduceToInt] <;> omega) dX2_scoreWith_19 ?_
    refine lv_topi (fun y6 ey6 => ?_)
    refine lv_iconst (v := (-1)) hx hb dX2_scoreWith_20 (by decide) ?_
    refine lv_icmp_ne (tgt := 26) hx hb dX2_scoreWith_21 (by decide) (fun c7 => ?_) (fun c7 => ?_)
    · refine lv_aload_n hx hb dX2_scoreWith_26 rfl (lv_at hl 0 rfl) ?_
      refine va_get (D := D) (ci := 2) (v := .ref q_2) (C := RX2) (T := TX2) (N := 14) hx hb hts inX2 hown hK hP 0 rfl rfl 6 (by decide) (hts _ kF_X2_22) (fun _ h9 => h9) rfl dX2_scoreWith_27 ?_
      refine lv_iload_n hx hb dX2_scoreWith_30 rfl (lv_at hl 1 rfl) ?_
      refine lv_iconst (v := 1) hx hb dX2_scoreWith_31 (by decide) ?_
      refine lv_iadd hx hb dX2_scoreWith_32 ?_
      have e8 : Int32.toInt (x_0 + 1) = Int32.toInt x_0 + Int32.toInt (1 : Int32) := zi_add (by revert h_x_0 e4 e5 h_x_2; simp only [vp_in_iff, Int32.lt_iff_toInt_lt, Int32.le_iff_toInt_le, Int64.lt_iff_toInt_lt, Int64.le_iff_toInt_le, Int32.toInt_toInt64, ← Int32.toInt_inj, ← Int64.toInt_inj, Int32.reduceToInt, Int64.reduceToInt] <;> omega)
      refine lv_bipush (v := 64) hx hb dX2_scoreWith_33 (by decide) ?_
      refine lv_imul hx hb dX2_scoreWith_35 ?_
      have e9 : Int32.toInt ((x_0 + 1) * 64) = Int32.toInt (x_0 + 1) * Int32.toInt (64 : Int32) := zi_mul (by revert h_x_0 e4 e5 e8 h_x_2; simp only [vp_in_iff, Int32.lt_iff_toInt_lt, Int32.le_iff_toInt_le, Int64.lt_iff_toInt_lt, Int64.le_iff_toInt_le, Int32.toInt_toInt64, ← Int32.toInt_inj, ← Int64.toInt_inj, Int32.reduceToInt, Int64.reduceToInt] <;> omega)
      refine lv_iload_n hx hb dX2_scoreWith_36 rfl (lv_at hl 2 rfl) ?_
      refine lv_iconst (v := 1) hx hb dX2_scoreWith_37 (by decide) ?_
      refine lv_iload_n hx hb dX2_scoreWith_38 rfl (lv_at hl 3 rfl) ?_
      refine lv_ishl hx hb dX2_scoreWith_39 ?_
      refine lv_topi (fun y10 ey10 => ?_)
      have hy10 : 1 ≤ Int32.toInt y10 ∧ Int32.toInt y10 ≤ 1 := by rw [ey10]; exact zo_shl1 0 (show 0 ≤ Int32.toInt x_2 ∧ Int32.toInt x_2 ≤ 0 by revert h_x_2 e5 e8 e9 h_x_0 e4; simp only [vp_in_iff, Int32.lt_iff_toInt_lt, Int32.le_iff_toInt_le, Int64.lt_iff_toInt_lt, Int64.le_iff_toInt_le, Int32.toInt_toInt64, ← Int32.toInt_inj, ← Int64.toInt_inj, Int32.reduceToInt, Int64.reduceToInt] <;> omega) (by decide)
      refine lv_ior hx hb dX2_scoreWith_40 ?_
      refine lv_topi (fun y11 ey11 => ?_)
      have hy11 : 0 ≤ Int32.toInt y11 ∧ Int32.toInt y11 ≤ 1 := by rw [ey11]; exact zo_or 1 (show 0 ≤ Int32.toInt x_1 ∧ Int32.toInt x_1 < 2 ^ 1 by revert h_x_1 hy10; simp only [vp_in_iff, Int32.lt_iff_toInt_lt, Int32.le_iff_toInt_le, Int64.lt_iff_toInt_lt, Int64.le_iff_toInt_le, Int32.toInt_toInt64, ← Int32.toInt_inj, ← Int64.toInt_inj, Int32.reduceToInt, Int64.reduceToInt] <;> omega) (show 0 ≤ Int32.toInt y10 ∧ Int32.toInt y10 < 2 ^ 1 by revert h_x_1 hy10; simp only [vp_in_iff, Int32.lt_iff_toInt_lt, Int32.le_iff_toInt_le, Int64.lt_iff_toInt_lt, Int64.le_iff_toInt_le, Int32.toInt_toInt64, ← Int32.toInt_inj, ← Int64.toInt_inj, Int32.reduceToInt, Int64.reduceToInt] <;> omega) (by decide)
      refine lv_iadd hx hb dX2_scoreWith_41 ?_
      have e12 : Int32.toInt (((x_0 + 1) * 64) + y11) = Int32.toInt ((x_0 + 1) * 64) + Int32.toInt y11 := zi_add (by revert h_x_0 e4 e5 e8 e9 hy11 h_x_2; simp only [vp_in_iff, Int32.lt_iff_toInt_lt, Int32.le_iff_toInt_le, Int64.lt_iff_toInt_lt, Int64.le_iff_toInt_le, Int32.toInt_toInt64, ← Int32.toInt_inj, ← Int64.toInt_inj, Int32.reduceToInt, Int64.reduceToInt] <;> omega)
      refine va_iald hx hb hK hP 2 0 rfl rfl (by revert h_x_0 e4 e5 e8 e9 hy11 e12 h_x_2; simp only [vp_in_iff, Int32.lt_iff_toInt_lt, Int32.le_iff_toInt_le, Int64.lt_iff_toInt_lt, Int64.le_iff_toInt_le, Int32.toInt_toInt64, ← Int32.toInt_inj, ← Int64.toInt_inj, Int32.reduceToInt, Int64.reduceToInt] <;> omega) dX2_scoreWith_42 ?_
      refine lv_topi (fun y13 ey13 => ?_)
      refine lv_aload_n hx hb dX2_scoreWith_43 rfl (lv_at hl 0 rfl) ?_
      refine va_get (D := D) (ci := 2) (v := .ref q_1) (C := RX2) (T := TX2) (N := 14) hx hb hts inX2 hown hK hP 0 rfl rfl 5 (by decide) (hts _ kF_X2_19) (fun _ h9 => h9) rfl dX2_scoreWith_44 ?_
      refine lv_iload_n hx hb dX2_scoreWith_47 rfl (lv_at hl 1 rfl) ?_
      refine lv_bipush (v := 6) hx hb dX2_scoreWith_48 (by decide) ?_
      refine lv_imul hx hb dX2_scoreWith_50 ?_
      have e14 : Int32.toInt (x_0 * 6) = Int32.toInt x_0 * Int32.toInt (6 : Int32) := zi_mul (by revert h_x_0 e4 e5 e8 e9 e12 h_x_2 hy11; simp only [vp_in_iff, Int32.lt_iff_toInt_lt, Int32.le_iff_toInt_le, Int64.lt_iff_toInt_lt, Int64.le_iff_toInt_le, Int32.toInt_toInt64, ← Int32.toInt_inj, ← Int64.toInt_inj, Int32.reduceToInt, Int64.reduceToInt] <;> omega)
      refine lv_iload_n hx hb dX2_scoreWith_51 rfl (lv_at hl 3 rfl) ?_
      refine lv_iadd hx hb dX2_scoreWith_52 ?_
      have e15 : Int32.toInt ((x_0 * 6) + x_2) = Int32.toInt (x_0 * 6) + Int32.toInt x_2 := zi_add (by revert h_x_0 h_x_2 e4 e5 e8 e9 e12 e14 hy11; simp only [vp_in_iff, Int32.lt_iff_toInt_lt, Int32.le_iff_toInt_le, Int64.lt_iff_toInt_lt, Int64.le_iff_toInt_le, Int32.toInt_toInt64, ← Int32.toInt_inj, ← Int64.toInt_inj, Int32.reduceToInt, Int64.reduceToInt] <;> omega)
      refine va_iald hx hb hK hP 1 0 rfl rfl (by revert h_x_0 h_x_2 e4 e5 e8 e9 e12 e14 e15 hy11; simp only [vp_in_iff, Int32.lt_iff_toInt_lt, Int32.le_iff_toInt_le, Int64.lt_iff_toInt_lt, Int64.le_iff_toInt_le, Int32.toInt_toInt64, ← Int32.toInt_inj, ← Int64.toInt_inj, Int32.reduceToInt, Int64.reduceToInt] <;> omega) dX2_scoreWith_53 ?_
      refine lv_toc (v := y6) ey6.symm ?_
      refine lv_bipush (v := 8) hx hb dX2_scoreWith_54 (by decide) ?_
      refine lv_imul hx hb dX2_scoreWith_56 ?_
      refine lv_iadd hx hb dX2_scoreWith_57 ?_
      refine lv_iconst (v := 1) hx hb dX2_scoreWith_58 (by decide) ?_
      refine lv_iadd hx hb dX2_scoreWith_59 ?_
      exact z_iret C0 hr hlk rfl hK hP hD hS (0, fun _ => 0, fun _ => 0, fun _ => 0, fun _ => (fun _ => 0), fun _ => (fun _ => 0), fun _ => (fun _ => none)) rfl [0, 1, 2] rfl rfl rfl dX2_scoreWith_60
    · refine lv_iconst (v := (-1)) hx hb dX2_scoreWith_24 (by decide) ?_
      exact z_iret C0 hr hlk rfl hK hP hD hS (0, fun _ => 0, fun _ => 0, fun _ => 0, fun _ => (fun _ => 0), fun _ => (fun _ => 0), fun _ => (fun _ => none)) rfl [0, 1, 2] rfl rfl rfl dX2_scoreWith_25

set_option maxHeartbeats 4000000 in
set_option maxRecDepth 100000 in
theorem s_X2_scoreWith_7 (l : Launch) (D : va_G) (k : Nat → ClassId) (q_0 : Nat) (q_1 : Nat) (q_2 : Nat) (q_3 : Nat) (q_4 : Nat) (q_5 : Nat) (q_6 : Nat) (q_7 : Nat) (q_8 : Nat) (q_9 : Nat) (x_0 : Int32) (x_1 : Int32) (x_2 : Int32) (x_3 : Int32) (x_4 : Int32) (x_5 : Int32) (x_6 : Int32) (x_7 : Int32) (f_8 : Nat → Int32) (f_9 : Nat → Int32) (h_x_0 : 0 ≤ Int32.toInt x_0 ∧ Int32.toInt x_0 ≤ 5) (h_x_1 : 0 ≤ Int32.toInt x_1 ∧ Int32.toInt x_1 ≤ 1) (h_x_2 : 0 ≤ Int32.toInt x_2 ∧ Int32.toInt x_2 ≤ 1) (h_x_3 : 0 ≤ Int32.toInt x_3 ∧ Int32.toInt x_3 ≤ 6) : zMi l yX2_scoreWith cX2_scoreWith 4 (some .int) ({ frames := 0, cells := 0, slots := 0, locals := 0 }) D k [.ref q_0, .int x_0, .int x_1, .int x_2] [(q_0, .inr (2, [.ref q_3, .ref q_4, .ref q_5, .int x_3, .int x_4, .ref q_1, .ref q_2, .ref q_6, .int x_5, .int x_6, .int x_7, .ref q_7, .ref q_8, .ref q_9])), (q_1, .inl (k 0, 36, .inl f_8)), (q_2, .inl (k 0, 448, .inl f_9))] (fun r u => u.1 = 0) (fun u => [(q_0, .inr (2, [.ref q_3, .ref q_4, .ref q_5, .int x_3, .int x_4, .ref q_1, .ref q_2, .ref q_6, .int x_5, .int x_6, .int x_7, .ref q_7, .ref q_8, .ref q_9])), (q_1, .inl (k 0, 36, .inl f_8)), (q_2, .inl (k 0, 448, .inl f_9))]) := by
  refine zMi_of (own := RX2) (by decide +kernel) rfl (Nat.le_of_ble_eq_true rfl) ?_
  intro p e s m args below meth c A ls C0 hr hlk hin hP hD hS hA hK hN hl
  have hx := C0.1
  have hb := C0.2.1
  have hml := C0.2.2.1
  have hown := C0.2.2.2.1
  have hts := C0.2.2.2.2
  have hl : lv_has ls 4 [(0, .ref q_0), (1, .int x_0), (2, .int x_1), (3, .int x_2)] := hl
  have hP : va_P D vwCl [(q_0, .inr (2, [.ref q_3, .ref q_4, .ref q_5, .int x_3, .int x_4, .ref q_1, .ref q_2, .ref q_6, .int x_5, .int x_6, .int x_7, .ref q_7, .ref q_8, .ref q_9])), (q_1, .inl (k 0, 36, .inl f_8)), (q_2, .inl (k 0, 448, .inl f_9))] s.heap := hP
  refine lv_iload_n hx hb dX2_scoreWith_0 rfl (lv_at hl 2 rfl) ?_
  refine lv_iload_n hx hb dX2_scoreWith_1 rfl (lv_at hl 3 rfl) ?_
  refine lv_ishr hx hb dX2_scoreWith_2 ?_
  refine lv_topi (fun y1 ey1 => ?_)
  refine lv_iconst (v := 1) hx hb dX2_scoreWith_3 (by decide) ?_
  refine lv_iand hx hb dX2_scoreWith_4 ?_
  refine lv_topi (fun y2 ey2 => ?_)
  have hy2 : 0 ≤ Int32.toInt y2 ∧ Int32.toInt y2 ≤ 1 := by rw [ey2]; exact zo_and _ (by decide)
  refine lv_iconst (v := 1) hx hb dX2_scoreWith_5 (by decide) ?_
  refine lv_icmp_eq (tgt := 24) hx hb dX2_scoreWith_6 (by decide) (fun c3 => ?_) (fun c3 => ?_)
  · refine lv_iconst (v := (-1)) hx hb dX2_scoreWith_24 (by decide) ?_
    exact z_iret C0 hr hlk rfl hK hP hD hS (0, fun _ => 0, fun _ => 0, fun _ => 0, fun _ => (fun _ => 0), fun _ => (fun _ => 0), fun _ => (fun _ => none)) rfl [0, 1, 2] rfl rfl rfl dX2_scoreWith_25
  · refine lv_aload_n hx hb dX2_scoreWith_9 rfl (lv_at hl 0 rfl) ?_
    refine va_get (D := D) (ci := 2) (v := .ref q_1) (C := RX2) (T := TX2) (N := 14) hx hb hts inX2 hown hK hP 0 rfl rfl 5 (by decide) (hts _ kF_X2_19) (fun _ h9 => h9) rfl dX2_scoreWith_10 ?_
    refine lv_iload_n hx hb dX2_scoreWith_13 rfl (lv_at hl 1 rfl) ?_
    refine lv_bipush (v := 6) hx hb dX2_scoreWith_14 (by decide) ?_
    refine lv_imul hx hb dX2_scoreWith_16 ?_
    have e4 : Int32.toInt (x_0 * 6) = Int32.toInt x_0 * Int32.toInt (6 : Int32) := zi_mul (by revert h_x_0; simp only [vp_in_iff, Int32.lt_iff_toInt_lt, Int32.le_iff_toInt_le, Int64.lt_iff_toInt_lt, Int64.le_iff_toInt_le, Int32.toInt_toInt64, ← Int32.toInt_inj, ← Int64.toInt_inj, Int32.reduceToInt, Int64.reduceToInt] <;> omega)
    refine lv_iload_n hx hb dX2_scoreWith_17 rfl (lv_at hl 3 rfl) ?_
    refine lv_iadd hx hb dX2_scoreWith_18 ?_
    have e5 : Int32.toInt ((x_0 * 6) + x_2) = Int32.toInt (x_0 * 6) + Int32.toInt x_2 := zi_add (by revert h_x_0 h_x_2 e4; simp only [vp_in_iff, Int32.lt_iff_toInt_lt, Int32.le_iff_toInt_le, Int64.lt_iff_toInt_lt, Int64.le_iff_toInt_le, Int32.toInt_toInt64, ← Int32.toInt_inj, ← Int64.toInt_inj, Int32.reduceToInt, Int64.reduceToInt] <;> omega)
    refine va_iald hx hb hK hP 1 0 rfl rfl (by revert h_x_0 h_x_2 e4 e5; simp only [vp_in_iff, Int32.lt_iff_toInt_lt, Int32.le_iff_toInt_le, Int64.lt_iff_toInt_lt, Int64.le_iff_toInt_le, Int32.toInt_toInt64, ← Int32.toInt_inj, ← Int64.toInt_inj, Int32.reduceToInt, Int64.reduceToInt] <;> omega) dX2_scoreWith_19 ?_
    refine lv_topi (fun y6 ey6 => ?_)
    refine lv_iconst (v := (-1)) hx hb dX2_scoreWith_20 (by decide) ?_
    refine lv_icmp_ne (tgt := 26) hx hb dX2_scoreWith_21 (by decide) (fun c7 => ?_) (fun c7 => ?_)
    · refine lv_aload_n hx hb dX2_scoreWith_26 rfl (lv_at hl 0 rfl) ?_
      refine va_get (D := D) (ci := 2) (v := .ref q_2) (C := RX2) (T := TX2) (N := 14) hx hb hts inX2 hown hK hP 0 rfl rfl 6 (by decide) (hts _ kF_X2_22) (fun _ h9 => h9) rfl dX2_scoreWith_27 ?_
      refine lv_iload_n hx hb dX2_scoreWith_30 rfl (lv_at hl 1 rfl) ?_
      refine lv_iconst (v := 1) hx hb dX2_scoreWith_31 (by decide) ?_
      refine lv_iadd hx hb dX2_scoreWith_32 ?_
      have e8 : Int32.toInt (x_0 + 1) = Int32.toInt x_0 + Int32.toInt (1 : Int32) := zi_add (by revert h_x_0 e4 e5 h_x_2; simp only [vp_in_iff, Int32.lt_iff_toInt_lt, Int32.le_iff_toInt_le, Int64.lt_iff_toInt_lt, Int64.le_iff_toInt_le, Int32.toInt_toInt64, ← Int32.toInt_inj, ← Int64.toInt_inj, Int32.reduceToInt, Int64.reduceToInt] <;> omega)
      refine lv_bipush (v := 64) hx hb dX2_scoreWith_33 (by decide) ?_
      refine lv_imul hx hb dX2_scoreWith_35 ?_
      have e9 : Int32.toInt ((x_0 + 1) * 64) = Int32.toInt (x_0 + 1) * Int32.toInt (64 : Int32) := zi_mul (by revert h_x_0 e4 e5 e8 h_x_2; simp only [vp_in_iff, Int32.lt_iff_toInt_lt, Int32.le_iff_toInt_le, Int64.lt_iff_toInt_lt, Int64.le_iff_toInt_le, Int32.toInt_toInt64, ← Int32.toInt_inj, ← Int64.toInt_inj, Int32.reduceToInt, Int64.reduceToInt] <;> omega)
      refine lv_iload_n hx hb dX2_scoreWith_36 rfl (lv_at hl 2 rfl) ?_
      refine lv_iconst (v := 1) hx hb dX2_scoreWith_37 (by decide) ?_
      refine lv_iload_n hx hb dX2_scoreWith_38 rfl (lv_at hl 3 rfl) ?_
      refine lv_ishl hx hb dX2_scoreWith_39 ?_
      refine lv_topi (fun y10 ey10 => ?_)
      have hy10 : 1 ≤ Int32.toInt y10 ∧ Int32.toInt y10 ≤ 2 := by rw [ey10]; exact zo_shl1 1 (show 0 ≤ Int32.toInt x_2 ∧ Int32.toInt x_2 ≤ 1 by revert h_x_2 e5 e8 e9 h_x_0 e4; simp only [vp_in_iff, Int32.lt_iff_toInt_lt, Int32.le_iff_toInt_le, Int64.lt_iff_toInt_lt, Int64.le_iff_toInt_le, Int32.toInt_toInt64, ← Int32.toInt_inj, ← Int64.toInt_inj, Int32.reduceToInt, Int64.reduceToInt] <;> omega) (by decide)
      refine lv_ior hx hb dX2_scoreWith_40 ?_
      refine lv_topi (fun y11 ey11 => ?_)
      have hy11 : 0 ≤ Int32.toInt y11 ∧ Int32.toInt y11 ≤ 3 := by rw [ey11]; exact zo_or 2 (show 0 ≤ Int32.toInt x_1 ∧ Int32.toInt x_1 < 2 ^ 2 by revert h_x_1 hy10; simp only [vp_in_iff, Int32.lt_iff_toInt_lt, Int32.le_iff_toInt_le, Int64.lt_iff_toInt_lt, Int64.le_iff_toInt_le, Int32.toInt_toInt64, ← Int32.toInt_inj, ← Int64.toInt_inj, Int32.reduceToInt, Int64.reduceToInt] <;> omega) (show 0 ≤ Int32.toInt y10 ∧ Int32.toInt y10 < 2 ^ 2 by revert h_x_1 hy10; simp only [vp_in_iff, Int32.lt_iff_toInt_lt, Int32.le_iff_toInt_le, Int64.lt_iff_toInt_lt, Int64.le_iff_toInt_le, Int32.toInt_toInt64, ← Int32.toInt_inj, ← Int64.toInt_inj, Int32.reduceToInt, Int64.reduceToInt] <;> omega) (by decide)
      refine lv_iadd hx hb dX2_scoreWith_41 ?_
      have e12 : Int32.toInt (((x_0 + 1) * 64) + y11) = Int32.toInt ((x_0 + 1) * 64) + Int32.toInt y11 := zi_add (by revert h_x_0 e4 e5 e8 e9 hy11 h_x_2; simp only [vp_in_iff, Int32.lt_iff_toInt_lt, Int32.le_iff_toInt_le, Int64.lt_iff_toInt_lt, Int64.le_iff_toInt_le, Int32.toInt_toInt64, ← Int32.toInt_inj, ← Int64.toInt_inj, Int32.reduceToInt, Int64.reduceToInt] <;> omega)
      refine va_iald hx hb hK hP 2 0 rfl rfl (by revert h_x_0 e4 e5 e8 e9 hy11 e12 h_x_2; simp only [vp_in_iff, Int32.lt_iff_toInt_lt, Int32.le_iff_toInt_le, Int64.lt_iff_toInt_lt, Int64.le_iff_toInt_le, Int32.toInt_toInt64, ← Int32.toInt_inj, ← Int64.toInt_inj, Int32.reduceToInt, Int64.reduceToInt] <;> omega) dX2_scoreWith_42 ?_
      refine lv_topi (fun y13 ey13 => ?_)
      refine lv_aload_n hx hb dX2_scoreWith_43 rfl (lv_at hl 0 rfl) ?_
      refine va_get (D := D) (ci := 2) (v := .ref q_1) (C := RX2) (T := TX2) (N := 14) hx hb hts inX2 hown hK hP 0 rfl rfl 5 (by decide) (hts _ kF_X2_19) (fun _ h9 => h9) rfl dX2_scoreWith_44 ?_
      refine lv_iload_n hx hb dX2_scoreWith_47 rfl (lv_at hl 1 rfl) ?_
      refine lv_bipush (v := 6) hx hb dX2_scoreWith_48 (by decide) ?_
      refine lv_imul hx hb dX2_scoreWith_50 ?_
      have e14 : Int32.toInt (x_0 * 6) = Int32.toInt x_0 * Int32.toInt (6 : Int32) := zi_mul (by revert h_x_0 e4 e5 e8 e9 e12 h_x_2 hy11; simp only [vp_in_iff, Int32.lt_iff_toInt_lt, Int32.le_iff_toInt_le, Int64.lt_iff_toInt_lt, Int64.le_iff_toInt_le, Int32.toInt_toInt64, ← Int32.toInt_inj, ← Int64.toInt_inj, Int32.reduceToInt, Int64.reduceToInt] <;> omega)
      refine lv_iload_n hx hb dX2_scoreWith_51 rfl (lv_at hl 3 rfl) ?_
      refine lv_iadd hx hb dX2_scoreWith_52 ?_
      have e15 : Int32.toInt ((x_0 * 6) + x_2) = Int32.toInt (x_0 * 6) + Int32.toInt x_2 := zi_add (by revert h_x_0 h_x_2 e4 e5 e8 e9 e12 e14 hy11; simp only [vp_in_iff, Int32.lt_iff_toInt_lt, Int32.le_iff_toInt_le, Int64.lt_iff_toInt_lt, Int64.le_iff_toInt_le, Int32.toInt_toInt64, ← Int32.toInt_inj, ← Int64.toInt_inj, Int32.reduceToInt, Int64.reduceToInt] <;> omega)
      refine va_iald hx hb hK hP 1 0 rfl rfl (by revert h_x_0 h_x_2 e4 e5 e8 e9 e12 e14 e15 hy11; simp only [vp_in_iff, Int32.lt_iff_toInt_lt, Int32.le_iff_toInt_le, Int64.lt_iff_toInt_lt, Int64.le_iff_toInt_le, Int32.toInt_toInt64, ← Int32.toInt_inj, ← Int64.toInt_inj, Int32.reduceToInt, Int64.reduceToInt] <;> omega) dX2_scoreWith_53 ?_
      refine lv_toc (v := y6) ey6.symm ?_
      refine lv_bipush (v := 8) hx hb dX2_scoreWith_54 (by decide) ?_
      refine lv_imul hx hb dX2_scoreWith_56 ?_
      refine lv_iadd hx hb dX2_scoreWith_57 ?_
      refine lv_iconst (v := 1) hx hb dX2_scoreWith_58 (by decide) ?_
      refine lv_iadd hx hb dX2_scoreWith_59 ?_
      exact z_iret C0 hr hlk rfl hK hP hD hS (0, fun _ => 0, fun _ => 0, fun _ => 0, fun _ => (fun _ => 0), fun _ => (fun _ => 0), fun _ => (fun _ => none)) rfl [0, 1, 2] rfl rfl rfl dX2_scoreWith_60
    · refine lv_iconst (v := (-1)) hx hb dX2_scoreWith_24 (by decide) ?_
      exact z_iret C0 hr hlk rfl hK hP hD hS (0, fun _ => 0, fun _ => 0, fun _ => 0, fun _ => (fun _ => 0), fun _ => (fun _ => 0), fun _ => (fun _ => none)) rfl [0, 1, 2] rfl rfl rfl dX2_scoreWith_25

set_option maxHeartbeats 4000000 in
set_option maxRecDepth 100000 in
theorem s_X2_scoreWith_8 (l : Launch) (D : va_G) (k : Nat → ClassId) (q_0 : Nat) (q_1 : Nat) (q_2 : Nat) (q_3 : Nat) (q_4 : Nat) (q_5 : Nat) (q_6 : Nat) (q_7 : Nat) (q_8 : Nat) (q_9 : Nat) (x_0 : Int32) (x_1 : Int32) (x_2 : Int32) (x_3 : Int32) (x_4 : Int32) (x_5 : Int32) (x_6 : Int32) (x_7 : Int32) (f_8 : Nat → Int32) (f_9 : Nat → Int32) (h_x_0 : 0 ≤ Int32.toInt x_0 ∧ Int32.toInt x_0 ≤ 5) (h_x_1 : 0 ≤ Int32.toInt x_1 ∧ Int32.toInt x_1 ≤ 1) (h_x_2 : 0 ≤ Int32.toInt x_2 ∧ Int32.toInt x_2 ≤ 2) (h_x_3 : 0 ≤ Int32.toInt x_3 ∧ Int32.toInt x_3 ≤ 6) : zMi l yX2_scoreWith cX2_scoreWith 4 (some .int) ({ frames := 0, cells := 0, slots := 0, locals := 0 }) D k [.ref q_0, .int x_0, .int x_1, .int x_2] [(q_0, .inr (2, [.ref q_3, .ref q_4, .ref q_5, .int x_3, .int x_4, .ref q_1, .ref q_2, .ref q_6, .int x_5, .int x_6, .int x_7, .ref q_7, .ref q_8, .ref q_9])), (q_1, .inl (k 0, 36, .inl f_8)), (q_2, .inl (k 0, 448, .inl f_9))] (fun r u => u.1 = 0) (fun u => [(q_0, .inr (2, [.ref q_3, .ref q_4, .ref q_5, .int x_3, .int x_4, .ref q_1, .ref q_2, .ref q_6, .int x_5, .int x_6, .int x_7, .ref q_7, .ref q_8, .ref q_9])), (q_1, .inl (k 0, 36, .inl f_8)), (q_2, .inl (k 0, 448, .inl f_9))]) := by
  refine zMi_of (own := RX2) (by decide +kernel) rfl (Nat.le_of_ble_eq_true rfl) ?_
  intro p e s m args below meth c A ls C0 hr hlk hin hP hD hS hA hK hN hl
  have hx := C0.1
  have hb := C0.2.1
  have hml := C0.2.2.1
  have hown := C0.2.2.2.1
  have hts := C0.2.2.2.2
  have hl : lv_has ls 4 [(0, .ref q_0), (1, .int x_0), (2, .int x_1), (3, .int x_2)] := hl
  have hP : va_P D vwCl [(q_0, .inr (2, [.ref q_3, .ref q_4, .ref q_5, .int x_3, .int x_4, .ref q_1, .ref q_2, .ref q_6, .int x_5, .int x_6, .int x_7, .ref q_7, .ref q_8, .ref q_9])), (q_1, .inl (k 0, 36, .inl f_8)), (q_2, .inl (k 0, 448, .inl f_9))] s.heap := hP
  refine lv_iload_n hx hb dX2_scoreWith_0 rfl (lv_at hl 2 rfl) ?_
  refine lv_iload_n hx hb dX2_scoreWith_1 rfl (lv_at hl 3 rfl) ?_
  refine lv_ishr hx hb dX2_scoreWith_2 ?_
  refine lv_topi (fun y1 ey1 => ?_)
  refine lv_iconst (v := 1) hx hb dX2_scoreWith_3 (by decide) ?_
  refine lv_iand hx hb dX2_scoreWith_4 ?_
  refine lv_topi (fun y2 ey2 => ?_)
  have hy2 : 0 ≤ Int32.toInt y2 ∧ Int32.toInt y2 ≤ 1 := by rw [ey2]; exact zo_and _ (by decide)
  refine lv_iconst (v := 1) hx hb dX2_scoreWith_5 (by decide) ?_
  refine lv_icmp_eq (tgt := 24) hx hb dX2_scoreWith_6 (by decide) (fun c3 => ?_) (fun c3 => ?_)
  · refine lv_iconst (v := (-1)) hx hb dX2_scoreWith_24 (by decide) ?_
    exact z_iret C0 hr hlk rfl hK hP hD hS (0, fun _ => 0, fun _ => 0, fun _ => 0, fun _ => (fun _ => 0), fun _ => (fun _ => 0), fun _ => (fun _ => none)) rfl [0, 1, 2] rfl rfl rfl dX2_scoreWith_25
  · refine lv_aload_n hx hb dX2_scoreWith_9 rfl (lv_at hl 0 rfl) ?_
    refine va_get (D := D) (ci := 2) (v := .ref q_1) (C := RX2) (T := TX2) (N := 14) hx hb hts inX2 hown hK hP 0 rfl rfl 5 (by decide) (hts _ kF_X2_19) (fun _ h9 => h9) rfl dX2_scoreWith_10 ?_
    refine lv_iload_n hx hb dX2_scoreWith_13 rfl (lv_at hl 1 rfl) ?_
    refine lv_bipush (v := 6) hx hb dX2_scoreWith_14 (by decide) ?_
    refine lv_imul hx hb dX2_scoreWith_16 ?_
    have e4 : Int32.toInt (x_0 * 6) = Int32.toInt x_0 * Int32.toInt (6 : Int32) := zi_mul (by revert h_x_0; simp only [vp_in_iff, Int32.lt_iff_toInt_lt, Int32.le_iff_toInt_le, Int64.lt_iff_toInt_lt, Int64.le_iff_toInt_le, Int32.toInt_toInt64, ← Int32.toInt_inj, ← Int64.toInt_inj, Int32.reduceToInt, Int64.reduceToInt] <;> omega)
    refine lv_iload_n hx hb dX2_scoreWith_17 rfl (lv_at hl 3 rfl) ?_
    refine lv_iadd hx hb dX2_scoreWith_18 ?_
    have e5 : Int32.toInt ((x_0 * 6) + x_2) = Int32.toInt (x_0 * 6) + Int32.toInt x_2 := zi_add (by revert h_x_0 h_x_2 e4; simp only [vp_in_iff, Int32.lt_iff_toInt_lt, Int32.le_iff_toInt_le, Int64.lt_iff_toInt_lt, Int64.le_iff_toInt_le, Int32.toInt_toInt64, ← Int32.toInt_inj, ← Int64.toInt_inj, Int32.reduceToInt, Int64.reduceToInt] <;> omega)
    refine va_iald hx hb hK hP 1 0 rfl rfl (by revert h_x_0 h_x_2 e4 e5; simp only [vp_in_iff, Int32.lt_iff_toInt_lt, Int32.le_iff_toInt_le, Int64.lt_iff_toInt_lt, Int64.le_iff_toInt_le, Int32.toInt_toInt64, ← Int32.toInt_inj, ← Int64.toInt_inj, Int32.reduceToInt, Int64.reduceToInt] <;> omega) dX2_scoreWith_19 ?_
    refine lv_topi (fun y6 ey6 => ?_)
    refine lv_iconst (v := (-1)) hx hb dX2_scoreWith_20 (by decide) ?_
    refine lv_icmp_ne (tgt := 26) hx hb dX2_scoreWith_21 (by decide) (fun c7 => ?_) (fun c7 => ?_)
    · refine lv_aload_n hx hb dX2_scoreWith_26 rfl (lv_at hl 0 rfl) ?_
      refine va_get (D := D) (ci := 2) (v := .ref q_2) (C := RX2) (T := TX2) (N := 14) hx hb hts inX2 hown hK hP 0 rfl rfl 6 (by decide) (hts _ kF_X2_22) (fun _ h9 => h9) rfl dX2_scoreWith_27 ?_
      refine lv_iload_n hx hb dX2_scoreWith_30 rfl (lv_at hl 1 rfl) ?_
      refine lv_iconst (v := 1) hx hb dX2_scoreWith_31 (by decide) ?_
      refine lv_iadd hx hb dX2_scoreWith_32 ?_
      have e8 : Int32.toInt (x_0 + 1) = Int32.toInt x_0 + Int32.toInt (1 : Int32) := zi_add (by revert h_x_0 e4 e5 h_x_2; simp only [vp_in_iff, Int32.lt_iff_toInt_lt, Int32.le_iff_toInt_le, Int64.lt_iff_toInt_lt, Int64.le_iff_toInt_le, Int32.toInt_toInt64, ← Int32.toInt_inj, ← Int64.toInt_inj, Int32.reduceToInt, Int64.reduceToInt] <;> omega)
      refine lv_bipush (v := 64) hx hb dX2_scoreWith_33 (by decide) ?_
      refine lv_imul hx hb dX2_scoreWith_35 ?_
      have e9 : Int32.toInt ((x_0 + 1) * 64) = Int32.toInt (x_0 + 1) * Int32.toInt (64 : Int32) := zi_mul (by revert h_x_0 e4 e5 e8 h_x_2; simp only [vp_in_iff, Int32.lt_iff_toInt_lt, Int32.le_iff_toInt_le, Int64.lt_iff_toInt_lt, Int64.le_iff_toInt_le, Int32.toInt_toInt64, ← Int32.toInt_inj, ← Int64.toInt_inj, Int32.reduceToInt, Int64.reduceToInt] <;> omega)
      refine lv_iload_n hx hb dX2_scoreWith_36 rfl (lv_at hl 2 rfl) ?_
      refine lv_iconst (v := 1) hx hb dX2_scoreWith_37 (by decide) ?_
      refine lv_iload_n hx hb dX2_scoreWith_38 rfl (lv_at hl 3 rfl) ?_
      refine lv_ishl hx hb dX2_scoreWith_39 ?_
      refine lv_topi (fun y10 ey10 => ?_)
      have hy10 : 1 ≤ Int32.toInt y10 ∧ Int32.toInt y10 ≤ 4 := by rw [ey10]; exact zo_shl1 2 (show 0 ≤ Int32.toInt x_2 ∧ Int32.toInt x_2 ≤ 2 by revert h_x_2 e5 e8 e9 h_x_0 e4; simp only [vp_in_iff, Int32.lt_iff_toInt_lt, Int32.le_iff_toInt_le, Int64.lt_iff_toInt_lt, Int64.le_iff_toInt_le, Int32.toInt_toInt64, ← Int32.toInt_inj, ← Int64.toInt_inj, Int32.reduceToInt, Int64.reduceToInt] <;> omega) (by decide)
      refine lv_ior hx hb dX2_scoreWith_40 ?_
      refine lv_topi (fun y11 ey11 => ?_)
      have hy11 : 0 ≤ Int32.toInt y11 ∧ Int32.toInt y11 ≤ 7 := by rw [ey11]; exact zo_or 3 (show 0 ≤ Int32.toInt x_1 ∧ Int32.toInt x_1 < 2 ^ 3 by revert h_x_1 hy10; simp only [vp_in_iff, Int32.lt_iff_toInt_lt, Int32.le_iff_toInt_le, Int64.lt_iff_toInt_lt, Int64.le_iff_toInt_le, Int32.toInt_toInt64, ← Int32.toInt_inj, ← Int64.toInt_inj, Int32.reduceToInt, Int64.reduceToInt] <;> omega) (show 0 ≤ Int32.toInt y10 ∧ Int32.toInt y10 < 2 ^ 3 by revert h_x_1 hy10; simp only [vp_in_iff, Int32.lt_iff_toInt_lt, Int32.le_iff_toInt_le, Int64.lt_iff_toInt_lt, Int64.le_iff_toInt_le, Int32.toInt_toInt64, ← Int32.toInt_inj, ← Int64.toInt_inj, Int32.reduceToInt, Int64.reduceToInt] <;> omega) (by decide)
      refine lv_iadd hx hb dX2_scoreWith_41 ?_
      have e12 : Int32.toInt (((x_0 + 1) * 64) + y11) = Int32.toInt ((x_0 + 1) * 64) + Int32.toInt y11 := zi_add (by revert h_x_0 e4 e5 e8 e9 hy11 h_x_2; simp only [vp_in_iff, Int32.lt_iff_toInt_lt, Int32.le_iff_toInt_le, Int64.lt_iff_toInt_lt, Int64.le_iff_toInt_le, Int32.toInt_toInt64, ← Int32.toInt_inj, ← Int64.toInt_inj, Int32.reduceToInt, Int64.reduceToInt] <;> omega)
      refine va_iald hx hb hK hP 2 0 rfl rfl (by revert h_x_0 e4 e5 e8 e9 hy11 e12 h_x_2; simp only [vp_in_iff, Int32.lt_iff_toInt_lt, Int32.le_iff_toInt_le, Int64.lt_iff_toInt_lt, Int64.le_iff_toInt_le, Int32.toInt_toInt64, ← Int32.toInt_inj, ← Int64.toInt_inj, Int32.reduceToInt, Int64.reduceToInt] <;> omega) dX2_scoreWith_42 ?_
      refine lv_topi (fun y13 ey13 => ?_)
      refine lv_aload_n hx hb dX2_scoreWith_43 rfl (lv_at hl 0 rfl) ?_
      refine va_get (D := D) (ci := 2) (v := .ref q_1) (C := RX2) (T := TX2) (N := 14) hx hb hts inX2 hown hK hP 0 rfl rfl 5 (by decide) (hts _ kF_X2_19) (fun _ h9 => h9) rfl dX2_scoreWith_44 ?_
      refine lv_iload_n hx hb dX2_scoreWith_47 rfl (lv_at hl 1 rfl) ?_
      refine lv_bipush (v := 6) hx hb dX2_scoreWith_48 (by decide) ?_
      refine lv_imul hx hb dX2_scoreWith_50 ?_
      have e14 : Int32.toInt (x_0 * 6) = Int32.toInt x_0 * Int32.toInt (6 : Int32) := zi_mul (by revert h_x_0 e4 e5 e8 e9 e12 h_x_2 hy11; simp only [vp_in_iff, Int32.lt_iff_toInt_lt, Int32.le_iff_toInt_le, Int64.lt_iff_toInt_lt, Int64.le_iff_toInt_le, Int32.toInt_toInt64, ← Int32.toInt_inj, ← Int64.toInt_inj, Int32.reduceToInt, Int64.reduceToInt] <;> omega)
      refine lv_iload_n hx hb dX2_scoreWith_51 rfl (lv_at hl 3 rfl) ?_
      refine lv_iadd hx hb dX2_scoreWith_52 ?_
      have e15 : Int32.toInt ((x_0 * 6) + x_2) = Int32.toInt (x_0 * 6) + Int32.toInt x_2 := zi_add (by revert h_x_0 h_x_2 e4 e5 e8 e9 e12 e14 hy11; simp only [vp_in_iff, Int32.lt_iff_toInt_lt, Int32.le_iff_toInt_le, Int64.lt_iff_toInt_lt, Int64.le_iff_toInt_le, Int32.toInt_toInt64, ← Int32.toInt_inj, ← Int64.toInt_inj, Int32.reduceToInt, Int64.reduceToInt] <;> omega)
      refine va_iald hx hb hK hP 1 0 rfl rfl (by revert h_x_0 h_x_2 e4 e5 e8 e9 e12 e14 e15 hy11; simp only [vp_in_iff, Int32.lt_iff_toInt_lt, Int32.le_iff_toInt_le, Int64.lt_iff_toInt_lt, Int64.le_iff_toInt_le, Int32.toInt_toInt64, ← Int32.toInt_inj, ← Int64.toInt_inj, Int32.reduceToInt, Int64.reduceToInt] <;> omega) dX2_scoreWith_53 ?_
      refine lv_toc (v := y6) ey6.symm ?_
      refine lv_bipush (v := 8) hx hb dX2_scoreWith_54 (by decide) ?_
      refine lv_imul hx hb dX2_scoreWith_56 ?_
      refine lv_iadd hx hb dX2_scoreWith_57 ?_
      refine lv_iconst (v := 1) hx hb dX2_scoreWith_58 (by decide) ?_
      refine lv_iadd hx hb dX2_scoreWith_59 ?_
      exact z_iret C0 hr hlk rfl hK hP hD hS (0, fun _ => 0, fun _ => 0, fun _ => 0, fun _ => (fun _ => 0), fun _ => (fun _ => 0), fun _ => (fun _ => none)) rfl [0, 1, 2] rfl rfl rfl dX2_scoreWith_60
    · refine lv_iconst (v := (-1)) hx hb dX2_scoreWith_24 (by decide) ?_
      exact z_iret C0 hr hlk rfl hK hP hD hS (0, fun _ => 0, fun _ => 0, fun _ => 0, fun _ => (fun _ => 0), fun _ => (fun _ => 0), fun _ => (fun _ => none)) rfl [0, 1, 2] rfl rfl rfl dX2_scoreWith_25

set_option maxHeartbeats 4000000 in
set_option maxRecDepth 100000 in
theorem s_X2_scoreWith_9 (l : Launch) (D : va_G) (k : Nat → ClassId) (q_0 : Nat) (q_1 : Nat) (q_2 : Nat) (q_3 : Nat) (q_4 : Nat) (q_5 : Nat) (q_6 : Nat) (q_7 : Nat) (q_8 : Nat) (q_9 : Nat) (x_0 : Int32) (x_1 : Int32) (x_2 : Int32) (x_3 : Int32) (x_4 : Int32) (x_5 : Int32) (x_6 : Int32) (x_7 : Int32) (f_8 : Nat → Int32) (f_9 : Nat → Int32) (h_x_0 : 0 ≤ Int32.toInt x_0 ∧ Int32.toInt x_0 ≤ 5) (h_x_1 : 0 ≤ Int32.toInt x_1 ∧ Int32.toInt x_1 ≤ 1) (h_x_2 : 0 ≤ Int32.toInt x_2 ∧ Int32.toInt x_2 ≤ 3) (h_x_3 : 0 ≤ Int32.toInt x_3 ∧ Int32.toInt x_3 ≤ 6) : zMi l yX2_scoreWith cX2_scoreWith 4 (some .int) ({ frames := 0, cells := 0, slots := 0, locals := 0 }) D k [.ref q_0, .int x_0, .int x_1, .int x_2] [(q_0, .inr (2, [.ref q_3, .ref q_4, .ref q_5, .int x_3, .int x_4, .ref q_1, .ref q_2, .ref q_6, .int x_5, .int x_6, .int x_7, .ref q_7, .ref q_8, .ref q_9])), (q_1, .inl (k 0, 36, .inl f_8)), (q_2, .inl (k 0, 448, .inl f_9))] (fun r u => u.1 = 0) (fun u => [(q_0, .inr (2, [.ref q_3, .ref q_4, .ref q_5, .int x_3, .int x_4, .ref q_1, .ref q_2, .ref q_6, .int x_5, .int x_6, .int x_7, .ref q_7, .ref q_8, .ref q_9])), (q_1, .inl (k 0, 36, .inl f_8)), (q_2, .inl (k 0, 448, .inl f_9))]) := by
  refine zMi_of (own := RX2) (by decide +kernel) rfl (Nat.le_of_ble_eq_true rfl) ?_
  intro p e s m args below meth c A ls C0 hr hlk hin hP hD hS hA hK hN hl
  have hx := C0.1
  have hb := C0.2.1
  have hml := C0.2.2.1
  have hown := C0.2.2.2.1
  have hts := C0.2.2.2.2
  have hl : lv_has ls 4 [(0, .ref q_0), (1, .int x_0), (2, .int x_1), (3, .int x_2)] := hl
  have hP : va_P D vwCl [(q_0, .inr (2, [.ref q_3, .ref q_4, .ref q_5, .int x_3, .int x_4, .ref q_1, .ref q_2, .ref q_6, .int x_5, .int x_6, .int x_7, .ref q_7, .ref q_8, .ref q_9])), (q_1, .inl (k 0, 36, .inl f_8)), (q_2, .inl (k 0, 448, .inl f_9))] s.heap := hP
  refine lv_iload_n hx hb dX2_scoreWith_0 rfl (lv_at hl 2 rfl) ?_
  refine lv_iload_n hx hb dX2_scoreWith_1 rfl (lv_at hl 3 rfl) ?_
  refine lv_ishr hx hb dX2_scoreWith_2 ?_
  refine lv_topi (fun y1 ey1 => ?_)
  refine lv_iconst (v := 1) hx hb dX2_scoreWith_3 (by decide) ?_
  refine lv_iand hx hb dX2_scoreWith_4 ?_
  refine lv_topi (fun y2 ey2 => ?_)
  have hy2 : 0 ≤ Int32.toInt y2 ∧ Int32.toInt y2 ≤ 1 := by rw [ey2]; exact zo_and _ (by decide)
  refine lv_iconst (v := 1) hx hb dX2_scoreWith_5 (by decide) ?_
  refine lv_icmp_eq (tgt := 24) hx hb dX2_scoreWith_6 (by decide) (fun c3 => ?_) (fun c3 => ?_)
  · refine lv_iconst (v := (-1)) hx hb dX2_scoreWith_24 (by decide) ?_
    exact z_iret C0 hr hlk rfl hK hP hD hS (0, fun _ => 0, fun _ => 0, fun _ => 0, fun _ => (fun _ => 0), fun _ => (fun _ => 0), fun _ => (fun _ => none)) rfl [0, 1, 2] rfl rfl rfl dX2_scoreWith_25
  · refine lv_aload_n hx hb dX2_scoreWith_9 rfl (lv_at hl 0 rfl) ?_
    refine va_get (D := D) (ci := 2) (v := .ref q_1) (C := RX2) (T := TX2) (N := 14) hx hb hts inX2 hown hK hP 0 rfl rfl 5 (by decide) (hts _ kF_X2_19) (fun _ h9 => h9) rfl dX2_scoreWith_10 ?_
    refine lv_iload_n hx hb dX2_scoreWith_13 rfl (lv_at hl 1 rfl) ?_
    refine lv_bipush (v := 6) hx hb dX2_scoreWith_14 (by decide) ?_
    refine lv_imul hx hb dX2_scoreWith_16 ?_
    have e4 : Int32.toInt (x_0 * 6) = Int32.toInt x_0 * Int32.toInt (6 : Int32) := zi_mul (by revert h_x_0; simp only [vp_in_iff, Int32.lt_iff_toInt_lt, Int32.le_iff_toInt_le, Int64.lt_iff_toInt_lt, Int64.le_iff_toInt_le, Int32.toInt_toInt64, ← Int32.toInt_inj, ← Int64.toInt_inj, Int32.reduceToInt, Int64.reduceToInt] <;> omega)
    refine lv_iload_n hx hb dX2_scoreWith_17 rfl (lv_at hl 3 rfl) ?_
    refine lv_iadd hx hb dX2_scoreWith_18 ?_
    have e5 : Int32.toInt ((x_0 * 6) + x_2) = Int32.toInt (x_0 * 6) + Int32.toInt x_2 := zi_add (by revert h_x_0 h_x_2 e4; simp only [vp_in_iff, Int32.lt_iff_toInt_lt, Int32.le_iff_toInt_le, Int64.lt_iff_toInt_lt, Int64.le_iff_toInt_le, Int32.toInt_toInt64, ← Int32.toInt_inj, ← Int64.toInt_inj, Int32.reduceToInt, Int64.reduceToInt] <;> omega)
    refine va_iald hx hb hK hP 1 0 rfl rfl (by revert h_x_0 h_x_2 e4 e5; simp only [vp_in_iff, Int32.lt_iff_toInt_lt, Int32.le_iff_toInt_le, Int64.lt_iff_toInt_lt, Int64.le_iff_toInt_le, Int32.toInt_toInt64, ← Int32.toInt_inj, ← Int64.toInt_inj, Int32.reduceToInt, Int64.reduceToInt] <;> omega) dX2_scoreWith_19 ?_
    refine lv_topi (fun y6 ey6 => ?_)
    refine lv_iconst (v := (-1)) hx hb dX2_scoreWith_20 (by decide) ?_
    refine lv_icmp_ne (tgt := 26) hx hb dX2_scoreWith_21 (by decide) (fun c7 => ?_) (fun c7 => ?_)
    · refine lv_aload_n hx hb dX2_scoreWith_26 rfl (lv_at hl 0 rfl) ?_
      refine va_get (D := D) (ci := 2) (v := .ref q_2) (C := RX2) (T := TX2) (N := 14) hx hb hts inX2 hown hK hP 0 rfl rfl 6 (by decide) (hts _ kF_X2_22) (fun _ h9 => h9) rfl dX2_scoreWith_27 ?_
      refine lv_iload_n hx hb dX2_scoreWith_30 rfl (lv_at hl 1 rfl) ?_
      refine lv_iconst (v := 1) hx hb dX2_scoreWith_31 (by decide) ?_
      refine lv_iadd hx hb dX2_scoreWith_32 ?_
      have e8 : Int32.toInt (x_0 + 1) = Int32.toInt x_0 + Int32.toInt (1 : Int32) := zi_add (by revert h_x_0 e4 e5 h_x_2; simp only [vp_in_iff, Int32.lt_iff_toInt_lt, Int32.le_iff_toInt_le, Int64.lt_iff_toInt_lt, Int64.le_iff_toInt_le, Int32.toInt_toInt64, ← Int32.toInt_inj, ← Int64.toInt_inj, Int32.reduceToInt, Int64.reduceToInt] <;> omega)
      refine lv_bipush (v := 64) hx hb dX2_scoreWith_33 (by decide) ?_
      refine lv_imul hx hb dX2_scoreWith_35 ?_
      have e9 : Int32.toInt ((x_0 + 1) * 64) = Int32.toInt (x_0 + 1) * Int32.toInt (64 : Int32) := zi_mul (by revert h_x_0 e4 e5 e8 h_x_2; simp only [vp_in_iff, Int32.lt_iff_toInt_lt, Int32.le_iff_toInt_le, Int64.lt_iff_toInt_lt, Int64.le_iff_toInt_le, Int32.toInt_toInt64, ← Int32.toInt_inj, ← Int64.toInt_inj, Int32.reduceToInt, Int64.reduceToInt] <;> omega)
      refine lv_iload_n hx hb dX2_scoreWith_36 rfl (lv_at hl 2 rfl) ?_
      refine lv_iconst (v := 1) hx hb dX2_scoreWith_37 (by decide) ?_
      refine lv_iload_n hx hb dX2_scoreWith_38 rfl (lv_at hl 3 rfl) ?_
      refine lv_ishl hx hb dX2_scoreWith_39 ?_
      refine lv_topi (fun y10 ey10 => ?_)
      have hy10 : 1 ≤ Int32.toInt y10 ∧ Int32.toInt y10 ≤ 8 := by rw [ey10]; exact zo_shl1 3 (show 0 ≤ Int32.toInt x_2 ∧ Int32.toInt x_2 ≤ 3 by revert h_x_2 e5 e8 e9 h_x_0 e4; simp only [vp_in_iff, Int32.lt_iff_toInt_lt, Int32.le_iff_toInt_le, Int64.lt_iff_toInt_lt, Int64.le_iff_toInt_le, Int32.toInt_toInt64, ← Int32.toInt_inj, ← Int64.toInt_inj, Int32.reduceToInt, Int64.reduceToInt] <;> omega) (by decide)
      refine lv_ior hx hb dX2_scoreWith_40 ?_
      refine lv_topi (fun y11 ey11 => ?_)
      have hy11 : 0 ≤ Int32.toInt y11 ∧ Int32.toInt y11 ≤ 15 := by rw [ey11]; exact zo_or 4 (show 0 ≤ Int32.toInt x_1 ∧ Int32.toInt x_1 < 2 ^ 4 by revert h_x_1 hy10; simp only [vp_in_iff, Int32.lt_iff_toInt_lt, Int32.le_iff_toInt_le, Int64.lt_iff_toInt_lt, Int64.le_iff_toInt_le, Int32.toInt_toInt64, ← Int32.toInt_inj, ← Int64.toInt_inj, Int32.reduceToInt, Int64.reduceToInt] <;> omega) (show 0 ≤ Int32.toInt y10 ∧ Int32.toInt y10 < 2 ^ 4 by revert h_x_1 hy10; simp only [vp_in_iff, Int32.lt_iff_toInt_lt, Int32.le_iff_toInt_le, Int64.lt_iff_toInt_lt, Int64.le_iff_toInt_le, Int32.toInt_toInt64, ← Int32.toInt_inj, ← Int64.toInt_inj, Int32.reduceToInt, Int64.reduceToInt] <;> omega) (by decide)
      refine lv_iadd hx hb dX2_scoreWith_41 ?_
      have e12 : Int32.toInt (((x_0 + 1) * 64) + y11) = Int32.toInt ((x_0 + 1) * 64) + Int32.toInt y11 := zi_add (by revert h_x_0 e4 e5 e8 e9 hy11 h_x_2; simp only [vp_in_iff, Int32.lt_iff_toInt_lt, Int32.le_iff_toInt_le, Int64.lt_iff_toInt_lt, Int64.le_iff_toInt_le, Int32.toInt_toInt64, ← Int32.toInt_inj, ← Int64.toInt_inj, Int32.reduceToInt, Int64.reduceToInt] <;> omega)
      refine va_iald hx hb hK hP 2 0 rfl rfl (by revert h_x_0 e4 e5 e8 e9 hy11 e12 h_x_2; simp only [vp_in_iff, Int32.lt_iff_toInt_lt, Int32.le_iff_toInt_le, Int64.lt_iff_toInt_lt, Int64.le_iff_toInt_le, Int32.toInt_toInt64, ← Int32.toInt_inj, ← Int64.toInt_inj, Int32.reduceToInt, Int64.reduceToInt] <;> omega) dX2_scoreWith_42 ?_
      refine lv_topi (fun y13 ey13 => ?_)
      refine lv_aload_n hx hb dX2_scoreWith_43 rfl (lv_at hl 0 rfl) ?_
      refine va_get (D := D) (ci := 2) (v := .ref q_1) (C := RX2) (T := TX2) (N := 14) hx hb hts inX2 hown hK hP 0 rfl rfl 5 (by decide) (hts _ kF_X2_19) (fun _ h9 => h9) rfl dX2_scoreWith_44 ?_
      refine lv_iload_n hx hb dX2_scoreWith_47 rfl (lv_at hl 1 rfl) ?_
      refine lv_bipush (v := 6) hx hb dX2_scoreWith_48 (by decide) ?_
      refine lv_imul hx hb dX2_scoreWith_50 ?_
      have e14 : Int32.toInt (x_0 * 6) = Int32.toInt x_0 * Int32.toInt (6 : Int32) := zi_mul (by revert h_x_0 e4 e5 e8 e9 e12 h_x_2 hy11; simp only [vp_in_iff, Int32.lt_iff_toInt_lt, Int32.le_iff_toInt_le, Int64.lt_iff_toInt_lt, Int64.le_iff_toInt_le, Int32.toInt_toInt64, ← Int32.toInt_inj, ← Int64.toInt_inj, Int32.reduceToInt, Int64.reduceToInt] <;> omega)
      refine lv_iload_n hx hb dX2_scoreWith_51 rfl (lv_at hl 3 rfl) ?_
      refine lv_iadd hx hb dX2_scoreWith_52 ?_
      have e15 : Int32.toInt ((x_0 * 6) + x_2) = Int32.toInt (x_0 * 6) + Int32.toInt x_2 := zi_add (by revert h_x_0 h_x_2 e4 e5 e8 e9 e12 e14 hy11; simp only [vp_in_iff, Int32.lt_iff_toInt_lt, Int32.le_iff_toInt_le, Int64.lt_iff_toInt_lt, Int64.le_iff_toInt_le, Int32.toInt_toInt64, ← Int32.toInt_inj, ← Int64.toInt_inj, Int32.reduceToInt, Int64.reduceToInt] <;> omega)
      refine va_iald hx hb hK hP 1 0 rfl rfl (by revert h_x_0 h_x_2 e4 e5 e8 e9 e12 e14 e15 hy11; simp only [vp_in_iff, Int32.lt_iff_toInt_lt, Int32.le_iff_toInt_le, Int64.lt_iff_toInt_lt, Int64.le_iff_toInt_le, Int32.toInt_toInt64, ← Int32.toInt_inj, ← Int64.toInt_inj, Int32.reduceToInt, Int64.reduceToInt] <;> omega) dX2_scoreWith_53 ?_
      refine lv_toc (v := y6) ey6.symm ?_
      refine lv_bipush (v := 8) hx hb dX2_scoreWith_54 (by decide) ?_
      refine lv_imul hx hb dX2_scoreWith_56 ?_
      refine lv_iadd hx hb dX2_scoreWith_57 ?_
      refine lv_iconst (v := 1) hx hb dX2_scoreWith_58 (by decide) ?_
      refine lv_iadd hx hb dX2_scoreWith_59 ?_
      exact z_iret C0 hr hlk rfl hK hP hD hS (0, fun _ => 0, fun _ => 0, fun _ => 0, fun _ => (fun _ => 0), fun _ => (fun _ => 0), fun _ => (fun _ => none)) rfl [0, 1, 2] rfl rfl rfl dX2_scoreWith_60
    · refine lv_iconst (v := (-1)) hx hb dX2_scoreWith_24 (by decide) ?_
      exact z_iret C0 hr hlk rfl hK hP hD hS (0, fun _ => 0, fun _ => 0, fun _ => 0, fun _ => (fun _ => 0), fun _ => (fun _ => 0), fun _ => (fun _ => none)) rfl [0, 1, 2] rfl rfl rfl dX2_scoreWith_25

set_option maxHeartbeats 4000000 in
set_option maxRecDepth 100000 in
theorem s_X2_scoreWith_10 (l : Launch) (D : va_G) (k : Nat → ClassId) (q_0 : Nat) (q_1 : Nat) (q_2 : Nat) (q_3 : Nat) (q_4 : Nat) (q_5 : Nat) (q_6 : Nat) (q_7 : Nat) (q_8 : Nat) (q_9 : Nat) (x_0 : Int32) (x_1 : Int32) (x_2 : Int32) (x_3 : Int32) (x_4 : Int32) (x_5 : Int32) (x_6 : Int32) (x_7 : Int32) (f_8 : Nat → Int32) (f_9 : Nat → Int32) (h_x_0 : 0 ≤ Int32.toInt x_0 ∧ Int32.toInt x_0 ≤ 5) (h_x_1 : 0 ≤ Int32.toInt x_1 ∧ Int32.toInt x_1 ≤ 1) (h_x_2 : 0 ≤ Int32.toInt x_2 ∧ Int32.toInt x_2 ≤ 5) (h_x_3 : 0 ≤ Int32.toInt x_3 ∧ Int32.toInt x_3 ≤ 6) : zMi l yX2_scoreWith cX2_scoreWith 4 (some .int) ({ frames := 0, cells := 0, slots := 0, locals := 0 }) D k [.ref q_0, .int x_0, .int x_1, .int x_2] [(q_0, .inr (2, [.ref q_3, .ref q_4, .ref q_5, .int x_3, .int x_4, .ref q_1, .ref q_2, .ref q_6, .int x_5, .int x_6, .int x_7, .ref q_7, .ref q_8, .ref q_9])), (q_1, .inl (k 0, 36, .inl f_8)), (q_2, .inl (k 0, 448, .inl f_9))] (fun r u => u.1 = 0) (fun u => [(q_0, .inr (2, [.ref q_3, .ref q_4, .ref q_5, .int x_3, .int x_4, .ref q_1, .ref q_2, .ref q_6, .int x_5, .int x_6, .int x_7, .ref q_7, .ref q_8, .ref q_9])), (q_1, .inl (k 0, 36, .inl f_8)), (q_2, .inl (k 0, 448, .inl f_9))]) := by
  refine zMi_of (own := RX2) (by decide +kernel) rfl (Nat.le_of_ble_eq_true rfl) ?_
  intro p e s m args below meth c A ls C0 hr hlk hin hP hD hS hA hK hN hl
  have hx := C0.1
  have hb := C0.2.1
  have hml := C0.2.2.1
  have hown := C0.2.2.2.1
  have hts := C0.2.2.2.2
  have hl : lv_has ls 4 [(0, .ref q_0), (1, .int x_0), (2, .int x_1), (3, .int x_2)] := hl
  have hP : va_P D vwCl [(q_0, .inr (2, [.ref q_3, .ref q_4, .ref q_5, .int x_3, .int x_4, .ref q_1, .ref q_2, .ref q_6, .int x_5, .int x_6, .int x_7, .ref q_7, .ref q_8, .ref q_9])), (q_1, .inl (k 0, 36, .inl f_8)), (q_2, .inl (k 0, 448, .inl f_9))] s.heap := hP
  refine lv_iload_n hx hb dX2_scoreWith_0 rfl (lv_at hl 2 rfl) ?_
  refine lv_iload_n hx hb dX2_scoreWith_1 rfl (lv_at hl 3 rfl) ?_
  refine lv_ishr hx hb dX2_scoreWith_2 ?_
  refine lv_topi (fun y1 ey1 => ?_)
  refine lv_iconst (v := 1) hx hb dX2_scoreWith_3 (by decide) ?_
  refine lv_iand hx hb dX2_scoreWith_4 ?_
  refine lv_topi (fun y2 ey2 => ?_)
  have hy2 : 0 ≤ Int32.toInt y2 ∧ Int32.toInt y2 ≤ 1 := by rw [ey2]; exact zo_and _ (by decide)
  refine lv_iconst (v := 1) hx hb dX2_scoreWith_5 (by decide) ?_
  refine lv_icmp_eq (tgt := 24) hx hb dX2_scoreWith_6 (by decide) (fun c3 => ?_) (fun c3 => ?_)
  · refine lv_iconst (v := (-1)) hx hb dX2_scoreWith_24 (by decide) ?_
    exact z_iret C0 hr hlk rfl hK hP hD hS (0, fun _ => 0, fun _ => 0, fun _ => 0, fun _ => (fun _ => 0), fun _ => (fun _ => 0), fun _ => (fun _ => none)) rfl [0, 1, 2] rfl rfl rfl dX2_scoreWith_25
  · refine lv_aload_n hx hb dX2_scoreWith_9 rfl (lv_at hl 0 rfl) ?_
    refine va_get (D := D) (ci := 2) (v := .ref q_1) (C := RX2) (T := TX2) (N := 14) hx hb hts inX2 hown hK hP 0 rfl rfl 5 (by decide) (hts _ kF_X2_19) (fun _ h9 => h9) rfl dX2_scoreWith_10 ?_
    refine lv_iload_n hx hb dX2_scoreWith_13 rfl (lv_at hl 1 rfl) ?_
    refine lv_bipush (v := 6) hx hb dX2_scoreWith_14 (by decide) ?_
    refine lv_imul hx hb dX2_scoreWith_16 ?_
    have e4 : Int32.toInt (x_0 * 6) = Int32.toInt x_0 * Int32.toInt (6 : Int32) := zi_mul (by revert h_x_0; simp only [vp_in_iff, Int32.lt_iff_toInt_lt, Int32.le_iff_toInt_le, Int64.lt_iff_toInt_lt, Int64.le_iff_toInt_le, Int32.toInt_toInt64, ← Int32.toInt_inj, ← Int64.toInt_inj, Int32.reduceToInt, Int64.reduceToInt] <;> omega)
    refine lv_iload_n hx hb dX2_scoreWith_17 rfl (lv_at hl 3 rfl) ?_
    refine lv_iadd hx hb dX2_scoreWith_18 ?_
    have e5 : Int32.toInt ((x_0 * 6) + x_2) = Int32.toInt (x_0 * 6) + Int32.toInt x_2 := zi_add (by revert h_x_0 h_x_2 e4; simp only [vp_in_iff, Int32.lt_iff_toInt_lt, Int32.le_iff_toInt_le, Int64.lt_iff_toInt_lt, Int64.le_iff_toInt_le, Int32.toInt_toInt64, ← Int32.toInt_inj, ← Int64.toInt_inj, Int32.reduceToInt, Int64.reduceToInt] <;> omega)
    refine va_iald hx hb hK hP 1 0 rfl rfl (by revert h_x_0 h_x_2 e4 e5; simp only [vp_in_iff, Int32.lt_iff_toInt_lt, Int32.le_iff_toInt_le, Int64.lt_iff_toInt_lt, Int64.le_iff_toInt_le, Int32.toInt_toInt64, ← Int32.toInt_inj, ← Int64.toInt_inj, Int32.reduceToInt, Int64.reduceToInt] <;> omega) dX2_scoreWith_19 ?_
    refine lv_topi (fun y6 ey6 => ?_)
    refine lv_iconst (v := (-1)) hx hb dX2_scoreWith_20 (by decide) ?_
    refine lv_icmp_ne (tgt := 26) hx hb dX2_scoreWith_21 (by decide) (fun c7 => ?_) (fun c7 => ?_)
    · refine lv_aload_n hx hb dX2_scoreWith_26 rfl (lv_at hl 0 rfl) ?_
      refine va_get (D := D) (ci := 2) (v := .ref q_2) (C := RX2) (T := TX2) (N := 14) hx hb hts inX2 hown hK hP 0 rfl rfl 6 (by decide) (hts _ kF_X2_22) (fun _ h9 => h9) rfl dX2_scoreWith_27 ?_
      refine lv_iload_n hx hb dX2_scoreWith_30 rfl (lv_at hl 1 rfl) ?_
      refine lv_iconst (v := 1) hx hb dX2_scoreWith_31 (by decide) ?_
      refine lv_iadd hx hb dX2_scoreWith_32 ?_
      have e8 : Int32.toInt (x_0 + 1) = Int32.toInt x_0 + Int32.toInt (1 : Int32) := zi_add (by revert h_x_0 e4 e5 h_x_2; simp only [vp_in_iff, Int32.lt_iff_toInt_lt, Int32.le_iff_toInt_le, Int64.lt_iff_toInt_lt, Int64.le_iff_toInt_le, Int32.toInt_toInt64, ← Int32.toInt_inj, ← Int64.toInt_inj, Int32.reduceToInt, Int64.reduceToInt] <;> omega)
      refine lv_bipush (v := 64) hx hb dX2_scoreWith_33 (by decide) ?_
      refine lv_imul hx hb dX2_scoreWith_35 ?_
      have e9 : Int32.toInt ((x_0 + 1) * 64) = Int32.toInt (x_0 + 1) * Int32.toInt (64 : Int32) := zi_mul (by revert h_x_0 e4 e5 e8 h_x_2; simp only [vp_in_iff, Int32.lt_iff_toInt_lt, Int32.le_iff_toInt_le, Int64.lt_iff_toInt_lt, Int64.le_iff_toInt_le, Int32.toInt_toInt64, ← Int32.toInt_inj, ← Int64.toInt_inj, Int32.reduceToInt, Int64.reduceToInt] <;> omega)
      refine lv_iload_n hx hb dX2_scoreWith_36 rfl (lv_at hl 2 rfl) ?_
      refine lv_iconst (v := 1) hx hb dX2_scoreWith_37 (by decide) ?_
      refine lv_iload_n hx hb dX2_scoreWith_38 rfl (lv_at hl 3 rfl) ?_
      refine lv_ishl hx hb dX2_scoreWith_39 ?_
      refine lv_topi (fun y10 ey10 => ?_)
      have hy10 : 1 ≤ Int32.toInt y10 ∧ Int32.toInt y10 ≤ 32 := by rw [ey10]; exact zo_shl1 5 (show 0 ≤ Int32.toInt x_2 ∧ Int32.toInt x_2 ≤ 5 by revert h_x_2 e5 e8 e9 h_x_0 e4; simp only [vp_in_iff, Int32.lt_iff_toInt_lt, Int32.le_iff_toInt_le, Int64.lt_iff_toInt_lt, Int64.le_iff_toInt_le, Int32.toInt_toInt64, ← Int32.toInt_inj, ← Int64.toInt_inj, Int32.reduceToInt, Int64.reduceToInt] <;> omega) (by decide)
      refine lv_ior hx hb dX2_scoreWith_40 ?_
      refine lv_topi (fun y11 ey11 => ?_)
      have hy11 : 0 ≤ Int32.toInt y11 ∧ Int32.toInt y11 ≤ 63 := by rw [ey11]; exact zo_or 6 (show 0 ≤ Int32.toInt x_1 ∧ Int32.toInt x_1 < 2 ^ 6 by revert h_x_1 hy10; simp only [vp_in_iff, Int32.lt_iff_toInt_lt, Int32.le_iff_toInt_le, Int64.lt_iff_toInt_lt, Int64.le_iff_toInt_le, Int32.toInt_toInt64, ← Int32.toInt_inj, ← Int64.toInt_inj, Int32.reduceToInt, Int64.reduceToInt] <;> omega) (show 0 ≤ Int32.toInt y10 ∧ Int32.toInt y10 < 2 ^ 6 by revert h_x_1 hy10; simp only [vp_in_iff, Int32.lt_iff_toInt_lt, Int32.le_iff_toInt_le, Int64.lt_iff_toInt_lt, Int64.le_iff_toInt_le, Int32.toInt_toInt64, ← Int32.toInt_inj, ← Int64.toInt_inj, Int32.reduceToInt, Int64.reduceToInt] <;> omega) (by decide)
      refine lv_iadd hx hb dX2_scoreWith_41 ?_
      have e12 : Int32.toInt (((x_0 + 1) * 64) + y11) = Int32.toInt ((x_0 + 1) * 64) + Int32.toInt y11 := zi_add (by revert h_x_0 e4 e5 e8 e9 hy11 h_x_2; simp only [vp_in_iff, Int32.lt_iff_toInt_lt, Int32.le_iff_toInt_le, Int64.lt_iff_toInt_lt, Int64.le_iff_toInt_le, Int32.toInt_toInt64, ← Int32.toInt_inj, ← Int64.toInt_inj, Int32.reduceToInt, Int64.reduceToInt] <;> omega)
      refine va_iald hx hb hK hP 2 0 rfl rfl (by revert h_x_0 e4 e5 e8 e9 hy11 e12 h_x_2; simp only [vp_in_iff, Int32.lt_iff_toInt_lt, Int32.le_iff_toInt_le, Int64.lt_iff_toInt_lt, Int64.le_iff_toInt_le, Int32.toInt_toInt64, ← Int32.toInt_inj, ← Int64.toInt_inj, Int32.reduceToInt, Int64.reduceToInt] <;> omega) dX2_scoreWith_42 ?_
      refine lv_topi (fun y13 ey13 => ?_)
      refine lv_aload_n hx hb dX2_scoreWith_43 rfl (lv_at hl 0 rfl) ?_
      refine va_get (D := D) (ci := 2) (v := .ref q_1) (C := RX2) (T := TX2) (N := 14) hx hb hts inX2 hown hK hP 0 rfl rfl 5 (by decide) (hts _ kF_X2_19) (fun _ h9 => h9) rfl dX2_scoreWith_44 ?_
      refine lv_iload_n hx hb dX2_scoreWith_47 rfl (lv_at hl 1 rfl) ?_
      refine lv_bipush (v := 6) hx hb dX2_scoreWith_48 (by decide) ?_
      refine lv_imul hx hb dX2_scoreWith_50 ?_
      have e14 : Int32.toInt (x_0 * 6) = Int32.toInt x_0 * Int32.toInt (6 : Int32) := zi_mul (by revert h_x_0 e4 e5 e8 e9 e12 h_x_2 hy11; simp only [vp_in_iff, Int32.lt_iff_toInt_lt, Int32.le_iff_toInt_le, Int64.lt_iff_toInt_lt, Int64.le_iff_toInt_le, Int32.toInt_toInt64, ← Int32.toInt_inj, ← Int64.toInt_inj, Int32.reduceToInt, Int64.reduceToInt] <;> omega)
      refine lv_iload_n hx hb dX2_scoreWith_51 rfl (lv_at hl 3 rfl) ?_
      refine lv_iadd hx hb dX2_scoreWith_52 ?_
      have e15 : Int32.toInt ((x_0 * 6) + x_2) = Int32.toInt (x_0 * 6) + Int32.toInt x_2 := zi_add (by revert h_x_0 h_x_2 e4 e5 e8 e9 e12 e14 hy11; simp only [vp_in_iff, Int32.lt_iff_toInt_lt, Int32.le_iff_toInt_le, Int64.lt_iff_toInt_lt, Int64.le_iff_toInt_le, Int32.toInt_toInt64, ← Int32.toInt_inj, ← Int64.toInt_inj, Int32.reduceToInt, Int64.reduceToInt] <;> omega)
      refine va_iald hx hb hK hP 1 0 rfl rfl (by revert h_x_0 h_x_2 e4 e5 e8 e9 e12 e14 e15 hy11; simp only [vp_in_iff, Int32.lt_iff_toInt_lt, Int32.le_iff_toInt_le, Int64.lt_iff_toInt_lt, Int64.le_iff_toInt_le, Int32.toInt_toInt64, ← Int32.toInt_inj, ← Int64.toInt_inj, Int32.reduceToInt, Int64.reduceToInt] <;> omega) dX2_scoreWith_53 ?_
      refine lv_toc (v := y6) ey6.symm ?_
      refine lv_bipush (v := 8) hx hb dX2_scoreWith_54 (by decide) ?_
      refine lv_imul hx hb dX2_scoreWith_56 ?_
      refine lv_iadd hx hb dX2_scoreWith_57 ?_
      refine lv_iconst (v := 1) hx hb dX2_scoreWith_58 (by decide) ?_
      refine lv_iadd hx hb dX2_scoreWith_59 ?_
      exact z_iret C0 hr hlk rfl hK hP hD hS (0, fun _ => 0, fun _ => 0, fun _ => 0, fun _ => (fun _ => 0), fun _ => (fun _ => 0), fun _ => (fun _ => none)) rfl [0, 1, 2] rfl rfl rfl dX2_scoreWith_60
    · refine lv_iconst (v := (-1)) hx hb dX2_scoreWith_24 (by decide) ?_
      exact z_iret C0 hr hlk rfl hK hP hD hS (0, fun _ => 0, fun _ => 0, fun _ => 0, fun _ => (fun _ => 0), fun _ => (fun _ => 0), fun _ => (fun _ => none)) rfl [0, 1, 2] rfl rfl rfl dX2_scoreWith_25

set_option maxHeartbeats 4000000 in
set_option maxRecDepth 100000 in
theorem s_X2_weighJoins_2 (l : Launch) (D : va_G) (k : Nat → ClassId) (q_0 : Nat) (q_1 : Nat) (q_2 : Nat) (q_3 : Nat) (q_4 : Nat) (q_5 : Nat) (q_6 : Nat) (q_7 : Nat) (q_8 : Nat) (q_9 : Nat) (q_10 : Nat) (q_11 : Nat) (q_12 : Nat) (q_13 : Nat) (q_14 : Nat) (q_15 : Nat) (q_16 : Nat) (q_17 : Nat) (q_18 : Nat) (x_0 : Int32) (x_1 : Int32) (x_2 : Int32) (x_3 : Int32) (x_4 : Int32) (x_5 : Int32) (x_6 : Int32) (f_7 : Nat → Int32) (f_8 : Nat → Int32) (x_9 : Int32) (x_10 : Int32) (x_11 : Int32) (x_12 : Int32) (f_13 : Nat → Int32) (h_x_0 : 0 ≤ Int32.toInt x_0 ∧ Int32.toInt x_0 ≤ 5) (h_x_1 : 0 ≤ Int32.toInt x_1 ∧ Int32.toInt x_1 ≤ 1) (h_x_2 : 0 ≤ Int32.toInt x_2 ∧ Int32.toInt x_2 ≤ 6) (h_x_9 : 0 ≤ Int32.toInt x_9 ∧ Int32.toInt x_9 ≤ 6) (h_x_10 : 1 ≤ Int32.toInt x_10 ∧ Int32.toInt x_10 ≤ 6) (h_x_11 : 0 ≤ Int32.toInt x_11 ∧ Int32.toInt x_11 ≤ 9) (h_x_12 : 0 ≤ Int32.toInt x_12 ∧ Int32.toInt x_12 ≤ 12) : zMv l yX2_weighJoins cX2_weighJoins 8 none ({ frames := 1, cells := 0, slots := 0, locals := 23 }) D k [.ref q_0, .int x_0, .int x_1] [(q_0, .inr (2, [.ref q_5, .ref q_3, .ref q_6, .int x_2, .int x_3, .ref q_4, .ref q_1, .ref q_2, .int x_4, .int x_5, .int x_6, .ref q_7, .ref q_8, .ref q_9])), (q_1, .inl (k 0, 448, .inl f_7)), (q_2, .inl (k 0, 448, .inl f_8)), (q_3, .inr (4, [.int x_9, .ref q_10, .int x_10, .ref q_11, .ref q_12, .int x_11, .ref q_13, .ref q_14, .ref q_15, .int x_12, .ref q_16, .ref q_17, .ref q_18])), (q_4, .inl (k 0, 36, .inl f_13))] (fun u => u.1 = 0) (fun u => [(q_0, .inr (2, [.ref q_5, .ref q_3, .ref q_6, .int x_2, .int x_3, .ref q_4, .ref q_1, .ref q_2, .int x_4, .int x_5, .int x_6, .ref q_7, .ref q_8, .ref q_9])), (q_1, .inl (k 0, 448, .inl (u.2.2.2.2.1 0))), (q_2, .inl (k 0, 448, .inl (u.2.2.2.2.1 1))), (q_3, .inr (4, [.int x_9, .ref q_10, .int x_10, .ref q_11, .ref q_12, .int x_11, .ref q_13, .ref q_14, .ref q_15, .int x_12, .ref q_16, .ref q_17, .ref q_18])), (q_4, .inl (k 0, 36, .inl f_13))]) := by
  refine zMv_of (own := RX2) (by decide +kernel) rfl (Nat.le_of_ble_eq_true rfl) ?_
  intro p e s m args below meth c A ls C0 hr hlk hin hP hD hS hA hK hN hl
  have hx := C0.1
  have hb := C0.2.1
  have hml := C0.2.2.1
  have hown := C0.2.2.2.1
  have hts := C0.2.2.2.2
  have hl : lv_has ls 8 [(0, .ref q_0), (1, .int x_0), (2, .int x_1)] := hl
  have hP : va_P D vwCl [(q_0, .inr (2, [.ref q_5, .ref q_3, .ref q_6, .int x_2, .int x_3, .ref q_4, .ref q_1, .ref q_2, .int x_4, .int x_5, .int x_6, .ref q_7, .ref q_8, .ref q_9])), (q_1, .inl (k 0, 448, .inl f_7)), (q_2, .inl (k 0, 448, .inl f_8)), (q_3, .inr (4, [.int x_9, .ref q_10, .int x_10, .ref q_11, .ref q_12, .int x_11, .ref q_13, .ref q_14, .ref q_15, .int x_12, .ref q_16, .ref q_17, .ref q_18])), (q_4, .inl (k 0, 36, .inl f_13))] s.heap := hP
  refine lv_iload_n hx hb dX2_weighJoins_0 rfl (lv_at hl 1 rfl) ?_
  refine lv_bipush (v := 64) hx hb dX2_weighJoins_1 (by decide) ?_
  refine lv_imul hx hb dX2_weighJoins_3 ?_
  have e1 : Int32.toInt (x_0 * 64) = Int32.toInt x_0 * Int32.toInt (64 : Int32) := zi_mul (by revert h_x_0; simp only [vp_in_iff, Int32.lt_iff_toInt_lt, Int32.le_iff_toInt_le, Int64.lt_iff_toInt_lt, Int64.le_iff_toInt_le, Int32.toInt_toInt64, ← Int32.toInt_inj, ← Int64.toInt_inj, Int32.reduceToInt, Int64.reduceToInt] <;> omega)
  refine lv_iload_n hx hb dX2_weighJoins_4 rfl (lv_at hl 2 rfl) ?_
  refine lv_iadd hx hb dX2_weighJoins_5 ?_
  have e2 : Int32.toInt ((x_0 * 64) + x_1) = Int32.toInt (x_0 * 64) + Int32.toInt x_1 := zi_add (by revert h_x_0 h_x_1 e1; simp only [vp_in_iff, Int32.lt_iff_toInt_lt, Int32.le_iff_toInt_le, Int64.lt_iff_toInt_lt, Int64.le_iff_toInt_le, Int32.toInt_toInt64, ← Int32.toInt_inj, ← Int64.toInt_inj, Int32.reduceToInt, Int64.reduceToInt] <;> omega)
  refine lv_istore_n (lv' := [(3, .int ((x_0 * 64) + x_1)), (0, .ref q_0), (1, .int x_0), (2, .int x_1)]) hx hb dX2_weighJoins_6 rfl hl (by decide) rfl (fun ls hl => ?_)
  refine lv_aload_n hx hb dX2_weighJoins_7 rfl (lv_at hl 1 rfl) ?_
  refine va_get (D := D) (ci := 2) (v := .ref q_1) (C := RX2) (T := TX2) (N := 14) hx hb hts inX2 hown hK hP 0 rfl rfl 6 (by decide) (hts _ kF_X2_22) (fun _ h9 => h9) rfl dX2_weighJoins_8 ?_
  refine lv_iload_n hx hb dX2_weighJoins_11 rfl (lv_at hl 0 rfl) ?_
  refine lv_bipush (v := 64) hx hb dX2_weighJoins_12 (by decide) ?_
  refine lv_iadd hx hb dX2_weighJoins_14 ?_
  have e3 : Int32.toInt (((x_0 * 64) + x_1) + 64) = Int32.toInt ((x_0 * 64) + x_1) + Int32.toInt (64 : Int32) := zi_add (by revert h_x_0 h_x_1 e1 e2; simp only [vp_in_iff, Int32.lt_iff_toInt_lt, Int32.le_iff_toInt_le, Int64.lt_iff_toInt_lt, Int64.le_iff_toInt_le, Int32.toInt_toInt64, ← Int32.toInt_inj, ← Int64.toInt_inj, Int32.reduceToInt, Int64.reduceToInt] <;> omega)
  refine va_iald hx hb hK hP 1 0 rfl rfl (by revert h_x_0 h_x_1 e1 e2 e3; simp only [vp_in_iff, Int32.lt_iff_toInt_lt, Int32.le_iff_toInt_le, Int64.lt_iff_toInt_lt, Int64.le_iff_toInt_le, Int32.toInt_toInt64, ← Int32.toInt_inj, ← Int64.toInt_inj, Int32.reduceToInt, Int64.reduceToInt] <;> omega) dX2_weighJoins_15 ?_
  refine lv_topi (fun y4 ey4 => ?_)
  refine lv_istore (lv' := [(4, .int y4), (3, .int ((x_0 * 64) + x_1)), (0, .ref q_0), (1, .int x_0), (2, .int x_1)]) hx hb dX2_weighJoins_16 hl (by decide) rfl (fun ls hl => ?_)
  refine lv_aload_n hx hb dX2_weighJoins_18 rfl (lv_at hl 2 rfl) ?_
  refine va_get (D := D) (ci := 2) (v := .ref q_2) (C := RX2) (T := TX2) (N := 14) hx hb hts inX2 hown hK hP 0 rfl rfl 7 (by decide) (hts _ kF_X2_25) (fun _ h9 => h9) rfl dX2_weighJoins_19 ?_
  refine lv_iload_n hx hb dX2_weighJoins_22 rfl (lv_at hl 1 rfl) ?_
  refine lv_bipush (v := 64) hx hb dX2_weighJoins_23 (by decide) ?_
  refine lv_iadd hx hb dX2_weighJoins_25 ?_
  have e5 : Int32.toInt (((x_0 * 64) + x_1) + 64) = Int32.toInt ((x_0 * 64) + x_1) + Int32.toInt (64 : Int32) := zi_add (by revert h_x_0 h_x_1 e1 e2 e3; simp only [vp_in_iff, Int32.lt_iff_toInt_lt, Int32.le_iff_toInt_le, Int64.lt_iff_toInt_lt, Int64.le_iff_toInt_le, Int32.toInt_toInt64, ← Int32.toInt_inj, ← Int64.toInt_inj, Int32.reduceToInt, Int64.reduceToInt] <;> omega)
  refine va_iald hx hb hK hP 2 0 rfl rfl (by revert h_x_0 h_x_1 e1 e2 e3 e5; simp only [vp_in_iff, Int32.lt_iff_toInt_lt, Int32.le_iff_toInt_le, Int64.lt_iff_toInt_lt, Int64.le_iff_toInt_le, Int32.toInt_toInt64, ← Int32.toInt_inj, ← Int64.toInt_inj, Int32.reduceToInt, Int64.reduceToInt] <;> omega) dX2_weighJoins_26 ?_
  refine lv_topi (fun y6 ey6 => ?_)
  refine lv_istore (lv' := [(5, .int y6), (4, .int y4), (3, .int ((x_0 * 64) + x_1)), (0, .ref q_0), (1, .int x_0), (2, .int x_1)]) hx hb dX2_weighJoins_27 hl (by decide) rfl (fun ls hl => ?_)
  refine lv_iconst (v := 0) hx hb dX2_weighJoins_29 (by decide) ?_
  refine lv_istore (lv' := [(6, .int 0), (5, .int y6), (4, .int y4), (3, .int ((x_0 * 64) + x_1)), (0, .ref q_0), (1, .int x_0), (2, .int x_1)]) hx hb dX2_weighJoins_30 hl (by decide) rfl (fun ls hl => ?_)
  have loop25 : ∀ (N26 : Nat) (y22 : Int32) (y23 : Int32) (y24 : Int32) (H : Heap) (locs : List Loc) (ls : Array Slot), Int.toNat (6 - Int32.toInt y22) < N26 → 0 ≤ Int32.toInt y22 ∧ Int32.toInt y22 ≤ 6 → va_P D vwCl [(q_0, .inr (2, [.ref q_5, .ref q_3, .ref q_6, .int x_2, .int x_3, .ref q_4, .ref q_1, .ref q_2, .int x_4, .int x_5, .int x_6, .ref q_7, .ref q_8, .ref q_9])), (q_1, .inl (k 0, 448, .inl f_7)), (q_2, .inl (k 0, 448, .inl f_8)), (q_3, .inr (4, [.int x_9, .ref q_10, .int x_10, .ref q_11, .ref q_12, .int x_11, .ref q_13, .ref q_14, .ref q_15, .int x_12, .ref q_16, .ref q_17, .ref q_18])), (q_4, .inl (k 0, 36, .inl f_13))] H → va_D A [(q_0, .inr (2, [.ref q_5, .ref q_3, .ref q_6, .int x_2, .int x_3, .ref q_4, .ref q_1, .ref q_2, .int x_4, .int x_5, .int x_6, .ref q_7, .ref q_8, .ref q_9])), (q_1, .inl (k 0, 448, .inl f_7)), (q_2, .inl (k 0, 448, .inl f_8)), (q_3, .inr (4, [.int x_9, .ref q_10, .int x_10, .ref q_11, .ref q_12, .int x_11, .ref q_13, .ref q_14, .ref q_15, .int x_12, .ref q_16, .ref q_17, .ref q_18])), (q_4, .inl (k 0, 36, .inl f_13))] → va_S A s.heap H locs → lv_has ls 8 [(6, .int y22), (5, .int y23), (4, .int y24), (3, .int ((x_0 * 64) + x_1)), (0, .ref q_0), (1, .int x_0), (2, .int x_1)] → W p l e { frames := 1, cells := 0, slots := 0, locals := 23 } s m args below meth c H locs 0 0 (MQ below (va_Qv (fun (u : zS) => u.1 = 0) (zB D k A (fun (u : zS) => [(q_0, .inr (2, [.ref q_5, .ref q_3, .ref q_6, .int x_2, .int x_3, .ref q_4, .ref q_1, .ref q_2, .int x_4, .int x_5, .int x_6, .ref q_7, .ref q_8, .ref q_9])), (q_1, .inl (k 0, 448, .inl (u.2.2.2.2.1 0))), (q_2, .inl (k 0, 448, .inl (u.2.2.2.2.1 1))), (q_3, .inr (4, [.int x_9, .ref q_10, .int x_10, .ref q_11, .ref q_12, .int x_11, .ref q_13, .ref q_14, .ref q_15, .int x_12, .ref q_16, .ref q_17, .ref q_18])), (q_4, .inl (k 0, 36, .inl f_13))])) A) args s 0 0 A) (F0 m 32 ls []) := by
    intro N26
    induction N26 with
    | zero => intro y22 y23 y24 H locs ls hm; exact absurd hm (Nat.not_lt_zero _)
    | succ N26 ihN26 =>
      intro y22 y23 y24 H locs ls hN26 hy22 hP hD hS hl
      refine lv_iload hx hb dX2_weighJoins_32 (lv_at hl 0 rfl) ?_
      refine lv_aload_n hx hb dX2_weighJoins_34 rfl (lv_at hl 4 rfl) ?_
      refine va_get (D := D) (ci := 2) (v := .ref q_3) (C := RX2) (T := TX2) (N := 14) hx hb hts inX2 hown hK hP 0 rfl rfl 1 (by decide) (hts _ kF_X2_48) (fun _ h9 => h9) rfl dX2_weighJoins_35 ?_
      refine va_get (D := D) (ci := 4) (v := .int x_9) (C := RX4) (T := TX4) (N := 13) hx hb hts inX4 hown hK hP 3 rfl rfl 0 (by decide) (hts _ kF_X2_49) (fun _ h9 => h9) rfl dX2_weighJoins_38 ?_
      refine lv_icmp_ge (tgt := 104) hx hb dX2_weighJoins_41 (by decide) (fun c27 => ?_) (fun c27 => ?_)
      · refine lv_aload_n hx hb dX2_weighJoins_104 rfl (lv_at hl 4 rfl) ?_
        refine va_get (D := D) (ci := 2) (v := .ref q_1) (C := RX2) (T := TX2) (N := 14) hx hb hts inX2 hown hK hP 0 rfl rfl 6 (by decide) (hts _ kF_X2_22) (fun _ h9 => h9) rfl dX2_weighJoins_105 ?_
        refine lv_iload_n hx hb dX2_weighJoins_108 rfl (lv_at hl 3 rfl) ?_
        refine lv_iload hx hb dX2_weighJoins_109 (lv_at hl 2 rfl) ?_
        refine va_iast hx hb hK hP hD hS 1 0 rfl rfl (by revert h_x_0 h_x_1 e1 e2 e3 e5; simp only [vp_in_iff, Int32.lt_iff_toInt_lt, Int32.le_iff_toInt_le, Int64.lt_iff_toInt_lt, Int64.le_iff_toInt_le, Int32.toInt_toInt64, ← Int32.toInt_inj, ← Int64.toInt_inj, Int32.reduceToInt, Int64.reduceToInt] <;> omega) dX2_weighJoins_111 (fun H locs hP hD hS => ?_)
        obtain ⟨F28, eF28⟩ : ∃ q, q = upd f_7 (Int32.toNatClampNeg ((x_0 * 64) + x_1)) y24 := ⟨_, rfl⟩
        have hP : va_P D vwCl [(q_0, .inr (2, [.ref q_5, .ref q_3, .ref q_6, .int x_2, .int x_3, .ref q_4, .ref q_1, .ref q_2, .int x_4, .int x_5, .int x_6, .ref q_7, .ref q_8, .ref q_9])), (q_1, .inl (k 0, 448, .inl F28)), (q_2, .inl (k 0, 448, .inl f_8)), (q_3, .inr (4, [.int x_9, .ref q_10, .int x_10, .ref q_11, .ref q_12, .int x_11, .ref q_13, .ref q_14, .ref q_15, .int x_12, .ref q_16, .ref q_17, .ref q_18])), (q_4, .inl (k 0, 36, .inl f_13))] H := by rw [eF28]; exact hP
        have hD : va_D A [(q_0, .inr (2, [.ref q_5, .ref q_3, .ref q_6, .int x_2, .int x_3, .ref q_4, .ref q_1, .ref q_2, .int x_4, .int x_5, .int x_6, .ref q_7, .ref q_8, .ref q_9])), (q_1, .inl (k 0, 448, .inl F28)), (q_2, .inl (k 0, 448, .inl f_8)), (q_3, .inr (4, [.int x_9, .ref q_10, .int x_10, .ref q_11, .ref q_12, .int x_11, .ref q_13, .ref q_14, .ref q_15, .int x_12, .ref q_16, .ref q_17, .ref q_18])), (q_4, .inl (k 0, 36, .inl f_13))] := by rw [eF28]; exact hD
        refine lv_aload_n hx hb dX2_weighJoins_112 rfl (lv_at hl 4 rfl) ?_
        refine va_get (D := D) (ci := 2) (v := .ref q_2) (C := RX2) (T := TX2) (N := 14) hx hb hts inX2 hown hK hP 0 rfl rfl 7 (by decide) (hts _ kF_X2_25) (fun _ h9 => h9) rfl dX2_weighJoins_113 ?_
        refine lv_iload_n hx hb dX2_weighJoins_116 rfl (lv_at hl 3 rfl) ?_
        refine lv_iload hx hb dX2_weighJoins_117 (lv_at hl 1 rfl) ?_
        refine va_iast hx hb hK hP hD hS 2 0 rfl rfl (by revert h_x_0 h_x_1 e1 e2 e3 e5; simp only [vp_in_iff, Int32.lt_iff_toInt_lt, Int32.le_iff_toInt_le, Int64.lt_iff_toInt_lt, Int64.le_iff_toInt_le, Int32.toInt_toInt64, ← Int32.toInt_inj, ← Int64.toInt_inj, Int32.reduceToInt, Int64.reduceToInt] <;> omega) dX2_weighJoins_119 (fun H locs hP hD hS => ?_)
        obtain ⟨F29, eF29⟩ : ∃ q, q = upd f_8 (Int32.toNatClampNeg ((x_0 * 64) + x_1)) y23 := ⟨_, rfl⟩
        have hP : va_P D vwCl [(q_0, .inr (2, [.ref q_5, .ref q_3, .ref q_6, .int x_2, .int x_3, .ref q_4, .ref q_1, .ref q_2, .int x_4, .int x_5, .int x_6, .ref q_7, .ref q_8, .ref q_9])), (q_1, .inl (k 0, 448, .inl F28)), (q_2, .inl (k 0, 448, .inl F29)), (q_3, .inr (4, [.int x_9, .ref q_10, .int x_10, .ref q_11, .ref q_12, .int x_11, .ref q_13, .ref q_14, .ref q_15, .int x_12, .ref q_16, .ref q_17, .ref q_18])), (q_4, .inl (k 0, 36, .inl f_13))] H := by rw [eF29]; exact hP
        have hD : va_D A [(q_0, .inr (2, [.ref q_5, .ref q_3, .ref q_6, .int x_2, .int x_3, .ref q_4, .ref q_1, .ref q_2, .int x_4, .int x_5, .int x_6, .ref q_7, .ref q_8, .ref q_9])), (q_1, .inl (k 0, 448, .inl F28)), (q_2, .inl (k 0, 448, .inl F29)), (q_3, .inr (4, [.int x_9, .ref q_10, .int x_10, .ref q_11, .ref q_12, .int x_11, .ref q_13, .ref q_14, .ref q_15, .int x_12, .ref q_16, .ref q_17, .ref q_18])), (q_4, .inl (k 0, 36, .inl f_13))] := by rw [eF29]; exact hD
        exact z_vret C0 hr hlk hK hP hD hS (0, fun _ => 0, fun _ => 0, fun _ => 0, fun i => [F28, F29].getD i (fun _ => 0), fun _ => (fun _ => 0), fun _ => (fun _ => none)) rfl [0, 1, 2, 3, 4] rfl rfl rfl dX2_weighJoins_120
      · refine lv_aload_n hx hb dX2_weighJoins_44 rfl (lv_at hl 4 rfl) ?_
        refine lv_iload_n hx hb dX2_weighJoins_45 rfl (lv_at hl 5 rfl) ?_
        refine lv_iload_n hx hb dX2_weighJoins_46 rfl (lv_at hl 6 rfl) ?_
        refine lv_iload hx hb dX2_weighJoins_47 (lv_at hl 0 rfl) ?_
        refine z_bi (wr := [(q_2, .inl (k 0, 448, .inl f_8)), (q_3, .inr (4, [.int x_9, .ref q_10, .int x_10, .ref q_11, .ref q_12, .int x_11, .ref q_13, .ref q_14, .ref q_15, .int x_12, .ref q_16, .ref q_17, .ref q_18]))]) (z_runV (C := RX2) (As := [.int x_0, .int x_1, .int y22]) (rest := []) C0 (s_X2_scoreWith_10 l D k q_0 q_4 q_1 q_5 q_3 q_6 q_2 q_7 q_8 q_9 x_0 x_1 y22 x_2 x_3 x_4 x_5 x_6 f_13 f_7 (by revert h_x_0 e1 e2 e3 e5 h_x_1; simp only [vp_in_iff, Int32.lt_iff_toInt_lt, Int32.le_iff_toInt_le, Int64.lt_iff_toInt_lt, Int64.le_iff_toInt_le, Int32.toInt_toInt64, ← Int32.toInt_inj, ← Int64.toInt_inj, Int32.reduceToInt, Int64.reduceToInt] <;> omega) (by revert h_x_1 e2 e3 e5 h_x_0 e1; simp only [vp_in_iff, Int32.lt_iff_toInt_lt, Int32.le_iff_toInt_le, Int64.lt_iff_toInt_lt, Int64.le_iff_toInt_le, Int32.toInt_toInt64, ← Int32.toInt_inj, ← Int64.toInt_inj, Int32.reduceToInt, Int64.reduceToInt] <;> omega) (by revert hN26 hy22 c27 h_x_9; simp only [vp_in_iff, Int32.lt_iff_toInt_lt, Int32.le_iff_toInt_le, Int64.lt_iff_toInt_lt, Int64.le_iff_toInt_le, Int32.toInt_toInt64, ← Int32.toInt_inj, ← Int64.toInt_inj, Int32.reduceToInt, Int64.reduceToInt] <;> omega) (by revert h_x_2; simp only [vp_in_iff, Int32.lt_iff_toInt_lt, Int32.le_iff_toInt_le, Int64.lt_iff_toInt_lt, Int64.le_iff_toInt_le, Int32.toInt_toInt64, ← Int32.toInt_inj, ← Int64.toInt_inj, Int32.reduceToInt, Int64.reduceToInt] <;> omega) _) okV_X2_scoreWith kM_X2_78 rfl (z_pV (q0 := 0) hK hN hP hD [0, 4, 1] rfl rfl rfl rfl rfl) rfl hl.1 rfl (Nat.le_of_ble_eq_true rfl) dX2_weighJoins_49 rfl) hP hD hS hA [0, 4, 1] [2, 3] rfl rfl rfl rfl (fun r30 u30 H locs hw30 hP hD hS => ?_)
        obtain ⟨i30, a30, v30, w30, f30, g30, o30⟩ := u30
        dsimp only at hw30
        obtain rfl := hw30
        have hP : va_P D vwCl [(q_2, .inl (k 0, 448, .inl f_8)), (q_3, .inr (4, [.int x_9, .ref q_10, .int x_10, .ref q_11, .ref q_12, .int x_11, .ref q_13, .ref q_14, .ref q_15, .int x_12, .ref q_16, .ref q_17, .ref q_18])), (q_0, .inr (2, [.ref q_5, .ref q_3, .ref q_6, .int x_2, .int x_3, .ref q_4, .ref q_1, .ref q_2, .int x_4, .int x_5, .int x_6, .ref q_7, .ref q_8, .ref q_9])), (q_4, .inl (k 0, 36, .inl f_13)), (q_1, .inl (k 0, 448, .inl f_7))] H := hP
        have hD : va_D A [(q_2, .inl (k 0, 448, .inl f_8)), (q_3, .inr (4, [.int x_9, .ref q_10, .int x_10, .ref q_11, .ref q_12, .int x_11, .ref q_13, .ref q_14, .ref q_15, .int x_12, .ref q_16, .ref q_17, .ref q_18])), (q_0, .inr (2, [.ref q_5, .ref q_3, .ref q_6, .int x_2, .int x_3, .ref q_4, .ref q_1, .ref q_2, .int x_4, .int x_5, .int x_6, .ref q_7, .ref q_8, .ref q_9])), (q_4, .inl (k 0, 36, .inl f_13)), (q_1, .inl (k 0, 448, .inl f_7))] := hD
        refine lv_istore (lv' := [(7, .int r30), (6, .int y22), (5, .int y23), (4, .int y24), (3, .int ((x_0 * 64) + x_1)), (0, .ref q_0), (1, .int x_0), (2, .int x_1)]) hx hb dX2_weighJoins_52 hl (by decide) rfl (fun ls hl => ?_)
        refine lv_iload hx hb dX2_weighJoins_54 (lv_at hl 0 rfl) ?_
        refine lv_iload hx hb dX2_weighJoins_56 (lv_at hl 3 rfl) ?_
        refine lv_icmp_le (tgt := 68) hx hb dX2_weighJoins_58 (by decide) (fun c31 => ?_) (fun c31 => ?_)
        · refine lv_iload hx hb dX2_weighJoins_68 (lv_at hl 0 rfl) ?_
          refine lv_iload hx hb dX2_weighJoins_70 (lv_at hl 3 rfl) ?_
          refine lv_icmp_ne (tgt := 98) hx hb dX2_weighJoins_72 (by decide) (fun c32 => ?_) (fun c32 => ?_)
          · have e33 : Int32.toInt (y22 + 1) = Int32.toInt y22 + Int32.toInt (1 : Int32) := zi_add (by revert hN26 hy22 c27 h_x_9; simp only [vp_in_iff, Int32.lt_iff_toInt_lt, Int32.le_iff_toInt_le, Int64.lt_iff_toInt_lt, Int64.le_iff_toInt_le, Int32.toInt_toInt64, ← Int32.toInt_inj, ← Int64.toInt_inj, Int32.reduceToInt, Int64.reduceToInt] <;> omega)
            refine lv_iinc (v := (y22 + 1)) (lv' := [(6, .int (y22 + 1)), (7, .int r30), (5, .int y23), (4, .int y24), (3, .int ((x_0 * 64) + x_1)), (0, .ref q_0), (1, .int x_0), (2, .int x_1)]) hx hb dX2_weighJoins_98 hl (k := 1) rfl rfl (by decide) rfl (fun ls hl => ?_)
            refine lv_goto (tgt := 32) hx hb dX2_weighJoins_101 (by decide) ?_
            exact ihN26 (y22 + 1) y23 y24 _ _ ls (by revert hN26 hy22 c27 e33 h_x_9; simp only [vp_in_iff, Int32.lt_iff_toInt_lt, Int32.le_iff_toInt_le, Int64.lt_iff_toInt_lt, Int64.le_iff_toInt_le, Int32.toInt_toInt64, ← Int32.toInt_inj, ← Int64.toInt_inj, Int32.reduceToInt, Int64.reduceToInt] <;> omega) (by revert hN26 hy22 c27 e33 h_x_9; simp only [vp_in_iff, Int32.lt_iff_toInt_lt, Int32.le_iff_toInt_le, Int64.lt_iff_toInt_lt, Int64.le_iff_toInt_le, Int32.toInt_toInt64, ← Int32.toInt_inj, ← Int64.toInt_inj, Int32.reduceToInt, Int64.reduceToInt] <;> omega) (z_sub hP [2, 4, 0, 1, 3] rfl) (hD.sub [2, 4, 0, 1, 3] rfl rfl) hS (lv_sub hl [0, 2, 3, 4, 5, 6, 7] rfl)
          · refine lv_iload hx hb dX2_weighJoins_75 (lv_at hl 2 rfl) ?_
            refine lv_aload_n hx hb dX2_weighJoins_77 rfl (lv_at hl 5 rfl) ?_
            refine va_get (D := D) (ci := 2) (v := .ref q_2) (C := RX2) (T := TX2) (N := 14) hx hb hts inX2 hown hK hP 2 rfl rfl 7 (by decide) (hts _ kF_X2_25) (fun _ h9 => h9) rfl dX2_weighJoins_78 ?_
            refine lv_iload_n hx hb dX2_weighJoins_81 rfl (lv_at hl 6 rfl) ?_
            refine lv_iconst (v := 1) hx hb dX2_weighJoins_82 (by decide) ?_
            refine lv_iadd hx hb dX2_weighJoins_83 ?_
            have e34 : Int32.toInt (x_0 + 1) = Int32.toInt x_0 + Int32.toInt (1 : Int32) := zi_add (by revert h_x_0 e1 e2 e3 e5 h_x_1; simp only [vp_in_iff, Int32.lt_iff_toInt_lt, Int32.le_iff_toInt_le, Int64.lt_iff_toInt_lt, Int64.le_iff_toInt_le, Int32.toInt_toInt64, ← Int32.toInt_inj, ← Int64.toInt_inj, Int32.reduceToInt, Int64.reduceToInt] <;> omega)
            refine lv_bipush (v := 64) hx hb dX2_weighJoins_84 (by decide) ?_
            refine lv_imul hx hb dX2_weighJoins_86 ?_
            have e35 : Int32.toInt ((x_0 + 1) * 64) = Int32.toInt (x_0 + 1) * Int32.toInt (64 : Int32) := zi_mul (by revert h_x_0 e1 e2 e3 e5 e34 h_x_1; simp only [vp_in_iff, Int32.lt_iff_toInt_lt, Int32.le_iff_toInt_le, Int64.lt_iff_toInt_lt, Int64.le_iff_toInt_le, Int32.toInt_toInt64, ← Int32.toInt_inj, ← Int64.toInt_inj, Int32.reduceToInt, Int64.reduceToInt] <;> omega)
            refine lv_iload_n hx hb dX2_weighJoins_87 rfl (lv_at hl 7 rfl) ?_
            refine lv_iconst (v := 1) hx hb dX2_weighJoins_88 (by decide) ?_
            refine lv_iload hx hb dX2_weighJoins_89 (lv_at hl 1 rfl) ?_
            refine lv_ishl hx hb dX2_weighJoins_91 ?_
            refine lv_topi (fun y36 ey36 => ?_)
            have hy36 : 1 ≤ Int32.toInt y36 ∧ Int32.toInt y36 ≤ 32 := by rw [ey36]; exact zo_shl1 5 (show 0 ≤ Int32.toInt y22 ∧ Int32.toInt y22 ≤ 5 by revert hN26 hy22 c27 h_x_9; simp only [vp_in_iff, Int32.lt_iff_toInt_lt, Int32.le_iff_toInt_le, Int64.lt_iff_toInt_lt, Int64.le_iff_toInt_le, Int32.toInt_toInt64, ← Int32.toInt_inj, ← Int64.toInt_inj, Int32.reduceToInt, Int64.reduceToInt] <;> omega) (by decide)
            refine lv_ior hx hb dX2_weighJoins_92 ?_
            refine lv_topi (fun y37 ey37 => ?_)
            have hy37 : 0 ≤ Int32.toInt y37 ∧ Int32.toInt y37 ≤ 63 := by rw [ey37]; exact zo_or 6 (show 0 ≤ Int32.toInt x_1 ∧ Int32.toInt x_1 < 2 ^ 6 by revert h_x_1 e2 e3 e5 e34 e35 hy36 h_x_0 e1; simp only [vp_in_iff, Int32.lt_iff_toInt_lt, Int32.le_iff_toInt_le, Int64.lt_iff_toInt_lt, Int64.le_iff_toInt_le, Int32.toInt_toInt64, ← Int32.toInt_inj, ← Int64.toInt_inj, Int32.reduceToInt, Int64.reduceToInt] <;> omega) (show 0 ≤ Int32.toInt y36 ∧ Int32.toInt y36 < 2 ^ 6 by revert h_x_1 e2 e3 e5 e34 e35 hy36 h_x_0 e1; simp only [vp_in_iff, Int32.lt_iff_toInt_lt, Int32.le_iff_toInt_le, Int64.lt_iff_toInt_lt, Int64.le_iff_toInt_le, Int32.toInt_toInt64, ← Int32.toInt_inj, ← Int64.toInt_inj, Int32.reduceToInt, Int64.reduceToInt] <;> omega) (by decide)
            refine lv_iadd hx hb dX2_weighJoins_93 ?_
            have e38 : Int32.toInt (((x_0 + 1) * 64) + y37) = Int32.toInt ((x_0 + 1) * 64) + Int32.toInt y37 := zi_add (by revert h_x_0 e1 e2 e3 e5 e34 e35 hy37 h_x_1; simp only [vp_in_iff, Int32.lt_iff_toInt_lt, Int32.le_iff_toInt_le, Int64.lt_iff_toInt_lt, Int64.le_iff_toInt_le, Int32.toInt_toInt64, ← Int32.toInt_inj, ← Int64.toInt_inj, Int32.reduceToInt, Int64.reduceToInt] <;> omega)
            refine va_iald hx hb hK hP 0 0 rfl rfl (by revert h_x_0 e1 e2 e3 e5 e34 e35 hy37 e38 h_x_1; simp only [vp_in_iff, Int32.lt_iff_toInt_lt, Int32.le_iff_toInt_le, Int64.lt_iff_toInt_lt, Int64.le_iff_toInt_le, Int32.toInt_toInt64, ← Int32.toInt_inj, ← Int64.toInt_inj, Int32.reduceToInt, Int64.reduceToInt] <;> omega) dX2_weighJoins_94 ?_
            refine lv_topi (fun y39 ey39 => ?_)
            refine lv_iadd hx hb dX2_weighJoins_95 ?_
            refine lv_istore (lv' := [(5, .int (y23 + y39)), (7, .int r30), (6, .int y22), (4, .int y24), (3, .int ((x_0 * 64) + x_1)), (0, .ref q_0), (1, .int x_0), (2, .int x_1)]) hx hb dX2_weighJoins_96 hl (by decide) rfl (fun ls hl => ?_)
            have e40 : Int32.toInt (y22 + 1) = Int32.toInt y22 + Int32.toInt (1 : Int32) := zi_add (by revert hN26 hy22 c27 h_x_9; simp only [vp_in_iff, Int32.lt_iff_toInt_lt, Int32.le_iff_toInt_le, Int64.lt_iff_toInt_lt, Int64.le_iff_toInt_le, Int32.toInt_toInt64, ← Int32.toInt_inj, ← Int64.toInt_inj, Int32.reduceToInt, Int64.reduceToInt] <;> omega)
            refine lv_iinc (v := (y22 + 1)) (lv' := [(6, .int (y22 + 1)), (5, .int (y23 + y39)), (7, .int r30), (4, .int y24), (3, .int ((x_0 * 64) + x_1)), (0, .ref q_0), (1, .int x_0), (2, .int x_1)]) hx hb dX2_weighJoins_98 hl (k := 2) rfl rfl (by decide) rfl (fun ls hl => ?_)
            refine lv_goto (tgt := 32) hx hb dX2_weighJoins_101 (by decide) ?_
            exact ihN26 (y22 + 1) (y23 + y39) y24 _ _ ls (by revert hN26 hy22 c27 e40 h_x_9; simp only [vp_in_iff, Int32.lt_iff_toInt_lt, Int32.le_iff_toInt_le, Int64.lt_iff_toInt_lt, Int64.le_iff_toInt_le, Int32.toInt_toInt64, ← Int32.toInt_inj, ← Int64.toInt_inj, Int32.reduceToInt, Int64.reduceToInt] <;> omega) (by revert hN26 hy22 c27 e40 h_x_9; simp only [vp_in_iff, Int32.lt_iff_toInt_lt, Int32.le_iff_toInt_le, Int64.lt_iff_toInt_lt, Int64.le_iff_toInt_le, Int32.toInt_toInt64, ← Int32.toInt_inj, ← Int64.toInt_inj, Int32.reduceToInt, Int64.reduceToInt] <;> omega) (z_sub hP [2, 4, 0, 1, 3] rfl) (hD.sub [2, 4, 0, 1, 3] rfl rfl) hS (lv_sub hl [0, 1, 3, 4, 5, 6, 7] rfl)
        · refine lv_iload hx hb dX2_weighJoins_61 (lv_at hl 0 rfl) ?_
          refine lv_istore (lv' := [(4, .int r30), (7, .int r30), (6, .int y22), (5, .int y23), (3, .int ((x_0 * 64) + x_1)), (0, .ref q_0), (1, .int x_0), (2, .int x_1)]) hx hb dX2_weighJoins_63 hl (by decide) rfl (fun ls hl => ?_)
          refine lv_iconst (v := 0) hx hb dX2_weighJoins_65 (by decide) ?_
          refine lv_istore (lv' := [(5, .int 0), (4, .int r30), (7, .int r30), (6, .int y22), (3, .int ((x_0 * 64) + x_1)), (0, .ref q_0), (1, .int x_0), (2, .int x_1)]) hx hb dX2_weighJoins_66 hl (by decide) rfl (fun ls hl => ?_)
          refine lv_iload hx hb dX2_weighJoins_68 (lv_at hl 2 rfl) ?_
          refine lv_iload hx hb dX2_weighJoins_70 (lv_at hl 1 rfl) ?_
          refine lv_icmp_ne (tgt := 98) hx hb dX2_weighJoins_72 (by decide) (fun c41 => absurd rfl c41) (fun _ => ?_)
          refine lv_iload hx hb dX2_weighJoins_75 (lv_at hl 0 rfl) ?_
          refine lv_aload_n hx hb dX2_weighJoins_77 rfl (lv_at hl 5 rfl) ?_
          refine va_get (D := D) (ci := 2) (v := .ref q_2) (C := RX2) (T := TX2) (N := 14) hx hb hts inX2 hown hK hP 2 rfl rfl 7 (by decide) (hts _ kF_X2_25) (fun _ h9 => h9) rfl dX2_weighJoins_78 ?_
          refine lv_iload_n hx hb dX2_weighJoins_81 rfl (lv_at hl 6 rfl) ?_
          refine lv_iconst (v := 1) hx hb dX2_weighJoins_82 (by decide) ?_
          refine lv_iadd hx hb dX2_weighJoins_83 ?_
          have e42 : Int32.toInt (x_0 + 1) = Int32.toInt x_0 + Int32.toInt (1 : Int32) := zi_add (by revert h_x_0 e1 e2 e3 e5 h_x_1; simp only [vp_in_iff, Int32.lt_iff_toInt_lt, Int32.le_iff_toInt_le, Int64.lt_iff_toInt_lt, Int64.le_iff_toInt_le, Int32.toInt_toInt64, ← Int32.toInt_inj, ← Int64.toInt_inj, Int32.reduceToInt, Int64.reduceToInt] <;> omega)
          refine lv_bipush (v := 64) hx hb dX2_weighJoins_84 (by decide) ?_
          refine lv_imul hx hb dX2_weighJoins_86 ?_
          have e43 : Int32.toInt ((x_0 + 1) * 64) = Int32.toInt (x_0 + 1) * Int32.toInt (64 : Int32) := zi_mul (by revert h_x_0 e1 e2 e3 e5 e42 h_x_1; simp only [vp_in_iff, Int32.lt_iff_toInt_lt, Int32.le_iff_toInt_le, Int64.lt_iff_toInt_lt, Int64.le_iff_toInt_le, Int32.toInt_toInt64, ← Int32.toInt_inj, ← Int64.toInt_inj, Int32.reduceToInt, Int64.reduceToInt] <;> omega)
          refine lv_iload_n hx hb dX2_weighJoins_87 rfl (lv_at hl 7 rfl) ?_
          refine lv_iconst (v := 1) hx hb dX2_weighJoins_88 (by decide) ?_
          refine lv_iload hx hb dX2_weighJoins_89 (lv_at hl 3 rfl) ?_
          refine lv_ishl hx hb dX2_weighJoins_91 ?_
          refine lv_topi (fun y44 ey44 => ?_)
          have hy44 : 1 ≤ Int32.toInt y44 ∧ Int32.toInt y44 ≤ 32 := by rw [ey44]; exact zo_shl1 5 (show 0 ≤ Int32.toInt y22 ∧ Int32.toInt y22 ≤ 5 by revert hN26 hy22 c27 h_x_9; simp only [vp_in_iff, Int32.lt_iff_toInt_lt, Int32.le_iff_toInt_le, Int64.lt_iff_toInt_lt, Int64.le_iff_toInt_le, Int32.toInt_toInt64, ← Int32.toInt_inj, ← Int64.toInt_inj, Int32.reduceToInt, Int64.reduceToInt] <;> omega) (by decide)
          refine lv_ior hx hb dX2_weighJoins_92 ?_
          refine lv_topi (fun y45 ey45 => ?_)
          have hy45 : 0 ≤ Int32.toInt y45 ∧ Int32.toInt y45 ≤ 63 := by rw [ey45]; exact zo_or 6 (show 0 ≤ Int32.toInt x_1 ∧ Int32.toInt x_1 < 2 ^ 6 by revert h_x_1 e2 e3 e5 e42 e43 hy44 h_x_0 e1; simp only [vp_in_iff, Int32.lt_iff_toInt_lt, Int32.le_iff_toInt_le, Int64.lt_iff_toInt_lt, Int64.le_iff_toInt_le, Int32.toInt_toInt64, ← Int32.toInt_inj, ← Int64.toInt_inj, Int32.reduceToInt, Int64.reduceToInt] <;> omega) (show 0 ≤ Int32.toInt y44 ∧ Int32.toInt y44 < 2 ^ 6 by revert h_x_1 e2 e3 e5 e42 e43 hy44 h_x_0 e1; simp only [vp_in_iff, Int32.lt_iff_toInt_lt, Int32.le_iff_toInt_le, Int64.lt_iff_toInt_lt, Int64.le_iff_toInt_le, Int32.toInt_toInt64, ← Int32.toInt_inj, ← Int64.toInt_inj, Int32.reduceToInt, Int64.reduceToInt] <;> omega) (by decide)
          refine lv_iadd hx hb dX2_weighJoins_93 ?_
          have e46 : Int32.toInt (((x_0 + 1) * 64) + y45) = Int32.toInt ((x_0 + 1) * 64) + Int32.toInt y45 := zi_add (by revert h_x_0 e1 e2 e3 e5 e42 e43 hy45 h_x_1; simp only [vp_in_iff, Int32.lt_iff_toInt_lt, Int32.le_iff_toInt_le, Int64.lt_iff_toInt_lt, Int64.le_iff_toInt_le, Int32.toInt_toInt64, ← Int32.toInt_inj, ← Int64.toInt_inj, Int32.reduceToInt, Int64.reduceToInt] <;> omega)
          refine va_iald hx hb hK hP 0 0 rfl rfl (by revert h_x_0 e1 e2 e3 e5 e42 e43 hy45 e46 h_x_1; simp only [vp_in_iff, Int32.lt_iff_toInt_lt, Int32.le_iff_toInt_le, Int64.lt_iff_toInt_lt, Int64.le_iff_toInt_le, Int32.toInt_toInt64, ← Int32.toInt_inj, ← Int64.toInt_inj, Int32.reduceToInt, Int64.reduceToInt] <;> omega) dX2_weighJoins_94 ?_
          refine lv_topi (fun y47 ey47 => ?_)
          refine lv_iadd hx hb dX2_weighJoins_95 ?_
          have e48 : Int32.toInt (0 + y47) = Int32.toInt (0 : Int32) + Int32.toInt y47 := zi_add (by simp only [vp_in_iff, Int32.lt_iff_toInt_lt, Int32.le_iff_toInt_le, Int64.lt_iff_toInt_lt, Int64.le_iff_toInt_le, Int32.toInt_toInt64, ← Int32.toInt_inj, ← Int64.toInt_inj, Int32.reduceToInt, Int64.reduceToInt] <;> omega)
          refine lv_istore (lv' := [(5, .int (0 + y47)), (4, .int r30), (7, .int r30), (6, .int y22), (3, .int ((x_0 * 64) + x_1)), (0, .ref q_0), (1, .int x_0), (2, .int x_1)]) hx hb dX2_weighJoins_96 hl (by decide) rfl (fun ls hl => ?_)
          have e49 : Int32.toInt (y22 + 1) = Int32.toInt y22 + Int32.toInt (1 : Int32) := zi_add (by revert hN26 hy22 c27 h_x_9; simp only [vp_in_iff, Int32.lt_iff_toInt_lt, Int32.le_iff_toInt_le, Int64.lt_iff_toInt_lt, Int64.le_iff_toInt_le, Int32.toInt_toInt64, ← Int32.toInt_inj, ← Int64.toInt_inj, Int32.reduceToInt, Int64.reduceToInt] <;> omega)
          refine lv_iinc (v := (y22 + 1)) (lv' := [(6, .int (y22 + 1)), (5, .int (0 + y47)), (4, .int r30), (7, .int r30), (3, .int ((x_0 * 64) + x_1)), (0, .ref q_0), (1, .int x_0), (2, .int x_1)]) hx hb dX2_weighJoins_98 hl (k := 3) rfl rfl (by decide) rfl (fun ls hl => ?_)
          refine lv_goto (tgt := 32) hx hb dX2_weighJoins_101 (by decide) ?_
          exact ihN26 (y22 + 1) (0 + y47) r30 _ _ ls (by revert hN26 hy22 c27 e49 h_x_9; simp only [vp_in_iff, Int32.lt_iff_toInt_lt, Int32.le_iff_toInt_le, Int64.lt_iff_toInt_lt, Int64.le_iff_toInt_le, Int32.toInt_toInt64, ← Int32.toInt_inj, ← Int64.toInt_inj, Int32.reduceToInt, Int64.reduceToInt] <;> omega) (by revert hN26 hy22 c27 e49 h_x_9; simp only [vp_in_iff, Int32.lt_iff_toInt_lt, Int32.le_iff_toInt_le, Int64.lt_iff_toInt_lt, Int64.le_iff_toInt_le, Int32.toInt_toInt64, ← Int32.toInt_inj, ← Int64.toInt_inj, Int32.reduceToInt, Int64.reduceToInt] <;> omega) (z_sub hP [2, 4, 0, 1, 3] rfl) (hD.sub [2, 4, 0, 1, 3] rfl rfl) hS (lv_sub hl [0, 1, 2, 4, 5, 6, 7] rfl)
  exact loop25 _ 0 y6 y4 _ _ _ (Nat.lt_succ_self _) (by simp only [vp_in_iff, Int32.lt_iff_toInt_lt, Int32.le_iff_toInt_le, Int64.lt_iff_toInt_lt, Int64.le_iff_toInt_le, Int32.toInt_toInt64, ← Int32.toInt_inj, ← Int64.toInt_inj, Int32.reduceToInt, Int64.reduceToInt] <;> omega) hP hD hS (lv_sub hl [0, 1, 2, 3, 4, 5, 6] rfl)

set_option maxHeartbeats 4000000 in
set_option maxRecDepth 100000 in
theorem s_X2_scoreWith_11 (l : Launch) (D : va_G) (k : Nat → ClassId) (q_0 : Nat) (q_1 : Nat) (q_2 : Nat) (q_3 : Nat) (q_4 : Nat) (q_5 : Nat) (q_6 : Nat) (q_7 : Nat) (q_8 : Nat) (q_9 : Nat) (x_0 : Int32) (x_1 : Int32) (x_2 : Int32) (x_3 : Int32) (x_4 : Int32) (x_5 : Int32) (x_6 : Int32) (x_7 : Int32) (f_8 : Nat → Int32) (f_9 : Nat → Int32) (h_x_0 : 0 ≤ Int32.toInt x_0 ∧ Int32.toInt x_0 ≤ 5) (h_x_1 : 0 ≤ Int32.toInt x_1 ∧ Int32.toInt x_1 ≤ 2) (h_x_2 : 0 ≤ Int32.toInt x_2 ∧ Int32.toInt x_2 ≤ 0) (h_x_3 : 0 ≤ Int32.toInt x_3 ∧ Int32.toInt x_3 ≤ 6) : zMi l yX2_scoreWith cX2_scoreWith 4 (some .int) ({ frames := 0, cells := 0, slots := 0, locals := 0 }) D k [.ref q_0, .int x_0, .int x_1, .int x_2] [(q_0, .inr (2, [.ref q_3, .ref q_4, .ref q_5, .int x_3, .int x_4, .ref q_1, .ref q_2, .ref q_6, .int x_5, .int x_6, .int x_7, .ref q_7, .ref q_8, .ref q_9])), (q_1, .inl (k 0, 36, .inl f_8)), (q_2, .inl (k 0, 448, .inl f_9))] (fun r u => u.1 = 0) (fun u => [(q_0, .inr (2, [.ref q_3, .ref q_4, .ref q_5, .int x_3, .int x_4, .ref q_1, .ref q_2, .ref q_6, .int x_5, .int x_6, .int x_7, .ref q_7, .ref q_8, .ref q_9])), (q_1, .inl (k 0, 36, .inl f_8)), (q_2, .inl (k 0, 448, .inl f_9))]) := by
  refine zMi_of (own := RX2) (by decide +kernel) rfl (Nat.le_of_ble_eq_true rfl) ?_
  intro p e s m args below meth c A ls C0 hr hlk hin hP hD hS hA hK hN hl
  have hx := C0.1
  have hb := C0.2.1
  have hml := C0.2.2.1
  have hown := C0.2.2.2.1
  have hts := C0.2.2.2.2
  have hl : lv_has ls 4 [(0, .ref q_0), (1, .int x_0), (2, .int x_1), (3, .int x_2)] := hl
  have hP : va_P D vwCl [(q_0, .inr (2, [.ref q_3, .ref q_4, .ref q_5, .int x_3, .int x_4, .ref q_1, .ref q_2, .ref q_6, .int x_5, .int x_6, .int x_7, .ref q_7, .ref q_8, .ref q_9])), (q_1, .inl (k 0, 36, .inl f_8)), (q_2, .inl (k 0, 448, .inl f_9))] s.heap := hP
  refine lv_iload_n hx hb dX2_scoreWith_0 rfl (lv_at hl 2 rfl) ?_
  refine lv_iload_n hx hb dX2_scoreWith_1 rfl (lv_at hl 3 rfl) ?_
  refine lv_ishr hx hb dX2_scoreWith_2 ?_
  refine lv_topi (fun y1 ey1 => ?_)
  refine lv_iconst (v := 1) hx hb dX2_scoreWith_3 (by decide) ?_
  refine lv_iand hx hb dX2_scoreWith_4 ?_
  refine lv_topi (fun y2 ey2 => ?_)
  have hy2 : 0 ≤ Int32.toInt y2 ∧ Int32.toInt y2 ≤ 1 := by rw [ey2]; exact zo_and _ (by decide)
  refine lv_iconst (v := 1) hx hb dX2_scoreWith_5 (by decide) ?_
  refine lv_icmp_eq (tgt := 24) hx hb dX2_scoreWith_6 (by decide) (fun c3 => ?_) (fun c3 => ?_)
  · refine lv_iconst (v := (-1)) hx hb dX2_scoreWith_24 (by decide) ?_
    exact z_iret C0 hr hlk rfl hK hP hD hS (0, fun _ => 0, fun _ => 0, fun _ => 0, fun _ => (fun _ => 0), fun _ => (fun _ => 0), fun _ => (fun _ => none)) rfl [0, 1, 2] rfl rfl rfl dX2_scoreWith_25
  · refine lv_aload_n hx hb dX2_scoreWith_9 rfl (lv_at hl 0 rfl) ?_
    refine va_get (D := D) (ci := 2) (v := .ref q_1) (C := RX2) (T := TX2) (N := 14) hx hb hts inX2 hown hK hP 0 rfl rfl 5 (by decide) (hts _ kF_X2_19) (fun _ h9 => h9) rfl dX2_scoreWith_10 ?_
    refine lv_iload_n hx hb dX2_scoreWith_13 rfl (lv_at hl 1 rfl) ?_
    refine lv_bipush (v := 6) hx hb dX2_scoreWith_14 (by decide) ?_
    refine lv_imul hx hb dX2_scoreWith_16 ?_
    have e4 : Int32.toInt (x_0 * 6) = Int32.toInt x_0 * Int32.toInt (6 : Int32) := zi_mul (by revert h_x_0; simp only [vp_in_iff, Int32.lt_iff_toInt_lt, Int32.le_iff_toInt_le, Int64.lt_iff_toInt_lt, Int64.le_iff_toInt_le, Int32.toInt_toInt64, ← Int32.toInt_inj, ← Int64.toInt_inj, Int32.reduceToInt, Int64.reduceToInt] <;> omega)
    refine lv_iload_n hx hb dX2_scoreWith_17 rfl (lv_at hl 3 rfl) ?_
    refine lv_iadd hx hb dX2_scoreWith_18 ?_
    have e5 : Int32.toInt ((x_0 * 6) + x_2) = Int32.toInt (x_0 * 6) + Int32.toInt x_2 := zi_add (by revert h_x_0 h_x_2 e4; simp only [vp_in_iff, Int32.lt_iff_toInt_lt, Int32.le_iff_toInt_le, Int64.lt_iff_toInt_lt, Int64.le_iff_toInt_le, Int32.toInt_toInt64, ← Int32.toInt_inj, ← Int64.toInt_inj, Int32.reduceToInt, Int64.reduceToInt] <;> omega)
    refine va_iald hx hb hK hP 1 0 rfl rfl (by revert h_x_0 h_x_2 e4 e5; simp only [vp_in_iff, Int32.lt_iff_toInt_lt, Int32.le_iff_toInt_le, Int64.lt_iff_toInt_lt, Int64.le_iff_toInt_le, Int32.toInt_toInt64, ← Int32.toInt_inj, ← Int64.toInt_inj, Int32.reduceToInt, Int64.reduceToInt] <;> omega) dX2_scoreWith_19 ?_
    refine lv_topi (fun y6 ey6 => ?_)
    refine lv_iconst (v := (-1)) hx hb dX2_scoreWith_20 (by decide) ?_
    refine lv_icmp_ne (tgt := 26) hx hb dX2_scoreWith_21 (by decide) (fun c7 => ?_) (fun c7 => ?_)
    · refine lv_aload_n hx hb dX2_scoreWith_26 rfl (lv_at hl 0 rfl) ?_
      refine va_get (D := D) (ci := 2) (v := .ref q_2) (C := RX2) (T := TX2) (N := 14) hx hb hts inX2 hown hK hP 0 rfl rfl 6 (by decide) (hts _ kF_X2_22) (fun _ h9 => h9) rfl dX2_scoreWith_27 ?_
      refine lv_iload_n hx hb dX2_scoreWith_30 rfl (lv_at hl 1 rfl) ?_
      refine lv_iconst (v := 1) hx hb dX2_scoreWith_31 (by decide) ?_
      refine lv_iadd hx hb dX2_scoreWith_32 ?_
      have e8 : Int32.toInt (x_0 + 1) = Int32.toInt x_0 + Int32.toInt (1 : Int32) := zi_add (by revert h_x_0 e4 e5 h_x_2; simp only [vp_in_iff, Int32.lt_iff_toInt_lt, Int32.le_iff_toInt_le, Int64.lt_iff_toInt_lt, Int64.le_iff_toInt_le, Int32.toInt_toInt64, ← Int32.toInt_inj, ← Int64.toInt_inj, Int32.reduceToInt, Int64.reduceToInt] <;> omega)
      refine lv_bipush (v := 64) hx hb dX2_scoreWith_33 (by decide) ?_
      refine lv_imul hx hb dX2_scoreWith_35 ?_
      have e9 : Int32.toInt ((x_0 + 1) * 64) = Int32.toInt (x_0 + 1) * Int32.toInt (64 : Int32) := zi_mul (by revert h_x_0 e4 e5 e8 h_x_2; simp only [vp_in_iff, Int32.lt_iff_toInt_lt, Int32.le_iff_toInt_le, Int64.lt_iff_toInt_lt, Int64.le_iff_toInt_le, Int32.toInt_toInt64, ← Int32.toInt_inj, ← Int64.toInt_inj, Int32.reduceToInt, Int64.reduceToInt] <;> omega)
      refine lv_iload_n hx hb dX2_scoreWith_36 rfl (lv_at hl 2 rfl) ?_
      refine lv_iconst (v := 1) hx hb dX2_scoreWith_37 (by decide) ?_
      refine lv_iload_n hx hb dX2_scoreWith_38 rfl (lv_at hl 3 rfl) ?_
      refine lv_ishl hx hb dX2_scoreWith_39 ?_
      refine lv_topi (fun y10 ey10 => ?_)
      have hy10 : 1 ≤ Int32.toInt y10 ∧ Int32.toInt y10 ≤ 1 := by rw [ey10]; exact zo_shl1 0 (show 0 ≤ Int32.toInt x_2 ∧ Int32.toInt x_2 ≤ 0 by revert h_x_2 e5 e8 e9 h_x_0 e4; simp only [vp_in_iff, Int32.lt_iff_toInt_lt, Int32.le_iff_toInt_le, Int64.lt_iff_toInt_lt, Int64.le_iff_toInt_le, Int32.toInt_toInt64, ← Int32.toInt_inj, ← Int64.toInt_inj, Int32.reduceToInt, Int64.reduceToInt] <;> omega) (by decide)
      refine lv_ior hx hb dX2_scoreWith_40 ?_
      refine lv_topi (fun y11 ey11 => ?_)
      have hy11 : 0 ≤ Int32.toInt y11 ∧ Int32.toInt y11 ≤ 3 := by rw [ey11]; exact zo_or 2 (show 0 ≤ Int32.toInt x_1 ∧ Int32.toInt x_1 < 2 ^ 2 by revert h_x_1 hy10; simp only [vp_in_iff, Int32.lt_iff_toInt_lt, Int32.le_iff_toInt_le, Int64.lt_iff_toInt_lt, Int64.le_iff_toInt_le, Int32.toInt_toInt64, ← Int32.toInt_inj, ← Int64.toInt_inj, Int32.reduceToInt, Int64.reduceToInt] <;> omega) (show 0 ≤ Int32.toInt y10 ∧ Int32.toInt y10 < 2 ^ 2 by revert h_x_1 hy10; simp only [vp_in_iff, Int32.lt_iff_toInt_lt, Int32.le_iff_toInt_le, Int64.lt_iff_toInt_lt, Int64.le_iff_toInt_le, Int32.toInt_toInt64, ← Int32.toInt_inj, ← Int64.toInt_inj, Int32.reduceToInt, Int64.reduceToInt] <;> omega) (by decide)
      refine lv_iadd hx hb dX2_scoreWith_41 ?_
      have e12 : Int32.toInt (((x_0 + 1) * 64) + y11) = Int32.toInt ((x_0 + 1) * 64) + Int32.toInt y11 := zi_add (by revert h_x_0 e4 e5 e8 e9 hy11 h_x_2; simp only [vp_in_iff, Int32.lt_iff_toInt_lt, Int32.le_iff_toInt_le, Int64.lt_iff_toInt_lt, Int64.le_iff_toInt_le, Int32.toInt_toInt64, ← Int32.toInt_inj, ← Int64.toInt_inj, Int32.reduceToInt, Int64.reduceToInt] <;> omega)
      refine va_iald hx hb hK hP 2 0 rfl rfl (by revert h_x_0 e4 e5 e8 e9 hy11 e12 h_x_2; simp only [vp_in_iff, Int32.lt_iff_toInt_lt, Int32.le_iff_toInt_le, Int64.lt_iff_toInt_lt, Int64.le_iff_toInt_le, Int32.toInt_toInt64, ← Int32.toInt_inj, ← Int64.toInt_inj, Int32.reduceToInt, Int64.reduceToInt] <;> omega) dX2_scoreWith_42 ?_
      refine lv_topi (fun y13 ey13 => ?_)
      refine lv_aload_n hx hb dX2_scoreWith_43 rfl (lv_at hl 0 rfl) ?_
      refine va_get (D := D) (ci := 2) (v := .ref q_1) (C := RX2) (T := TX2) (N := 14) hx hb hts inX2 hown hK hP 0 rfl rfl 5 (by decide) (hts _ kF_X2_19) (fun _ h9 => h9) rfl dX2_scoreWith_44 ?_
      refine lv_iload_n hx hb dX2_scoreWith_47 rfl (lv_at hl 1 rfl) ?_
      refine lv_bipush (v := 6) hx hb dX2_scoreWith_48 (by decide) ?_
      refine lv_imul hx hb dX2_scoreWith_50 ?_
      have e14 : Int32.toInt (x_0 * 6) = Int32.toInt x_0 * Int32.toInt (6 : Int32) := zi_mul (by revert h_x_0 e4 e5 e8 e9 e12 h_x_2 hy11; simp only [vp_in_iff, Int32.lt_iff_toInt_lt, Int32.le_iff_toInt_le, Int64.lt_iff_toInt_lt, Int64.le_iff_toInt_le, Int32.toInt_toInt64, ← Int32.toInt_inj, ← Int64.toInt_inj, Int32.reduceToInt, Int64.reduceToInt] <;> omega)
      refine lv_iload_n hx hb dX2_scoreWith_51 rfl (lv_at hl 3 rfl) ?_
      refine lv_iadd hx hb dX2_scoreWith_52 ?_
      have e15 : Int32.toInt ((x_0 * 6) + x_2) = Int32.toInt (x_0 * 6) + Int32.toInt x_2 := zi_add (by revert h_x_0 h_x_2 e4 e5 e8 e9 e12 e14 hy11; simp only [vp_in_iff, Int32.lt_iff_toInt_lt, Int32.le_iff_toInt_le, Int64.lt_iff_toInt_lt, Int64.le_iff_toInt_le, Int32.toInt_toInt64, ← Int32.toInt_inj, ← Int64.toInt_inj, Int32.reduceToInt, Int64.reduceToInt] <;> omega)
      refine va_iald hx hb hK hP 1 0 rfl rfl (by revert h_x_0 h_x_2 e4 e5 e8 e9 e12 e14 e15 hy11; simp only [vp_in_iff, Int32.lt_iff_toInt_lt, Int32.le_iff_toInt_le, Int64.lt_iff_toInt_lt, Int64.le_iff_toInt_le, Int32.toInt_toInt64, ← Int32.toInt_inj, ← Int64.toInt_inj, Int32.reduceToInt, Int64.reduceToInt] <;> omega) dX2_scoreWith_53 ?_
      refine lv_toc (v := y6) ey6.symm ?_
      refine lv_bipush (v := 8) hx hb dX2_scoreWith_54 (by decide) ?_
      refine lv_imul hx hb dX2_scoreWith_56 ?_
      refine lv_iadd hx hb dX2_scoreWith_57 ?_
      refine lv_iconst (v := 1) hx hb dX2_scoreWith_58 (by decide) ?_
      refine lv_iadd hx hb dX2_scoreWith_59 ?_
      exact z_iret C0 hr hlk rfl hK hP hD hS (0, fun _ => 0, fun _ => 0, fun _ => 0, fun _ => (fun _ => 0), fun _ => (fun _ => 0), fun _ => (fun _ => none)) rfl [0, 1, 2] rfl rfl rfl dX2_scoreWith_60
    · refine lv_iconst (v := (-1)) hx hb dX2_scoreWith_24 (by decide) ?_
      exact z_iret C0 hr hlk rfl hK hP hD hS (0, fun _ => 0, fun _ => 0, fun _ => 0, fun _ => (fun _ => 0), fun _ => (fun _ => 0), fun _ => (fun _ => none)) rfl [0, 1, 2] rfl rfl rfl dX2_scoreWith_25

set_option maxHeartbeats 4000000 in
set_option maxRecDepth 100000 in
theorem s_X2_scoreWith_12 (l : Launch) (D : va_G) (k : Nat → ClassId) (q_0 : Nat) (q_1 : Nat) (q_2 : Nat) (q_3 : Nat) (q_4 : Nat) (q_5 : Nat) (q_6 : Nat) (q_7 : Nat) (q_8 : Nat) (q_9 : Nat) (x_0 : Int32) (x_1 : Int32) (x_2 : Int32) (x_3 : Int32) (x_4 : Int32) (x_5 : Int32) (x_6 : Int32) (x_7 : Int32) (f_8 : Nat → Int32) (f_9 : Nat → Int32) (h_x_0 : 0 ≤ Int32.toInt x_0 ∧ Int32.toInt x_0 ≤ 5) (h_x_1 : 0 ≤ Int32.toInt x_1 ∧ Int32.toInt x_1 ≤ 2) (h_x_2 : 0 ≤ Int32.toInt x_2 ∧ Int32.toInt x_2 ≤ 1) (h_x_3 : 0 ≤ Int32.toInt x_3 ∧ Int32.toInt x_3 ≤ 6) : zMi l yX2_scoreWith cX2_scoreWith 4 (some .int) ({ frames := 0, cells := 0, slots := 0, locals := 0 }) D k [.ref q_0, .int x_0, .int x_1, .int x_2] [(q_0, .inr (2, [.ref q_3, .ref q_4, .ref q_5, .int x_3, .int x_4, .ref q_1, .ref q_2, .ref q_6, .int x_5, .int x_6, .int x_7, .ref q_7, .ref q_8, .ref q_9])), (q_1, .inl (k 0, 36, .inl f_8)), (q_2, .inl (k 0, 448, .inl f_9))] (fun r u => u.1 = 0) (fun u => [(q_0, .inr (2, [.ref q_3, .ref q_4, .ref q_5, .int x_3, .int x_4, .ref q_1, .ref q_2, .ref q_6, .int x_5, .int x_6, .int x_7, .ref q_7, .ref q_8, .ref q_9])), (q_1, .inl (k 0, 36, .inl f_8)), (q_2, .inl (k 0, 448, .inl f_9))]) := by
  refine zMi_of (own := RX2) (by decide +kernel) rfl (Nat.le_of_ble_eq_true rfl) ?_
  intro p e s m args below meth c A ls C0 hr hlk hin hP hD hS hA hK hN hl
  have hx := C0.1
  have hb := C0.2.1
  have hml := C0.2.2.1
  have hown := C0.2.2.2.1
  have hts := C0.2.2.2.2
  have hl : lv_has ls 4 [(0, .ref q_0), (1, .int x_0), (2, .int x_1), (3, .int x_2)] := hl
  have hP : va_P D vwCl [(q_0, .inr (2, [.ref q_3, .ref q_4, .ref q_5, .int x_3, .int x_4, .ref q_1, .ref q_2, .ref q_6, .int x_5, .int x_6, .int x_7, .ref q_7, .ref q_8, .ref q_9])), (q_1, .inl (k 0, 36, .inl f_8)), (q_2, .inl (k 0, 448, .inl f_9))] s.heap := hP
  refine lv_iload_n hx hb dX2_scoreWith_0 rfl (lv_at hl 2 rfl) ?_
  refine lv_iload_n hx hb dX2_scoreWith_1 rfl (lv_at hl 3 rfl) ?_
  refine lv_ishr hx hb dX2_scoreWith_2 ?_
  refine lv_topi (fun y1 ey1 => ?_)
  refine lv_iconst (v := 1) hx hb dX2_scoreWith_3 (by decide) ?_
  refine lv_iand hx hb dX2_scoreWith_4 ?_
  refine lv_topi (fun y2 ey2 => ?_)
  have hy2 : 0 ≤ Int32.toInt y2 ∧ Int32.toInt y2 ≤ 1 := by rw [ey2]; exact zo_and _ (by decide)
  refine lv_iconst (v := 1) hx hb dX2_scoreWith_5 (by decide) ?_
  refine lv_icmp_eq (tgt := 24) hx hb dX2_scoreWith_6 (by decide) (fun c3 => ?_) (fun c3 => ?_)
  · refine lv_iconst (v := (-1)) hx hb dX2_scoreWith_24 (by decide) ?_
    exact z_iret C0 hr hlk rfl hK hP hD hS (0, fun _ => 0, fun _ => 0, fun _ => 0, fun _ => (fun _ => 0), fun _ => (fun _ => 0), fun _ => (fun _ => none)) rfl [0, 1, 2] rfl rfl rfl dX2_scoreWith_25
  · refine lv_aload_n hx hb dX2_scoreWith_9 rfl (lv_at hl 0 rfl) ?_
    refine va_get (D := D) (ci := 2) (v := .ref q_1) (C := RX2) (T := TX2) (N := 14) hx hb hts inX2 hown hK hP 0 rfl rfl 5 (by decide) (hts _ kF_X2_19) (fun _ h9 => h9) rfl dX2_scoreWith_10 ?_
    refine lv_iload_n hx hb dX2_scoreWith_13 rfl (lv_at hl 1 rfl) ?_
    refine lv_bipush (v := 6) hx hb dX2_scoreWith_14 (by decide) ?_
    refine lv_imul hx hb dX2_scoreWith_16 ?_
    have e4 : Int32.toInt (x_0 * 6) = Int32.toInt x_0 * Int32.toInt (6 : Int32) := zi_mul (by revert h_x_0; simp only [vp_in_iff, Int32.lt_iff_toInt_lt, Int32.le_iff_toInt_le, Int64.lt_iff_toInt_lt, Int64.le_iff_toInt_le, Int32.toInt_toInt64, ← Int32.toInt_inj, ← Int64.toInt_inj, Int32.reduceToInt, Int64.reduceToInt] <;> omega)
    refine lv_iload_n hx hb dX2_scoreWith_17 rfl (lv_at hl 3 rfl) ?_
    refine lv_iadd hx hb dX2_scoreWith_18 ?_
    have e5 : Int32.toInt ((x_0 * 6) + x_2) = Int32.toInt (x_0 * 6) + Int32.toInt x_2 := zi_add (by revert h_x_0 h_x_2 e4; simp only [vp_in_iff, Int32.lt_iff_toInt_lt, Int32.le_iff_toInt_le, Int64.lt_iff_toInt_lt, Int64.le_iff_toInt_le, Int32.toInt_toInt64, ← Int32.toInt_inj, ← Int64.toInt_inj, Int32.reduceToInt, Int64.reduceToInt] <;> omega)
    refine va_iald hx hb hK hP 1 0 rfl rfl (by revert h_x_0 h_x_2 e4 e5; simp only [vp_in_iff, Int32.lt_iff_toInt_lt, Int32.le_iff_toInt_le, Int64.lt_iff_toInt_lt, Int64.le_iff_toInt_le, Int32.toInt_toInt64, ← Int32.toInt_inj, ← Int64.toInt_inj, Int32.reduceToInt, Int64.reduceToInt] <;> omega) dX2_scoreWith_19 ?_
    refine lv_topi (fun y6 ey6 => ?_)
    refine lv_iconst (v := (-1)) hx hb dX2_scoreWith_20 (by decide) ?_
    refine lv_icmp_ne (tgt := 26) hx hb dX2_scoreWith_21 (by decide) (fun c7 => ?_) (fun c7 => ?_)
    · refine lv_aload_n hx hb dX2_scoreWith_26 rfl (lv_at hl 0 rfl) ?_
      refine va_get (D := D) (ci := 2) (v := .ref q_2) (C := RX2) (T := TX2) (N := 14) hx hb hts inX2 hown hK hP 0 rfl rfl 6 (by decide) (hts _ kF_X2_22) (fun _ h9 => h9) rfl dX2_scoreWith_27 ?_
      refine lv_iload_n hx hb dX2_scoreWith_30 rfl (lv_at hl 1 rfl) ?_
      refine lv_iconst (v := 1) hx hb dX2_scoreWith_31 (by decide) ?_
      refine lv_iadd hx hb dX2_scoreWith_32 ?_
      have e8 : Int32.toInt (x_0 + 1) = Int32.toInt x_0 + Int32.toInt (1 : Int32) := zi_add (by revert h_x_0 e4 e5 h_x_2; simp only [vp_in_iff, Int32.lt_iff_toInt_lt, Int32.le_iff_toInt_le, Int64.lt_iff_toInt_lt, Int64.le_iff_toInt_le, Int32.toInt_toInt64, ← Int32.toInt_inj, ← Int64.toInt_inj, Int32.reduceToInt, Int64.reduceToInt] <;> omega)
      refine lv_bipush (v := 64) hx hb dX2_scoreWith_33 (by decide) ?_
      refine lv_imul hx hb dX2_scoreWith_35 ?_
      have e9 : Int32.toInt ((x_0 + 1) * 64) = Int32.toInt (x_0 + 1) * Int32.toInt (64 : Int32) := zi_mul (by revert h_x_0 e4 e5 e8 h_x_2; simp only [vp_in_iff, Int32.lt_iff_toInt_lt, Int32.le_iff_toInt_le, Int64.lt_iff_toInt_lt, Int64.le_iff_toInt_le, Int32.toInt_toInt64, ← Int32.toInt_inj, ← Int64.toInt_inj, Int32.reduceToInt, Int64.reduceToInt] <;> omega)
      refine lv_iload_n hx hb dX2_scoreWith_36 rfl (lv_at hl 2 rfl) ?_
      refine lv_iconst (v := 1) hx hb dX2_scoreWith_37 (by decide) ?_
      refine lv_iload_n hx hb dX2_scoreWith_38 rfl (lv_at hl 3 rfl) ?_
      refine lv_ishl hx hb dX2_scoreWith_39 ?_
      refine lv_topi (fun y10 ey10 => ?_)
      have hy10 : 1 ≤ Int32.toInt y10 ∧ Int32.toInt y10 ≤ 2 := by rw [ey10]; exact zo_shl1 1 (show 0 ≤ Int32.toInt x_2 ∧ Int32.toInt x_2 ≤ 1 by revert h_x_2 e5 e8 e9 h_x_0 e4; simp only [vp_in_iff, Int32.lt_iff_toInt_lt, Int32.le_iff_toInt_le, Int64.lt_iff_toInt_lt, Int64.le_iff_toInt_le, Int32.toInt_toInt64, ← Int32.toInt_inj, ← Int64.toInt_inj, Int32.reduceToInt, Int64.reduceToInt] <;> omega) (by decide)
      refine lv_ior hx hb dX2_scoreWith_40 ?_
      refine lv_topi (fun y11 ey11 => ?_)
      have hy11 : 0 ≤ Int32.toInt y11 ∧ Int32.toInt y11 ≤ 3 := by rw [ey11]; exact zo_or 2 (show 0 ≤ Int32.toInt x_1 ∧ Int32.toInt x_1 < 2 ^ 2 by revert h_x_1 hy10; simp only [vp_in_iff, Int32.lt_iff_toInt_lt, Int32.le_iff_toInt_le, Int64.lt_iff_toInt_lt, Int64.le_iff_toInt_le, Int32.toInt_toInt64, ← Int32.toInt_inj, ← Int64.toInt_inj, Int32.reduceToInt, Int64.reduceToInt] <;> omega) (show 0 ≤ Int32.toInt y10 ∧ Int32.toInt y10 < 2 ^ 2 by revert h_x_1 hy10; simp only [vp_in_iff, Int32.lt_iff_toInt_lt, Int32.le_iff_toInt_le, Int64.lt_iff_toInt_lt, Int64.le_iff_toInt_le, Int32.toInt_toInt64, ← Int32.toInt_inj, ← Int64.toInt_inj, Int32.reduceToInt, Int64.reduceToInt] <;> omega) (by decide)
      refine lv_iadd hx hb dX2_scoreWith_41 ?_
      have e12 : Int32.toInt (((x_0 + 1) * 64) + y11) = Int32.toInt ((x_0 + 1) * 64) + Int32.toInt y11 := zi_add (by revert h_x_0 e4 e5 e8 e9 hy11 h_x_2; simp only [vp_in_iff, Int32.lt_iff_toInt_lt, Int32.le_iff_toInt_le, Int64.lt_iff_toInt_lt, Int64.le_iff_toInt_le, Int32.toInt_toInt64, ← Int32.toInt_inj, ← Int64.toInt_inj, Int32.reduceToInt, Int64.reduceToInt] <;> omega)
      refine va_iald hx hb hK hP 2 0 rfl rfl (by revert h_x_0 e4 e5 e8 e9 hy11 e12 h_x_2; simp only [vp_in_iff, Int32.lt_iff_toInt_lt, Int32.le_iff_toInt_le, Int64.lt_iff_toInt_lt, Int64.le_iff_toInt_le, Int32.toInt_toInt64, ← Int32.toInt_inj, ← Int64.toInt_inj, Int32.reduceToInt, Int64.reduceToInt] <;> omega) dX2_scoreWith_42 ?_
      refine lv_topi (fun y13 ey13 => ?_)
      refine lv_aload_n hx hb dX2_scoreWith_43 rfl (lv_at hl 0 rfl) ?_
      refine va_get (D := D) (ci := 2) (v := .ref q_1) (C := RX2) (T := TX2) (N := 14) hx hb hts inX2 hown hK hP 0 rfl rfl 5 (by decide) (hts _ kF_X2_19) (fun _ h9 => h9) rfl dX2_scoreWith_44 ?_
      refine lv_iload_n hx hb dX2_scoreWith_47 rfl (lv_at hl 1 rfl) ?_
      refine lv_bipush (v := 6) hx hb dX2_scoreWith_48 (by decide) ?_
      refine lv_imul hx hb dX2_scoreWith_50 ?_
      have e14 : Int32.toInt (x_0 * 6) = Int32.toInt x_0 * Int32.toInt (6 : Int32) := zi_mul (by revert h_x_0 e4 e5 e8 e9 e12 h_x_2 hy11; simp only [vp_in_iff, Int32.lt_iff_toInt_lt, Int32.le_iff_toInt_le, Int64.lt_iff_toInt_lt, Int64.le_iff_toInt_le, Int32.toInt_toInt64, ← Int32.toInt_inj, ← Int64.toInt_inj, Int32.reduceToInt, Int64.reduceToInt] <;> omega)
      refine lv_iload_n hx hb dX2_scoreWith_51 rfl (lv_at hl 3 rfl) ?_
      refine lv_iadd hx hb dX2_scoreWith_52 ?_
      have e15 : Int32.toInt ((x_0 * 6) + x_2) = Int32.toInt (x_0 * 6) + Int32.toInt x_2 := zi_add (by revert h_x_0 h_x_2 e4 e5 e8 e9 e12 e14 hy11; simp only [vp_in_iff, Int32.lt_iff_toInt_lt, Int32.le_iff_toInt_le, Int64.lt_iff_toInt_lt, Int64.le_iff_toInt_le, Int32.toInt_toInt64, ← Int32.toInt_inj, ← Int64.toInt_inj, Int32.reduceToInt, Int64.reduceToInt] <;> omega)
      refine va_iald hx hb hK hP 1 0 rfl rfl (by revert h_x_0 h_x_2 e4 e5 e8 e9 e12 e14 e15 hy11; simp only [vp_in_iff, Int32.lt_iff_toInt_lt, Int32.le_iff_toInt_le, Int64.lt_iff_toInt_lt, Int64.le_iff_toInt_le, Int32.toInt_toInt64, ← Int32.toInt_inj, ← Int64.toInt_inj, Int32.reduceToInt, Int64.reduceToInt] <;> omega) dX2_scoreWith_53 ?_
      refine lv_toc (v := y6) ey6.symm ?_
      refine lv_bipush (v := 8) hx hb dX2_scoreWith_54 (by decide) ?_
      refine lv_imul hx hb dX2_scoreWith_56 ?_
      refine lv_iadd hx hb dX2_scoreWith_57 ?_
      refine lv_iconst (v := 1) hx hb dX2_scoreWith_58 (by decide) ?_
      refine lv_iadd hx hb dX2_scoreWith_59 ?_
      exact z_iret C0 hr hlk rfl hK hP hD hS (0, fun _ => 0, fun _ => 0, fun _ => 0, fun _ => (fun _ => 0), fun _ => (fun _ => 0), fun _ => (fun _ => none)) rfl [0, 1, 2] rfl rfl rfl dX2_scoreWith_60
    · refine lv_iconst (v := (-1)) hx hb dX2_scoreWith_24 (by decide) ?_
      exact z_iret C0 hr hlk rfl hK hP hD hS (0, fun _ => 0, fun _ => 0, fun _ => 0, fun _ => (fun _ => 0), fun _ => (fun _ => 0), fun _ => (fun _ => none)) rfl [0, 1, 2] rfl rfl rfl dX2_scoreWith_25

set_option maxHeartbeats 4000000 in
set_option maxRecDepth 100000 in
theorem s_X2_scoreWith_13 (l : Launch) (D : va_G) (k : Nat → ClassId) (q_0 : Nat) (q_1 : Nat) (q_2 : Nat) (q_3 : Nat) (q_4 : Nat) (q_5 : Nat) (q_6 : Nat) (q_7 : Nat) (q_8 : Nat) (q_9 : Nat) (x_0 : Int32) (x_1 : Int32) (x_2 : Int32) (x_3 : Int32) (x_4 : Int32) (x_5 : Int32) (x_6 : Int32) (x_7 : Int32) (f_8 : Nat → Int32) (f_9 : Nat → Int32) (h_x_0 : 0 ≤ Int32.toInt x_0 ∧ Int32.toInt x_0 ≤ 5) (h_x_1 : 0 ≤ Int32.toInt x_1 ∧ Int32.toInt x_1 ≤ 2) (h_x_2 : 0 ≤ Int32.toInt x_2 ∧ Int32.toInt x_2 ≤ 2) (h_x_3 : 0 ≤ Int32.toInt x_3 ∧ Int32.toInt x_3 ≤ 6) : zMi l yX2_scoreWith cX2_scoreWith 4 (some .int) ({ frames := 0, cells := 0, slots := 0, locals := 0 }) D k [.ref q_0, .int x_0, .int x_1, .int x_2] [(q_0, .inr (2, [.ref q_3, .ref q_4, .ref q_5, .int x_3, .int x_4, .ref q_1, .ref q_2, .ref q_6, .int x_5, .int x_6, .int x_7, .ref q_7, .ref q_8, .ref q_9])), (q_1, .inl (k 0, 36, .inl f_8)), (q_2, .inl (k 0, 448, .inl f_9))] (fun r u => u.1 = 0) (fun u => [(q_0, .inr (2, [.ref q_3, .ref q_4, .ref q_5, .int x_3, .int x_4, .ref q_1, .ref q_2, .ref q_6, .int x_5, .int x_6, .int x_7, .ref q_7, .ref q_8, .ref q_9])), (q_1, .inl (k 0, 36, .inl f_8)), (q_2, .inl (k 0, 448, .inl f_9))]) := by
  refine zMi_of (own := RX2) (by decide +kernel) rfl (Nat.le_of_ble_eq_true rfl) ?_
  intro p e s m args below meth c A ls C0 hr hlk hin hP hD hS hA hK hN hl
  have hx := C0.1
  have hb := C0.2.1
  have hml := C0.2.2.1
  have hown := C0.2.2.2.1
  have hts := C0.2.2.2.2
  have hl : lv_has ls 4 [(0, .ref q_0), (1, .int x_0), (2, .int x_1), (3, .int x_2)] := hl
  have hP : va_P D vwCl [(q_0, .inr (2, [.ref q_3, .ref q_4, .ref q_5, .int x_3, .int x_4, .ref q_1, .ref q_2, .ref q_6, .int x_5, .int x_6, .int x_7, .ref q_7, .ref q_8, .ref q_9])), (q_1, .inl (k 0, 36, .inl f_8)), (q_2, .inl (k 0, 448, .inl f_9))] s.heap := hP
  refine lv_iload_n hx hb dX2_scoreWith_0 rfl (lv_at hl 2 rfl) ?_
  refine lv_iload_n hx hb dX2_scoreWith_1 rfl (lv_at hl 3 rfl) ?_
  refine lv_ishr hx hb dX2_scoreWith_2 ?_
  refine lv_topi (fun y1 ey1 => ?_)
  refine lv_iconst (v := 1) hx hb dX2_scoreWith_3 (by decide) ?_
  refine lv_iand hx hb dX2_scoreWith_4 ?_
  refine lv_topi (fun y2 ey2 => ?_)
  have hy2 : 0 ≤ Int32.toInt y2 ∧ Int32.toInt y2 ≤ 1 := by rw [ey2]; exact zo_and _ (by decide)
  refine lv_iconst (v := 1) hx hb dX2_scoreWith_5 (by decide) ?_
  refine lv_icmp_eq (tgt := 24) hx hb dX2_scoreWith_6 (by decide) (fun c3 => ?_) (fun c3 => ?_)
  · refine lv_iconst (v := (-1)) hx hb dX2_scoreWith_24 (by decide) ?_
    exact z_iret C0 hr hlk rfl hK hP hD hS (0, fun _ => 0, fun _ => 0, fun _ => 0, fun _ => (fun _ => 0), fun _ => (fun _ => 0), fun _ => (fun _ => none)) rfl [0, 1, 2] rfl rfl rfl dX2_scoreWith_25
  · refine lv_aload_n hx hb dX2_scoreWith_9 rfl (lv_at hl 0 rfl) ?_
    refine va_get (D := D) (ci := 2) (v := .ref q_1) (C := RX2) (T := TX2) (N := 14) hx hb hts inX2 hown hK hP 0 rfl rfl 5 (by decide) (hts _ kF_X2_19) (fun _ h9 => h9) rfl dX2_scoreWith_10 ?_
    refine lv_iload_n hx hb dX2_scoreWith_13 rfl (lv_at hl 1 rfl) ?_
    refine lv_bipush (v := 6) hx hb dX2_scoreWith_14 (by decide) ?_
    refine lv_imul hx hb dX2_scoreWith_16 ?_
    have e4 : Int32.toInt (x_0 * 6) = Int32.toInt x_0 * Int32.toInt (6 : Int32) := zi_mul (by revert h_x_0; simp only [vp_in_iff, Int32.lt_iff_toInt_lt, Int32.le_iff_toInt_le, Int64.lt_iff_toInt_lt, Int64.le_iff_toInt_le, Int32.toInt_toInt64, ← Int32.toInt_inj, ← Int64.toInt_inj, Int32.reduceToInt, Int64.reduceToInt] <;> omega)
    refine lv_iload_n hx hb dX2_scoreWith_17 rfl (lv_at hl 3 rfl) ?_
    refine lv_iadd hx hb dX2_scoreWith_18 ?_
    have e5 : Int32.toInt ((x_0 * 6) + x_2) = Int32.toInt (x_0 * 6) + Int32.toInt x_2 := zi_add (by revert h_x_0 h_x_2 e4; simp only [vp_in_iff, Int32.lt_iff_toInt_lt, Int32.le_iff_toInt_le, Int64.lt_iff_toInt_lt, Int64.le_iff_toInt_le, Int32.toInt_toInt64, ← Int32.toInt_inj, ← Int64.toInt_inj, Int32.reduceToInt, Int64.reduceToInt] <;> omega)
    refine va_iald hx hb hK hP 1 0 rfl rfl (by revert h_x_0 h_x_2 e4 e5; simp only [vp_in_iff, Int32.lt_iff_toInt_lt, Int32.le_iff_toInt_le, Int64.lt_iff_toInt_lt, Int64.le_iff_toInt_le, Int32.toInt_toInt64, ← Int32.toInt_inj, ← Int64.toInt_inj, Int32.reduceToInt, Int64.reduceToInt] <;> omega) dX2_scoreWith_19 ?_
    refine lv_topi (fun y6 ey6 => ?_)
    refine lv_iconst (v := (-1)) hx hb dX2_scoreWith_20 (by decide) ?_
    refine lv_icmp_ne (tgt := 26) hx hb dX2_scoreWith_21 (by decide) (fun c7 => ?_) (fun c7 => ?_)
    · refine lv_aload_n hx hb dX2_scoreWith_26 rfl (lv_at hl 0 rfl) ?_
      refine va_get (D := D) (ci := 2) (v := .ref q_2) (C := RX2) (T := TX2) (N := 14) hx hb hts inX2 hown hK hP 0 rfl rfl 6 (by decide) (hts _ kF_X2_22) (fun _ h9 => h9) rfl dX2_scoreWith_27 ?_
      refine lv_iload_n hx hb dX2_scoreWith_30 rfl (lv_at hl 1 rfl) ?_
      refine lv_iconst (v := 1) hx hb dX2_scoreWith_31 (by decide) ?_
      refine lv_iadd hx hb dX2_scoreWith_32 ?_
      have e8 : Int32.toInt (x_0 + 1) = Int32.toInt x_0 + Int32.toInt (1 : Int32) := zi_add (by revert h_x_0 e4 e5 h_x_2; simp only [vp_in_iff, Int32.lt_iff_toInt_lt, Int32.le_iff_toInt_le, Int64.lt_iff_toInt_lt, Int64.le_iff_toInt_le, Int32.toInt_toInt64, ← Int32.toInt_inj, ← Int64.toInt_inj, Int32.reduceToInt, Int64.reduceToInt] <;> omega)
      refine lv_bipush (v := 64) hx hb dX2_scoreWith_33 (by decide) ?_
      refine lv_imul hx hb dX2_scoreWith_35 ?_
      have e9 : Int32.toInt ((x_0 + 1) * 64) = Int32.toInt (x_0 + 1) * Int32.toInt (64 : Int32) := zi_mul (by revert h_x_0 e4 e5 e8 h_x_2; simp only [vp_in_iff, Int32.lt_iff_toInt_lt, Int32.le_iff_toInt_le, Int64.lt_iff_toInt_lt, Int64.le_iff_toInt_le, Int32.toInt_toInt64, ← Int32.toInt_inj, ← Int64.toInt_inj, Int32.reduceToInt, Int64.reduceToInt] <;> omega)
      refine lv_iload_n hx hb dX2_scoreWith_36 rfl (lv_at hl 2 rfl) ?_
      refine lv_iconst (v := 1) hx hb dX2_scoreWith_37 (by decide) ?_
      refine lv_iload_n hx hb dX2_scoreWith_38 rfl (lv_at hl 3 rfl) ?_
      refine lv_ishl hx hb dX2_scoreWith_39 ?_
      refine lv_topi (fun y10 ey10 => ?_)
      have hy10 : 1 ≤ Int32.toInt y10 ∧ Int32.toInt y10 ≤ 4 := by rw [ey10]; exact zo_shl1 2 (show 0 ≤ Int32.toInt x_2 ∧ Int32.toInt x_2 ≤ 2 by revert h_x_2 e5 e8 e9 h_x_0 e4; simp only [vp_in_iff, Int32.lt_iff_toInt_lt, Int32.le_iff_toInt_le, Int64.lt_iff_toInt_lt, Int64.le_iff_toInt_le, Int32.toInt_toInt64, ← Int32.toInt_inj, ← Int64.toInt_inj, Int32.reduceToInt, Int64.reduceToInt] <;> omega) (by decide)
      refine lv_ior hx hb dX2_scoreWith_40 ?_
      refine lv_topi (fun y11 ey11 => ?_)
      have hy11 : 0 ≤ Int32.toInt y11 ∧ Int32.toInt y11 ≤ 7 := by rw [ey11]; exact zo_or 3 (show 0 ≤ Int32.toInt x_1 ∧ Int32.toInt x_1 < 2 ^ 3 by revert h_x_1 hy10; simp only [vp_in_iff, Int32.lt_iff_toInt_lt, Int32.le_iff_toInt_le, Int64.lt_iff_toInt_lt, Int64.le_iff_toInt_le, Int32.toInt_toInt64, ← Int32.toInt_inj, ← Int64.toInt_inj, Int32.reduceToInt, Int64.reduceToInt] <;> omega) (show 0 ≤ Int32.toInt y10 ∧ Int32.toInt y10 < 2 ^ 3 by revert h_x_1 hy10; simp only [vp_in_iff, Int32.lt_iff_toInt_lt, Int32.le_iff_toInt_le, Int64.lt_iff_toInt_lt, Int64.le_iff_toInt_le, Int32.toInt_toInt64, ← Int32.toInt_inj, ← Int64.toInt_inj, Int32.reduceToInt, Int64.reduceToInt] <;> omega) (by decide)
      refine lv_iadd hx hb dX2_scoreWith_41 ?_
      have e12 : Int32.toInt (((x_0 + 1) * 64) + y11) = Int32.toInt ((x_0 + 1) * 64) + Int32.toInt y11 := zi_add (by revert h_x_0 e4 e5 e8 e9 hy11 h_x_2; simp only [vp_in_iff, Int32.lt_iff_toInt_lt, Int32.le_iff_toInt_le, Int64.lt_iff_toInt_lt, Int64.le_iff_toInt_le, Int32.toInt_toInt64, ← Int32.toInt_inj, ← Int64.toInt_inj, Int32.reduceToInt, Int64.reduceToInt] <;> omega)
      refine va_iald hx hb hK hP 2 0 rfl rfl (by revert h_x_0 e4 e5 e8 e9 hy11 e12 h_x_2; simp only [vp_in_iff, Int32.lt_iff_toInt_lt, Int32.le_iff_toInt_le, Int64.lt_iff_toInt_lt, Int64.le_iff_toInt_le, Int32.toInt_toInt64, ← Int32.toInt_inj, ← Int64.toInt_inj, Int32.reduceToInt, Int64.reduceToInt] <;> omega) dX2_scoreWith_42 ?_
      refine lv_topi (fun y13 ey13 => ?_)
      refine lv_aload_n hx hb dX2_scoreWith_43 rfl (lv_at hl 0 rfl) ?_
      refine va_get (D := D) (ci := 2) (v := .ref q_1) (C := RX2) (T := TX2) (N := 14) hx hb hts inX2 hown hK hP 0 rfl rfl 5 (by decide) (hts _ kF_X2_19) (fun _ h9 => h9) rfl dX2_scoreWith_44 ?_
      refine lv_iload_n hx hb dX2_scoreWith_47 rfl (lv_at hl 1 rfl) ?_
      refine lv_bipush (v := 6) hx hb dX2_scoreWith_48 (by decide) ?_
      refine lv_imul hx hb dX2_scoreWith_50 ?_
      have e14 : Int32.toInt (x_0 * 6) = Int32.toInt x_0 * Int32.toInt (6 : Int32) := zi_mul (by revert h_x_0 e4 e5 e8 e9 e12 h_x_2 hy11; simp only [vp_in_iff, Int32.lt_iff_toInt_lt, Int32.le_iff_toInt_le, Int64.lt_iff_toInt_lt, Int64.le_iff_toInt_le, Int32.toInt_toInt64, ← Int32.toInt_inj, ← Int64.toInt_inj, Int32.reduceToInt, Int64.reduceToInt] <;> omega)
      refine lv_iload_n hx hb dX2_scoreWith_51 rfl (lv_at hl 3 rfl) ?_
      refine lv_iadd hx hb dX2_scoreWith_52 ?_
      have e15 : Int32.toInt ((x_0 * 6) + x_2) = Int32.toInt (x_0 * 6) + Int32.toInt x_2 := zi_add (by revert h_x_0 h_x_2 e4 e5 e8 e9 e12 e14 hy11; simp only [vp_in_iff, Int32.lt_iff_toInt_lt, Int32.le_iff_toInt_le, Int64.lt_iff_toInt_lt, Int64.le_iff_toInt_le, Int32.toInt_toInt64, ← Int32.toInt_inj, ← Int64.toInt_inj, Int32.reduceToInt, Int64.reduceToInt] <;> omega)
      refine va_iald hx hb hK hP 1 0 rfl rfl (by revert h_x_0 h_x_2 e4 e5 e8 e9 e12 e14 e15 hy11; simp only [vp_in_iff, Int32.lt_iff_toInt_lt, Int32.le_iff_toInt_le, Int64.lt_iff_toInt_lt, Int64.le_iff_toInt_le, Int32.toInt_toInt64, ← Int32.toInt_inj, ← Int64.toInt_inj, Int32.reduceToInt, Int64.reduceToInt] <;> omega) dX2_scoreWith_53 ?_
      refine lv_toc (v := y6) ey6.symm ?_
      refine lv_bipush (v := 8) hx hb dX2_scoreWith_54 (by decide) ?_
      refine lv_imul hx hb dX2_scoreWith_56 ?_
      refine lv_iadd hx hb dX2_scoreWith_57 ?_
      refine lv_iconst (v := 1) hx hb dX2_scoreWith_58 (by decide) ?_
      refine lv_iadd hx hb dX2_scoreWith_59 ?_
      exact z_iret C0 hr hlk rfl hK hP hD hS (0, fun _ => 0, fun _ => 0, fun _ => 0, fun _ => (fun _ => 0), fun _ => (fun _ => 0), fun _ => (fun _ => none)) rfl [0, 1, 2] rfl rfl rfl dX2_scoreWith_60
    · refine lv_iconst (v := (-1)) hx hb dX2_scoreWith_24 (by decide) ?_
      exact z_iret C0 hr hlk rfl hK hP hD hS (0, fun _ => 0, fun _ => 0, fun _ => 0, fun _ => (fun _ => 0), fun _ => (fun _ => 0), fun _ => (fun _ => none)) rfl [0, 1, 2] rfl rfl rfl dX2_scoreWith_25

set_option maxHeartbeats 4000000 in
set_option maxRecDepth 100000 in
theorem s_X2_scoreWith_14 (l : Launch) (D : va_G) (k : Nat → ClassId) (q_0 : Nat) (q_1 : Nat) (q_2 : Nat) (q_3 : Nat) (q_4 : Nat) (q_5 : Nat) (q_6 : Nat) (q_7 : Nat) (q_8 : Nat) (q_9 : Nat) (x_0 : Int32) (x_1 : Int32) (x_2 : Int32) (x_3 : Int32) (x_4 : Int32) (x_5 : Int32) (x_6 : Int32) (x_7 : Int32) (f_8 : Nat → Int32) (f_9 : Nat → Int32) (h_x_0 : 0 ≤ Int32.toInt x_0 ∧ Int32.toInt x_0 ≤ 5) (h_x_1 : 0 ≤ Int32.toInt x_1 ∧ Int32.toInt x_1 ≤ 2) (h_x_2 : 0 ≤ Int32.toInt x_2 ∧ Int32.toInt x_2 ≤ 3) (h_x_3 : 0 ≤ Int32.toInt x_3 ∧ Int32.toInt x_3 ≤ 6) : zMi l yX2_scoreWith cX2_scoreWith 4 (some .int) ({ frames := 0, cells := 0, slots := 0, locals := 0 }) D k [.ref q_0, .int x_0, .int x_1, .int x_2] [(q_0, .inr (2, [.ref q_3, .ref q_4, .ref q_5, .int x_3, .int x_4, .ref q_1, .ref q_2, .ref q_6, .int x_5, .int x_6, .int x_7, .ref q_7, .ref q_8, .ref q_9])), (q_1, .inl (k 0, 36, .inl f_8)), (q_2, .inl (k 0, 448, .inl f_9))] (fun r u => u.1 = 0) (fun u => [(q_0, .inr (2, [.ref q_3, .ref q_4, .ref q_5, .int x_3, .int x_4, .ref q_1, .ref q_2, .ref q_6, .int x_5, .int x_6, .int x_7, .ref q_7, .ref q_8, .ref q_9])), (q_1, .inl (k 0, 36, .inl f_8)), (q_2, .inl (k 0, 448, .inl f_9))]) := by
  refine zMi_of (own := RX2) (by decide +kernel) rfl (Nat.le_of_ble_eq_true rfl) ?_
  intro p e s m args below meth c A ls C0 hr hlk hin hP hD hS hA hK hN hl
  have hx := C0.1
  have hb := C0.2.1
  have hml := C0.2.2.1
  have hown := C0.2.2.2.1
  have hts := C0.2.2.2.2
  have hl : lv_has ls 4 [(0, .ref q_0), (1, .int x_0), (2, .int x_1), (3, .int x_2)] := hl
  have hP : va_P D vwCl [(q_0, .inr (2, [.ref q_3, .ref q_4, .ref q_5, .int x_3, .int x_4, .ref q_1, .ref q_2, .ref q_6, .int x_5, .int x_6, .int x_7, .ref q_7, .ref q_8, .ref q_9])), (q_1, .inl (k 0, 36, .inl f_8)), (q_2, .inl (k 0, 448, .inl f_9))] s.heap := hP
  refine lv_iload_n hx hb dX2_scoreWith_0 rfl (lv_at hl 2 rfl) ?_
  refine lv_iload_n hx hb dX2_scoreWith_1 rfl (lv_at hl 3 rfl) ?_
  refine lv_ishr hx hb dX2_scoreWith_2 ?_
  refine lv_topi (fun y1 ey1 => ?_)
  refine lv_iconst (v := 1) hx hb dX2_scoreWith_3 (by decide) ?_
  refine lv_iand hx hb dX2_scoreWith_4 ?_
  refine lv_topi (fun y2 ey2 => ?_)
  have hy2 : 0 ≤ Int32.toInt y2 ∧ Int32.toInt y2 ≤ 1 := by rw [ey2]; exact zo_and _ (by decide)
  refine lv_iconst (v := 1) hx hb dX2_scoreWith_5 (by decide) ?_
  refine lv_icmp_eq (tgt := 24) hx hb dX2_scoreWith_6 (by decide) (fun c3 => ?_) (fun c3 => ?_)
  · refine lv_iconst (v := (-1)) hx hb dX2_scoreWith_24 (by decide) ?_
    exact z_iret C0 hr hlk rfl hK hP hD hS (0, fun _ => 0, fun _ => 0, fun _ => 0, fun _ => (fun _ => 0), fun _ => (fun _ => 0), fun _ => (fun _ => none)) rfl [0, 1, 2] rfl rfl rfl dX2_scoreWith_25
  · refine lv_aload_n hx hb dX2_scoreWith_9 rfl (lv_at hl 0 rfl) ?_
    refine va_get (D := D) (ci := 2) (v := .ref q_1) (C := RX2) (T := TX2) (N := 14) hx hb hts inX2 hown hK hP 0 rfl rfl 5 (by decide) (hts _ kF_X2_19) (fun _ h9 => h9) rfl dX2_scoreWith_10 ?_
    refine lv_iload_n hx hb dX2_scoreWith_13 rfl (lv_at hl 1 rfl) ?_
    refine lv_bipush (v := 6) hx hb dX2_scoreWith_14 (by decide) ?_
    refine lv_imul hx hb dX2_scoreWith_16 ?_
    have e4 : Int32.toInt (x_0 * 6) = Int32.toInt x_0 * Int32.toInt (6 : Int32) := zi_mul (by revert h_x_0; simp only [vp_in_iff, Int32.lt_iff_toInt_lt, Int32.le_iff_toInt_le, Int64.lt_iff_toInt_lt, Int64.le_iff_toInt_le, Int32.toInt_toInt64, ← Int32.toInt_inj, ← Int64.toInt_inj, Int32.reduceToInt, Int64.reduceToInt] <;> omega)
    refine lv_iload_n hx hb dX2_scoreWith_17 rfl (lv_at hl 3 rfl) ?_
    refine lv_iadd hx hb dX2_scoreWith_18 ?_
    have e5 : Int32.toInt ((x_0 * 6) + x_2) = Int32.toInt (x_0 * 6) + Int32.toInt x_2 := zi_add (by revert h_x_0 h_x_2 e4; simp only [vp_in_iff, Int32.lt_iff_toInt_lt, Int32.le_iff_toInt_le, Int64.lt_iff_toInt_lt, Int64.le_iff_toInt_le, Int32.toInt_toInt64, ← Int32.toInt_inj, ← Int64.toInt_inj, Int32.reduceToInt, Int64.reduceToInt] <;> omega)
    refine va_iald hx hb hK hP 1 0 rfl rfl (by revert h_x_0 h_x_2 e4 e5; simp only [vp_in_iff, Int32.lt_iff_toInt_lt, Int32.le_iff_toInt_le, Int64.lt_iff_toInt_lt, Int64.le_iff_toInt_le, Int32.toInt_toInt64, ← Int32.toInt_inj, ← Int64.toInt_inj, Int32.reduceToInt, Int64.reduceToInt] <;> omega) dX2_scoreWith_19 ?_
    refine lv_topi (fun y6 ey6 => ?_)
    refine lv_iconst (v := (-1)) hx hb dX2_scoreWith_20 (by decide) ?_
    refine lv_icmp_ne (tgt := 26) hx hb dX2_scoreWith_21 (by decide) (fun c7 => ?_) (fun c7 => ?_)
    · refine lv_aload_n hx hb dX2_scoreWith_26 rfl (lv_at hl 0 rfl) ?_
      refine va_get (D := D) (ci := 2) (v := .ref q_2) (C := RX2) (T := TX2) (N := 14) hx hb hts inX2 hown hK hP 0 rfl rfl 6 (by decide) (hts _ kF_X2_22) (fun _ h9 => h9) rfl dX2_scoreWith_27 ?_
      refine lv_iload_n hx hb dX2_scoreWith_30 rfl (lv_at hl 1 rfl) ?_
      refine lv_iconst (v := 1) hx hb dX2_scoreWith_31 (by decide) ?_
      refine lv_iadd hx hb dX2_scoreWith_32 ?_
      have e8 : Int32.toInt (x_0 + 1) = Int32.toInt x_0 + Int32.toInt (1 : Int32) := zi_add (by revert h_x_0 e4 e5 h_x_2; simp only [vp_in_iff, Int32.lt_iff_toInt_lt, Int32.le_iff_toInt_le, Int64.lt_iff_toInt_lt, Int64.le_iff_toInt_le, Int32.toInt_toInt64, ← Int32.toInt_inj, ← Int64.toInt_inj, Int32.reduceToInt, Int64.reduceToInt] <;> omega)
      refine lv_bipush (v := 64) hx hb dX2_scoreWith_33 (by decide) ?_
      refine lv_imul hx hb dX2_scoreWith_35 ?_
      have e9 : Int32.toInt ((x_0 + 1) * 64) = Int32.toInt (x_0 + 1) * Int32.toInt (64 : Int32) := zi_mul (by revert h_x_0 e4 e5 e8 h_x_2; simp only [vp_in_iff, Int32.lt_iff_toInt_lt, Int32.le_iff_toInt_le, Int64.lt_iff_toInt_lt, Int64.le_iff_toInt_le, Int32.toInt_toInt64, ← Int32.toInt_inj, ← Int64.toInt_inj, Int32.reduceToInt, Int64.reduceToInt] <;> omega)
      refine lv_iload_n hx hb dX2_scoreWith_36 rfl (lv_at hl 2 rfl) ?_
      refine lv_iconst (v := 1) hx hb dX2_scoreWith_37 (by decide) ?_
      refine lv_iload_n hx hb dX2_scoreWith_38 rfl (lv_at hl 3 rfl) ?_
      refine lv_ishl hx hb dX2_scoreWith_39 ?_
      refine lv_topi (fun y10 ey10 => ?_)
      have hy10 : 1 ≤ Int32.toInt y10 ∧ Int32.toInt y10 ≤ 8 := by rw [ey10]; exact zo_shl1 3 (show 0 ≤ Int32.toInt x_2 ∧ Int32.toInt x_2 ≤ 3 by revert h_x_2 e5 e8 e9 h_x_0 e4; simp only [vp_in_iff, Int32.lt_iff_toInt_lt, Int32.le_iff_toInt_le, Int64.lt_iff_toInt_lt, Int64.le_iff_toInt_le, Int32.toInt_toInt64, ← Int32.toInt_inj, ← Int64.toInt_inj, Int32.reduceToInt, Int64.reduceToInt] <;> omega) (by decide)
      refine lv_ior hx hb dX2_scoreWith_40 ?_
      refine lv_topi (fun y11 ey11 => ?_)
      have hy11 : 0 ≤ Int32.toInt y11 ∧ Int32.toInt y11 ≤ 15 := by rw [ey11]; exact zo_or 4 (show 0 ≤ Int32.toInt x_1 ∧ Int32.toInt x_1 < 2 ^ 4 by revert h_x_1 hy10; simp only [vp_in_iff, Int32.lt_iff_toInt_lt, Int32.le_iff_toInt_le, Int64.lt_iff_toInt_lt, Int64.le_iff_toInt_le, Int32.toInt_toInt64, ← Int32.toInt_inj, ← Int64.toInt_inj, Int32.reduceToInt, Int64.reduceToInt] <;> omega) (show 0 ≤ Int32.toInt y10 ∧ Int32.toInt y10 < 2 ^ 4 by revert h_x_1 hy10; simp only [vp_in_iff, Int32.lt_iff_toInt_lt, Int32.le_iff_toInt_le, Int64.lt_iff_toInt_lt, Int64.le_iff_toInt_le, Int32.toInt_toInt64, ← Int32.toInt_inj, ← Int64.toInt_inj, Int32.reduceToInt, Int64.reduceToInt] <;> omega) (by decide)
      refine lv_iadd hx hb dX2_scoreWith_41 ?_
      have e12 : Int32.toInt (((x_0 + 1) * 64) + y11) = Int32.toInt ((x_0 + 1) * 64) + Int32.toInt y11 := zi_add (by revert h_x_0 e4 e5 e8 e9 hy11 h_x_2; simp only [vp_in_iff, Int32.lt_iff_toInt_lt, Int32.le_iff_toInt_le, Int64.lt_iff_toInt_lt, Int64.le_iff_toInt_le, Int32.toInt_toInt64, ← Int32.toInt_inj, ← Int64.toInt_inj, Int32.reduceToInt, Int64.reduceToInt] <;> omega)
      refine va_iald hx hb hK hP 2 0 rfl rfl (by revert h_x_0 e4 e5 e8 e9 hy11 e12 h_x_2; simp only [vp_in_iff, Int32.lt_iff_toInt_lt, Int32.le_iff_toInt_le, Int64.lt_iff_toInt_lt, Int64.le_iff_toInt_le, Int32.toInt_toInt64, ← Int32.toInt_inj, ← Int64.toInt_inj, Int32.reduceToInt, Int64.reduceToInt] <;> omega) dX2_scoreWith_42 ?_
      refine lv_topi (fun y13 ey13 => ?_)
      refine lv_aload_n hx hb dX2_scoreWith_43 rfl (lv_at hl 0 rfl) ?_
      refine va_get (D := D) (ci := 2) (v := .ref q_1) (C := RX2) (T := TX2) (N := 14) hx hb hts inX2 hown hK hP 0 rfl rfl 5 (by decide) (hts _ kF_X2_19) (fun _ h9 => h9) rfl dX2_scoreWith_44 ?_
      refine lv_iload_n hx hb dX2_scoreWith_47 rfl (lv_at hl 1 rfl) ?_
      refine lv_bipush (v := 6) hx hb dX2_scoreWith_48 (by decide) ?_
      refine lv_imul hx hb dX2_scoreWith_50 ?_
      have e14 : Int32.toInt (x_0 * 6) = Int32.toInt x_0 * Int32.toInt (6 : Int32) := zi_mul (by revert h_x_0 e4 e5 e8 e9 e12 h_x_2 hy11; simp only [vp_in_iff, Int32.lt_iff_toInt_lt, Int32.le_iff_toInt_le, Int64.lt_iff_toInt_lt, Int64.le_iff_toInt_le, Int32.toInt_toInt64, ← Int32.toInt_inj, ← Int64.toInt_inj, Int32.reduceToInt, Int64.reduceToInt] <;> omega)
      refine lv_iload_n hx hb dX2_scoreWith_51 rfl (lv_at hl 3 rfl) ?_
      refine lv_iadd hx hb dX2_scoreWith_52 ?_
      have e15 : Int32.toInt ((x_0 * 6) + x_2) = Int32.toInt (x_0 * 6) + Int32.toInt x_2 := zi_add (by revert h_x_0 h_x_2 e4 e5 e8 e9 e12 e14 hy11; simp only [vp_in_iff, Int32.lt_iff_toInt_lt, Int32.le_iff_toInt_le, Int64.lt_iff_toInt_lt, Int64.le_iff_toInt_le, Int32.toInt_toInt64, ← Int32.toInt_inj, ← Int64.toInt_inj, Int32.reduceToInt, Int64.reduceToInt] <;> omega)
      refine va_iald hx hb hK hP 1 0 rfl rfl (by revert h_x_0 h_x_2 e4 e5 e8 e9 e12 e14 e15 hy11; simp only [vp_in_iff, Int32.lt_iff_toInt_lt, Int32.le_iff_toInt_le, Int64.lt_iff_toInt_lt, Int64.le_iff_toInt_le, Int32.toInt_toInt64, ← Int32.toInt_inj, ← Int64.toInt_inj, Int32.reduceToInt, Int64.reduceToInt] <;> omega) dX2_scoreWith_53 ?_
      refine lv_toc (v := y6) ey6.symm ?_
      refine lv_bipush (v := 8) hx hb dX2_scoreWith_54 (by decide) ?_
      refine lv_imul hx hb dX2_scoreWith_56 ?_
      refine lv_iadd hx hb dX2_scoreWith_57 ?_
      refine lv_iconst (v := 1) hx hb dX2_scoreWith_58 (by decide) ?_
      refine lv_iadd hx hb dX2_scoreWith_59 ?_
      exact z_iret C0 hr hlk rfl hK hP hD hS (0, fun _ => 0, fun _ => 0, fun _ => 0, fun _ => (fun _ => 0), fun _ => (fun _ => 0), fun _ => (fun _ => none)) rfl [0, 1, 2] rfl rfl rfl dX2_scoreWith_60
    · refine lv_iconst (v := (-1)) hx hb dX2_scoreWith_24 (by decide) ?_
      exact z_iret C0 hr hlk rfl hK hP hD hS (0, fun _ => 0, fun _ => 0, fun _ => 0, fun _ => (fun _ => 0), fun _ => (fun _ => 0), fun _ => (fun _ => none)) rfl [0, 1, 2] rfl rfl rfl dX2_scoreWith_25

set_option maxHeartbeats 4000000 in
set_option maxRecDepth 100000 in
theorem s_X2_scoreWith_15 (l : Launch) (D : va_G) (k : Nat → ClassId) (q_0 : Nat) (q_1 : Nat) (q_2 : Nat) (q_3 : Nat) (q_4 : Nat) (q_5 : Nat) (q_6 : Nat) (q_7 : Nat) (q_8 : Nat) (q_9 : Nat) (x_0 : Int32) (x_1 : Int32) (x_2 : Int32) (x_3 : Int32) (x_4 : Int32) (x_5 : Int32) (x_6 : Int32) (x_7 : Int32) (f_8 : Nat → Int32) (f_9 : Nat → Int32) (h_x_0 : 0 ≤ Int32.toInt x_0 ∧ Int32.toInt x_0 ≤ 5) (h_x_1 : 0 ≤ Int32.toInt x_1 ∧ Int32.toInt x_1 ≤ 2) (h_x_2 : 0 ≤ Int32.toInt x_2 ∧ Int32.toInt x_2 ≤ 5) (h_x_3 : 0 ≤ Int32.toInt x_3 ∧ Int32.toInt x_3 ≤ 6) : zMi l yX2_scoreWith cX2_scoreWith 4 (some .int) ({ frames := 0, cells := 0, slots := 0, locals := 0 }) D k [.ref q_0, .int x_0, .int x_1, .int x_2] [(q_0, .inr (2, [.ref q_3, .ref q_4, .ref q_5, .int x_3, .int x_4, .ref q_1, .ref q_2, .ref q_6, .int x_5, .int x_6, .int x_7, .ref q_7, .ref q_8, .ref q_9])), (q_1, .inl (k 0, 36, .inl f_8)), (q_2, .inl (k 0, 448, .inl f_9))] (fun r u => u.1 = 0) (fun u => [(q_0, .inr (2, [.ref q_3, .ref q_4, .ref q_5, .int x_3, .int x_4, .ref q_1, .ref q_2, .ref q_6, .int x_5, .int x_6, .int x_7, .ref q_7, .ref q_8, .ref q_9])), (q_1, .inl (k 0, 36, .inl f_8)), (q_2, .inl (k 0, 448, .inl f_9))]) := by
  refine zMi_of (own := RX2) (by decide +kernel) rfl (Nat.le_of_ble_eq_true rfl) ?_
  intro p e s m args below meth c A ls C0 hr hlk hin hP hD hS hA hK hN hl
  have hx := C0.1
  have hb := C0.2.1
  have hml := C0.2.2.1
  have hown := C0.2.2.2.1
  have hts := C0.2.2.2.2
  have hl : lv_has ls 4 [(0, .ref q_0), (1, .int x_0), (2, .int x_1), (3, .int x_2)] := hl
  have hP : va_P D vwCl [(q_0, .inr (2, [.ref q_3, .ref q_4, .ref q_5, .int x_3, .int x_4, .ref q_1, .ref q_2, .ref q_6, .int x_5, .int x_6, .int x_7, .ref q_7, .ref q_8, .ref q_9])), (q_1, .inl (k 0, 36, .inl f_8)), (q_2, .inl (k 0, 448, .inl f_9))] s.heap := hP
  refine lv_iload_n hx hb dX2_scoreWith_0 rfl (lv_at hl 2 rfl) ?_
  refine lv_iload_n hx hb dX2_scoreWith_1 rfl (lv_at hl 3 rfl) ?_
  refine lv_ishr hx hb dX2_scoreWith_2 ?_
  refine lv_topi (fun y1 ey1 => ?_)
  refine lv_iconst (v := 1) hx hb dX2_scoreWith_3 (by decide) ?_
  refine lv_iand hx hb dX2_scoreWith_4 ?_
  refine lv_topi (fun y2 ey2 => ?_)
  have hy2 : 0 ≤ Int32.toInt y2 ∧ Int32.toInt y2 ≤ 1 := by rw [ey2]; exact zo_and _ (by decide)
  refine lv_iconst (v := 1) hx hb dX2_scoreWith_5 (by decide) ?_
  refine lv_icmp_eq (tgt := 24) hx hb dX2_scoreWith_6 (by decide) (fun c3 => ?_) (fun c3 => ?_)
  · refine lv_iconst (v := (-1)) hx hb dX2_scoreWith_24 (by decide) ?_
    exact z_iret C0 hr hlk rfl hK hP hD hS (0, fun _ => 0, fun _ => 0, fun _ => 0, fun _ => (fun _ => 0), fun _ => (fun _ => 0), fun _ => (fun _ => none)) rfl [0, 1, 2] rfl rfl rfl dX2_scoreWith_25
  · refine lv_aload_n hx hb dX2_scoreWith_9 rfl (lv_at hl 0 rfl) ?_
    refine va_get (D := D) (ci := 2) (v := .ref q_1) (C := RX2) (T := TX2) (N := 14) hx hb hts inX2 hown hK hP 0 rfl rfl 5 (by decide) (hts _ kF_X2_19) (fun _ h9 => h9) rfl dX2_scoreWith_10 ?_
    refine lv_iload_n hx hb dX2_scoreWith_13 rfl (lv_at hl 1 rfl) ?_
    refine lv_bipush (v := 6) hx hb dX2_scoreWith_14 (by decide) ?_
    refine lv_imul hx hb dX2_scoreWith_16 ?_
    have e4 : Int32.toInt (x_0 * 6) = Int32.toInt x_0 * Int32.toInt (6 : Int32) := zi_mul (by revert h_x_0; simp only [vp_in_iff, Int32.lt_iff_toInt_lt, Int32.le_iff_toInt_le, Int64.lt_iff_toInt_lt, Int64.le_iff_toInt_le, Int32.toInt_toInt64, ← Int32.toInt_inj, ← Int64.toInt_inj, Int32.reduceToInt, Int64.reduceToInt] <;> omega)
    refine lv_iload_n hx hb dX2_scoreWith_17 rfl (lv_at hl 3 rfl) ?_
    refine lv_iadd hx hb dX2_scoreWith_18 ?_
    have e5 : Int32.toInt ((x_0 * 6) + x_2) = Int32.toInt (x_0 * 6) + Int32.toInt x_2 := zi_add (by revert h_x_0 h_x_2 e4; simp only [vp_in_iff, Int32.lt_iff_toInt_lt, Int32.le_iff_toInt_le, Int64.lt_iff_toInt_lt, Int64.le_iff_toInt_le, Int32.toInt_toInt64, ← Int32.toInt_inj, ← Int64.toInt_inj, Int32.reduceToInt, Int64.reduceToInt] <;> omega)
    refine va_iald hx hb hK hP 1 0 rfl rfl (by revert h_x_0 h_x_2 e4 e5; simp only [vp_in_iff, Int32.lt_iff_toInt_lt, Int32.le_iff_toInt_le, Int64.lt_iff_toInt_lt, Int64.le_iff_toInt_le, Int32.toInt_toInt64, ← Int32.toInt_inj, ← Int64.toInt_inj, Int32.reduceToInt, Int64.reduceToInt] <;> omega) dX2_scoreWith_19 ?_
    refine lv_topi (fun y6 ey6 => ?_)
    refine lv_iconst (v := (-1)) hx hb dX2_scoreWith_20 (by decide) ?_
    refine lv_icmp_ne (tgt := 26) hx hb dX2_scoreWith_21 (by decide) (fun c7 => ?_) (fun c7 => ?_)
    · refine lv_aload_n hx hb dX2_scoreWith_26 rfl (lv_at hl 0 rfl) ?_
      refine va_get (D := D) (ci := 2) (v := .ref q_2) (C := RX2) (T := TX2) (N := 14) hx hb hts inX2 hown hK hP 0 rfl rfl 6 (by decide) (hts _ kF_X2_22) (fun _ h9 => h9) rfl dX2_scoreWith_27 ?_
      refine lv_iload_n hx hb dX2_scoreWith_30 rfl (lv_at hl 1 rfl) ?_
      refine lv_iconst (v := 1) hx hb dX2_scoreWith_31 (by decide) ?_
      refine lv_iadd hx hb dX2_scoreWith_32 ?_
      have e8 : Int32.toInt (x_0 + 1) = Int32.toInt x_0 + Int32.toInt (1 : Int32) := zi_add (by revert h_x_0 e4 e5 h_x_2; simp only [vp_in_iff, Int32.lt_iff_toInt_lt, Int32.le_iff_toInt_le, Int64.lt_iff_toInt_lt, Int64.le_iff_toInt_le, Int32.toInt_toInt64, ← Int32.toInt_inj, ← Int64.toInt_inj, Int32.reduceToInt, Int64.reduceToInt] <;> omega)
      refine lv_bipush (v := 64) hx hb dX2_scoreWith_33 (by decide) ?_
      refine lv_imul hx hb dX2_scoreWith_35 ?_
      have e9 : Int32.toInt ((x_0 + 1) * 64) = Int32.toInt (x_0 + 1) * Int32.toInt (64 : Int32) := zi_mul (by revert h_x_0 e4 e5 e8 h_x_2; simp only [vp_in_iff, Int32.lt_iff_toInt_lt, Int32.le_iff_toInt_le, Int64.lt_iff_toInt_lt, Int64.le_iff_toInt_le, Int32.toInt_toInt64, ← Int32.toInt_inj, ← Int64.toInt_inj, Int32.reduceToInt, Int64.reduceToInt] <;> omega)
      refine lv_iload_n hx hb dX2_scoreWith_36 rfl (lv_at hl 2 rfl) ?_
      refine lv_iconst (v := 1) hx hb dX2_scoreWith_37 (by decide) ?_
      refine lv_iload_n hx hb dX2_scoreWith_38 rfl (lv_at hl 3 rfl) ?_
      refine lv_ishl hx hb dX2_scoreWith_39 ?_
      refine lv_topi (fun y10 ey10 => ?_)
      have hy10 : 1 ≤ Int32.toInt y10 ∧ Int32.toInt y10 ≤ 32 := by rw [ey10]; exact zo_shl1 5 (show 0 ≤ Int32.toInt x_2 ∧ Int32.toInt x_2 ≤ 5 by revert h_x_2 e5 e8 e9 h_x_0 e4; simp only [vp_in_iff, Int32.lt_iff_toInt_lt, Int32.le_iff_toInt_le, Int64.lt_iff_toInt_lt, Int64.le_iff_toInt_le, Int32.toInt_toInt64, ← Int32.toInt_inj, ← Int64.toInt_inj, Int32.reduceToInt, Int64.reduceToInt] <;> omega) (by decide)
      refine lv_ior hx hb dX2_scoreWith_40 ?_
      refine lv_topi (fun y11 ey11 => ?_)
      have hy11 : 0 ≤ Int32.toInt y11 ∧ Int32.toInt y11 ≤ 63 := by rw [ey11]; exact zo_or 6 (show 0 ≤ Int32.toInt x_1 ∧ Int32.toInt x_1 < 2 ^ 6 by revert h_x_1 hy10; simp only [vp_in_iff, Int32.lt_iff_toInt_lt, Int32.le_iff_toInt_le, Int64.lt_iff_toInt_lt, Int64.le_iff_toInt_le, Int32.toInt_toInt64, ← Int32.toInt_inj, ← Int64.toInt_inj, Int32.reduceToInt, Int64.reduceToInt] <;> omega) (show 0 ≤ Int32.toInt y10 ∧ Int32.toInt y10 < 2 ^ 6 by revert h_x_1 hy10; simp only [vp_in_iff, Int32.lt_iff_toInt_lt, Int32.le_iff_toInt_le, Int64.lt_iff_toInt_lt, Int64.le_iff_toInt_le, Int32.toInt_toInt64, ← Int32.toInt_inj, ← Int64.toInt_inj, Int32.reduceToInt, Int64.reduceToInt] <;> omega) (by decide)
      refine lv_iadd hx hb dX2_scoreWith_41 ?_
      have e12 : Int32.toInt (((x_0 + 1) * 64) + y11) = Int32.toInt ((x_0 + 1) * 64) + Int32.toInt y11 := zi_add (by revert h_x_0 e4 e5 e8 e9 hy11 h_x_2; simp only [vp_in_iff, Int32.lt_iff_toInt_lt, Int32.le_iff_toInt_le, Int64.lt_iff_toInt_lt, Int64.le_iff_toInt_le, Int32.toInt_toInt64, ← Int32.toInt_inj, ← Int64.toInt_inj, Int32.reduceToInt, Int64.reduceToInt] <;> omega)
      refine va_iald hx hb hK hP 2 0 rfl rfl (by revert h_x_0 e4 e5 e8 e9 hy11 e12 h_x_2; simp only [vp_in_iff, Int32.lt_iff_toInt_lt, Int32.le_iff_toInt_le, Int64.lt_iff_toInt_lt, Int64.le_iff_toInt_le, Int32.toInt_toInt64, ← Int32.toInt_inj, ← Int64.toInt_inj, Int32.reduceToInt, Int64.reduceToInt] <;> omega) dX2_scoreWith_42 ?_
      refine lv_topi (fun y13 ey13 => ?_)
      refine lv_aload_n hx hb dX2_scoreWith_43 rfl (lv_at hl 0 rfl) ?_
      refine va_get (D := D) (ci := 2) (v := .ref q_1) (C := RX2) (T := TX2) (N := 14) hx hb hts inX2 hown hK hP 0 rfl rfl 5 (by decide) (hts _ kF_X2_19) (fun _ h9 => h9) rfl dX2_scoreWith_44 ?_
      refine lv_iload_n hx hb dX2_scoreWith_47 rfl (lv_at hl 1 rfl) ?_
      refine lv_bipush (v := 6) hx hb dX2_scoreWith_48 (by decide) ?_
      refine lv_imul hx hb dX2_scoreWith_50 ?_
      have e14 : Int32.toInt (x_0 * 6) = Int32.toInt x_0 * Int32.toInt (6 : Int32) := zi_mul (by revert h_x_0 e4 e5 e8 e9 e12 h_x_2 hy11; simp only [vp_in_iff, Int32.lt_iff_toInt_lt, Int32.le_iff_toInt_le, Int64.lt_iff_toInt_lt, Int64.le_iff_toInt_le, Int32.toInt_toInt64, ← Int32.toInt_inj, ← Int64.toInt_inj, Int32.reduceToInt, Int64.reduceToInt] <;> omega)
      refine lv_iload_n hx hb dX2_scoreWith_51 rfl (lv_at hl 3 rfl) ?_
      refine lv_iadd hx hb dX2_scoreWith_52 ?_
      have e15 : Int32.toInt ((x_0 * 6) + x_2) = Int32.toInt (x_0 * 6) + Int32.toInt x_2 := zi_add (by revert h_x_0 h_x_2 e4 e5 e8 e9 e12 e14 hy11; simp only [vp_in_iff, Int32.lt_iff_toInt_lt, Int32.le_iff_toInt_le, Int64.lt_iff_toInt_lt, Int64.le_iff_toInt_le, Int32.toInt_toInt64, ← Int32.toInt_inj, ← Int64.toInt_inj, Int32.reduceToInt, Int64.reduceToInt] <;> omega)
      refine va_iald hx hb hK hP 1 0 rfl rfl (by revert h_x_0 h_x_2 e4 e5 e8 e9 e12 e14 e15 hy11; simp only [vp_in_iff, Int32.lt_iff_toInt_lt, Int32.le_iff_toInt_le, Int64.lt_iff_toInt_lt, Int64.le_iff_toInt_le, Int32.toInt_toInt64, ← Int32.toInt_inj, ← Int64.toInt_inj, Int32.reduceToInt, Int64.reduceToInt] <;> omega) dX2_scoreWith_53 ?_
      refine lv_toc (v := y6) ey6.symm ?_
      refine lv_bipush (v := 8) hx hb dX2_scoreWith_54 (by decide) ?_
      refine lv_imul hx hb dX2_scoreWith_56 ?_
      refine lv_iadd hx hb dX2_scoreWith_57 ?_
      refine lv_iconst (v := 1) hx hb dX2_scoreWith_58 (by decide) ?_
      refine lv_iadd hx hb dX2_scoreWith_59 ?_
      exact z_iret C0 hr hlk rfl hK hP hD hS (0, fun _ => 0, fun _ => 0, fun _ => 0, fun _ => (fun _ => 0), fun _ => (fun _ => 0), fun _ => (fun _ => none)) rfl [0, 1, 2] rfl rfl rfl dX2_scoreWith_60
    · refine lv_iconst (v := (-1)) hx hb dX2_scoreWith_24 (by decide) ?_
      exact z_iret C0 hr hlk rfl hK hP hD hS (0, fun _ => 0, fun _ => 0, fun _ => 0, fun _ => (fun _ => 0), fun _ => (fun _ => 0), fun _ => (fun _ => none)) rfl [0, 1, 2] rfl rfl rfl dX2_scoreWith_25

set_option maxHeartbeats 4000000 in
set_option maxRecDepth 100000 in
theorem s_X2_weighJoins_3 (l : Launch) (D : va_G) (k : Nat → ClassId) (q_0 : Nat) (q_1 : Nat) (q_2 : Nat) (q_3 : Nat) (q_4 : Nat) (q_5 : Nat) (q_6 : Nat) (q_7 : Nat) (q_8 : Nat) (q_9 : Nat) (q_10 : Nat) (q_11 : Nat) (q_12 : Nat) (q_13 : Nat) (q_14 : Nat) (q_15 : Nat) (q_16 : Nat) (q_17 : Nat) (q_18 : Nat) (x_0 : Int32) (x_1 : Int32) (x_2 : Int32) (x_3 : Int32) (x_4 : Int32) (x_5 : Int32) (x_6 : Int32) (f_7 : Nat → Int32) (f_8 : Nat → Int32) (x_9 : Int32) (x_10 : Int32) (x_11 : Int32) (x_12 : Int32) (f_13 : Nat → Int32) (h_x_0 : 0 ≤ Int32.toInt x_0 ∧ Int32.toInt x_0 ≤ 5) (h_x_1 : 0 ≤ Int32.toInt x_1 ∧ Int32.toInt x_1 ≤ 2) (h_x_2 : 0 ≤ Int32.toInt x_2 ∧ Int32.toInt x_2 ≤ 6) (h_x_9 : 0 ≤ Int32.toInt x_9 ∧ Int32.toInt x_9 ≤ 6) (h_x_10 : 1 ≤ Int32.toInt x_10 ∧ Int32.toInt x_10 ≤ 6) (h_x_11 : 0 ≤ Int32.toInt x_11 ∧ Int32.toInt x_11 ≤ 9) (h_x_12 : 0 ≤ Int32.toInt x_12 ∧ Int32.toInt x_12 ≤ 12) : zMv l yX2_weighJoins cX2_weighJoins 8 none ({ frames := 1, cells := 0, slots := 0, locals := 23 }) D k [.ref q_0, .int x_0, .int x_1] [(q_0, .inr (2, [.ref q_5, .ref q_3, .ref q_6, .int x_2, .int x_3, .ref q_4, .ref q_1, .ref q_2, .int x_4, .int x_5, .int x_6, .ref q_7, .ref q_8, .ref q_9])), (q_1, .inl (k 0, 448, .inl f_7)), (q_2, .inl (k 0, 448, .inl f_8)), (q_3, .inr (4, [.int x_9, .ref q_10, .int x_10, .ref q_11, .ref q_12, .int x_11, .ref q_13, .ref q_14, .ref q_15, .int x_12, .ref q_16, .ref q_17, .ref q_18])), (q_4, .inl (k 0, 36, .inl f_13))] (fun u => u.1 = 0) (fun u => [(q_0, .inr (2, [.ref q_5, .ref q_3, .ref q_6, .int x_2, .int x_3, .ref q_4, .ref q_1, .ref q_2, .int x_4, .int x_5, .int x_6, .ref q_7, .ref q_8, .ref q_9])), (q_1, .inl (k 0, 448, .inl (u.2.2.2.2.1 0))), (q_2, .inl (k 0, 448, .inl (u.2.2.2.2.1 1))), (q_3, .inr (4, [.int x_9, .ref q_10, .int x_10, .ref q_11, .ref q_12, .int x_11, .ref q_13, .ref q_14, .ref q_15, .int x_12, .ref q_16, .ref q_17, .ref q_18])), (q_4, .inl (k 0, 36, .inl f_13))]) := by
  refine zMv_of (own := RX2) (by decide +kernel) rfl (Nat.le_of_ble_eq_true rfl) ?_
  intro p e s m args below meth c A ls C0 hr hlk hin hP hD hS hA hK hN hl
  have hx := C0.1
  have hb := C0.2.1
  have hml := C0.2.2.1
  have hown := C0.2.2.2.1
  have hts := C0.2.2.2.2
  have hl : lv_has ls 8 [(0, .ref q_0), (1, .int x_0), (2, .int x_1)] := hl
  have hP : va_P D vwCl [(q_0, .inr (2, [.ref q_5, .ref q_3, .ref q_6, .int x_2, .int x_3, .ref q_4, .ref q_1, .ref q_2, .int x_4, .int x_5, .int x_6, .ref q_7, .ref q_8, .ref q_9])), (q_1, .inl (k 0, 448, .inl f_7)), (q_2, .inl (k 0, 448, .inl f_8)), (q_3, .inr (4, [.int x_9, .ref q_10, .int x_10, .ref q_11, .ref q_12, .int x_11, .ref q_13, .ref q_14, .ref q_15, .int x_12, .ref q_16, .ref q_17, .ref q_18])), (q_4, .inl (k 0, 36, .inl f_13))] s.heap := hP
  refine lv_iload_n hx hb dX2_weighJoins_0 rfl (lv_at hl 1 rfl) ?_
  refine lv_bipush (v := 64) hx hb dX2_weighJoins_1 (by decide) ?_
  refine lv_imul hx hb dX2_weighJoins_3 ?_
  have e1 : Int32.toInt (x_0 * 64) = Int32.toInt x_0 * Int32.toInt (64 : Int32) := zi_mul (by revert h_x_0; simp only [vp_in_iff, Int32.lt_iff_toInt_lt, Int32.le_iff_toInt_le, Int64.lt_iff_toInt_lt, Int64.le_iff_toInt_le, Int32.toInt_toInt64, ← Int32.toInt_inj, ← Int64.toInt_inj, Int32.reduceToInt, Int64.reduceToInt] <;> omega)
  refine lv_iload_n hx hb dX2_weighJoins_4 rfl (lv_at hl 2 rfl) ?_
  refine lv_iadd hx hb dX2_weighJoins_5 ?_
  have e2 : Int32.toInt ((x_0 * 64) + x_1) = Int32.toInt (x_0 * 64) + Int32.toInt x_1 := zi_add (by revert h_x_0 h_x_1 e1; simp only [vp_in_iff, Int32.lt_iff_toInt_lt, Int32.le_iff_toInt_le, Int64.lt_iff_toInt_lt, Int64.le_iff_toInt_le, Int32.toInt_toInt64, ← Int32.toInt_inj, ← Int64.toInt_inj, Int32.reduceToInt, Int64.reduceToInt] <;> omega)
  refine lv_istore_n (lv' := [(3, .int ((x_0 * 64) + x_1)), (0, .ref q_0), (1, .int x_0), (2, .int x_1)]) hx hb dX2_weighJoins_6 rfl hl (by decide) rfl (fun ls hl => ?_)
  refine lv_aload_n hx hb dX2_weighJoins_7 rfl (lv_at hl 1 rfl) ?_
  refine va_get (D := D) (ci := 2) (v := .ref q_1) (C := RX2) (T := TX2) (N := 14) hx hb hts inX2 hown hK hP 0 rfl rfl 6 (by decide) (hts _ kF_X2_22) (fun _ h9 => h9) rfl dX2_weighJoins_8 ?_
  refine lv_iload_n hx hb dX2_weighJoins_11 rfl (lv_at hl 0 rfl) ?_
  refine lv_bipush (v := 64) hx hb dX2_weighJoins_12 (by decide) ?_
  refine lv_iadd hx hb dX2_weighJoins_14 ?_
  have e3 : Int32.toInt (((x_0 * 64) + x_1) + 64) = Int32.toInt ((x_0 * 64) + x_1) + Int32.toInt (64 : Int32) := zi_add (by revert h_x_0 h_x_1 e1 e2; simp only [vp_in_iff, Int32.lt_iff_toInt_lt, Int32.le_iff_toInt_le, Int64.lt_iff_toInt_lt, Int64.le_iff_toInt_le, Int32.toInt_toInt64, ← Int32.toInt_inj, ← Int64.toInt_inj, Int32.reduceToInt, Int64.reduceToInt] <;> omega)
  refine va_iald hx hb hK hP 1 0 rfl rfl (by revert h_x_0 h_x_1 e1 e2 e3; simp only [vp_in_iff, Int32.lt_iff_toInt_lt, Int32.le_iff_toInt_le, Int64.lt_iff_toInt_lt, Int64.le_iff_toInt_le, Int32.toInt_toInt64, ← Int32.toInt_inj, ← Int64.toInt_inj, Int32.reduceToInt, Int64.reduceToInt] <;> omega) dX2_weighJoins_15 ?_
  refine lv_topi (fun y4 ey4 => ?_)
  refine lv_istore (lv' := [(4, .int y4), (3, .int ((x_0 * 64) + x_1)), (0, .ref q_0), (1, .int x_0), (2, .int x_1)]) hx hb dX2_weighJoins_16 hl (by decide) rfl (fun ls hl => ?_)
  refine lv_aload_n hx hb dX2_weighJoins_18 rfl (lv_at hl 2 rfl) ?_
  refine va_get (D := D) (ci := 2) (v := .ref q_2) (C := RX2) (T := TX2) (N := 14) hx hb hts inX2 hown hK hP 0 rfl rfl 7 (by decide) (hts _ kF_X2_25) (fun _ h9 => h9) rfl dX2_weighJoins_19 ?_
  refine lv_iload_n hx hb dX2_weighJoins_22 rfl (lv_at hl 1 rfl) ?_
  refine lv_bipush (v := 64) hx hb dX2_weighJoins_23 (by decide) ?_
  refine lv_iadd hx hb dX2_weighJoins_25 ?_
  have e5 : Int32.toInt (((x_0 * 64) + x_1) + 64) = Int32.toInt ((x_0 * 64) + x_1) + Int32.toInt (64 : Int32) := zi_add (by revert h_x_0 h_x_1 e1 e2 e3; simp only [vp_in_iff, Int32.lt_iff_toInt_lt, Int32.le_iff_toInt_le, Int64.lt_iff_toInt_lt, Int64.le_iff_toInt_le, Int32.toInt_toInt64, ← Int32.toInt_inj, ← Int64.toInt_inj, Int32.reduceToInt, Int64.reduceToInt] <;> omega)
  refine va_iald hx hb hK hP 2 0 rfl rfl (by revert h_x_0 h_x_1 e1 e2 e3 e5; simp only [vp_in_iff, Int32.lt_iff_toInt_lt, Int32.le_iff_toInt_le, Int64.lt_iff_toInt_lt, Int64.le_iff_toInt_le, Int32.toInt_toInt64, ← Int32.toInt_inj, ← Int64.toInt_inj, Int32.reduceToInt, Int64.reduceToInt] <;> omega) dX2_weighJoins_26 ?_
  refine lv_topi (fun y6 ey6 => ?_)
  refine lv_istore (lv' := [(5, .int y6), (4, .int y4), (3, .int ((x_0 * 64) + x_1)), (0, .ref q_0), (1, .int x_0), (2, .int x_1)]) hx hb dX2_weighJoins_27 hl (by decide) rfl (fun ls hl => ?_)
  refine lv_iconst (v := 0) hx hb dX2_weighJoins_29 (by decide) ?_
  refine lv_istore (lv' := [(6, .int 0), (5, .int y6), (4, .int y4), (3, .int ((x_0 * 64) + x_1)), (0, .ref q_0), (1, .int x_0), (2, .int x_1)]) hx hb dX2_weighJoins_30 hl (by decide) rfl (fun ls hl => ?_)
  have loop25 : ∀ (N26 : Nat) (y22 : Int32) (y23 : Int32) (y24 : Int32) (H : Heap) (locs : List Loc) (ls : Array Slot), Int.toNat (6 - Int32.toInt y22) < N26 → 0 ≤ Int32.toInt y22 ∧ Int32.toInt y22 ≤ 6 → va_P D vwCl [(q_0, .inr (2, [.ref q_5, .ref q_3, .ref q_6, .int x_2, .int x_3, .ref q_4, .ref q_1, .ref q_2, .int x_4, .int x_5, .int x_6, .ref q_7, .ref q_8, .ref q_9])), (q_1, .inl (k 0, 448, .inl f_7)), (q_2, .inl (k 0, 448, .inl f_8)), (q_3, .inr (4, [.int x_9, .ref q_10, .int x_10, .ref q_11, .ref q_12, .int x_11, .ref q_13, .ref q_14, .ref q_15, .int x_12, .ref q_16, .ref q_17, .ref q_18])), (q_4, .inl (k 0, 36, .inl f_13))] H → va_D A [(q_0, .inr (2, [.ref q_5, .ref q_3, .ref q_6, .int x_2, .int x_3, .ref q_4, .ref q_1, .ref q_2, .int x_4, .int x_5, .int x_6, .ref q_7, .ref q_8, .ref q_9])), (q_1, .inl (k 0, 448, .inl f_7)), (q_2, .inl (k 0, 448, .inl f_8)), (q_3, .inr (4, [.int x_9, .ref q_10, .int x_10, .ref q_11, .ref q_12, .int x_11, .ref q_13, .ref q_14, .ref q_15, .int x_12, .ref q_16, .ref q_17, .ref q_18])), (q_4, .inl (k 0, 36, .inl f_13))] → va_S A s.heap H locs → lv_has ls 8 [(6, .int y22), (5, .int y23), (4, .int y24), (3, .int ((x_0 * 64) + x_1)), (0, .ref q_0), (1, .int x_0), (2, .int x_1)] → W p l e { frames := 1, cells := 0, slots := 0, locals := 23 } s m args below meth c H locs 0 0 (MQ below (va_Qv (fun (u : zS) => u.1 = 0) (zB D k A (fun (u : zS) => [(q_0, .inr (2, [.ref q_5, .ref q_3, .ref q_6, .int x_2, .int x_3, .ref q_4, .ref q_1, .ref q_2, .int x_4, .int x_5, .int x_6, .ref q_7, .ref q_8, .ref q_9])), (q_1, .inl (k 0, 448, .inl (u.2.2.2.2.1 0))), (q_2, .inl (k 0, 448, .inl (u.2.2.2.2.1 1))), (q_3, .inr (4, [.int x_9, .ref q_10, .int x_10, .ref q_11, .ref q_12, .int x_11, .ref q_13, .ref q_14, .ref q_15, .int x_12, .ref q_16, .ref q_17, .ref q_18])), (q_4, .inl (k 0, 36, .inl f_13))])) A) args s 0 0 A) (F0 m 32 ls []) := by
    intro N26
    induction N26 with
    | zero => intro y22 y23 y24 H locs ls hm; exact absurd hm (Nat.not_lt_zero _)
    | succ N26 ihN26 =>
      intro y22 y23 y24 H locs ls hN26 hy22 hP hD hS hl
      refine lv_iload hx hb dX2_weighJoins_32 (lv_at hl 0 rfl) ?_
      refine lv_aload_n hx hb dX2_weighJoins_34 rfl (lv_at hl 4 rfl) ?_
      refine va_get (D := D) (ci := 2) (v := .ref q_3) (C := RX2) (T := TX2) (N := 14) hx hb hts inX2 hown hK hP 0 rfl rfl 1 (by decide) (hts _ kF_X2_48) (fun _ h9 => h9) rfl dX2_weighJoins_35 ?_
      refine va_get (D := D) (ci := 4) (v := .int x_9) (C := RX4) (T := TX4) (N := 13) hx hb hts inX4 hown hK hP 3 rfl rfl 0 (by decide) (hts _ kF_X2_49) (fun _ h9 => h9) rfl dX2_weighJoins_38 ?_
      refine lv_icmp_ge (tgt := 104) hx hb dX2_weighJoins_41 (by decide) (fun c27 => ?_) (fun c27 => ?_)
      · refine lv_aload_n hx hb dX2_weighJoins_104 rfl (lv_at hl 4 rfl) ?_
        refine va_get (D := D) (ci := 2) (v := .ref q_1) (C := RX2) (T := TX2) (N := 14) hx hb hts inX2 hown hK hP 0 rfl rfl 6 (by decide) (hts _ kF_X2_22) (fun _ h9 => h9) rfl dX2_weighJoins_105 ?_
        refine lv_iload_n hx hb dX2_weighJoins_108 rfl (lv_at hl 3 rfl) ?_
        refine lv_iload hx hb dX2_weighJoins_109 (lv_at hl 2 rfl) ?_
        refine va_iast hx hb hK hP hD hS 1 0 rfl rfl (by revert h_x_0 h_x_1 e1 e2 e3 e5; simp only [vp_in_iff, Int32.lt_iff_toInt_lt, Int32.le_iff_toInt_le, Int64.lt_iff_toInt_lt, Int64.le_iff_toInt_le, Int32.toInt_toInt64, ← Int32.toInt_inj, ← Int64.toInt_inj, Int32.reduceToInt, Int64.reduceToInt] <;> omega) dX2_weighJoins_111 (fun H locs hP hD hS => ?_)
        obtain ⟨F28, eF28⟩ : ∃ q, q = upd f_7 (Int32.toNatClampNeg ((x_0 * 64) + x_1)) y24 := ⟨_, rfl⟩
        have hP : va_P D vwCl [(q_0, .inr (2, [.ref q_5, .ref q_3, .ref q_6, .int x_2, .int x_3, .ref q_4, .ref q_1, .ref q_2, .int x_4, .int x_5, .int x_6, .ref q_7, .ref q_8, .ref q_9])), (q_1, .inl (k 0, 448, .inl F28)), (q_2, .inl (k 0, 448, .inl f_8)), (q_3, .inr (4, [.int x_9, .ref q_10, .int x_10, .ref q_11, .ref q_12, .int x_11, .ref q_13, .ref q_14, .ref q_15, .int x_12, .ref q_16, .ref q_17, .ref q_18])), (q_4, .inl (k 0, 36, .inl f_13))] H := by rw [eF28]; exact hP
        have hD : va_D A [(q_0, .inr (2, [.ref q_5, .ref q_3, .ref q_6, .int x_2, .int x_3, .ref q_4, .ref q_1, .ref q_2, .int x_4, .int x_5, .int x_6, .ref q_7, .ref q_8, .ref q_9])), (q_1, .inl (k 0, 448, .inl F28)), (q_2, .inl (k 0, 448, .inl f_8)), (q_3, .inr (4, [.int x_9, .ref q_10, .int x_10, .ref q_11, .ref q_12, .int x_11, .ref q_13, .ref q_14, .ref q_15, .int x_12, .ref q_16, .ref q_17, .ref q_18])), (q_4, .inl (k 0, 36, .inl f_13))] := by rw [eF28]; exact hD
        refine lv_aload_n hx hb dX2_weighJoins_112 rfl (lv_at hl 4 rfl) ?_
        refine va_get (D := D) (ci := 2) (v := .ref q_2) (C := RX2) (T := TX2) (N := 14) hx hb hts inX2 hown hK hP 0 rfl rfl 7 (by decide) (hts _ kF_X2_25) (fun _ h9 => h9) rfl dX2_weighJoins_113 ?_
        refine lv_iload_n hx hb dX2_weighJoins_116 rfl (lv_at hl 3 rfl) ?_
        refine lv_iload hx hb dX2_weighJoins_117 (lv_at hl 1 rfl) ?_
        refine va_iast hx hb hK hP hD hS 2 0 rfl rfl (by revert h_x_0 h_x_1 e1 e2 e3 e5; simp only [vp_in_iff, Int32.lt_iff_toInt_lt, Int32.le_iff_toInt_le, Int64.lt_iff_toInt_lt, Int64.le_iff_toInt_le, Int32.toInt_toInt64, ← Int32.toInt_inj, ← Int64.toInt_inj, Int32.reduceToInt, Int64.reduceToInt] <;> omega) dX2_weighJoins_119 (fun H locs hP hD hS => ?_)
        obtain ⟨F29, eF29⟩ : ∃ q, q = upd f_8 (Int32.toNatClampNeg ((x_0 * 64) + x_1)) y23 := ⟨_, rfl⟩
        have hP : va_P D vwCl [(q_0, .inr (2, [.ref q_5, .ref q_3, .ref q_6, .int x_2, .int x_3, .ref q_4, .ref q_1, .ref q_2, .int x_4, .int x_5, .int x_6, .ref q_7, .ref q_8, .ref q_9])), (q_1, .inl (k 0, 448, .inl F28)), (q_2, .inl (k 0, 448, .inl F29)), (q_3, .inr (4, [.int x_9, .ref q_10, .int x_10, .ref q_11, .ref q_12, .int x_11, .ref q_13, .ref q_14, .ref q_15, .int x_12, .ref q_16, .ref q_17, .ref q_18])), (q_4, .inl (k 0, 36, .inl f_13))] H := by rw [eF29]; exact hP
        have hD : va_D A [(q_0, .inr (2, [.ref q_5, .ref q_3, .ref q_6, .int x_2, .int x_3, .ref q_4, .ref q_1, .ref q_2, .int x_4, .int x_5, .int x_6, .ref q_7, .ref q_8, .ref q_9])), (q_1, .inl (k 0, 448, .inl F28)), (q_2, .inl (k 0, 448, .inl F29)), (q_3, .inr (4, [.int x_9, .ref q_10, .int x_10, .ref q_11, .ref q_12, .int x_11, .ref q_13, .ref q_14, .ref q_15, .int x_12, .ref q_16, .ref q_17, .ref q_18])), (q_4, .inl (k 0, 36, .inl f_13))] := by rw [eF29]; exact hD
        exact z_vret C0 hr hlk hK hP hD hS (0, fun _ => 0, fun _ => 0, fun _ => 0, fun i => [F28, F29].getD i (fun _ => 0), fun _ => (fun _ => 0), fun _ => (fun _ => none)) rfl [0, 1, 2, 3, 4] rfl rfl rfl dX2_weighJoins_120
      · refine lv_aload_n hx hb dX2_weighJoins_44 rfl (lv_at hl 4 rfl) ?_
        refine lv_iload_n hx hb dX2_weighJoins_45 rfl (lv_at hl 5 rfl) ?_
        refine lv_iload_n hx hb dX2_weighJoins_46 rfl (lv_at hl 6 rfl) ?_
        refine lv_iload hx hb dX2_weighJoins_47 (lv_at hl 0 rfl) ?_
        refine z_bi (wr := [(q_2, .inl (k 0, 448, .inl f_8)), (q_3, .inr (4, [.int x_9, .ref q_10, .int x_10, .ref q_11, .ref q_12, .int x_11, .ref q_13, .ref q_14, .ref q_15, .int x_12, .ref q_16, .ref q_17, .ref q_18]))]) (z_runV (C := RX2) (As := [.int x_0, .int x_1, .int y22]) (rest := []) C0 (s_X2_scoreWith_15 l D k q_0 q_4 q_1 q_5 q_3 q_6 q_2 q_7 q_8 q_9 x_0 x_1 y22 x_2 x_3 x_4 x_5 x_6 f_13 f_7 (by revert h_x_0 e1 e2 e3 e5 h_x_1; simp only [vp_in_iff, Int32.lt_iff_toInt_lt, Int32.le_iff_toInt_le, Int64.lt_iff_toInt_lt, Int64.le_iff_toInt_le, Int32.toInt_toInt64, ← Int32.toInt_inj, ← Int64.toInt_inj, Int32.reduceToInt, Int64.reduceToInt] <;> omega) (by revert h_x_1 e2 e3 e5 h_x_0 e1; simp only [vp_in_iff, Int32.lt_iff_toInt_lt, Int32.le_iff_toInt_le, Int64.lt_iff_toInt_lt, Int64.le_iff_toInt_le, Int32.toInt_toInt64, ← Int32.toInt_inj, ← Int64.toInt_inj, Int32.reduceToInt, Int64.reduceToInt] <;> omega) (by revert hN26 hy22 c27 h_x_9; simp only [vp_in_iff, Int32.lt_iff_toInt_lt, Int32.le_iff_toInt_le, Int64.lt_iff_toInt_lt, Int64.le_iff_toInt_le, Int32.toInt_toInt64, ← Int32.toInt_inj, ← Int64.toInt_inj, Int32.reduceToInt, Int64.reduceToInt] <;> omega) (by revert h_x_2; simp only [vp_in_iff, Int32.lt_iff_toInt_lt, Int32.le_iff_toInt_le, Int64.lt_iff_toInt_lt, Int64.le_iff_toInt_le, Int32.toInt_toInt64, ← Int32.toInt_inj, ← Int64.toInt_inj, Int32.reduceToInt, Int64.reduceToInt] <;> omega) _) okV_X2_scoreWith kM_X2_78 rfl (z_pV (q0 := 0) hK hN hP hD [0, 4, 1] rfl rfl rfl rfl rfl) rfl hl.1 rfl (Nat.le_of_ble_eq_true rfl) dX2_weighJoins_49 rfl) hP hD hS hA [0, 4, 1] [2, 3] rfl rfl rfl rfl (fun r30 u30 H locs hw30 hP hD hS => ?_)
        obtain ⟨i30, a30, v30, w30, f30, g30, o30⟩ := u30
        dsimp only at hw30
        obtain rfl := hw30
        have hP : va_P D vwCl [(q_2, .inl (k 0, 448, .inl f_8)), (q_3, .inr (4, [.int x_9, .ref q_10, .int x_10, .ref q_11, .ref q_12, .int x_11, .ref q_13, .ref q_14, .ref q_15, .int x_12, .ref q_16, .ref q_17, .ref q_18])), (q_0, .inr (2, [.ref q_5, .ref q_3, .ref q_6, .int x_2, .int x_3, .ref q_4, .ref q_1, .ref q_2, .int x_4, .int x_5, .int x_6, .ref q_7, .ref q_8, .ref q_9])), (q_4, .inl (k 0, 36, .inl f_13)), (q_1, .inl (k 0, 448, .inl f_7))] H := hP
        have hD : va_D A [(q_2, .inl (k 0, 448, .inl f_8)), (q_3, .inr (4, [.int x_9, .ref q_10, .int x_10, .ref q_11, .ref q_12, .int x_11, .ref q_13, .ref q_14, .ref q_15, .int x_12, .ref q_16, .ref q_17, .ref q_18])), (q_0, .inr (2, [.ref q_5, .ref q_3, .ref q_6, .int x_2, .int x_3, .ref q_4, .ref q_1, .ref q_2, .int x_4, .int x_5, .int x_6, .ref q_7, .ref q_8, .ref q_9])), (q_4, .inl (k 0, 36, .inl f_13)), (q_1, .inl (k 0, 448, .inl f_7))] := hD
        refine lv_istore (lv' := [(7, .int r30), (6, .int y22), (5, .int y23), (4, .int y24), (3, .int ((x_0 * 64) + x_1)), (0, .ref q_0), (1, .int x_0), (2, .int x_1)]) hx hb dX2_weighJoins_52 hl (by decide) rfl (fun ls hl => ?_)
        refine lv_iload hx hb dX2_weighJoins_54 (lv_at hl 0 rfl) ?_
        refine lv_iload hx hb dX2_weighJoins_56 (lv_at hl 3 rfl) ?_
        refine lv_icmp_le (tgt := 68) hx hb dX2_weighJoins_58 (by decide) (fun c31 => ?_) (fun c31 => ?_)
        · refine lv_iload hx hb dX2_weighJoins_68 (lv_at hl 0 rfl) ?_
          refine lv_iload hx hb dX2_weighJoins_70 (lv_at hl 3 rfl) ?_
          refine lv_icmp_ne (tgt := 98) hx hb dX2_weighJoins_72 (by decide) (fun c32 => ?_) (fun c32 => ?_)
          · have e33 : Int32.toInt (y22 + 1) = Int32.toInt y22 + Int32.toInt (1 : Int32) := zi_add (by revert hN26 hy22 c27 h_x_9; simp only [vp_in_iff, Int32.lt_iff_toInt_lt, Int32.le_iff_toInt_le, Int64.lt_iff_toInt_lt, Int64.le_iff_toInt_le, Int32.toInt_toInt64, ← Int32.toInt_inj, ← Int64.toInt_inj, Int32.reduceToInt, Int64.reduceToInt] <;> omega)
            refine lv_iinc (v := (y22 + 1)) (lv' := [(6, .int (y22 + 1)), (7, .int r30), (5, .int y23), (4, .int y24), (3, .int ((x_0 * 64) + x_1)), (0, .ref q_0), (1, .int x_0), (2, .int x_1)]) hx hb dX2_weighJoins_98 hl (k := 1) rfl rfl (by decide) rfl (fun ls hl => ?_)
            refine lv_goto (tgt := 32) hx hb dX2_weighJoins_101 (by decide) ?_
            exact ihN26 (y22 + 1) y23 y24 _ _ ls (by revert hN26 hy22 c27 e33 h_x_9; simp only [vp_in_iff, Int32.lt_iff_toInt_lt, Int32.le_iff_toInt_le, Int64.lt_iff_toInt_lt, Int64.le_iff_toInt_le, Int32.toInt_toInt64, ← Int32.toInt_inj, ← Int64.toInt_inj, Int32.reduceToInt, Int64.reduceToInt] <;> omega) (by revert hN26 hy22 c27 e33 h_x_9; simp only [vp_in_iff, Int32.lt_iff_toInt_lt, Int32.le_iff_toInt_le, Int64.lt_iff_toInt_lt, Int64.le_iff_toInt_le, Int32.toInt_toInt64, ← Int32.toInt_inj, ← Int64.toInt_inj, Int32.reduceToInt, Int64.reduceToInt] <;> omega) (z_sub hP [2, 4, 0, 1, 3] rfl) (hD.sub [2, 4, 0, 1, 3] rfl rfl) hS (lv_sub hl [0, 2, 3, 4, 5, 6, 7] rfl)
          · refine lv_iload hx hb dX2_weighJoins_75 (lv_at hl 2 rfl) ?_
            refine lv_aload_n hx hb dX2_weighJoins_77 rfl (lv_at hl 5 rfl) ?_
            refine va_get (D := D) (ci := 2) (v := .ref q_2) (C := RX2) (T := TX2) (N := 14) hx hb hts inX2 hown hK hP 2 rfl rfl 7 (by decide) (hts _ kF_X2_25) (fun _ h9 => h9) rfl dX2_weighJoins_78 ?_
            refine lv_iload_n hx hb dX2_weighJoins_81 rfl (lv_at hl 6 rfl) ?_
            refine lv_iconst (v := 1) hx hb dX2_weighJoins_82 (by decide) ?_
            refine lv_iadd hx hb dX2_weighJoins_83 ?_
            have e34 : Int32.toInt (x_0 + 1) = Int32.toInt x_0 + Int32.toInt (1 : Int32) := zi_add (by revert h_x_0 e1 e2 e3 e5 h_x_1; simp only [vp_in_iff, Int32.lt_iff_toInt_lt, Int32.le_iff_toInt_le, Int64.lt_iff_toInt_lt, Int64.le_iff_toInt_le, Int32.toInt_toInt64, ← Int32.toInt_inj, ← Int64.toInt_inj, Int32.reduceToInt, Int64.reduceToInt] <;> omega)
            refine lv_bipush (v := 64) hx hb dX2_weighJoins_84 (by decide) ?_
            refine lv_imul hx hb dX2_weighJoins_86 ?_
            have e35 : Int32.toInt ((x_0 + 1) * 64) = Int32.toInt (x_0 + 1) * Int32.toInt (64 : Int32) := zi_mul (by revert h_x_0 e1 e2 e3 e5 e34 h_x_1; simp only [vp_in_iff, Int32.lt_iff_toInt_lt, Int32.le_iff_toInt_le, Int64.lt_iff_toInt_lt, Int64.le_iff_toInt_le, Int32.toInt_toInt64, ← Int32.toInt_inj, ← Int64.toInt_inj, Int32.reduceToInt, Int64.reduceToInt] <;> omega)
            refine lv_iload_n hx hb dX2_weighJoins_87 rfl (lv_at hl 7 rfl) ?_
            refine lv_iconst (v := 1) hx hb dX2_weighJoins_88 (by decide) ?_
            refine lv_iload hx hb dX2_weighJoins_89 (lv_at hl 1 rfl) ?_
            refine lv_ishl hx hb dX2_weighJoins_91 ?_
            refine lv_topi (fun y36 ey36 => ?_)
            have hy36 : 1 ≤ Int32.toInt y36 ∧ Int32.toInt y36 ≤ 32 := by rw [ey36]; exact zo_shl1 5 (show 0 ≤ Int32.toInt y22 ∧ Int32.toInt y22 ≤ 5 by revert hN26 hy22 c27 h_x_9; simp only [vp_in_iff, Int32.lt_iff_toInt_lt, Int32.le_iff_toInt_le, Int64.lt_iff_toInt_lt, Int64.le_iff_toInt_le, Int32.toInt_toInt64, ← Int32.toInt_inj, ← Int64.toInt_inj, Int32.reduceToInt, Int64.reduceToInt] <;> omega) (by decide)
            refine lv_ior hx hb dX2_weighJoins_92 ?_
            refine lv_topi (fun y37 ey37 => ?_)
            have hy37 : 0 ≤ Int32.toInt y37 ∧ Int32.toInt y37 ≤ 63 := by rw [ey37]; exact zo_or 6 (show 0 ≤ Int32.toInt x_1 ∧ Int32.toInt x_1 < 2 ^ 6 by revert h_x_1 e2 e3 e5 e34 e35 hy36 h_x_0 e1; simp only [vp_in_iff, Int32.lt_iff_toInt_lt, Int32.le_iff_toInt_le, Int64.lt_iff_toInt_lt, Int64.le_iff_toInt_le, Int32.toInt_toInt64, ← Int32.toInt_inj, ← Int64.toInt_inj, Int32.reduceToInt, Int64.reduceToInt] <;> omega) (show 0 ≤ Int32.toInt y36 ∧ Int32.toInt y36 < 2 ^ 6 by revert h_x_1 e2 e3 e5 e34 e35 hy36 h_x_0 e1; simp only [vp_in_iff, Int32.lt_iff_toInt_lt, Int32.le_iff_toInt_le, Int64.lt_iff_toInt_lt, Int64.le_iff_toInt_le, Int32.toInt_toInt64, ← Int32.toInt_inj, ← Int64.toInt_inj, Int32.reduceToInt, Int64.reduceToInt] <;> omega) (by decide)
            refine lv_iadd hx hb dX2_weighJoins_93 ?_
            have e38 : Int32.toInt (((x_0 + 1) * 64) + y37) = Int32.toInt ((x_0 + 1) * 64) + Int32.toInt y37 := zi_add (by revert h_x_0 e1 e2 e3 e5 e34 e35 hy37 h_x_1; simp only [vp_in_iff, Int32.lt_iff_toInt_lt, Int32.le_iff_toInt_le, Int64.lt_iff_toInt_lt, Int64.le_iff_toInt_le, Int32.toInt_toInt64, ← Int32.toInt_inj, ← Int64.toInt_inj, Int32.reduceToInt, Int64.reduceToInt] <;> omega)
            refine va_iald hx hb hK hP 0 0 rfl rfl (by revert h_x_0 e1 e2 e3 e5 e34 e35 hy37 e38 h_x_1; simp only [vp_in_iff, Int32.lt_iff_toInt_lt, Int32.le_iff_toInt_le, Int64.lt_iff_toInt_lt, Int64.le_iff_toInt_le, Int32.toInt_toInt64, ← Int32.toInt_inj, ← Int64.toInt_inj, Int32.reduceToInt, Int64.reduceToInt] <;> omega) dX2_weighJoins_94 ?_
            refine lv_topi (fun y39 ey39 => ?_)
            refine lv_iadd hx hb dX2_weighJoins_95 ?_
            refine lv_istore (lv' := [(5, .int (y23 + y39)), (7, .int r30), (6, .int y22), (4, .int y24), (3, .int ((x_0 * 64) + x_1)), (0, .ref q_0), (1, .int x_0), (2, .int x_1)]) hx hb dX2_weighJoins_96 hl (by decide) rfl (fun ls hl => ?_)
            have e40 : Int32.toInt (y22 + 1) = Int32.toInt y22 + Int32.toInt (1 : Int32) := zi_add (by revert hN26 hy22 c27 h_x_9; simp only [vp_in_iff, Int32.lt_iff_toInt_lt, Int32.le_iff_toInt_le, Int64.lt_iff_toInt_lt, Int64.le_iff_toInt_le, Int32.toInt_toInt64, ← Int32.toInt_inj, ← Int64.toInt_inj, Int32.reduceToInt, Int64.reduceToInt] <;> omega)
            refine lv_iinc (v := (y22 + 1)) (lv' := [(6, .int (y22 + 1)), (5, .int (y23 + y39)), (7, .int r30), (4, .int y24), (3, .int ((x_0 * 64) + x_1)), (0, .ref q_0), (1, .int x_0), (2, .int x_1)]) hx hb dX2_weighJoins_98 hl (k := 2) rfl rfl (by decide) rfl (fun ls hl => ?_)
            refine lv_goto (tgt := 32) hx hb dX2_weighJoins_101 (by decide) ?_
            exact ihN26 (y22 + 1) (y23 + y39) y24 _ _ ls (by revert hN26 hy22 c27 e40 h_x_9; simp only [vp_in_iff, Int32.lt_iff_toInt_lt, Int32.le_iff_toInt_le, Int64.lt_iff_toInt_lt, Int64.le_iff_toInt_le, Int32.toInt_toInt64, ← Int32.toInt_inj, ← Int64.toInt_inj, Int32.reduceToInt, Int64.reduceToInt] <;> omega) (by revert hN26 hy22 c27 e40 h_x_9; simp only [vp_in_iff, Int32.lt_iff_toInt_lt, Int32.le_iff_toInt_le, Int64.lt_iff_toInt_lt, Int64.le_iff_toInt_le, Int32.toInt_toInt64, ← Int32.toInt_inj, ← Int64.toInt_inj, Int32.reduceToInt, Int64.reduceToInt] <;> omega) (z_sub hP [2, 4, 0, 1, 3] rfl) (hD.sub [2, 4, 0, 1, 3] rfl rfl) hS (lv_sub hl [0, 1, 3, 4, 5, 6, 7] rfl)
        · refine lv_iload hx hb dX2_weighJoins_61 (lv_at hl 0 rfl) ?_
          refine lv_istore (lv' := [(4, .int r30), (7, .int r30), (6, .int y22), (5, .int y23), (3, .int ((x_0 * 64) + x_1)), (0, .ref q_0), (1, .int x_0), (2, .int x_1)]) hx hb dX2_weighJoins_63 hl (by decide) rfl (fun ls hl => ?_)
          refine lv_iconst (v := 0) hx hb dX2_weighJoins_65 (by decide) ?_
          refine lv_istore (lv' := [(5, .int 0), (4, .int r30), (7, .int r30), (6, .int y22), (3, .int ((x_0 * 64) + x_1)), (0, .ref q_0), (1, .int x_0), (2, .int x_1)]) hx hb dX2_weighJoins_66 hl (by decide) rfl (fun ls hl => ?_)
          refine lv_iload hx hb dX2_weighJoins_68 (lv_at hl 2 rfl) ?_
          refine lv_iload hx hb dX2_weighJoins_70 (lv_at hl 1 rfl) ?_
          refine lv_icmp_ne (tgt := 98) hx hb dX2_weighJoins_72 (by decide) (fun c41 => absurd rfl c41) (fun _ => ?_)
          refine lv_iload hx hb dX2_weighJoins_75 (lv_at hl 0 rfl) ?_
          refine lv_aload_n hx hb dX2_weighJoins_77 rfl (lv_at hl 5 rfl) ?_
          refine va_get (D := D) (ci := 2) (v := .ref q_2) (C := RX2) (T := TX2) (N := 14) hx hb hts inX2 hown hK hP 2 rfl rfl 7 (by decide) (hts _ kF_X2_25) (fun _ h9 => h9) rfl dX2_weighJoins_78 ?_
          refine lv_iload_n hx hb dX2_weighJoins_81 rfl (lv_at hl 6 rfl) ?_
          refine lv_iconst (v := 1) hx hb dX2_weighJoins_82 (by decide) ?_
          refine lv_iadd hx hb dX2_weighJoins_83 ?_
          have e42 : Int32.toInt (x_0 + 1) = Int32.toInt x_0 + Int32.toInt (1 : Int32) := zi_add (by revert h_x_0 e1 e2 e3 e5 h_x_1; simp only [vp_in_iff, Int32.lt_iff_toInt_lt, Int32.le_iff_toInt_le, Int64.lt_iff_toInt_lt, Int64.le_iff_toInt_le, Int32.toInt_toInt64, ← Int32.toInt_inj, ← Int64.toInt_inj, Int32.reduceToInt, Int64.reduceToInt] <;> omega)
          refine lv_bipush (v := 64) hx hb dX2_weighJoins_84 (by decide) ?_
          refine lv_imul hx hb dX2_weighJoins_86 ?_
          have e43 : Int32.toInt ((x_0 + 1) * 64) = Int32.toInt (x_0 + 1) * Int32.toInt (64 : Int32) := zi_mul (by revert h_x_0 e1 e2 e3 e5 e42 h_x_1; simp only [vp_in_iff, Int32.lt_iff_toInt_lt, Int32.le_iff_toInt_le, Int64.lt_iff_toInt_lt, Int64.le_iff_toInt_le, Int32.toInt_toInt64, ← Int32.toInt_inj, ← Int64.toInt_inj, Int32.reduceToInt, Int64.reduceToInt] <;> omega)
          refine lv_iload_n hx hb dX2_weighJoins_87 rfl (lv_at hl 7 rfl) ?_
          refine lv_iconst (v := 1) hx hb dX2_weighJoins_88 (by decide) ?_
          refine lv_iload hx hb dX2_weighJoins_89 (lv_at hl 3 rfl) ?_
          refine lv_ishl hx hb dX2_weighJoins_91 ?_
          refine lv_topi (fun y44 ey44 => ?_)
          have hy44 : 1 ≤ Int32.toInt y44 ∧ Int32.toInt y44 ≤ 32 := by rw [ey44]; exact zo_shl1 5 (show 0 ≤ Int32.toInt y22 ∧ Int32.toInt y22 ≤ 5 by revert hN26 hy22 c27 h_x_9; simp only [vp_in_iff, Int32.lt_iff_toInt_lt, Int32.le_iff_toInt_le, Int64.lt_iff_toInt_lt, Int64.le_iff_toInt_le, Int32.toInt_toInt64, ← Int32.toInt_inj, ← Int64.toInt_inj, Int32.reduceToInt, Int64.reduceToInt] <;> omega) (by decide)
          refine lv_ior hx hb dX2_weighJoins_92 ?_
          refine lv_topi (fun y45 ey45 => ?_)
          have hy45 : 0 ≤ Int32.toInt y45 ∧ Int32.toInt y45 ≤ 63 := by rw [ey45]; exact zo_or 6 (show 0 ≤ Int32.toInt x_1 ∧ Int32.toInt x_1 < 2 ^ 6 by revert h_x_1 e2 e3 e5 e42 e43 hy44 h_x_0 e1; simp only [vp_in_iff, Int32.lt_iff_toInt_lt, Int32.le_iff_toInt_le, Int64.lt_iff_toInt_lt, Int64.le_iff_toInt_le, Int32.toInt_toInt64, ← Int32.toInt_inj, ← Int64.toInt_inj, Int32.reduceToInt, Int64.reduceToInt] <;> omega) (show 0 ≤ Int32.toInt y44 ∧ Int32.toInt y44 < 2 ^ 6 by revert h_x_1 e2 e3 e5 e42 e43 hy44 h_x_0 e1; simp only [vp_in_iff, Int32.lt_iff_toInt_lt, Int32.le_iff_toInt_le, Int64.lt_iff_toInt_lt, Int64.le_iff_toInt_le, Int32.toInt_toInt64, ← Int32.toInt_inj, ← Int64.toInt_inj, Int32.reduceToInt, Int64.reduceToInt] <;> omega) (by decide)
          refine lv_iadd hx hb dX2_weighJoins_93 ?_
          have e46 : Int32.toInt (((x_0 + 1) * 64) + y45) = Int32.toInt ((x_0 + 1) * 64) + Int32.toInt y45 := zi_add (by revert h_x_0 e1 e2 e3 e5 e42 e43 hy45 h_x_1; simp only [vp_in_iff, Int32.lt_iff_toInt_lt, Int32.le_iff_toInt_le, Int64.lt_iff_toInt_lt, Int64.le_iff_toInt_le, Int32.toInt_toInt64, ← Int32.toInt_inj, ← Int64.toInt_inj, Int32.reduceToInt, Int64.reduceToInt] <;> omega)
          refine va_iald hx hb hK hP 0 0 rfl rfl (by revert h_x_0 e1 e2 e3 e5 e42 e43 hy45 e46 h_x_1; simp only [vp_in_iff, Int32.lt_iff_toInt_lt, Int32.le_iff_toInt_le, Int64.lt_iff_toInt_lt, Int64.le_iff_toInt_le, Int32.toInt_toInt64, ← Int32.toInt_inj, ← Int64.toInt_inj, Int32.reduceToInt, Int64.reduceToInt] <;> omega) dX2_weighJoins_94 ?_
          refine lv_topi (fun y47 ey47 => ?_)
          refine lv_iadd hx hb dX2_weighJoins_95 ?_
          have e48 : Int32.toInt (0 + y47) = Int32.toInt (0 : Int32) + Int32.toInt y47 := zi_add (by simp only [vp_in_iff, Int32.lt_iff_toInt_lt, Int32.le_iff_toInt_le, Int64.lt_iff_toInt_lt, Int64.le_iff_toInt_le, Int32.toInt_toInt64, ← Int32.toInt_inj, ← Int64.toInt_inj, Int32.reduceToInt, Int64.reduceToInt] <;> omega)
          refine lv_istore (lv' := [(5, .int (0 + y47)), (4, .int r30), (7, .int r30), (6, .int y22), (3, .int ((x_0 * 64) + x_1)), (0, .ref q_0), (1, .int x_0), (2, .int x_1)]) hx hb dX2_weighJoins_96 hl (by decide) rfl (fun ls hl => ?_)
          have e49 : Int32.toInt (y22 + 1) = Int32.toInt y22 + Int32.toInt (1 : Int32) := zi_add (by revert hN26 hy22 c27 h_x_9; simp only [vp_in_iff, Int32.lt_iff_toInt_lt, Int32.le_iff_toInt_le, Int64.lt_iff_toInt_lt, Int64.le_iff_toInt_le, Int32.toInt_toInt64, ← Int32.toInt_inj, ← Int64.toInt_inj, Int32.reduceToInt, Int64.reduceToInt] <;> omega)
          refine lv_iinc (v := (y22 + 1)) (lv' := [(6, .int (y22 + 1)), (5, .int (0 + y47)), (4, .int r30), (7, .int r30), (3, .int ((x_0 * 64) + x_1)), (0, .ref q_0), (1, .int x_0), (2, .int x_1)]) hx hb dX2_weighJoins_98 hl (k := 3) rfl rfl (by decide) rfl (fun ls hl => ?_)
          refine lv_goto (tgt := 32) hx hb dX2_weighJoins_101 (by decide) ?_
          exact ihN26 (y22 + 1) (0 + y47) r30 _ _ ls (by revert hN26 hy22 c27 e49 h_x_9; simp only [vp_in_iff, Int32.lt_iff_toInt_lt, Int32.le_iff_toInt_le, Int64.lt_iff_toInt_lt, Int64.le_iff_toInt_le, Int32.toInt_toInt64, ← Int32.toInt_inj, ← Int64.toInt_inj, Int32.reduceToInt, Int64.reduceToInt] <;> omega) (by revert hN26 hy22 c27 e49 h_x_9; simp only [vp_in_iff, Int32.lt_iff_toInt_lt, Int32.le_iff_toInt_le, Int64.lt_iff_toInt_lt, Int64.le_iff_toInt_le, Int32.toInt_toInt64, ← Int32.toInt_inj, ← Int64.toInt_inj, Int32.reduceToInt, Int64.reduceToInt] <;> omega) (z_sub hP [2, 4, 0, 1, 3] rfl) (hD.sub [2, 4, 0, 1, 3] rfl rfl) hS (lv_sub hl [0, 1, 2, 4, 5, 6, 7] rfl)
  exact loop25 _ 0 y6 y4 _ _ _ (Nat.lt_succ_self _) (by simp only [vp_in_iff, Int32.lt_iff_toInt_lt, Int32.le_iff_toInt_le, Int64.lt_iff_toInt_lt, Int64.le_iff_toInt_le, Int32.toInt_toInt64, ← Int32.toInt_inj, ← Int64.toInt_inj, Int32.reduceToInt, Int64.reduceToInt] <;> omega) hP hD hS (lv_sub hl [0, 1, 2, 3, 4, 5, 6] rfl)
