set_option maxHeartbeats 4000000 in
set_option maxRecDepth 100000 in
theorem s_X11_isOutside_1 (l : Launch) (D : va_G) (k : Nat → ClassId) (T : zTy) (x_0 : Int32) (x_1 : Int32) (x_2 : Int32) : zMi l yX11_isOutside cX11_isOutside 3 (some .boolean) ({ frames := 0, cells := 0, slots := 0, locals := 0 }) D k T [.int x_0, .int x_1, .int x_2] [] (fun r u => (u.1 = 0 ∧ r = 1 ∧ ((x_0 < x_1) ∨ (¬ x_0 < x_1 ∧ ¬ x_0 ≤ x_2))) ∨ (u.1 = 1 ∧ r = 0 ∧ ((¬ x_0 < x_1 ∧ x_0 ≤ x_2)))) (fun u => []) := by
  refine zMi_of (own := RX11) (by decide +kernel) rfl (Nat.le_of_ble_eq_true rfl) ?_
  intro p e s m args below meth c A ls C0 hr hlk hin hP hD hS hA hK hN hT hl
  have hx := C0.1
  have hb := C0.2.1
  have hml := C0.2.2.1
  have hown := C0.2.2.2.1
  have hts := C0.2.2.2.2
  have hl : lv_has ls 3 [(0, .int x_0), (1, .int x_1), (2, .int x_2)] := hl
  have hP : va_P D vwCl [] s.heap := hP
  refine lv_iload_n hx hb dX11_isOutside_0 rfl (lv_at hl 0 rfl) ?_
  refine lv_iload_n hx hb dX11_isOutside_1 rfl (lv_at hl 1 rfl) ?_
  refine lv_icmp_lt (tgt := 10) hx hb dX11_isOutside_2 (by decide) (fun c1 => ?_) (fun c1 => ?_)
  · refine lv_iconst (v := 1) hx hb dX11_isOutside_10 (by decide) ?_
    refine lv_goto (tgt := 15) hx hb dX11_isOutside_11 (by decide) ?_
    exact z_iret C0 hr hlk rfl hK hP hD hS (0, fun _ => 0, fun _ => 0, fun _ => 0, fun _ => (fun _ => 0), fun _ => (fun _ => 0), fun _ => (fun _ => none)) (Or.inl ⟨rfl, rfl, (Or.inl c1)⟩) [] rfl rfl rfl dX11_isOutside_15
  · refine lv_iload_n hx hb dX11_isOutside_5 rfl (lv_at hl 0 rfl) ?_
    refine lv_iload_n hx hb dX11_isOutside_6 rfl (lv_at hl 2 rfl) ?_
    refine lv_icmp_le (tgt := 14) hx hb dX11_isOutside_7 (by decide) (fun c2 => ?_) (fun c2 => ?_)
    · refine lv_iconst (v := 0) hx hb dX11_isOutside_14 (by decide) ?_
      exact z_iret C0 hr hlk rfl hK hP hD hS (1, fun _ => 0, fun _ => 0, fun _ => 0, fun _ => (fun _ => 0), fun _ => (fun _ => 0), fun _ => (fun _ => none)) (Or.inr (⟨rfl, rfl, ⟨c1, c2⟩⟩)) [] rfl rfl rfl dX11_isOutside_15
    · refine lv_iconst (v := 1) hx hb dX11_isOutside_10 (by decide) ?_
      refine lv_goto (tgt := 15) hx hb dX11_isOutside_11 (by decide) ?_
      exact z_iret C0 hr hlk rfl hK hP hD hS (0, fun _ => 0, fun _ => 0, fun _ => 0, fun _ => (fun _ => 0), fun _ => (fun _ => 0), fun _ => (fun _ => none)) (Or.inl ⟨rfl, rfl, (Or.inr (⟨c1, c2⟩))⟩) [] rfl rfl rfl dX11_isOutside_15

set_option maxHeartbeats 4000000 in
set_option maxRecDepth 100000 in
theorem s_X11_answer_1 (l : Launch) (D : va_G) (k : Nat → ClassId) (T : zTy) (q_0 : Nat) (q_1 : Nat) (q_2 : Nat) (q_3 : Nat) (q_4 : Nat) (q_5 : Nat) (x_0 : Int32) (x_1 : Int32) : zMi l yX11_answer cX11_answer 2 (some .int) ({ frames := 0, cells := 0, slots := 0, locals := 0 }) D k T [.ref q_0, .int x_0] [(q_0, .inr (11, [.ref q_1, .ref q_2, .ref q_3, .ref q_4, .ref q_5, .int x_1]))] (fun r u => u.1 = 0 ∧ r = x_0) (fun u => [(q_0, .inr (11, [.ref q_1, .ref q_2, .ref q_3, .ref q_4, .ref q_5, .int (u.2.2.1 0)]))]) := by
  refine zMi_of (own := RX11) (by decide +kernel) rfl (Nat.le_of_ble_eq_true rfl) ?_
  intro p e s m args below meth c A ls C0 hr hlk hin hP hD hS hA hK hN hT hl
  have hx := C0.1
  have hb := C0.2.1
  have hml := C0.2.2.1
  have hown := C0.2.2.2.1
  have hts := C0.2.2.2.2
  have hl : lv_has ls 2 [(0, .ref q_0), (1, .int x_0)] := hl
  have hP : va_P D vwCl [(q_0, .inr (11, [.ref q_1, .ref q_2, .ref q_3, .ref q_4, .ref q_5, .int x_1]))] s.heap := hP
  refine lv_aload_n hx hb dX11_answer_0 rfl (lv_at hl 0 rfl) ?_
  refine lv_iload_n hx hb dX11_answer_1 rfl (lv_at hl 1 rfl) ?_
  refine lv_if_ge (tgt := 9) hx hb dX11_answer_2 (by decide) (fun c1 => ?_) (fun c1 => ?_)
  · refine lv_iconst (v := 0) hx hb dX11_answer_9 (by decide) ?_
    refine va_put (D := D) (ci := 11) (v := .int 0) (ty := .int) (C := RX11) (T := TX11) (N := 6) hx hb hts inX11 tyX11 tyX11_ok nmX11 hown hK hP hD hS 0 rfl rfl 5 (by decide) (hts _ kF_X11_383) (fun _ h9 => h9) rfl (by decide +kernel) rfl rfl (Nat.le_of_ble_eq_true rfl) dX11_answer_10 (fun H locs hP hD hS => ?_)
    have hP : va_P D vwCl [(q_0, .inr (11, [.ref q_1, .ref q_2, .ref q_3, .ref q_4, .ref q_5, .int 0]))] H := hP
    have hD : va_D A [(q_0, .inr (11, [.ref q_1, .ref q_2, .ref q_3, .ref q_4, .ref q_5, .int 0]))] := hD
    refine lv_iload_n hx hb dX11_answer_13 rfl (lv_at hl 1 rfl) ?_
    exact z_iret C0 hr hlk rfl hK hP hD hS (0, fun _ => 0, fun i => [0].getD i 0, fun _ => 0, fun _ => (fun _ => 0), fun _ => (fun _ => 0), fun _ => (fun _ => none)) ⟨rfl, rfl⟩ [0] rfl rfl rfl dX11_answer_14
  · refine lv_iload_n hx hb dX11_answer_5 rfl (lv_at hl 1 rfl) ?_
    refine lv_goto (tgt := 10) hx hb dX11_answer_6 (by decide) ?_
    refine va_put (D := D) (ci := 11) (v := .int x_0) (ty := .int) (C := RX11) (T := TX11) (N := 6) hx hb hts inX11 tyX11 tyX11_ok nmX11 hown hK hP hD hS 0 rfl rfl 5 (by decide) (hts _ kF_X11_383) (fun _ h9 => h9) rfl (by decide +kernel) rfl rfl (Nat.le_of_ble_eq_true rfl) dX11_answer_10 (fun H locs hP hD hS => ?_)
    have hP : va_P D vwCl [(q_0, .inr (11, [.ref q_1, .ref q_2, .ref q_3, .ref q_4, .ref q_5, .int x_0]))] H := hP
    have hD : va_D A [(q_0, .inr (11, [.ref q_1, .ref q_2, .ref q_3, .ref q_4, .ref q_5, .int x_0]))] := hD
    refine lv_iload_n hx hb dX11_answer_13 rfl (lv_at hl 1 rfl) ?_
    exact z_iret C0 hr hlk rfl hK hP hD hS (0, fun _ => 0, fun i => [x_0].getD i 0, fun _ => 0, fun _ => (fun _ => 0), fun _ => (fun _ => 0), fun _ => (fun _ => none)) ⟨rfl, rfl⟩ [0] rfl rfl rfl dX11_answer_14

set_option maxHeartbeats 4000000 in
set_option maxRecDepth 100000 in
theorem s_X11_isNoDay_1 (l : Launch) (D : va_G) (k : Nat → ClassId) (T : zTy) (x_0 : Int32) : zMi l yX11_isNoDay cX11_isNoDay 1 (some .boolean) ({ frames := 0, cells := 0, slots := 0, locals := 0 }) D k T [.int x_0] [] (fun r u => (u.1 = 0 ∧ r = 1 ∧ ((x_0 < 0) ∨ (¬ x_0 < 0 ∧ ¬ x_0 < 400))) ∨ (u.1 = 1 ∧ r = 0 ∧ (0 ≤ Int32.toInt x_0 ∧ Int32.toInt x_0 ≤ 399) ∧ ((¬ x_0 < 0 ∧ x_0 < 400)))) (fun u => []) := by
  refine zMi_of (own := RX11) (by decide +kernel) rfl (Nat.le_of_ble_eq_true rfl) ?_
  intro p e s m args below meth c A ls C0 hr hlk hin hP hD hS hA hK hN hT hl
  have hx := C0.1
  have hb := C0.2.1
  have hml := C0.2.2.1
  have hown := C0.2.2.2.1
  have hts := C0.2.2.2.2
  have hl : lv_has ls 1 [(0, .int x_0)] := hl
  have hP : va_P D vwCl [] s.heap := hP
  refine lv_iload_n hx hb dX11_isNoDay_0 rfl (lv_at hl 0 rfl) ?_
  refine lv_if_lt (tgt := 11) hx hb dX11_isNoDay_1 (by decide) (fun c1 => ?_) (fun c1 => ?_)
  · refine lv_iconst (v := 1) hx hb dX11_isNoDay_11 (by decide) ?_
    refine lv_goto (tgt := 16) hx hb dX11_isNoDay_12 (by decide) ?_
    exact z_iret C0 hr hlk rfl hK hP hD hS (0, fun _ => 0, fun _ => 0, fun _ => 0, fun _ => (fun _ => 0), fun _ => (fun _ => 0), fun _ => (fun _ => none)) (Or.inl ⟨rfl, rfl, (Or.inl c1)⟩) [] rfl rfl rfl dX11_isNoDay_16
  · refine lv_iload_n hx hb dX11_isNoDay_4 rfl (lv_at hl 0 rfl) ?_
    refine lv_sipush (v := 400) hx hb dX11_isNoDay_5 (by decide) ?_
    refine lv_icmp_lt (tgt := 15) hx hb dX11_isNoDay_8 (by decide) (fun c2 => ?_) (fun c2 => ?_)
    · refine lv_iconst (v := 0) hx hb dX11_isNoDay_15 (by decide) ?_
      exact z_iret C0 hr hlk rfl hK hP hD hS (1, fun _ => 0, fun _ => 0, fun _ => 0, fun _ => (fun _ => 0), fun _ => (fun _ => 0), fun _ => (fun _ => none)) (Or.inr (⟨rfl, rfl, (show 0 ≤ Int32.toInt x_0 ∧ Int32.toInt x_0 ≤ 399 from (by revert c1 c2; first | (simp only [vp_in_iff, Int32.lt_iff_toInt_lt, Int32.le_iff_toInt_le, Int64.lt_iff_toInt_lt, Int64.le_iff_toInt_le, Int32.toInt_toInt64, ← Int32.toInt_inj, ← Int64.toInt_inj, Int32.reduceToInt, Int64.reduceToInt] <;> omega) | omega)), ⟨c1, c2⟩⟩)) [] rfl rfl rfl dX11_isNoDay_16
    · refine lv_iconst (v := 1) hx hb dX11_isNoDay_11 (by decide) ?_
      refine lv_goto (tgt := 16) hx hb dX11_isNoDay_12 (by decide) ?_
      exact z_iret C0 hr hlk rfl hK hP hD hS (0, fun _ => 0, fun _ => 0, fun _ => 0, fun _ => (fun _ => 0), fun _ => (fun _ => 0), fun _ => (fun _ => none)) (Or.inl ⟨rfl, rfl, (Or.inr (⟨c1, c2⟩))⟩) [] rfl rfl rfl dX11_isNoDay_16

set_option maxHeartbeats 4000000 in
set_option maxRecDepth 100000 in
theorem s_X6_isNoSchool_1 (l : Launch) (D : va_G) (k : Nat → ClassId) (T : zTy) (q_0 : Nat) (q_1 : Nat) (q_2 : Nat) (q_3 : Nat) (q_4 : Nat) (q_5 : Nat) (q_6 : Nat) (q_7 : Nat) (q_8 : Nat) (q_9 : Nat) (q_10 : Nat) (q_11 : Nat) (q_12 : Nat) (x_0 : Int32) (x_1 : Int32) (x_2 : Int32) (x_3 : Int32) (h_x_1 : 0 ≤ Int32.toInt x_1 ∧ Int32.toInt x_1 ≤ 40) (h_x_2 : 0 ≤ Int32.toInt x_2 ∧ Int32.toInt x_2 ≤ 5) (h_x_3 : 0 ≤ Int32.toInt x_3 ∧ Int32.toInt x_3 ≤ 60) : zMi l yX6_isNoSchool cX6_isNoSchool 2 (some .boolean) ({ frames := 0, cells := 0, slots := 0, locals := 0 }) D k T [.ref q_0, .int x_0] [(q_0, .inr (6, [.int x_1, .ref q_1, .ref q_2, .ref q_3, .ref q_4, .ref q_5, .int x_2, .ref q_6, .int x_3, .ref q_7, .ref q_8, .ref q_9, .ref q_10, .ref q_11, .ref q_12]))] (fun r u => (u.1 = 0 ∧ r = 1 ∧ ((x_0 < 0) ∨ (¬ x_0 < 0 ∧ ¬ x_0 < x_2))) ∨ (u.1 = 1 ∧ r = 0 ∧ (0 ≤ Int32.toInt x_0 ∧ Int32.toInt x_0 ≤ 4) ∧ ((¬ x_0 < 0 ∧ x_0 < x_2)))) (fun u => [(q_0, .inr (6, [.int x_1, .ref q_1, .ref q_2, .ref q_3, .ref q_4, .ref q_5, .int x_2, .ref q_6, .int x_3, .ref q_7, .ref q_8, .ref q_9, .ref q_10, .ref q_11, .ref q_12]))]) := by
  refine zMi_of (own := RX6) (by decide +kernel) rfl (Nat.le_of_ble_eq_true rfl) ?_
  intro p e s m args below meth c A ls C0 hr hlk hin hP hD hS hA hK hN hT hl
  have hx := C0.1
  have hb := C0.2.1
  have hml := C0.2.2.1
  have hown := C0.2.2.2.1
  have hts := C0.2.2.2.2
  have hl : lv_has ls 2 [(0, .ref q_0), (1, .int x_0)] := hl
  have hP : va_P D vwCl [(q_0, .inr (6, [.int x_1, .ref q_1, .ref q_2, .ref q_3, .ref q_4, .ref q_5, .int x_2, .ref q_6, .int x_3, .ref q_7, .ref q_8, .ref q_9, .ref q_10, .ref q_11, .ref q_12]))] s.heap := hP
  refine lv_iload_n hx hb dX6_isNoSchool_0 rfl (lv_at hl 1 rfl) ?_
  refine lv_if_lt (tgt := 12) hx hb dX6_isNoSchool_1 (by decide) (fun c1 => ?_) (fun c1 => ?_)
  · refine lv_iconst (v := 1) hx hb dX6_isNoSchool_12 (by decide) ?_
    refine lv_goto (tgt := 17) hx hb dX6_isNoSchool_13 (by decide) ?_
    exact z_iret C0 hr hlk rfl hK hP hD hS (0, fun _ => 0, fun _ => 0, fun _ => 0, fun _ => (fun _ => 0), fun _ => (fun _ => 0), fun _ => (fun _ => none)) (Or.inl ⟨rfl, rfl, (Or.inl c1)⟩) [0] rfl rfl rfl dX6_isNoSchool_17
  · refine lv_iload_n hx hb dX6_isNoSchool_4 rfl (lv_at hl 1 rfl) ?_
    refine lv_aload_n hx hb dX6_isNoSchool_5 rfl (lv_at hl 0 rfl) ?_
    refine va_get (D := D) (ci := 6) (v := .int x_2) (C := RX6) (T := TX6) (N := 15) hx hb hts inX6 hown hK hP 0 rfl rfl 6 (by decide) (hts _ kF_X6_52) (fun _ h9 => h9) rfl dX6_isNoSchool_6 ?_
    refine lv_icmp_lt (tgt := 16) hx hb dX6_isNoSchool_9 (by decide) (fun c2 => ?_) (fun c2 => ?_)
    · refine lv_iconst (v := 0) hx hb dX6_isNoSchool_16 (by decide) ?_
      exact z_iret C0 hr hlk rfl hK hP hD hS (1, fun _ => 0, fun _ => 0, fun _ => 0, fun _ => (fun _ => 0), fun _ => (fun _ => 0), fun _ => (fun _ => none)) (Or.inr (⟨rfl, rfl, (show 0 ≤ Int32.toInt x_0 ∧ Int32.toInt x_0 ≤ 4 from (by revert c1 c2 h_x_2; first | (simp only [vp_in_iff, Int32.lt_iff_toInt_lt, Int32.le_iff_toInt_le, Int64.lt_iff_toInt_lt, Int64.le_iff_toInt_le, Int32.toInt_toInt64, ← Int32.toInt_inj, ← Int64.toInt_inj, Int32.reduceToInt, Int64.reduceToInt] <;> omega) | omega)), ⟨c1, c2⟩⟩)) [0] rfl rfl rfl dX6_isNoSchool_17
    · refine lv_iconst (v := 1) hx hb dX6_isNoSchool_12 (by decide) ?_
      refine lv_goto (tgt := 17) hx hb dX6_isNoSchool_13 (by decide) ?_
      exact z_iret C0 hr hlk rfl hK hP hD hS (0, fun _ => 0, fun _ => 0, fun _ => 0, fun _ => (fun _ => 0), fun _ => (fun _ => 0), fun _ => (fun _ => none)) (Or.inl ⟨rfl, rfl, (Or.inr (⟨c1, c2⟩))⟩) [0] rfl rfl rfl dX6_isNoSchool_17

