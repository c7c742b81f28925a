set_option maxHeartbeats 4000000 in
set_option maxRecDepth 100000 in
theorem c_X5_isNoMark_1 (l : Launch) (D : va_G) (k : Nat → ClassId) (q_0 : Nat) (q_1 : Nat) (q_2 : Nat) (q_3 : Nat) (q_4 : Nat) (q_5 : Nat) (q_6 : Nat) (q_7 : Nat) (q_8 : Nat) (q_9 : Nat) (q_10 : Nat) (q_11 : Nat) (q_12 : Nat) (x_0 : Int32) (x_1 : Int32) (x_2 : Int32) : zMi l yX5_isNoMark cX5_isNoMark 2 (some .boolean) ({ frames := 0, cells := 0, slots := 0, locals := 0 }) D k [.ref q_0, .int x_0] [(q_0, .inr (5, [.int 0, .ref q_1, .ref q_2, .ref q_3, .ref q_4, .ref q_5, .ref q_6, .ref q_7, .ref q_8, .ref q_9, .ref q_10, .ref q_11, .ref q_12, .int x_1, .int x_2]))] (fun r u => u.1 = 0 ∧ r = 1) (fun u => [(q_0, .inr (5, [.int 0, .ref q_1, .ref q_2, .ref q_3, .ref q_4, .ref q_5, .ref q_6, .ref q_7, .ref q_8, .ref q_9, .ref q_10, .ref q_11, .ref q_12, .int x_1, .int x_2]))]) := by
  refine zMi_of (own := RX5) (by decide +kernel) rfl (Nat.le_of_ble_eq_true rfl) ?_
  intro p e s m args below meth c A ls C0 hr hlk hin hP hD hS hA hK hN hl
  have hx := C0.1
  have hb := C0.2.1
  have hml := C0.2.2.1
  have hown := C0.2.2.2.1
  have hts := C0.2.2.2.2
  have hl : lv_has ls 2 [(0, .ref q_0), (1, .int x_0)] := hl
  have hP : va_P D vwCl [(q_0, .inr (5, [.int 0, .ref q_1, .ref q_2, .ref q_3, .ref q_4, .ref q_5, .ref q_6, .ref q_7, .ref q_8, .ref q_9, .ref q_10, .ref q_11, .ref q_12, .int x_1, .int x_2]))] s.heap := hP
  refine lv_iload_n hx hb dX5_isNoMark_0 rfl (lv_at hl 1 rfl) ?_
  refine lv_if_lt (tgt := 12) hx hb dX5_isNoMark_1 (by decide) (fun c1 => ?_) (fun c1 => ?_)
  · refine lv_iconst (v := 1) hx hb dX5_isNoMark_12 (by decide) ?_
    refine lv_goto (tgt := 17) hx hb dX5_isNoMark_13 (by decide) ?_
    exact z_iret C0 hr hlk rfl hK hP hD hS (0, fun _ => 0) ⟨rfl, rfl⟩ [0] rfl rfl rfl dX5_isNoMark_17
  · refine lv_iload_n hx hb dX5_isNoMark_4 rfl (lv_at hl 1 rfl) ?_
    refine lv_aload_n hx hb dX5_isNoMark_5 rfl (lv_at hl 0 rfl) ?_
    refine va_get (D := D) (ci := 5) (v := .int 0) (C := RX5) (T := TX5) (N := 15) hx hb hts inX5 hown hK hP 0 rfl rfl 0 (by decide) (hts _ kF_X5_54) (fun _ h9 => h9) rfl dX5_isNoMark_6 ?_
    refine lv_icmp_lt (tgt := 16) hx hb dX5_isNoMark_9 (by decide) (fun c2 => ?_) (fun c2 => ?_)
    · exact (show False by have bA0 := Int32.le_toInt x_0; have bB0 := Int32.toInt_lt x_0; revert c1 c2; simp only [vp_in_iff, Int32.lt_iff_toInt_lt, Int32.le_iff_toInt_le, Int64.lt_iff_toInt_lt, Int64.le_iff_toInt_le, Int32.toInt_toInt64, ← Int32.toInt_inj, ← Int64.toInt_inj, Int32.reduceToInt, Int64.reduceToInt] <;> omega).elim
    · refine lv_iconst (v := 1) hx hb dX5_isNoMark_12 (by decide) ?_
      refine lv_goto (tgt := 17) hx hb dX5_isNoMark_13 (by decide) ?_
      exact z_iret C0 hr hlk rfl hK hP hD hS (0, fun _ => 0) ⟨rfl, rfl⟩ [0] rfl rfl rfl dX5_isNoMark_17

set_option maxHeartbeats 4000000 in
set_option maxRecDepth 100000 in
theorem c_X11_appeal_1 (l : Launch) (D : va_G) (k : Nat → ClassId) (q_0 : Nat) (q_1 : Nat) (q_2 : Nat) (q_3 : Nat) (q_4 : Nat) (q_5 : Nat) (q_6 : Nat) (q_7 : Nat) (q_8 : Nat) (q_9 : Nat) (q_10 : Nat) (q_11 : Nat) (q_12 : Nat) (q_13 : Nat) (q_14 : Nat) (q_15 : Nat) (q_16 : Nat) (q_17 : Nat) (q_18 : Nat) (q_19 : Nat) (q_20 : Nat) (q_21 : Nat) (q_22 : Nat) (q_23 : Nat) (x_0 : Int32) (x_1 : Int32) (x_2 : Int32) (x_3 : Int32) (x_4 : Int32) (x_5 : Int32) : zMi l yX11_appeal cX11_appeal 5 (some .int) ({ frames := 1, cells := 0, slots := 0, locals := 22 }) D k [.ref q_0, .int x_0, .int x_1, .int x_2] [(q_0, .inr (11, [.ref q_1, .ref q_3, .ref q_4, .ref q_5, .ref q_6, .int x_3])), (q_1, .inr (3, [.ref q_7, .ref q_8, .ref q_2, .ref q_9, .ref q_10, .ref q_11])), (q_2, .inr (5, [.int 0, .ref q_12, .ref q_13, .ref q_14, .ref q_15, .ref q_16, .ref q_17, .ref q_18, .ref q_19, .ref q_20, .ref q_21, .ref q_22, .ref q_23, .int x_4, .int x_5]))] (fun r u => (u.1 = 0 ∧ r = (-1) ∧ ((((x_1 < 0) ∨ (¬ x_1 < 0 ∧ ¬ x_1 ≤ 25))) ∨ (((¬ x_1 < 0 ∧ x_1 ≤ 25)) ∧ ((x_2 < 0) ∨ (¬ x_2 < 0 ∧ ¬ x_2 < 400))))) ∨ (u.1 = 1 ∧ r = (-2) ∧ ((((¬ x_1 < 0 ∧ x_1 ≤ 25)) ∧ ((¬ x_2 < 0 ∧ x_2 < 400)))))) (fun u => []) := by
  refine zMi_of (own := RX11) (by decide +kernel) rfl (Nat.le_of_ble_eq_true rfl) ?_
  intro p e s m args below meth c A ls C0 hr hlk hin hP hD hS hA hK hN hl
  have hx := C0.1
  have hb := C0.2.1
  have hml := C0.2.2.1
  have hown := C0.2.2.2.1
  have hts := C0.2.2.2.2
  have hl : lv_has ls 5 [(0, .ref q_0), (1, .int x_0), (2, .int x_1), (3, .int x_2)] := hl
  have hP : va_P D vwCl [(q_0, .inr (11, [.ref q_1, .ref q_3, .ref q_4, .ref q_5, .ref q_6, .int x_3])), (q_1, .inr (3, [.ref q_7, .ref q_8, .ref q_2, .ref q_9, .ref q_10, .ref q_11])), (q_2, .inr (5, [.int 0, .ref q_12, .ref q_13, .ref q_14, .ref q_15, .ref q_16, .ref q_17, .ref q_18, .ref q_19, .ref q_20, .ref q_21, .ref q_22, .ref q_23, .int x_4, .int x_5]))] s.heap := hP
  refine lv_aload_n hx hb dX11_appeal_0 rfl (lv_at hl 0 rfl) ?_
  refine va_get (D := D) (ci := 11) (v := .ref q_1) (C := RX11) (T := TX11) (N := 6) hx hb hts inX11 hown hK hP 0 rfl rfl 0 (by decide) (hts _ kF_X11_12) (fun _ h9 => h9) rfl dX11_appeal_1 ?_
  refine va_get (D := D) (ci := 3) (v := .ref q_2) (C := RX3) (T := TX3) (N := 6) hx hb hts inX3 hown hK hP 1 rfl rfl 2 (by decide) (hts _ kF_X11_137) (fun _ h9 => h9) rfl dX11_appeal_4 ?_
  refine lv_astore (lv' := [(4, .ref q_2), (0, .ref q_0), (1, .int x_0), (2, .int x_1), (3, .int x_2)]) hx hb dX11_appeal_7 hl (by decide) rfl (fun ls hl => ?_)
  refine lv_iload_n hx hb dX11_appeal_9 rfl (lv_at hl 3 rfl) ?_
  refine lv_iconst (v := 0) hx hb dX11_appeal_10 (by decide) ?_
  refine lv_bipush (v := 25) hx hb dX11_appeal_11 (by decide) ?_
  refine z_bi0 (z_runS (As := [.int x_1, .int 0, .int 25]) (rest := []) C0 (c_X11_isOutside_1 l D k x_1 0 25 _) okS_X11_isOutside kM_X11_47 rfl (z_p0 hK hN) rfl hl.1 rfl (Nat.le_of_ble_eq_true rfl) dX11_appeal_13 rfl) hP hS hA (fun r1 u1 H locs hw1 hP hS => ?_)
  obtain ⟨i1, a1⟩ := u1
  dsimp only at hw1
  rcases hw1 with ⟨rfl, rfl, c1⟩ | ⟨rfl, rfl, c1⟩
  · refine lv_if_ne (tgt := 26) hx hb dX11_appeal_16 (by decide) (fun _ => ?_) (fun c2 => absurd c2 (by decide))
    refine lv_aload_n hx hb dX11_appeal_26 rfl (lv_at hl 1 rfl) ?_
    refine lv_iconst (v := (-1)) hx hb dX11_appeal_27 (by decide) ?_
    refine z_bi (wr := [(q_1, .inr (3, [.ref q_7, .ref q_8, .ref q_2, .ref q_9, .ref q_10, .ref q_11])), (q_2, .inr (5, [.int 0, .ref q_12, .ref q_13, .ref q_14, .ref q_15, .ref q_16, .ref q_17, .ref q_18, .ref q_19, .ref q_20, .ref q_21, .ref q_22, .ref q_23, .int x_4, .int x_5]))]) (z_runV (C := RX11) (As := [.int (-1)]) (rest := []) C0 (c_X11_answer_1 l D k q_0 q_1 q_3 q_4 q_5 q_6 x_3 _) okV_X11_answer kM_X11_55 rfl (z_pV (q0 := 0) hK hN hP hD [0] rfl rfl rfl rfl rfl) rfl hl.1 rfl (Nat.le_of_ble_eq_true rfl) dX11_appeal_28 rfl) hP hD hS hA [0] [1, 2] rfl rfl rfl rfl (fun r3 u3 H locs hw3 hP hD hS => ?_)
    obtain ⟨i3, a3⟩ := u3
    dsimp only at hw3
    obtain ⟨rfl, rfl⟩ := hw3
    have hP : va_P D vwCl [(q_1, .inr (3, [.ref q_7, .ref q_8, .ref q_2, .ref q_9, .ref q_10, .ref q_11])), (q_2, .inr (5, [.int 0, .ref q_12, .ref q_13, .ref q_14, .ref q_15, .ref q_16, .ref q_17, .ref q_18, .ref q_19, .ref q_20, .ref q_21, .ref q_22, .ref q_23, .int x_4, .int x_5])), (q_0, .inr (11, [.ref q_1, .ref q_3, .ref q_4, .ref q_5, .ref q_6, .int (-1)]))] H := hP
    have hD : va_D A [(q_1, .inr (3, [.ref q_7, .ref q_8, .ref q_2, .ref q_9, .ref q_10, .ref q_11])), (q_2, .inr (5, [.int 0, .ref q_12, .ref q_13, .ref q_14, .ref q_15, .ref q_16, .ref q_17, .ref q_18, .ref q_19, .ref q_20, .ref q_21, .ref q_22, .ref q_23, .int x_4, .int x_5])), (q_0, .inr (11, [.ref q_1, .ref q_3, .ref q_4, .ref q_5, .ref q_6, .int (-1)]))] := hD
    exact z_iret C0 hr hlk rfl hK hP hD hS (0, fun _ => 0) (Or.inl ⟨rfl, rfl, (Or.inl c1)⟩) [] rfl rfl rfl dX11_appeal_31
  · refine lv_if_ne (tgt := 26) hx hb dX11_appeal_16 (by decide) (fun c4 => absurd (by decide) c4) (fun _ => ?_)
    refine lv_iload_n hx hb dX11_appeal_19 rfl (lv_at hl 4 rfl) ?_
    refine z_bi0 (z_runS (As := [.int x_2]) (rest := []) C0 (c_X11_isNoDay_1 l D k x_2 _) okS_X11_isNoDay kM_X11_72 rfl (z_p0 hK hN) rfl hl.1 rfl (Nat.le_of_ble_eq_true rfl) dX11_appeal_20 rfl) hP hS hA (fun r5 u5 H locs hw5 hP hS => ?_)
    obtain ⟨i5, a5⟩ := u5
    dsimp only at hw5
    rcases hw5 with ⟨rfl, rfl, c5⟩ | ⟨rfl, rfl, c5⟩
    · refine lv_if_eq (tgt := 32) hx hb dX11_appeal_23 (by decide) (fun c6 => absurd c6 (by decide)) (fun _ => ?_)
      refine lv_aload_n hx hb dX11_appeal_26 rfl (lv_at hl 1 rfl) ?_
      refine lv_iconst (v := (-1)) hx hb dX11_appeal_27 (by decide) ?_
      refine z_bi (wr := [(q_1, .inr (3, [.ref q_7, .ref q_8, .ref q_2, .ref q_9, .ref q_10, .ref q_11])), (q_2, .inr (5, [.int 0, .ref q_12, .ref q_13, .ref q_14, .ref q_15, .ref q_16, .ref q_17, .ref q_18, .ref q_19, .ref q_20, .ref q_21, .ref q_22, .ref q_23, .int x_4, .int x_5]))]) (z_runV (C := RX11) (As := [.int (-1)]) (rest := []) C0 (c_X11_answer_1 l D k q_0 q_1 q_3 q_4 q_5 q_6 x_3 _) okV_X11_answer kM_X11_55 rfl (z_pV (q0 := 0) hK hN hP hD [0] rfl rfl rfl rfl rfl) rfl hl.1 rfl (Nat.le_of_ble_eq_true rfl) dX11_appeal_28 rfl) hP hD hS hA [0] [1, 2] rfl rfl rfl rfl (fun r7 u7 H locs hw7 hP hD hS => ?_)
      obtain ⟨i7, a7⟩ := u7
      dsimp only at hw7
      obtain ⟨rfl, rfl⟩ := hw7
      have hP : va_P D vwCl [(q_1, .inr (3, [.ref q_7, .ref q_8, .ref q_2, .ref q_9, .ref q_10, .ref q_11])), (q_2, .inr (5, [.int 0, .ref q_12, .ref q_13, .ref q_14, .ref q_15, .ref q_16, .ref q_17, .ref q_18, .ref q_19, .ref q_20, .ref q_21, .ref q_22, .ref q_23, .int x_4, .int x_5])), (q_0, .inr (11, [.ref q_1, .ref q_3, .ref q_4, .ref q_5, .ref q_6, .int (-1)]))] H := hP
      have hD : va_D A [(q_1, .inr (3, [.ref q_7, .ref q_8, .ref q_2, .ref q_9, .ref q_10, .ref q_11])), (q_2, .inr (5, [.int 0, .ref q_12, .ref q_13, .ref q_14, .ref q_15, .ref q_16, .ref q_17, .ref q_18, .ref q_19, .ref q_20, .ref q_21, .ref q_22, .ref q_23, .int x_4, .int x_5])), (q_0, .inr (11, [.ref q_1, .ref q_3, .ref q_4, .ref q_5, .ref q_6, .int (-1)]))] := hD
      exact z_iret C0 hr hlk rfl hK hP hD hS (0, fun _ => 0) (Or.inl ⟨rfl, rfl, (Or.inr (⟨c1, c5⟩))⟩) [] rfl rfl rfl dX11_appeal_31
    · refine lv_if_eq (tgt := 32) hx hb dX11_appeal_23 (by decide) (fun _ => ?_) (fun c8 => absurd (by decide) c8)
      refine lv_aload hx hb dX11_appeal_32 (lv_at hl 0 rfl) ?_
      refine lv_iload_n hx hb dX11_appeal_34 rfl (lv_at hl 2 rfl) ?_
      refine z_bi (wr := [(q_0, .inr (11, [.ref q_1, .ref q_3, .ref q_4, .ref q_5, .ref q_6, .int x_3])), (q_1, .inr (3, [.ref q_7, .ref q_8, .ref q_2, .ref q_9, .ref q_10, .ref q_11]))]) (z_runV (C := RX5) (As := [.int x_0]) (rest := []) C0 (c_X5_isNoMark_1 l D k q_2 q_12 q_13 q_14 q_15 q_16 q_17 q_18 q_19 q_20 q_21 q_22 q_23 x_0 x_4 x_5 _) okV_X5_isNoMark kM_X11_149 rfl (z_pV (q0 := 2) hK hN hP hD [2] rfl rfl rfl rfl rfl) rfl hl.1 rfl (Nat.le_of_ble_eq_true rfl) dX11_appeal_35 rfl) hP hD hS hA [2] [0, 1] rfl rfl rfl rfl (fun r9 u9 H locs hw9 hP hD hS => ?_)
      obtain ⟨i9, a9⟩ := u9
      dsimp only at hw9
      obtain ⟨rfl, rfl⟩ := hw9
      have hP : va_P D vwCl [(q_0, .inr (11, [.ref q_1, .ref q_3, .ref q_4, .ref q_5, .ref q_6, .int x_3])), (q_1, .inr (3, [.ref q_7, .ref q_8, .ref q_2, .ref q_9, .ref q_10, .ref q_11])), (q_2, .inr (5, [.int 0, .ref q_12, .ref q_13, .ref q_14, .ref q_15, .ref q_16, .ref q_17, .ref q_18, .ref q_19, .ref q_20, .ref q_21, .ref q_22, .ref q_23, .int x_4, .int x_5]))] H := hP
      have hD : va_D A [(q_0, .inr (11, [.ref q_1, .ref q_3, .ref q_4, .ref q_5, .ref q_6, .int x_3])), (q_1, .inr (3, [.ref q_7, .ref q_8, .ref q_2, .ref q_9, .ref q_10, .ref q_11])), (q_2, .inr (5, [.int 0, .ref q_12, .ref q_13, .ref q_14, .ref q_15, .ref q_16, .ref q_17, .ref q_18, .ref q_19, .ref q_20, .ref q_21, .ref q_22, .ref q_23, .int x_4, .int x_5]))] := hD
      refine lv_if_eq (tgt := 48) hx hb dX11_appeal_38 (by decide) (fun c10 => absurd c10 (by decide)) (fun _ => ?_)
      refine lv_aload_n hx hb dX11_appeal_41 rfl (lv_at hl 1 rfl) ?_
      refine lv_bipush (v := (-2)) hx hb dX11_appeal_42 (by decide) ?_
      refine z_bi (wr := [(q_1, .inr (3, [.ref q_7, .ref q_8, .ref q_2, .ref q_9, .ref q_10, .ref q_11])), (q_2, .inr (5, [.int 0, .ref q_12, .ref q_13, .ref q_14, .ref q_15, .ref q_16, .ref q_17, .ref q_18, .ref q_19, .ref q_20, .ref q_21, .ref q_22, .ref q_23, .int x_4, .int x_5]))]) (z_runV (C := RX11) (As := [.int (-2)]) (rest := []) C0 (c_X11_answer_3 l D k q_0 q_1 q_3 q_4 q_5 q_6 x_3 _) okV_X11_answer kM_X11_55 rfl (z_pV (q0 := 0) hK hN hP hD [0] rfl rfl rfl rfl rfl) rfl hl.1 rfl (Nat.le_of_ble_eq_true rfl) dX11_appeal_44 rfl) hP hD hS hA [0] [1, 2] rfl rfl rfl rfl (fun r11 u11 H locs hw11 hP hD hS => ?_)
      obtain ⟨i11, a11⟩ := u11
      dsimp only at hw11
      obtain ⟨rfl, rfl⟩ := hw11
      have hP : va_P D vwCl [(q_1, .inr (3, [.ref q_7, .ref q_8, .ref q_2, .ref q_9, .ref q_10, .ref q_11])), (q_2, .inr (5, [.int 0, .ref q_12, .ref q_13, .ref q_14, .ref q_15, .ref q_16, .ref q_17, .ref q_18, .ref q_19, .ref q_20, .ref q_21, .ref q_22, .ref q_23, .int x_4, .int x_5])), (q_0, .inr (11, [.ref q_1, .ref q_3, .ref q_4, .ref q_5, .ref q_6, .int (-2)]))] H := hP
      have hD : va_D A [(q_1, .inr (3, [.ref q_7, .ref q_8, .ref q_2, .ref q_9, .ref q_10, .ref q_11])), (q_2, .inr (5, [.int 0, .ref q_12, .ref q_13, .ref q_14, .ref q_15, .ref q_16, .ref q_17, .ref q_18, .ref q_19, .ref q_20, .ref q_21, .ref q_22, .ref q_23, .int x_4, .int x_5])), (q_0, .inr (11, [.ref q_1, .ref q_3, .ref q_4, .ref q_5, .ref q_6, .int (-2)]))] := hD
      exact z_iret C0 hr hlk rfl hK hP hD hS (1, fun _ => 0) (Or.inr (⟨rfl, rfl, ⟨c1, c5⟩⟩)) [] rfl rfl rfl dX11_appeal_47

set_option maxHeartbeats 4000000 in
set_option maxRecDepth 100000 in
theorem c_X12_isMark_1 (l : Launch) (D : va_G) (k : Nat → ClassId) (q_0 : Nat) (q_1 : Nat) (q_2 : Nat) (q_3 : Nat) (q_4 : Nat) (q_5 : Nat) (q_6 : Nat) (q_7 : Nat) (q_8 : Nat) (q_9 : Nat) (q_10 : Nat) (q_11 : Nat) (q_12 : Nat) (q_13 : Nat) (q_14 : Nat) (q_15 : Nat) (q_16 : Nat) (q_17 : Nat) (q_18 : Nat) (q_19 : Nat) (q_20 : Nat) (q_21 : Nat) (q_22 : Nat) (q_23 : Nat) (q_24 : Nat) (q_25 : Nat) (x_0 : Int32) (x_1 : Int32) (x_2 : Int32) (x_3 : Int32) (x_4 : Int32) (x_5 : Int32) (x_6 : Int32) (x_7 : Int32) (g_8 : Int64) (x_9 : Int32) (x_10 : Int32) (x_11 : Int32) (x_12 : Int32) (x_13 : Int32) (x_14 : Int32) (x_15 : Int32) (x_16 : Int32) (g_17 : Int64) (g_18 : Int64) (x_19 : Int32) (x_20 : Int32) (x_21 : Int32) (x_22 : Int32) (x_23 : Int32) (x_24 : Int32) (x_25 : Int32) (x_26 : Int32) (x_27 : Int32) (x_28 : Int32) (x_29 : Int32) (x_30 : Int32) (x_31 : Int32) : zMi l yX12_isMark cX12_isMark 2 (some .boolean) ({ frames := 1, cells := 0, slots := 0, locals := 25 }) D k [.ref q_0, .int x_0] [(q_0, .inr (12, [.int x_1, .int x_2, .ref q_1, .ref q_2, .ref q_3, .int x_3, .ref q_4, .ref q_5, .ref q_6, .ref q_7, .ref q_8, .int x_4, .int x_5, .int x_6, .int x_7, .long g_8, .int x_9, .int x_10, .int x_11, .ref q_9, .int x_12, .ref q_10, .ref q_11, .int x_13, .ref q_12, .ref q_13, .int x_14, .int x_15, .ref q_14, .ref q_15, .ref q_16, .ref q_17, .int x_16, .long g_17, .long g_18, .int x_19, .int x_20, .int x_21, .int x_22, .ref q_18, .ref q_19, .int x_23, .int x_24, .int x_25, .int x_26, .ref q_20, .ref q_21, .int x_27, .int x_28, .ref q_22, .ref q_23, .ref q_24, .ref q_25, .int x_29, .int x_30, .int x_31])), (q_1, .inl (k 0, 27101, .inl (fun _ => 0)))] (fun r u => u.1 = 0 ∧ r = 0) (fun u => [(q_0, .inr (12, [.int x_1, .int x_2, .ref q_1, .ref q_2, .ref q_3, .int x_3, .ref q_4, .ref q_5, .ref q_6, .ref q_7, .ref q_8, .int x_4, .int x_5, .int x_6, .int x_7, .long g_8, .int x_9, .int x_10, .int x_11, .ref q_9, .int x_12, .ref q_10, .ref q_11, .int x_13, .ref q_12, .ref q_13, .int x_14, .int x_15, .ref q_14, .ref q_15, .ref q_16, .ref q_17, .int x_16, .long g_17, .long g_18, .int x_19, .int x_20, .int x_21, .int x_22, .ref q_18, .ref q_19, .int x_23, .int x_24, .int x_25, .int x_26, .ref q_20, .ref q_21, .int x_27, .int x_28, .ref q_22, .ref q_23, .ref q_24, .ref q_25, .int x_29, .int x_30, .int x_31])), (q_1, .inl (k 0, 27101, .inl (fun _ => 0)))]) := by
  refine zMi_of (own := RX12) (by decide +kernel) rfl (Nat.le_of_ble_eq_true rfl) ?_
  intro p e s m args below meth c A ls C0 hr hlk hin hP hD hS hA hK hN hl
  have hx := C0.1
  have hb := C0.2.1
  have hml := C0.2.2.1
  have hown := C0.2.2.2.1
  have hts := C0.2.2.2.2
  have hl : lv_has ls 2 [(0, .ref q_0), (1, .int x_0)] := hl
  have hP : va_P D vwCl [(q_0, .inr (12, [.int x_1, .int x_2, .ref q_1, .ref q_2, .ref q_3, .int x_3, .ref q_4, .ref q_5, .ref q_6, .ref q_7, .ref q_8, .int x_4, .int x_5, .int x_6, .int x_7, .long g_8, .int x_9, .int x_10, .int x_11, .ref q_9, .int x_12, .ref q_10, .ref q_11, .int x_13, .ref q_12, .ref q_13, .int x_14, .int x_15, .ref q_14, .ref q_15, .ref q_16, .ref q_17, .int x_16, .long g_17, .long g_18, .int x_19, .int x_20, .int x_21, .int x_22, .ref q_18, .ref q_19, .int x_23, .int x_24, .int x_25, .int x_26, .ref q_20, .ref q_21, .int x_27, .int x_28, .ref q_22, .ref q_23, .ref q_24, .ref q_25, .int x_29, .int x_30, .int x_31])), (q_1, .inl (k 0, 27101, .inl (fun _ => 0)))] s.heap := hP
  refine lv_iload_n hx hb dX12_isMark_0 rfl (lv_at hl 1 rfl) ?_
  refine lv_i2l (v := (Int32.toInt64 x_0)) hx hb dX12_isMark_1 rfl ?_
  refine lv_lconst (v := 0) hx hb dX12_isMark_2 (by decide) ?_
  refine lv_aload_n hx hb dX12_isMark_3 rfl (lv_at hl 0 rfl) ?_
  refine va_get (D := D) (ci := 12) (v := .ref q_1) (C := RX12) (T := TX12) (N := 56) hx hb hts inX12 hown hK hP 0 rfl rfl 2 (by decide) (hts _ kF_X12_7) (fun _ h9 => h9) rfl dX12_isMark_4 ?_
  refine lv_iconst (v := 3) hx hb dX12_isMark_7 (by decide) ?_
  refine va_iald hx hb hK hP 1 0 rfl rfl (by unfold vp_in; decide) dX12_isMark_8 ?_
  refine lv_toc (v := 0) rfl ?_
  refine lv_i2l (v := 0) hx hb dX12_isMark_9 (by decide) ?_
  refine lv_lconst (v := 1) hx hb dX12_isMark_10 (by decide) ?_
  refine lv_lsub hx hb dX12_isMark_11 ?_
  refine lv_tocl (v := (-1)) (by decide) ?_
  refine z_bi0 (z_runS (As := [.long (Int32.toInt64 x_0), .long 0, .long (-1)]) (rest := []) C0 (c_X12_in_1 l D k (Int32.toInt64 x_0) 0 (-1) _) okS_X12_in kM_X12_100 rfl (z_p0 hK hN) rfl hl.1 rfl (Nat.le_of_ble_eq_true rfl) dX12_isMark_12 rfl) hP hS hA (fun r1 u1 H locs hw1 hP hS => ?_)
  obtain ⟨i1, a1⟩ := u1
  dsimp only at hw1
  rcases hw1 with ⟨rfl, rfl, c1⟩ | ⟨rfl, rfl, c1⟩
  · exact z_iret C0 hr hlk rfl hK hP hD hS (0, fun _ => 0) ⟨rfl, rfl⟩ [0, 1] rfl rfl rfl dX12_isMark_15
  · exact (show False by have bA0 := Int32.le_toInt x_0; have bB0 := Int32.toInt_lt x_0; revert c1; simp only [vp_in_iff, Int32.lt_iff_toInt_lt, Int32.le_iff_toInt_le, Int64.lt_iff_toInt_lt, Int64.le_iff_toInt_le, Int32.toInt_toInt64, ← Int32.toInt_inj, ← Int64.toInt_inj, Int32.reduceToInt, Int64.reduceToInt] <;> omega).elim

set_option maxHeartbeats 4000000 in
set_option maxRecDepth 100000 in
theorem c_X12_appeal_1 (l : Launch) (D : va_G) (k : Nat → ClassId) (q_0 : Nat) (q_1 : Nat) (q_2 : Nat) (q_3 : Nat) (q_4 : Nat) (q_5 : Nat) (q_6 : Nat) (q_7 : Nat) (q_8 : Nat) (q_9 : Nat) (q_10 : Nat) (q_11 : Nat) (q_12 : Nat) (q_13 : Nat) (q_14 : Nat) (q_15 : Nat) (q_16 : Nat) (q_17 : Nat) (q_18 : Nat) (q_19 : Nat) (q_20 : Nat) (q_21 : Nat) (q_22 : Nat) (q_23 : Nat) (q_24 : Nat) (q_25 : Nat) (x_0 : Int32) (x_1 : Int32) (x_2 : Int32) (x_3 : Int32) (x_4 : Int32) (x_5 : Int32) (x_6 : Int32) (x_7 : Int32) (x_8 : Int32) (x_9 : Int32) (g_10 : Int64) (x_11 : Int32) (x_12 : Int32) (x_13 : Int32) (x_14 : Int32) (x_15 : Int32) (x_16 : Int32) (x_17 : Int32) (x_18 : Int32) (g_19 : Int64) (g_20 : Int64) (x_21 : Int32) (x_22 : Int32) (x_23 : Int32) (x_24 : Int32) (x_25 : Int32) (x_26 : Int32) (x_27 : Int32) (x_28 : Int32) (x_29 : Int32) (x_30 : Int32) (x_31 : Int32) (x_32 : Int32) (x_33 : Int32) : zMi l yX12_appeal cX12_appeal 4 (some .int) ({ frames := 2, cells := 0, slots := 0, locals := 46 }) D k [.ref q_0, .int x_0, .int x_1, .int x_2] [(q_0, .inr (12, [.int x_3, .int x_4, .ref q_1, .ref q_2, .ref q_3, .int x_5, .ref q_4, .ref q_5, .ref q_6, .ref q_7, .ref q_8, .int x_6, .int x_7, .int x_8, .int x_9, .long g_10, .int x_11, .int x_12, .int x_13, .ref q_9, .int x_14, .ref q_10, .ref q_11, .int x_15, .ref q_12, .ref q_13, .int x_16, .int x_17, .ref q_14, .ref q_15, .ref q_16, .ref q_17, .int x_18, .long g_19, .long g_20, .int x_21, .int x_22, .int x_23, .int x_24, .ref q_18, .ref q_19, .int x_25, .int x_26, .int x_27, .int x_28, .ref q_20, .ref q_21, .int x_29, .int x_30, .ref q_22, .ref q_23, .ref q_24, .ref q_25, .int x_31, .int x_32, .int x_33])), (q_1, .inl (k 0, 27101, .inl (fun _ => 0)))] (fun r u => (u.1 = 0 ∧ r = (-1) ∧ (((((Int32.toInt64 x_1) < 0) ∨ (¬ (Int32.toInt64 x_1) < 0 ∧ (25 : Int64) < (Int32.toInt64 x_1)))) ∨ (((¬ (Int32.toInt64 x_1) < 0 ∧ ¬ (25 : Int64) < (Int32.toInt64 x_1))) ∧ (((Int32.toInt64 x_2) < 0) ∨ (¬ (Int32.toInt64 x_2) < 0 ∧ (399 : Int64) < (Int32.toInt64 x_2)))))) ∨ (u.1 = 1 ∧ r = (-2) ∧ ((((¬ (Int32.toInt64 x_1) < 0 ∧ ¬ (25 : Int64) < (Int32.toInt64 x_1))) ∧ ((¬ (Int32.toInt64 x_2) < 0 ∧ ¬ (399 : Int64) < (Int32.toInt64 x_2))))))) (fun u => []) := by
  refine zMi_of (own := RX12) (by decide +kernel) rfl (Nat.le_of_ble_eq_true rfl) ?_
  intro p e s m args below meth c A ls C0 hr hlk hin hP hD hS hA hK hN hl
  have hx := C0.1
  have hb := C0.2.1
  have hml := C0.2.2.1
  have hown := C0.2.2.2.1
  have hts := C0.2.2.2.2
  have hl : lv_has ls 4 [(0, .ref q_0), (1, .int x_0), (2, .int x_1), (3, .int x_2)] := hl
  have hP : va_P D vwCl [(q_0, .inr (12, [.int x_3, .int x_4, .ref q_1, .ref q_2, .ref q_3, .int x_5, .ref q_4, .ref q_5, .ref q_6, .ref q_7, .ref q_8, .int x_6, .int x_7, .int x_8, .int x_9, .long g_10, .int x_11, .int x_12, .int x_13, .ref q_9, .int x_14, .ref q_10, .ref q_11, .int x_15, .ref q_12, .ref q_13, .int x_16, .int x_17, .ref q_14, .ref q_15, .ref q_16, .ref q_17, .int x_18, .long g_19, .long g_20, .int x_21, .int x_22, .int x_23, .int x_24, .ref q_18, .ref q_19, .int x_25, .int x_26, .int x_27, .int x_28, .ref q_20, .ref q_21, .int x_29, .int x_30, .ref q_22, .ref q_23, .ref q_24, .ref q_25, .int x_31, .int x_32, .int x_33])), (q_1, .inl (k 0, 27101, .inl (fun _ => 0)))] s.heap := hP
  refine lv_aload_n hx hb dX12_appeal_0 rfl (lv_at hl 0 rfl) ?_
  refine lv_iconst (v := 0) hx hb dX12_appeal_1 (by decide) ?_
  refine va_put (D := D) (ci := 12) (v := .int 0) (ty := .int) (C := RX12) (T := TX12) (N := 56) hx hb hts inX12 tyX12 tyX12_ok nmX12 hown hK hP hD hS 0 rfl rfl 0 (by decide) (hts _ kF_X12_92) (fun _ h9 => h9) rfl (by decide +kernel) rfl rfl (Nat.le_of_ble_eq_true rfl) dX12_appeal_2 (fun H locs hP hD hS => ?_)
  have hP : va_P D vwCl [(q_0, .inr (12, [.int 0, .int x_4, .ref q_1, .ref q_2, .ref q_3, .int x_5, .ref q_4, .ref q_5, .ref q_6, .ref q_7, .ref q_8, .int x_6, .int x_7, .int x_8, .int x_9, .long g_10, .int x_11, .int x_12, .int x_13, .ref q_9, .int x_14, .ref q_10, .ref q_11, .int x_15, .ref q_12, .ref q_13, .int x_16, .int x_17, .ref q_14, .ref q_15, .ref q_16, .ref q_17, .int x_18, .long g_19, .long g_20, .int x_21, .int x_22, .int x_23, .int x_24, .ref q_18, .ref q_19, .int x_25, .int x_26, .int x_27, .int x_28, .ref q_20, .ref q_21, .int x_29, .int x_30, .ref q_22, .ref q_23, .ref q_24, .ref q_25, .int x_31, .int x_32, .int x_33])), (q_1, .inl (k 0, 27101, .inl (fun _ => 0)))] H := hP
  have hD : va_D A [(q_0, .inr (12, [.int 0, .int x_4, .ref q_1, .ref q_2, .ref q_3, .int x_5, .ref q_4, .ref q_5, .ref q_6, .ref q_7, .ref q_8, .int x_6, .int x_7, .int x_8, .int x_9, .long g_10, .int x_11, .int x_12, .int x_13, .ref q_9, .int x_14, .ref q_10, .ref q_11, .int x_15, .ref q_12, .ref q_13, .int x_16, .int x_17, .ref q_14, .ref q_15, .ref q_16, .ref q_17, .int x_18, .long g_19, .long g_20, .int x_21, .int x_22, .int x_23, .int x_24, .ref q_18, .ref q_19, .int x_25, .int x_26, .int x_27, .int x_28, .ref q_20, .ref q_21, .int x_29, .int x_30, .ref q_22, .ref q_23, .ref q_24, .ref q_25, .int x_31, .int x_32, .int x_33])), (q_1, .inl (k 0, 27101, .inl (fun _ => 0)))] := hD
  refine lv_iload_n hx hb dX12_appeal_5 rfl (lv_at hl 2 rfl) ?_
  refine lv_i2l (v := (Int32.toInt64 x_1)) hx hb dX12_appeal_6 rfl ?_
  refine lv_lconst (v := 0) hx hb dX12_appeal_7 (by decide) ?_
  refine lv_ldc2 hx hb hown (hts _ kL_X12_151) dX12_appeal_8 ?_
  refine z_bi0 (z_runS (As := [.long (Int32.toInt64 x_1), .long 0, .long 25]) (rest := []) C0 (c_X12_in_1 l D k (Int32.toInt64 x_1) 0 25 _) okS_X12_in kM_X12_100 rfl (z_p0 hK hN) rfl hl.1 rfl (Nat.le_of_ble_eq_true rfl) dX12_appeal_11 rfl) hP hS hA (fun r1 u1 H locs hw1 hP hS => ?_)
  obtain ⟨i1, a1⟩ := u1
  dsimp only at hw1
  rcases hw1 with ⟨rfl, rfl, c1⟩ | ⟨rfl, rfl, c1⟩
  · refine lv_if_eq (tgt := 24) hx hb dX12_appeal_14 (by decide) (fun _ => ?_) (fun c2 => absurd (by decide) c2)
    refine lv_aload_n hx hb dX12_appeal_24 rfl (lv_at hl 0 rfl) ?_
    refine lv_iconst (v := (-1)) hx hb dX12_appeal_25 (by decide) ?_
    refine z_bi (wr := [(q_1, .inl (k 0, 27101, .inl (fun _ => 0)))]) (z_runV (C := RX12) (As := [.int (-1)]) (rest := []) C0 (c_X12_told_1 l D k q_0 q_1 q_2 q_3 q_4 q_5 q_6 q_7 q_8 q_9 q_10 q_11 q_12 q_13 q_14 q_15 q_16 q_17 q_18 q_19 q_20 q_21 q_22 q_23 q_24 q_25 0 x_4 x_5 x_6 x_7 x_8 x_9 g_10 x_11 x_12 x_13 x_14 x_15 x_16 x_17 x_18 g_19 g_20 x_21 x_22 x_23 x_24 x_25 x_26 x_27 x_28 x_29 x_30 x_31 x_32 x_33 _) okV_X12_told kM_X12_106 rfl (z_pV (q0 := 0) hK hN hP hD [0] rfl rfl rfl rfl rfl) rfl hl.1 rfl (Nat.le_of_ble_eq_true rfl) dX12_appeal_26 rfl) hP hD hS hA [0] [1] rfl rfl rfl rfl (fun r3 u3 H locs hw3 hP hD hS => ?_)
    obtain ⟨i3, a3⟩ := u3
    dsimp only at hw3
    obtain ⟨rfl, rfl⟩ := hw3
    have hP : va_P D vwCl [(q_1, .inl (k 0, 27101, .inl (fun _ => 0))), (q_0, .inr (12, [.int 0, .int (-1), .ref q_1, .ref q_2, .ref q_3, .int x_5, .ref q_4, .ref q_5, .ref q_6, .ref q_7, .ref q_8, .int x_6, .int x_7, .int x_8, .int x_9, .long g_10, .int x_11, .int x_12, .int x_13, .ref q_9, .int x_14, .ref q_10, .ref q_11, .int x_15, .ref q_12, .ref q_13, .int x_16, .int x_17, .ref q_14, .ref q_15, .ref q_16, .ref q_17, .int x_18, .long g_19, .long g_20, .int x_21, .int x_22, .int x_23, .int x_24, .ref q_18, .ref q_19, .int x_25, .int x_26, .int x_27, .int x_28, .ref q_20, .ref q_21, .int x_29, .int x_30, .ref q_22, .ref q_23, .ref q_24, .ref q_25, .int x_31, .int x_32, .int x_33]))] H := hP
    have hD : va_D A [(q_1, .inl (k 0, 27101, .inl (fun _ => 0))), (q_0, .inr (12, [.int 0, .int (-1), .ref q_1, .ref q_2, .ref q_3, .int x_5, .ref q_4, .ref q_5, .ref q_6, .ref q_7, .ref q_8, .int x_6, .int x_7, .int x_8, .int x_9, .long g_10, .int x_11, .int x_12, .int x_13, .ref q_9, .int x_14, .ref q_10, .ref q_11, .int x_15, .ref q_12, .ref q_13, .int x_16, .int x_17, .ref q_14, .ref q_15, .ref q_16, .ref q_17, .int x_18, .long g_19, .long g_20, .int x_21, .int x_22, .int x_23, .int x_24, .ref q_18, .ref q_19, .int x_25, .int x_26, .int x_27, .int x_28, .ref q_20, .ref q_21, .int x_29, .int x_30, .ref q_22, .ref q_23, .ref q_24, .ref q_25, .int x_31, .int x_32, .int x_33]))] := hD
    exact z_iret C0 hr hlk rfl hK hP hD hS (0, fun _ => 0) (Or.inl ⟨rfl, rfl, (Or.inl c1)⟩) [] rfl rfl rfl dX12_appeal_29
  · refine lv_if_eq (tgt := 24) hx hb dX12_appeal_14 (by decide) (fun c4 => absurd c4 (by decide)) (fun _ => ?_)
    refine lv_iload_n hx hb dX12_appeal_17 rfl (lv_at hl 3 rfl) ?_
    refine z_bi0 (z_runS (As := [.int x_2]) (rest := []) C0 (c_X12_isDay_1 l D k x_2 _) okS_X12_isDay kM_X12_127 rfl (z_p0 hK hN) rfl hl.1 rfl (Nat.le_of_ble_eq_true rfl) dX12_appeal_18 rfl) hP hS hA (fun r5 u5 H locs hw5 hP hS => ?_)
    obtain ⟨i5, a5⟩ := u5
    dsimp only at hw5
    rcases hw5 with ⟨rfl, rfl, c5⟩ | ⟨rfl, rfl, c5⟩
    · refine lv_if_ne (tgt := 30) hx hb dX12_appeal_21 (by decide) (fun c6 => absurd (by decide) c6) (fun _ => ?_)
      refine lv_aload_n hx hb dX12_appeal_24 rfl (lv_at hl 0 rfl) ?_
      refine lv_iconst (v := (-1)) hx hb dX12_appeal_25 (by decide) ?_
      refine z_bi (wr := [(q_1, .inl (k 0, 27101, .inl (fun _ => 0)))]) (z_runV (C := RX12) (As := [.int (-1)]) (rest := []) C0 (c_X12_told_1 l D k q_0 q_1 q_2 q_3 q_4 q_5 q_6 q_7 q_8 q_9 q_10 q_11 q_12 q_13 q_14 q_15 q_16 q_17 q_18 q_19 q_20 q_21 q_22 q_23 q_24 q_25 0 x_4 x_5 x_6 x_7 x_8 x_9 g_10 x_11 x_12 x_13 x_14 x_15 x_16 x_17 x_18 g_19 g_20 x_21 x_22 x_23 x_24 x_25 x_26 x_27 x_28 x_29 x_30 x_31 x_32 x_33 _) okV_X12_told kM_X12_106 rfl (z_pV (q0 := 0) hK hN hP hD [0] rfl rfl rfl rfl rfl) rfl hl.1 rfl (Nat.le_of_ble_eq_true rfl) dX12_appeal_26 rfl) hP hD hS hA [0] [1] rfl rfl rfl rfl (fun r7 u7 H locs hw7 hP hD hS => ?_)
      obtain ⟨i7, a7⟩ := u7
      dsimp only at hw7
      obtain ⟨rfl, rfl⟩ := hw7
      have hP : va_P D vwCl [(q_1, .inl (k 0, 27101, .inl (fun _ => 0))), (q_0, .inr (12, [.int 0, .int (-1), .ref q_1, .ref q_2, .ref q_3, .int x_5, .ref q_4, .ref q_5, .ref q_6, .ref q_7, .ref q_8, .int x_6, .int x_7, .int x_8, .int x_9, .long g_10, .int x_11, .int x_12, .int x_13, .ref q_9, .int x_14, .ref q_10, .ref q_11, .int x_15, .ref q_12, .ref q_13, .int x_16, .int x_17, .ref q_14, .ref q_15, .ref q_16, .ref q_17, .int x_18, .long g_19, .long g_20, .int x_21, .int x_22, .int x_23, .int x_24, .ref q_18, .ref q_19, .int x_25, .int x_26, .int x_27, .int x_28, .ref q_20, .ref q_21, .int x_29, .int x_30, .ref q_22, .ref q_23, .ref q_24, .ref q_25, .int x_31, .int x_32, .int x_33]))] H := hP
      have hD : va_D A [(q_1, .inl (k 0, 27101, .inl (fun _ => 0))), (q_0, .inr (12, [.int 0, .int (-1), .ref q_1, .ref q_2, .ref q_3, .int x_5, .ref q_4, .ref q_5, .ref q_6, .ref q_7, .ref q_8, .int x_6, .int x_7, .int x_8, .int x_9, .long g_10, .int x_11, .int x_12, .int x_13, .ref q_9, .int x_14, .ref q_10, .ref q_11, .int x_15, .ref q_12, .ref q_13, .int x_16, .int x_17, .ref q_14, .ref q_15, .ref q_16, .ref q_17, .int x_18, .long g_19, .long g_20, .int x_21, .int x_22, .int x_23, .int x_24, .ref q_18, .ref q_19, .int x_25, .int x_26, .int x_27, .int x_28, .ref q_20, .ref q_21, .int x_29, .int x_30, .ref q_22, .ref q_23, .ref q_24, .ref q_25, .int x_31, .int x_32, .int x_33]))] := hD
      exact z_iret C0 hr hlk rfl hK hP hD hS (0, fun _ => 0) (Or.inl ⟨rfl, rfl, (Or.inr (⟨c1, c5⟩))⟩) [] rfl rfl rfl dX12_appeal_29
    · refine lv_if_ne (tgt := 30) hx hb dX12_appeal_21 (by decide) (fun _ => ?_) (fun c8 => absurd c8 (by decide))
      refine lv_aload_n hx hb dX12_appeal_30 rfl (lv_at hl 0 rfl) ?_
      refine lv_iload_n hx hb dX12_appeal_31 rfl (lv_at hl 1 rfl) ?_
      refine z_bi (wr := []) (z_runV (C := RX12) (As := [.int x_0]) (rest := []) C0 (c_X12_isMark_1 l D k q_0 q_1 q_2 q_3 q_4 q_5 q_6 q_7 q_8 q_9 q_10 q_11 q_12 q_13 q_14 q_15 q_16 q_17 q_18 q_19 q_20 q_21 q_22 q_23 q_24 q_25 x_0 0 x_4 x_5 x_6 x_7 x_8 x_9 g_10 x_11 x_12 x_13 x_14 x_15 x_16 x_17 x_18 g_19 g_20 x_21 x_22 x_23 x_24 x_25 x_26 x_27 x_28 x_29 x_30 x_31 x_32 x_33 _) okV_X12_isMark kM_X12_158 rfl (z_pV (q0 := 0) hK hN hP hD [0, 1] rfl rfl rfl rfl rfl) rfl hl.1 rfl (Nat.le_of_ble_eq_true rfl) dX12_appeal_32 rfl) hP hD hS hA [0, 1] [] rfl rfl rfl rfl (fun r9 u9 H locs hw9 hP hD hS => ?_)
      obtain ⟨i9, a9⟩ := u9
      dsimp only at hw9
      obtain ⟨rfl, rfl⟩ := hw9
      have hP : va_P D vwCl [(q_0, .inr (12, [.int 0, .int x_4, .ref q_1, .ref q_2, .ref q_3, .int x_5, .ref q_4, .ref q_5, .ref q_6, .ref q_7, .ref q_8, .int x_6, .int x_7, .int x_8, .int x_9, .long g_10, .int x_11, .int x_12, .int x_13, .ref q_9, .int x_14, .ref q_10, .ref q_11, .int x_15, .ref q_12, .ref q_13, .int x_16, .int x_17, .ref q_14, .ref q_15, .ref q_16, .ref q_17, .int x_18, .long g_19, .long g_20, .int x_21, .int x_22, .int x_23, .int x_24, .ref q_18, .ref q_19, .int x_25, .int x_26, .int x_27, .int x_28, .ref q_20, .ref q_21, .int x_29, .int x_30, .ref q_22, .ref q_23, .ref q_24, .ref q_25, .int x_31, .int x_32, .int x_33])), (q_1, .inl (k 0, 27101, .inl (fun _ => 0)))] H := hP
      have hD : va_D A [(q_0, .inr (12, [.int 0, .int x_4, .ref q_1, .ref q_2, .ref q_3, .int x_5, .ref q_4, .ref q_5, .ref q_6, .ref q_7, .ref q_8, .int x_6, .int x_7, .int x_8, .int x_9, .long g_10, .int x_11, .int x_12, .int x_13, .ref q_9, .int x_14, .ref q_10, .ref q_11, .int x_15, .ref q_12, .ref q_13, .int x_16, .int x_17, .ref q_14, .ref q_15, .ref q_16, .ref q_17, .int x_18, .long g_19, .long g_20, .int x_21, .int x_22, .int x_23, .int x_24, .ref q_18, .ref q_19, .int x_25, .int x_26, .int x_27, .int x_28, .ref q_20, .ref q_21, .int x_29, .int x_30, .ref q_22, .ref q_23, .ref q_24, .ref q_25, .int x_31, .int x_32, .int x_33])), (q_1, .inl (k 0, 27101, .inl (fun _ => 0)))] := hD
      refine lv_if_ne (tgt := 45) hx hb dX12_appeal_35 (by decide) (fun c10 => absurd (by decide) c10) (fun _ => ?_)
      refine lv_aload_n hx hb dX12_appeal_38 rfl (lv_at hl 0 rfl) ?_
      refine lv_bipush (v := (-2)) hx hb dX12_appeal_39 (by decide) ?_
      refine z_bi (wr := [(q_1, .inl (k 0, 27101, .inl (fun _ => 0)))]) (z_runV (C := RX12) (As := [.int (-2)]) (rest := []) C0 (c_X12_told_3 l D k q_0 q_1 q_2 q_3 q_4 q_5 q_6 q_7 q_8 q_9 q_10 q_11 q_12 q_13 q_14 q_15 q_16 q_17 q_18 q_19 q_20 q_21 q_22 q_23 q_24 q_25 0 x_4 x_5 x_6 x_7 x_8 x_9 g_10 x_11 x_12 x_13 x_14 x_15 x_16 x_17 x_18 g_19 g_20 x_21 x_22 x_23 x_24 x_25 x_26 x_27 x_28 x_29 x_30 x_31 x_32 x_33 _) okV_X12_told kM_X12_106 rfl (z_pV (q0 := 0) hK hN hP hD [0] rfl rfl rfl rfl rfl) rfl hl.1 rfl (Nat.le_of_ble_eq_true rfl) dX12_appeal_41 rfl) hP hD hS hA [0] [1] rfl rfl rfl rfl (fun r11 u11 H locs hw11 hP hD hS => ?_)
      obtain ⟨i11, a11⟩ := u11
      dsimp only at hw11
      obtain ⟨rfl, rfl⟩ := hw11
      have hP : va_P D vwCl [(q_1, .inl (k 0, 27101, .inl (fun _ => 0))), (q_0, .inr (12, [.int 0, .int (-2), .ref q_1, .ref q_2, .ref q_3, .int x_5, .ref q_4, .ref q_5, .ref q_6, .ref q_7, .ref q_8, .int x_6, .int x_7, .int x_8, .int x_9, .long g_10, .int x_11, .int x_12, .int x_13, .ref q_9, .int x_14, .ref q_10, .ref q_11, .int x_15, .ref q_12, .ref q_13, .int x_16, .int x_17, .ref q_14, .ref q_15, .ref q_16, .ref q_17, .int x_18, .long g_19, .long g_20, .int x_21, .int x_22, .int x_23, .int x_24, .ref q_18, .ref q_19, .int x_25, .int x_26, .int x_27, .int x_28, .ref q_20, .ref q_21, .int x_29, .int x_30, .ref q_22, .ref q_23, .ref q_24, .ref q_25, .int x_31, .int x_32, .int x_33]))] H := hP
      have hD : va_D A [(q_1, .inl (k 0, 27101, .inl (fun _ => 0))), (q_0, .inr (12, [.int 0, .int (-2), .ref q_1, .ref q_2, .ref q_3, .int x_5, .ref q_4, .ref q_5, .ref q_6, .ref q_7, .ref q_8, .int x_6, .int x_7, .int x_8, .int x_9, .long g_10, .int x_11, .int x_12, .int x_13, .ref q_9, .int x_14, .ref q_10, .ref q_11, .int x_15, .ref q_12, .ref q_13, .int x_16, .int x_17, .ref q_14, .ref q_15, .ref q_16, .ref q_17, .int x_18, .long g_19, .long g_20, .int x_21, .int x_22, .int x_23, .int x_24, .ref q_18, .ref q_19, .int x_25, .int x_26, .int x_27, .int x_28, .ref q_20, .ref q_21, .int x_29, .int x_30, .ref q_22, .ref q_23, .ref q_24, .ref q_25, .int x_31, .int x_32, .int x_33]))] := hD
      exact z_iret C0 hr hlk rfl hK hP hD hS (1, fun _ => 0) (Or.inr (⟨rfl, rfl, ⟨c1, c5⟩⟩)) [] rfl rfl rfl dX12_appeal_44

set_option maxHeartbeats 4000000 in
set_option maxRecDepth 100000 in
theorem c_X11_markThatCounts_1 (l : Launch) (D : va_G) (k : Nat → ClassId) (q_0 : Nat) (q_1 : Nat) (q_2 : Nat) (q_3 : Nat) (q_4 : Nat) (q_5 : Nat) (q_6 : Nat) (q_7 : Nat) (q_8 : Nat) (q_9 : Nat) (q_10 : Nat) (q_11 : Nat) (q_12 : Nat) (q_13 : Nat) (q_14 : Nat) (q_15 : Nat) (q_16 : Nat) (q_17 : Nat) (q_18 : Nat) (q_19 : Nat) (q_20 : Nat) (q_21 : Nat) (q_22 : Nat) (q_23 : Nat) (x_0 : Int32) (x_1 : Int32) (x_2 : Int32) (x_3 : Int32) (x_4 : Int32) (x_5 : Int32) (x_6 : Int32) : zMi l yX11_markThatCounts cX11_markThatCounts 5 (some .int) ({ frames := 1, cells := 0, slots := 0, locals := 21 }) D k [.ref q_0, .int x_0, .int x_1, .int x_2, .int x_3] [(q_0, .inr (11, [.ref q_1, .ref q_3, .ref q_4, .ref q_5, .ref q_6, .int x_4])), (q_1, .inr (3, [.ref q_2, .ref q_7, .ref q_8, .ref q_9, .ref q_10, .ref q_11])), (q_2, .inr (6, [.int 0, .ref q_12, .ref q_13, .ref q_14, .ref q_15, .ref q_16, .int x_5, .ref q_17, .int x_6, .ref q_18, .ref q_19, .ref q_20, .ref q_21, .ref q_22, .ref q_23]))] (fun r u => u.1 = 0 ∧ r = (-1)) (fun u => [(q_0, .inr (11, [.ref q_1, .ref q_3, .ref q_4, .ref q_5, .ref q_6, .int x_4])), (q_1, .inr (3, [.ref q_2, .ref q_7, .ref q_8, .ref q_9, .ref q_10, .ref q_11])), (q_2, .inr (6, [.int 0, .ref q_12, .ref q_13, .ref q_14, .ref q_15, .ref q_16, .int x_5, .ref q_17, .int x_6, .ref q_18, .ref q_19, .ref q_20, .ref q_21, .ref q_22, .ref q_23]))]) := by
  refine zMi_of (own := RX11) (by decide +kernel) rfl (Nat.le_of_ble_eq_true rfl) ?_
  intro p e s m args below meth c A ls C0 hr hlk hin hP hD hS hA hK hN hl
  have hx := C0.1
  have hb := C0.2.1
  have hml := C0.2.2.1
  have hown := C0.2.2.2.1
  have hts := C0.2.2.2.2
  have hl : lv_has ls 5 [(0, .ref q_0), (1, .int x_0), (2, .int x_1), (3, .int x_2), (4, .int x_3)] := hl
  have hP : va_P D vwCl [(q_0, .inr (11, [.ref q_1, .ref q_3, .ref q_4, .ref q_5, .ref q_6, .int x_4])), (q_1, .inr (3, [.ref q_2, .ref q_7, .ref q_8, .ref q_9, .ref q_10, .ref q_11])), (q_2, .inr (6, [.int 0, .ref q_12, .ref q_13, .ref q_14, .ref q_15, .ref q_16, .int x_5, .ref q_17, .int x_6, .ref q_18, .ref q_19, .ref q_20, .ref q_21, .ref q_22, .ref q_23]))] s.heap := hP
  refine lv_iload_n hx hb dX11_markThatCounts_0 rfl (lv_at hl 3 rfl) ?_
  refine z_bi0 (z_runS (As := [.int x_2]) (rest := []) C0 (c_X11_isNoHalf_1 l D k x_2 _) okS_X11_isNoHalf kM_X11_118 rfl (z_p0 hK hN) rfl hl.1 rfl (Nat.le_of_ble_eq_true rfl) dX11_markThatCounts_1 rfl) hP hS hA (fun r1 u1 H locs hw1 hP hS => ?_)
  obtain ⟨i1, a1⟩ := u1
  dsimp only at hw1
  rcases hw1 with ⟨rfl, rfl, c1⟩ | ⟨rfl, rfl, c1⟩
  · refine lv_if_ne (tgt := 43) hx hb dX11_markThatCounts_4 (by decide) (fun _ => ?_) (fun c2 => absurd c2 (by decide))
    refine lv_iconst (v := (-1)) hx hb dX11_markThatCounts_43 (by decide) ?_
    exact z_iret C0 hr hlk rfl hK hP hD hS (0, fun _ => 0) ⟨rfl, rfl⟩ [0, 1, 2] rfl rfl rfl dX11_markThatCounts_44
  · refine lv_if_ne (tgt := 43) hx hb dX11_markThatCounts_4 (by decide) (fun c3 => absurd (by decide) c3) (fun _ => ?_)
    refine lv_iload hx hb dX11_markThatCounts_7 (lv_at hl 4 rfl) ?_
    refine z_bi0 (z_runS (As := [.int x_3]) (rest := []) C0 (c_X11_isNoDay_1 l D k x_3 _) okS_X11_isNoDay kM_X11_72 rfl (z_p0 hK hN) rfl hl.1 rfl (Nat.le_of_ble_eq_true rfl) dX11_markThatCounts_9 rfl) hP hS hA (fun r4 u4 H locs hw4 hP hS => ?_)
    obtain ⟨i4, a4⟩ := u4
    dsimp only at hw4
    rcases hw4 with ⟨rfl, rfl, c4⟩ | ⟨rfl, rfl, c4⟩
    · refine lv_if_ne (tgt := 43) hx hb dX11_markThatCounts_12 (by decide) (fun _ => ?_) (fun c5 => absurd c5 (by decide))
      refine lv_iconst (v := (-1)) hx hb dX11_markThatCounts_43 (by decide) ?_
      exact z_iret C0 hr hlk rfl hK hP hD hS (0, fun _ => 0) ⟨rfl, rfl⟩ [0, 1, 2] rfl rfl rfl dX11_markThatCounts_44
    · refine lv_if_ne (tgt := 43) hx hb dX11_markThatCounts_12 (by decide) (fun c6 => absurd (by decide) c6) (fun _ => ?_)
      refine lv_aload_n hx hb dX11_markThatCounts_15 rfl (lv_at hl 0 rfl) ?_
      refine va_get (D := D) (ci := 11) (v := .ref q_1) (C := RX11) (T := TX11) (N := 6) hx hb hts inX11 hown hK hP 0 rfl rfl 0 (by decide) (hts _ kF_X11_12) (fun _ h9 => h9) rfl dX11_markThatCounts_16 ?_
      refine va_get (D := D) (ci := 3) (v := .ref q_2) (C := RX3) (T := TX3) (N := 6) hx hb hts inX3 hown hK hP 1 rfl rfl 0 (by decide) (hts _ kF_X11_43) (fun _ h9 => h9) rfl dX11_markThatCounts_19 ?_
      refine lv_iload_n hx hb dX11_markThatCounts_22 rfl (lv_at hl 2 rfl) ?_
      refine z_bi (wr := [(q_0, .inr (11, [.ref q_1, .ref q_3, .ref q_4, .ref q_5, .ref q_6, .int x_4])), (q_1, .inr (3, [.ref q_2, .ref q_7, .ref q_8, .ref q_9, .ref q_10, .ref q_11]))]) (z_runV (C := RX6) (As := [.int x_1]) (rest := []) C0 (c_X6_isNoChild_1 l D k q_2 q_12 q_13 q_14 q_15 q_16 q_17 q_18 q_19 q_20 q_21 q_22 q_23 x_1 x_5 x_6 _) okV_X6_isNoChild kM_X11_90 rfl (z_pV (q0 := 2) hK hN hP hD [2] rfl rfl rfl rfl rfl) rfl hl.1 rfl (Nat.le_of_ble_eq_true rfl) dX11_markThatCounts_23 rfl) hP hD hS hA [2] [0, 1] rfl rfl rfl rfl (fun r7 u7 H locs hw7 hP hD hS => ?_)
      obtain ⟨i7, a7⟩ := u7
      dsimp only at hw7
      obtain ⟨rfl, rfl⟩ := hw7
      have hP : va_P D vwCl [(q_0, .inr (11, [.ref q_1, .ref q_3, .ref q_4, .ref q_5, .ref q_6, .int x_4])), (q_1, .inr (3, [.ref q_2, .ref q_7, .ref q_8, .ref q_9, .ref q_10, .ref q_11])), (q_2, .inr (6, [.int 0, .ref q_12, .ref q_13, .ref q_14, .ref q_15, .ref q_16, .int x_5, .ref q_17, .int x_6, .ref q_18, .ref q_19, .ref q_20, .ref q_21, .ref q_22, .ref q_23]))] H := hP
      have hD : va_D A [(q_0, .inr (11, [.ref q_1, .ref q_3, .ref q_4, .ref q_5, .ref q_6, .int x_4])), (q_1, .inr (3, [.ref q_2, .ref q_7, .ref q_8, .ref q_9, .ref q_10, .ref q_11])), (q_2, .inr (6, [.int 0, .ref q_12, .ref q_13, .ref q_14, .ref q_15, .ref q_16, .int x_5, .ref q_17, .int x_6, .ref q_18, .ref q_19, .ref q_20, .ref q_21, .ref q_22, .ref q_23]))] := hD
      refine lv_if_ne (tgt := 43) hx hb dX11_markThatCounts_26 (by decide) (fun _ => ?_) (fun c8 => absurd c8 (by decide))
      refine lv_iconst (v := (-1)) hx hb dX11_markThatCounts_43 (by decide) ?_
      exact z_iret C0 hr hlk rfl hK hP hD hS (0, fun _ => 0) ⟨rfl, rfl⟩ [0, 1, 2] rfl rfl rfl dX11_markThatCounts_44

set_option maxHeartbeats 4000000 in
set_option maxRecDepth 100000 in
theorem c_X11_tells_1 (l : Launch) (D : va_G) (k : Nat → ClassId) (q_0 : Nat) (q_1 : Nat) (q_2 : Nat) (q_3 : Nat) (q_4 : Nat) (q_5 : Nat) (q_6 : Nat) (q_7 : Nat) (q_8 : Nat) (q_9 : Nat) (q_10 : Nat) (q_11 : Nat) (q_12 : Nat) (q_13 : Nat) (q_14 : Nat) (q_15 : Nat) (q_16 : Nat) (q_17 : Nat) (q_18 : Nat) (q_19 : Nat) (q_20 : Nat) (q_21 : Nat) (q_22 : Nat) (q_23 : Nat) (x_0 : Int32) (x_1 : Int32) (x_2 : Int32) (x_3 : Int32) (x_4 : Int32) (x_5 : Int32) (x_6 : Int32) (x_7 : Int32) : zMi l yX11_tells cX11_tells 8 (some .int) ({ frames := 2, cells := 0, slots := 0, locals := 45 }) D k [.ref q_0, .int x_0, .int x_1, .int x_2, .int x_3, .int x_4] [(q_0, .inr (11, [.ref q_1, .ref q_3, .ref q_4, .ref q_5, .ref q_6, .int x_5])), (q_1, .inr (3, [.ref q_2, .ref q_7, .ref q_8, .ref q_9, .ref q_10, .ref q_11])), (q_2, .inr (6, [.int 0, .ref q_12, .ref q_13, .ref q_14, .ref q_15, .ref q_16, .int x_6, .ref q_17, .int x_7, .ref q_18, .ref q_19, .ref q_20, .ref q_21, .ref q_22, .ref q_23]))] (fun r u => u.1 = 0 ∧ r = (-1)) (fun u => []) := by
  refine zMi_of (own := RX11) (by decide +kernel) rfl (Nat.le_of_ble_eq_true rfl) ?_
  intro p e s m args below meth c A ls C0 hr hlk hin hP hD hS hA hK hN hl
  have hx := C0.1
  have hb := C0.2.1
  have hml := C0.2.2.1
  have hown := C0.2.2.2.1
  have hts := C0.2.2.2.2
  have hl : lv_has ls 8 [(0, .ref q_0), (1, .int x_0), (2, .int x_1), (3, .int x_2), (4, .int x_3), (5, .int x_4)] := hl
  have hP : va_P D vwCl [(q_0, .inr (11, [.ref q_1, .ref q_3, .ref q_4, .ref q_5, .ref q_6, .int x_5])), (q_1, .inr (3, [.ref q_2, .ref q_7, .ref q_8, .ref q_9, .ref q_10, .ref q_11])), (q_2, .inr (6, [.int 0, .ref q_12, .ref q_13, .ref q_14, .ref q_15, .ref q_16, .int x_6, .ref q_17, .int x_7, .ref q_18, .ref q_19, .ref q_20, .ref q_21, .ref q_22, .ref q_23]))] s.heap := hP
  refine lv_iload hx hb dX11_tells_0 (lv_at hl 5 rfl) ?_
  refine lv_iconst (v := 0) hx hb dX11_tells_2 (by decide) ?_
  refine lv_iconst (v := 4) hx hb dX11_tells_3 (by decide) ?_
  refine z_bi0 (z_runS (As := [.int x_4, .int 0, .int 4]) (rest := []) C0 (c_X11_isOutside_1 l D k x_4 0 4 _) okS_X11_isOutside kM_X11_47 rfl (z_p0 hK hN) rfl hl.1 rfl (Nat.le_of_ble_eq_true rfl) dX11_tells_4 rfl) hP hS hA (fun r1 u1 H locs hw1 hP hS => ?_)
  obtain ⟨i1, a1⟩ := u1
  dsimp only at hw1
  rcases hw1 with ⟨rfl, rfl, c1⟩ | ⟨rfl, rfl, c1⟩
  · refine lv_if_eq (tgt := 12) hx hb dX11_tells_7 (by decide) (fun c2 => absurd c2 (by decide)) (fun _ => ?_)
    refine lv_iconst (v := (-1)) hx hb dX11_tells_10 (by decide) ?_
    exact z_iret C0 hr hlk rfl hK hP hD hS (0, fun _ => 0) ⟨rfl, rfl⟩ [] rfl rfl rfl dX11_tells_11
  · refine lv_if_eq (tgt := 12) hx hb dX11_tells_7 (by decide) (fun _ => ?_) (fun c3 => absurd (by decide) c3)
    refine lv_aload_n hx hb dX11_tells_12 rfl (lv_at hl 0 rfl) ?_
    refine lv_iload_n hx hb dX11_tells_13 rfl (lv_at hl 1 rfl) ?_
    refine lv_iload_n hx hb dX11_tells_14 rfl (lv_at hl 2 rfl) ?_
    refine lv_iload_n hx hb dX11_tells_15 rfl (lv_at hl 3 rfl) ?_
    refine lv_iload hx hb dX11_tells_16 (lv_at hl 4 rfl) ?_
    refine z_bi (wr := []) (z_runV (C := RX11) (As := [.int x_0, .int x_1, .int x_2, .int x_3]) (rest := []) C0 (c_X11_markThatCounts_1 l D k q_0 q_1 q_2 q_3 q_4 q_5 q_6 q_7 q_8 q_9 q_10 q_11 q_12 q_13 q_14 q_15 q_16 q_17 q_18 q_19 q_20 q_21 q_22 q_23 x_0 x_1 x_2 x_3 x_5 x_6 x_7 _) okV_X11_markThatCounts kM_X11_158 rfl (z_pV (q0 := 0) hK hN hP hD [0, 1, 2] rfl rfl rfl rfl rfl) rfl hl.1 rfl (Nat.le_of_ble_eq_true rfl) dX11_tells_18 rfl) hP hD hS hA [0, 1, 2] [] rfl rfl rfl rfl (fun r4 u4 H locs hw4 hP hD hS => ?_)
    obtain ⟨i4, a4⟩ := u4
    dsimp only at hw4
    obtain ⟨rfl, rfl⟩ := hw4
    have hP : va_P D vwCl [(q_0, .inr (11, [.ref q_1, .ref q_3, .ref q_4, .ref q_5, .ref q_6, .int x_5])), (q_1, .inr (3, [.ref q_2, .ref q_7, .ref q_8, .ref q_9, .ref q_10, .ref q_11])), (q_2, .inr (6, [.int 0, .ref q_12, .ref q_13, .ref q_14, .ref q_15, .ref q_16, .int x_6, .ref q_17, .int x_7, .ref q_18, .ref q_19, .ref q_20, .ref q_21, .ref q_22, .ref q_23]))] H := hP
    have hD : va_D A [(q_0, .inr (11, [.ref q_1, .ref q_3, .ref q_4, .ref q_5, .ref q_6, .int x_5])), (q_1, .inr (3, [.ref q_2, .ref q_7, .ref q_8, .ref q_9, .ref q_10, .ref q_11])), (q_2, .inr (6, [.int 0, .ref q_12, .ref q_13, .ref q_14, .ref q_15, .ref q_16, .int x_6, .ref q_17, .int x_7, .ref q_18, .ref q_19, .ref q_20, .ref q_21, .ref q_22, .ref q_23]))] := hD
    refine lv_istore (lv' := [(6, .int (-1)), (0, .ref q_0), (1, .int x_0), (2, .int x_1), (3, .int x_2), (4, .int x_3), (5, .int x_4)]) hx hb dX11_tells_21 hl (by decide) rfl (fun ls hl => ?_)
    refine lv_iload hx hb dX11_tells_23 (lv_at hl 0 rfl) ?_
    refine lv_iconst (v := (-1)) hx hb dX11_tells_25 (by decide) ?_
    refine lv_icmp_eq (tgt := 34) hx hb dX11_tells_26 (by decide) (fun _ => ?_) (fun c5 => absurd (by decide) c5)
    refine lv_iload hx hb dX11_tells_34 (lv_at hl 0 rfl) ?_
    exact z_iret C0 hr hlk rfl hK hP hD hS (0, fun _ => 0) ⟨rfl, rfl⟩ [] rfl rfl rfl dX11_tells_36

set_option maxHeartbeats 4000000 in
set_option maxRecDepth 100000 in
theorem c_X12_tells_1 (l : Launch) (D : va_G) (k : Nat → ClassId) (q_0 : Nat) (q_1 : Nat) (q_2 : Nat) (q_3 : Nat) (q_4 : Nat) (q_5 : Nat) (q_6 : Nat) (q_7 : Nat) (q_8 : Nat) (q_9 : Nat) (q_10 : Nat) (q_11 : Nat) (q_12 : Nat) (q_13 : Nat) (q_14 : Nat) (q_15 : Nat) (q_16 : Nat) (q_17 : Nat) (q_18 : Nat) (q_19 : Nat) (q_20 : Nat) (q_21 : Nat) (q_22 : Nat) (q_23 : Nat) (q_24 : Nat) (q_25 : Nat) (x_0 : Int32) (x_1 : Int32) (x_2 : Int32) (x_3 : Int32) (x_4 : Int32) (x_5 : Int32) (x_6 : Int32) (x_7 : Int32) (x_8 : Int32) (x_9 : Int32) (x_10 : Int32) (x_11 : Int32) (g_12 : Int64) (x_13 : Int32) (x_14 : Int32) (x_15 : Int32) (x_16 : Int32) (x_17 : Int32) (x_18 : Int32) (x_19 : Int32) (x_20 : Int32) (g_21 : Int64) (g_22 : Int64) (x_23 : Int32) (x_24 : Int32) (x_25 : Int32) (x_26 : Int32) (x_27 : Int32) (x_28 : Int32) (x_29 : Int32) (x_30 : Int32) (x_31 : Int32) (x_32 : Int32) (x_33 : Int32) (x_34 : Int32) (x_35 : Int32) : zMi l yX12_tells cX12_tells 7 (some .int) ({ frames := 2, cells := 0, slots := 0, locals := 46 }) D k [.ref q_0, .int x_0, .int x_1, .int x_2, .int x_3, .int x_4] [(q_0, .inr (12, [.int x_5, .int x_6, .ref q_1, .ref q_2, .ref q_3, .int x_7, .ref q_4, .ref q_5, .ref q_6, .ref q_7, .ref q_8, .int x_8, .int x_9, .int x_10, .int x_11, .long g_12, .int x_13, .int x_14, .int x_15, .ref q_9, .int x_16, .ref q_10, .ref q_11, .int x_17, .ref q_12, .ref q_13, .int x_18, .int x_19, .ref q_14, .ref q_15, .ref q_16, .ref q_17, .int x_20, .long g_21, .long g_22, .int x_23, .int x_24, .int x_25, .int x_26, .ref q_18, .ref q_19, .int x_27, .int x_28, .int x_29, .int x_30, .ref q_20, .ref q_21, .int x_31, .int x_32, .ref q_22, .ref q_23, .ref q_24, .ref q_25, .int x_33, .int x_34, .int x_35])), (q_1, .inl (k 0, 27101, .inl (fun _ => 0)))] (fun r u => u.1 = 0 ∧ r = (-1)) (fun u => []) := by
  refine zMi_of (own := RX12) (by decide +kernel) rfl (Nat.le_of_ble_eq_true rfl) ?_
  intro p e s m args below meth c A ls C0 hr hlk hin hP hD hS hA hK hN hl
  have hx := C0.1
  have hb := C0.2.1
  have hml := C0.2.2.1
  have hown := C0.2.2.2.1
  have hts := C0.2.2.2.2
  have hl : lv_has ls 7 [(0, .ref q_0), (1, .int x_0), (2, .int x_1), (3, .int x_2), (4, .int x_3), (5, .int x_4)] := hl
  have hP : va_P D vwCl [(q_0, .inr (12, [.int x_5, .int x_6, .ref q_1, .ref q_2, .ref q_3, .int x_7, .ref q_4, .ref q_5, .ref q_6, .ref q_7, .ref q_8, .int x_8, .int x_9, .int x_10, .int x_11, .long g_12, .int x_13, .int x_14, .int x_15, .ref q_9, .int x_16, .ref q_10, .ref q_11, .int x_17, .ref q_12, .ref q_13, .int x_18, .int x_19, .ref q_14, .ref q_15, .ref q_16, .ref q_17, .int x_20, .long g_21, .long g_22, .int x_23, .int x_24, .int x_25, .int x_26, .ref q_18, .ref q_19, .int x_27, .int x_28, .int x_29, .int x_30, .ref q_20, .ref q_21, .int x_31, .int x_32, .ref q_22, .ref q_23, .ref q_24, .ref q_25, .int x_33, .int x_34, .int x_35])), (q_1, .inl (k 0, 27101, .inl (fun _ => 0)))] s.heap := hP
  refine lv_aload_n hx hb dX12_tells_0 rfl (lv_at hl 0 rfl) ?_
  refine lv_iconst (v := 0) hx hb dX12_tells_1 (by decide) ?_
  refine va_put (D := D) (ci := 12) (v := .int 0) (ty := .int) (C := RX12) (T := TX12) (N := 56) hx hb hts inX12 tyX12 tyX12_ok nmX12 hown hK hP hD hS 0 rfl rfl 0 (by decide) (hts _ kF_X12_92) (fun _ h9 => h9) rfl (by decide +kernel) rfl rfl (Nat.le_of_ble_eq_true rfl) dX12_tells_2 (fun H locs hP hD hS => ?_)
  have hP : va_P D vwCl [(q_0, .inr (12, [.int 0, .int x_6, .ref q_1, .ref q_2, .ref q_3, .int x_7, .ref q_4, .ref q_5, .ref q_6, .ref q_7, .ref q_8, .int x_8, .int x_9, .int x_10, .int x_11, .long g_12, .int x_13, .int x_14, .int x_15, .ref q_9, .int x_16, .ref q_10, .ref q_11, .int x_17, .ref q_12, .ref q_13, .int x_18, .int x_19, .ref q_14, .ref q_15, .ref q_16, .ref q_17, .int x_20, .long g_21, .long g_22, .int x_23, .int x_24, .int x_25, .int x_26, .ref q_18, .ref q_19, .int x_27, .int x_28, .int x_29, .int x_30, .ref q_20, .ref q_21, .int x_31, .int x_32, .ref q_22, .ref q_23, .ref q_24, .ref q_25, .int x_33, .int x_34, .int x_35])), (q_1, .inl (k 0, 27101, .inl (fun _ => 0)))] H := hP
  have hD : va_D A [(q_0, .inr (12, [.int 0, .int x_6, .ref q_1, .ref q_2, .ref q_3, .int x_7, .ref q_4, .ref q_5, .ref q_6, .ref q_7, .ref q_8, .int x_8, .int x_9, .int x_10, .int x_11, .long g_12, .int x_13, .int x_14, .int x_15, .ref q_9, .int x_16, .ref q_10, .ref q_11, .int x_17, .ref q_12, .ref q_13, .int x_18, .int x_19, .ref q_14, .ref q_15, .ref q_16, .ref q_17, .int x_20, .long g_21, .long g_22, .int x_23, .int x_24, .int x_25, .int x_26, .ref q_18, .ref q_19, .int x_27, .int x_28, .int x_29, .int x_30, .ref q_20, .ref q_21, .int x_31, .int x_32, .ref q_22, .ref q_23, .ref q_24, .ref q_25, .int x_33, .int x_34, .int x_35])), (q_1, .inl (k 0, 27101, .inl (fun _ => 0)))] := hD
  refine lv_aload_n hx hb dX12_tells_5 rfl (lv_at hl 0 rfl) ?_
  refine lv_iload_n hx hb dX12_tells_6 rfl (lv_at hl 1 rfl) ?_
  refine z_bi (wr := []) (z_runV (C := RX12) (As := [.int x_0]) (rest := []) C0 (c_X12_isSchool_1 l D k q_0 q_1 q_2 q_3 q_4 q_5 q_6 q_7 q_8 q_9 q_10 q_11 q_12 q_13 q_14 q_15 q_16 q_17 q_18 q_19 q_20 q_21 q_22 q_23 q_24 q_25 x_0 0 x_6 x_7 x_8 x_9 x_10 x_11 g_12 x_13 x_14 x_15 x_16 x_17 x_18 x_19 x_20 g_21 g_22 x_23 x_24 x_25 x_26 x_27 x_28 x_29 x_30 x_31 x_32 x_33 x_34 x_35 _) okV_X12_isSchool kM_X12_131 rfl (z_pV (q0 := 0) hK hN hP hD [0, 1] rfl rfl rfl rfl rfl) rfl hl.1 rfl (Nat.le_of_ble_eq_true rfl) dX12_tells_7 rfl) hP hD hS hA [0, 1] [] rfl rfl rfl rfl (fun r1 u1 H locs hw1 hP hD hS => ?_)
  obtain ⟨i1, a1⟩ := u1
  dsimp only at hw1
  obtain ⟨rfl, rfl⟩ := hw1
  have hP : va_P D vwCl [(q_0, .inr (12, [.int 0, .int x_6, .ref q_1, .ref q_2, .ref q_3, .int x_7, .ref q_4, .ref q_5, .ref q_6, .ref q_7, .ref q_8, .int x_8, .int x_9, .int x_10, .int x_11, .long g_12, .int x_13, .int x_14, .int x_15, .ref q_9, .int x_16, .ref q_10, .ref q_11, .int x_17, .ref q_12, .ref q_13, .int x_18, .int x_19, .ref q_14, .ref q_15, .ref q_16, .ref q_17, .int x_20, .long g_21, .long g_22, .int x_23, .int x_24, .int x_25, .int x_26, .ref q_18, .ref q_19, .int x_27, .int x_28, .int x_29, .int x_30, .ref q_20, .ref q_21, .int x_31, .int x_32, .ref q_22, .ref q_23, .ref q_24, .ref q_25, .int x_33, .int x_34, .int x_35])), (q_1, .inl (k 0, 27101, .inl (fun _ => 0)))] H := hP
  have hD : va_D A [(q_0, .inr (12, [.int 0, .int x_6, .ref q_1, .ref q_2, .ref q_3, .int x_7, .ref q_4, .ref q_5, .ref q_6, .ref q_7, .ref q_8, .int x_8, .int x_9, .int x_10, .int x_11, .long g_12, .int x_13, .int x_14, .int x_15, .ref q_9, .int x_16, .ref q_10, .ref q_11, .int x_17, .ref q_12, .ref q_13, .int x_18, .int x_19, .ref q_14, .ref q_15, .ref q_16, .ref q_17, .int x_20, .long g_21, .long g_22, .int x_23, .int x_24, .int x_25, .int x_26, .ref q_18, .ref q_19, .int x_27, .int x_28, .int x_29, .int x_30, .ref q_20, .ref q_21, .int x_31, .int x_32, .ref q_22, .ref q_23, .ref q_24, .ref q_25, .int x_33, .int x_34, .int x_35])), (q_1, .inl (k 0, 27101, .inl (fun _ => 0)))] := hD
  refine lv_if_eq (tgt := 49) hx hb dX12_tells_10 (by decide) (fun _ => ?_) (fun c2 => absurd (by decide) c2)
  refine lv_iconst (v := (-1)) hx hb dX12_tells_49 (by decide) ?_
  exact z_iret C0 hr hlk rfl hK hP hD hS (0, fun _ => 0) ⟨rfl, rfl⟩ [] rfl rfl rfl dX12_tells_50

set_option maxHeartbeats 4000000 in
set_option maxRecDepth 100000 in
theorem c_X11_sees_1 (l : Launch) (D : va_G) (k : Nat → ClassId) (q_0 : Nat) (q_1 : Nat) (q_2 : Nat) (q_3 : Nat) (q_4 : Nat) (q_5 : Nat) (q_6 : Nat) (q_7 : Nat) (q_8 : Nat) (q_9 : Nat) (q_10 : Nat) (q_11 : Nat) (q_12 : Nat) (q_13 : Nat) (q_14 : Nat) (q_15 : Nat) (q_16 : Nat) (q_17 : Nat) (q_18 : Nat) (q_19 : Nat) (q_20 : Nat) (q_21 : Nat) (q_22 : Nat) (q_23 : Nat) (x_0 : Int32) (x_1 : Int32) (x_2 : Int32) (x_3 : Int32) (x_4 : Int32) (x_5 : Int32) (x_6 : Int32) (x_7 : Int32) : zMi l yX11_sees cX11_sees 8 (some .int) ({ frames := 2, cells := 0, slots := 0, locals := 45 }) D k [.ref q_0, .int x_0, .int x_1, .int x_2, .int x_3, .int x_4] [(q_0, .inr (11, [.ref q_1, .ref q_3, .ref q_4, .ref q_5, .ref q_6, .int x_5])), (q_1, .inr (3, [.ref q_2, .ref q_7, .ref q_8, .ref q_9, .ref q_10, .ref q_11])), (q_2, .inr (6, [.int 0, .ref q_12, .ref q_13, .ref q_14, .ref q_15, .ref q_16, .int x_6, .ref q_17, .int x_7, .ref q_18, .ref q_19, .ref q_20, .ref q_21, .ref q_22, .ref q_23]))] (fun r u => u.1 = 0 ∧ r = (-1)) (fun u => []) := by
  refine zMi_of (own := RX11) (by decide +kernel) rfl (Nat.le_of_ble_eq_true rfl) ?_
  intro p e s m args below meth c A ls C0 hr hlk hin hP hD hS hA hK hN hl
  have hx := C0.1
  have hb := C0.2.1
  have hml := C0.2.2.1
  have hown := C0.2.2.2.1
  have hts := C0.2.2.2.2
  have hl : lv_has ls 8 [(0, .ref q_0), (1, .int x_0), (2, .int x_1), (3, .int x_2), (4, .int x_3), (5, .int x_4)] := hl
  have hP : va_P D vwCl [(q_0, .inr (11, [.ref q_1, .ref q_3, .ref q_4, .ref q_5, .ref q_6, .int x_5])), (q_1, .inr (3, [.ref q_2, .ref q_7, .ref q_8, .ref q_9, .ref q_10, .ref q_11])), (q_2, .inr (6, [.int 0, .ref q_12, .ref q_13, .ref q_14, .ref q_15, .ref q_16, .int x_6, .ref q_17, .int x_7, .ref q_18, .ref q_19, .ref q_20, .ref q_21, .ref q_22, .ref q_23]))] s.heap := hP
  refine lv_iload_n hx hb dX11_sees_0 rfl (lv_at hl 1 rfl) ?_
  refine lv_iconst (v := 0) hx hb dX11_sees_1 (by decide) ?_
  refine lv_iconst (v := 3) hx hb dX11_sees_2 (by decide) ?_
  refine z_bi0 (z_runS (As := [.int x_0, .int 0, .int 3]) (rest := []) C0 (c_X11_isOutside_1 l D k x_0 0 3 _) okS_X11_isOutside kM_X11_47 rfl (z_p0 hK hN) rfl hl.1 rfl (Nat.le_of_ble_eq_true rfl) dX11_sees_3 rfl) hP hS hA (fun r1 u1 H locs hw1 hP hS => ?_)
  obtain ⟨i1, a1⟩ := u1
  dsimp only at hw1
  rcases hw1 with ⟨rfl, rfl, c1⟩ | ⟨rfl, rfl, c1⟩
  · refine lv_if_eq (tgt := 11) hx hb dX11_sees_6 (by decide) (fun c2 => absurd c2 (by decide)) (fun _ => ?_)
    refine lv_iconst (v := (-1)) hx hb dX11_sees_9 (by decide) ?_
    exact z_iret C0 hr hlk rfl hK hP hD hS (0, fun _ => 0) ⟨rfl, rfl⟩ [] rfl rfl rfl dX11_sees_10
  · refine lv_if_eq (tgt := 11) hx hb dX11_sees_6 (by decide) (fun _ => ?_) (fun c3 => absurd (by decide) c3)
    refine lv_aload_n hx hb dX11_sees_11 rfl (lv_at hl 0 rfl) ?_
    refine lv_iload_n hx hb dX11_sees_12 rfl (lv_at hl 2 rfl) ?_
    refine lv_iload_n hx hb dX11_sees_13 rfl (lv_at hl 3 rfl) ?_
    refine lv_iload hx hb dX11_sees_14 (lv_at hl 4 rfl) ?_
    refine lv_iload hx hb dX11_sees_16 (lv_at hl 5 rfl) ?_
    refine z_bi (wr := []) (z_runV (C := RX11) (As := [.int x_1, .int x_2, .int x_3, .int x_4]) (rest := []) C0 (c_X11_markThatCounts_1 l D k q_0 q_1 q_2 q_3 q_4 q_5 q_6 q_7 q_8 q_9 q_10 q_11 q_12 q_13 q_14 q_15 q_16 q_17 q_18 q_19 q_20 q_21 q_22 q_23 x_1 x_2 x_3 x_4 x_5 x_6 x_7 _) okV_X11_markThatCounts kM_X11_158 rfl (z_pV (q0 := 0) hK hN hP hD [0, 1, 2] rfl rfl rfl rfl rfl) rfl hl.1 rfl (Nat.le_of_ble_eq_true rfl) dX11_sees_18 rfl) hP hD hS hA [0, 1, 2] [] rfl rfl rfl rfl (fun r4 u4 H locs hw4 hP hD hS => ?_)
    obtain ⟨i4, a4⟩ := u4
    dsimp only at hw4
    obtain ⟨rfl, rfl⟩ := hw4
    have hP : va_P D vwCl [(q_0, .inr (11, [.ref q_1, .ref q_3, .ref q_4, .ref q_5, .ref q_6, .int x_5])), (q_1, .inr (3, [.ref q_2, .ref q_7, .ref q_8, .ref q_9, .ref q_10, .ref q_11])), (q_2, .inr (6, [.int 0, .ref q_12, .ref q_13, .ref q_14, .ref q_15, .ref q_16, .int x_6, .ref q_17, .int x_7, .ref q_18, .ref q_19, .ref q_20, .ref q_21, .ref q_22, .ref q_23]))] H := hP
    have hD : va_D A [(q_0, .inr (11, [.ref q_1, .ref q_3, .ref q_4, .ref q_5, .ref q_6, .int x_5])), (q_1, .inr (3, [.ref q_2, .ref q_7, .ref q_8, .ref q_9, .ref q_10, .ref q_11])), (q_2, .inr (6, [.int 0, .ref q_12, .ref q_13, .ref q_14, .ref q_15, .ref q_16, .int x_6, .ref q_17, .int x_7, .ref q_18, .ref q_19, .ref q_20, .ref q_21, .ref q_22, .ref q_23]))] := hD
    refine lv_istore (lv' := [(6, .int (-1)), (0, .ref q_0), (1, .int x_0), (2, .int x_1), (3, .int x_2), (4, .int x_3), (5, .int x_4)]) hx hb dX11_sees_21 hl (by decide) rfl (fun ls hl => ?_)
    refine lv_iload hx hb dX11_sees_23 (lv_at hl 0 rfl) ?_
    refine lv_iconst (v := (-1)) hx hb dX11_sees_25 (by decide) ?_
    refine lv_icmp_ne (tgt := 31) hx hb dX11_sees_26 (by decide) (fun c5 => absurd (by decide) c5) (fun _ => ?_)
    refine lv_iconst (v := (-1)) hx hb dX11_sees_29 (by decide) ?_
    exact z_iret C0 hr hlk rfl hK hP hD hS (0, fun _ => 0) ⟨rfl, rfl⟩ [] rfl rfl rfl dX11_sees_30

set_option maxHeartbeats 4000000 in
set_option maxRecDepth 100000 in
theorem c_X12_sees_1 (l : Launch) (D : va_G) (k : Nat → ClassId) (q_0 : Nat) (q_1 : Nat) (q_2 : Nat) (q_3 : Nat) (q_4 : Nat) (q_5 : Nat) (q_6 : Nat) (q_7 : Nat) (q_8 : Nat) (q_9 : Nat) (q_10 : Nat) (q_11 : Nat) (q_12 : Nat) (q_13 : Nat) (q_14 : Nat) (q_15 : Nat) (q_16 : Nat) (q_17 : Nat) (q_18 : Nat) (q_19 : Nat) (q_20 : Nat) (q_21 : Nat) (q_22 : Nat) (q_23 : Nat) (q_24 : Nat) (q_25 : Nat) (x_0 : Int32) (x_1 : Int32) (x_2 : Int32) (x_3 : Int32) (x_4 : Int32) (x_5 : Int32) (x_6 : Int32) (x_7 : Int32) (x_8 : Int32) (x_9 : Int32) (x_10 : Int32) (x_11 : Int32) (g_12 : Int64) (x_13 : Int32) (x_14 : Int32) (x_15 : Int32) (x_16 : Int32) (x_17 : Int32) (x_18 : Int32) (x_19 : Int32) (x_20 : Int32) (g_21 : Int64) (g_22 : Int64) (x_23 : Int32) (x_24 : Int32) (x_25 : Int32) (x_26 : Int32) (x_27 : Int32) (x_28 : Int32) (x_29 : Int32) (x_30 : Int32) (x_31 : Int32) (x_32 : Int32) (x_33 : Int32) (x_34 : Int32) (x_35 : Int32) : zMi l yX12_sees cX12_sees 7 (some .int) ({ frames := 2, cells := 0, slots := 0, locals := 46 }) D k [.ref q_0, .int x_0, .int x_1, .int x_2, .int x_3, .int x_4] [(q_0, .inr (12, [.int x_5, .int x_6, .ref q_1, .ref q_2, .ref q_3, .int x_7, .ref q_4, .ref q_5, .ref q_6, .ref q_7, .ref q_8, .int x_8, .int x_9, .int x_10, .int x_11, .long g_12, .int x_13, .int x_14, .int x_15, .ref q_9, .int x_16, .ref q_10, .ref q_11, .int x_17, .ref q_12, .ref q_13, .int x_18, .int x_19, .ref q_14, .ref q_15, .ref q_16, .ref q_17, .int x_20, .long g_21, .long g_22, .int x_23, .int x_24, .int x_25, .int x_26, .ref q_18, .ref q_19, .int x_27, .int x_28, .int x_29, .int x_30, .ref q_20, .ref q_21, .int x_31, .int x_32, .ref q_22, .ref q_23, .ref q_24, .ref q_25, .int x_33, .int x_34, .int x_35])), (q_1, .inl (k 0, 27101, .inl (fun _ => 0)))] (fun r u => u.1 = 0 ∧ r = (-1)) (fun u => []) := by
  refine zMi_of (own := RX12) (by decide +kernel) rfl (Nat.le_of_ble_eq_true rfl) ?_
  intro p e s m args below meth c A ls C0 hr hlk hin hP hD hS hA hK hN hl
  have hx := C0.1
  have hb := C0.2.1
  have hml := C0.2.2.1
  have hown := C0.2.2.2.1
  have hts := C0.2.2.2.2
  have hl : lv_has ls 7 [(0, .ref q_0), (1, .int x_0), (2, .int x_1), (3, .int x_2), (4, .int x_3), (5, .int x_4)] := hl
  have hP : va_P D vwCl [(q_0, .inr (12, [.int x_5, .int x_6, .ref q_1, .ref q_2, .ref q_3, .int x_7, .ref q_4, .ref q_5, .ref q_6, .ref q_7, .ref q_8, .int x_8, .int x_9, .int x_10, .int x_11, .long g_12, .int x_13, .int x_14, .int x_15, .ref q_9, .int x_16, .ref q_10, .ref q_11, .int x_17, .ref q_12, .ref q_13, .int x_18, .int x_19, .ref q_14, .ref q_15, .ref q_16, .ref q_17, .int x_20, .long g_21, .long g_22, .int x_23, .int x_24, .int x_25, .int x_26, .ref q_18, .ref q_19, .int x_27, .int x_28, .int x_29, .int x_30, .ref q_20, .ref q_21, .int x_31, .int x_32, .ref q_22, .ref q_23, .ref q_24, .ref q_25, .int x_33, .int x_34, .int x_35])), (q_1, .inl (k 0, 27101, .inl (fun _ => 0)))] s.heap := hP
  refine lv_aload_n hx hb dX12_sees_0 rfl (lv_at hl 0 rfl) ?_
  refine lv_iconst (v := 0) hx hb dX12_sees_1 (by decide) ?_
  refine va_put (D := D) (ci := 12) (v := .int 0) (ty := .int) (C := RX12) (T := TX12) (N := 56) hx hb hts inX12 tyX12 tyX12_ok nmX12 hown hK hP hD hS 0 rfl rfl 0 (by decide) (hts _ kF_X12_92) (fun _ h9 => h9) rfl (by decide +kernel) rfl rfl (Nat.le_of_ble_eq_true rfl) dX12_sees_2 (fun H locs hP hD hS => ?_)
  have hP : va_P D vwCl [(q_0, .inr (12, [.int 0, .int x_6, .ref q_1, .ref q_2, .ref q_3, .int x_7, .ref q_4, .ref q_5, .ref q_6, .ref q_7, .ref q_8, .int x_8, .int x_9, .int x_10, .int x_11, .long g_12, .int x_13, .int x_14, .int x_15, .ref q_9, .int x_16, .ref q_10, .ref q_11, .int x_17, .ref q_12, .ref q_13, .int x_18, .int x_19, .ref q_14, .ref q_15, .ref q_16, .ref q_17, .int x_20, .long g_21, .long g_22, .int x_23, .int x_24, .int x_25, .int x_26, .ref q_18, .ref q_19, .int x_27, .int x_28, .int x_29, .int x_30, .ref q_20, .ref q_21, .int x_31, .int x_32, .ref q_22, .ref q_23, .ref q_24, .ref q_25, .int x_33, .int x_34, .int x_35])), (q_1, .inl (k 0, 27101, .inl (fun _ => 0)))] H := hP
  have hD : va_D A [(q_0, .inr (12, [.int 0, .int x_6, .ref q_1, .ref q_2, .ref q_3, .int x_7, .ref q_4, .ref q_5, .ref q_6, .ref q_7, .ref q_8, .int x_8, .int x_9, .int x_10, .int x_11, .long g_12, .int x_13, .int x_14, .int x_15, .ref q_9, .int x_16, .ref q_10, .ref q_11, .int x_17, .ref q_12, .ref q_13, .int x_18, .int x_19, .ref q_14, .ref q_15, .ref q_16, .ref q_17, .int x_20, .long g_21, .long g_22, .int x_23, .int x_24, .int x_25, .int x_26, .ref q_18, .ref q_19, .int x_27, .int x_28, .int x_29, .int x_30, .ref q_20, .ref q_21, .int x_31, .int x_32, .ref q_22, .ref q_23, .ref q_24, .ref q_25, .int x_33, .int x_34, .int x_35])), (q_1, .inl (k 0, 27101, .inl (fun _ => 0)))] := hD
  refine lv_iload_n hx hb dX12_sees_5 rfl (lv_at hl 1 rfl) ?_
  refine lv_i2l (v := (Int32.toInt64 x_0)) hx hb dX12_sees_6 rfl ?_
  refine lv_lconst (v := 0) hx hb dX12_sees_7 (by decide) ?_
  refine lv_ldc2 hx hb hown (hts _ kL_X12_110) dX12_sees_8 ?_
  refine z_bi0 (z_runS (As := [.long (Int32.toInt64 x_0), .long 0, .long 3]) (rest := []) C0 (c_X12_in_1 l D k (Int32.toInt64 x_0) 0 3 _) okS_X12_in kM_X12_100 rfl (z_p0 hK hN) rfl hl.1 rfl (Nat.le_of_ble_eq_true rfl) dX12_sees_11 rfl) hP hS hA (fun r1 u1 H locs hw1 hP hS => ?_)
  obtain ⟨i1, a1⟩ := u1
  dsimp only at hw1
  rcases hw1 with ⟨rfl, rfl, c1⟩ | ⟨rfl, rfl, c1⟩
  · refine lv_if_eq (tgt := 49) hx hb dX12_sees_14 (by decide) (fun _ => ?_) (fun c2 => absurd (by decide) c2)
    refine lv_iconst (v := (-1)) hx hb dX12_sees_49 (by decide) ?_
    exact z_iret C0 hr hlk rfl hK hP hD hS (0, fun _ => 0) ⟨rfl, rfl⟩ [] rfl rfl rfl dX12_sees_50
  · refine lv_if_eq (tgt := 49) hx hb dX12_sees_14 (by decide) (fun c3 => absurd c3 (by decide)) (fun _ => ?_)
    refine lv_aload_n hx hb dX12_sees_17 rfl (lv_at hl 0 rfl) ?_
    refine lv_iload_n hx hb dX12_sees_18 rfl (lv_at hl 2 rfl) ?_
    refine z_bi (wr := []) (z_runV (C := RX12) (As := [.int x_1]) (rest := []) C0 (c_X12_isSchool_1 l D k q_0 q_1 q_2 q_3 q_4 q_5 q_6 q_7 q_8 q_9 q_10 q_11 q_12 q_13 q_14 q_15 q_16 q_17 q_18 q_19 q_20 q_21 q_22 q_23 q_24 q_25 x_1 0 x_6 x_7 x_8 x_9 x_10 x_11 g_12 x_13 x_14 x_15 x_16 x_17 x_18 x_19 x_20 g_21 g_22 x_23 x_24 x_25 x_26 x_27 x_28 x_29 x_30 x_31 x_32 x_33 x_34 x_35 _) okV_X12_isSchool kM_X12_131 rfl (z_pV (q0 := 0) hK hN hP hD [0, 1] rfl rfl rfl rfl rfl) rfl hl.1 rfl (Nat.le_of_ble_eq_true rfl) dX12_sees_19 rfl) hP hD hS hA [0, 1] [] rfl rfl rfl rfl (fun r4 u4 H locs hw4 hP hD hS => ?_)
    obtain ⟨i4, a4⟩ := u4
    dsimp only at hw4
    obtain ⟨rfl, rfl⟩ := hw4
    have hP : va_P D vwCl [(q_0, .inr (12, [.int 0, .int x_6, .ref q_1, .ref q_2, .ref q_3, .int x_7, .ref q_4, .ref q_5, .ref q_6, .ref q_7, .ref q_8, .int x_8, .int x_9, .int x_10, .int x_11, .long g_12, .int x_13, .int x_14, .int x_15, .ref q_9, .int x_16, .ref q_10, .ref q_11, .int x_17, .ref q_12, .ref q_13, .int x_18, .int x_19, .ref q_14, .ref q_15, .ref q_16, .ref q_17, .int x_20, .long g_21, .long g_22, .int x_23, .int x_24, .int x_25, .int x_26, .ref q_18, .ref q_19, .int x_27, .int x_28, .int x_29, .int x_30, .ref q_20, .ref q_21, .int x_31, .int x_32, .ref q_22, .ref q_23, .ref q_24, .ref q_25, .int x_33, .int x_34, .int x_35])), (q_1, .inl (k 0, 27101, .inl (fun _ => 0)))] H := hP
    have hD : va_D A [(q_0, .inr (12, [.int 0, .int x_6, .ref q_1, .ref q_2, .ref q_3, .int x_7, .ref q_4, .ref q_5, .ref q_6, .ref q_7, .ref q_8, .int x_8, .int x_9, .int x_10, .int x_11, .long g_12, .int x_13, .int x_14, .int x_15, .ref q_9, .int x_16, .ref q_10, .ref q_11, .int x_17, .ref q_12, .ref q_13, .int x_18, .int x_19, .ref q_14, .ref q_15, .ref q_16, .ref q_17, .int x_20, .long g_21, .long g_22, .int x_23, .int x_24, .int x_25, .int x_26, .ref q_18, .ref q_19, .int x_27, .int x_28, .int x_29, .int x_30, .ref q_20, .ref q_21, .int x_31, .int x_32, .ref q_22, .ref q_23, .ref q_24, .ref q_25, .int x_33, .int x_34, .int x_35])), (q_1, .inl (k 0, 27101, .inl (fun _ => 0)))] := hD
    refine lv_if_eq (tgt := 49) hx hb dX12_sees_22 (by decide) (fun _ => ?_) (fun c5 => absurd (by decide) c5)
    refine lv_iconst (v := (-1)) hx hb dX12_sees_49 (by decide) ?_
    exact z_iret C0 hr hlk rfl hK hP hD hS (0, fun _ => 0) ⟨rfl, rfl⟩ [] rfl rfl rfl dX12_sees_50

set_option maxHeartbeats 4000000 in
set_option maxRecDepth 100000 in
theorem c_X7_append_1 (l : Launch) (D : va_G) (k : Nat → ClassId) (q_0 : Nat) (q_1 : Nat) (q_2 : Nat) (q_3 : Nat) (q_4 : Nat) (q_5 : Nat) (x_0 : Int32) (x_1 : Int32) (x_2 : Int32) (x_3 : Int32) (x_4 : Int32) (x_5 : Int32) (x_6 : Int32) (x_7 : Int32) (x_8 : Int32) (g_9 : Int64) (x_10 : Int32) (f_0 : Nat → Int32) : zMv l yX7_append cX7_append 3 none ({ frames := 0, cells := 0, slots := 0, locals := 0 }) D k [.ref q_0, .int x_0] [(q_0, .inr (7, [.ref q_1, .int 0, .int x_1, .int x_2, .ref q_2, .ref q_3, .ref q_4, .ref q_5, .int x_3, .int x_4, .int x_5, .int x_6, .int x_7, .int x_8, .long g_9, .int x_10])), (q_1, .inl (k 0, 400, .inl f_0))] (fun u => u.1 = 0) (fun u => [(q_0, .inr (7, [.ref q_1, .int 4, .int x_1, .int x_2, .ref q_2, .ref q_3, .ref q_4, .ref q_5, .int x_3, .int x_4, .int x_5, .int x_6, .int x_7, .int x_8, .long g_9, .int x_10])), (q_1, .inl (k 0, 400, .inl (upd (upd (upd (upd f_0 0 ((x_0 >>> (24 &&& 31)) &&& 255)) 1 ((x_0 >>> (16 &&& 31)) &&& 255)) 2 ((x_0 >>> (8 &&& 31)) &&& 255)) 3 ((x_0 >>> (0 &&& 31)) &&& 255))))]) := by
  refine zMv_of (own := RX7) (by decide +kernel) rfl (Nat.le_of_ble_eq_true rfl) ?_
  intro p e s m args below meth c A ls C0 hr hlk hin hP hD hS hA hK hN hl
  have hx := C0.1
  have hb := C0.2.1
  have hml := C0.2.2.1
  have hown := C0.2.2.2.1
  have hts := C0.2.2.2.2
  have hl : lv_has ls 3 [(0, .ref q_0), (1, .int x_0)] := hl
  have hP : va_P D vwCl [(q_0, .inr (7, [.ref q_1, .int 0, .int x_1, .int x_2, .ref q_2, .ref q_3, .ref q_4, .ref q_5, .int x_3, .int x_4, .int x_5, .int x_6, .int x_7, .int x_8, .long g_9, .int x_10])), (q_1, .inl (k 0, 400, .inl f_0))] s.heap := hP
  refine lv_bipush (v := 24) hx hb dX7_append_0 (by decide) ?_
  refine lv_istore_n (lv' := [(2, .int 24), (0, .ref q_0), (1, .int x_0)]) hx hb dX7_append_2 rfl hl (by decide) rfl (fun ls hl => ?_)
  refine lv_iload_n hx hb dX7_append_3 rfl (lv_at hl 0 rfl) ?_
  refine lv_if_lt (tgt := 49) hx hb dX7_append_4 (by decide) (fun c1 => absurd c1 (by decide)) (fun _ => ?_)
  refine lv_aload_n hx hb dX7_append_7 rfl (lv_at hl 1 rfl) ?_
  refine va_get (D := D) (ci := 7) (v := .int 0) (C := RX7) (T := TX7) (N := 16) hx hb hts inX7 hown hK hP 0 rfl rfl 1 (by decide) (hts _ kF_X7_31) (fun _ h9 => h9) rfl dX7_append_8 ?_
  refine lv_sipush (v := 400) hx hb dX7_append_11 (by decide) ?_
  refine lv_icmp_ge (tgt := 49) hx hb dX7_append_14 (by decide) (fun c2 => absurd c2 (by decide)) (fun _ => ?_)
  refine lv_aload_n hx hb dX7_append_17 rfl (lv_at hl 1 rfl) ?_
  refine va_get (D := D) (ci := 7) (v := .ref q_1) (C := RX7) (T := TX7) (N := 16) hx hb hts inX7 hown hK hP 0 rfl rfl 0 (by decide) (hts _ kF_X7_9) (fun _ h9 => h9) rfl dX7_append_18 ?_
  refine lv_aload_n hx hb dX7_append_21 rfl (lv_at hl 1 rfl) ?_
  refine va_get (D := D) (ci := 7) (v := .int 0) (C := RX7) (T := TX7) (N := 16) hx hb hts inX7 hown hK hP 0 rfl rfl 1 (by decide) (hts _ kF_X7_31) (fun _ h9 => h9) rfl dX7_append_22 ?_
  refine lv_iload_n hx hb dX7_append_25 rfl (lv_at hl 2 rfl) ?_
  refine lv_iload_n hx hb dX7_append_26 rfl (lv_at hl 0 rfl) ?_
  refine lv_ishr hx hb dX7_append_27 ?_
  refine lv_sipush (v := 255) hx hb dX7_append_28 (by decide) ?_
  refine lv_iand hx hb dX7_append_31 ?_
  refine va_iast hx hb hK hP hD hS 1 0 rfl rfl (by unfold vp_in; decide) dX7_append_32 (fun H locs hP hD hS => ?_)
  have hP : va_P D vwCl [(q_0, .inr (7, [.ref q_1, .int 0, .int x_1, .int x_2, .ref q_2, .ref q_3, .ref q_4, .ref q_5, .int x_3, .int x_4, .int x_5, .int x_6, .int x_7, .int x_8, .long g_9, .int x_10])), (q_1, .inl (k 0, 400, .inl (upd f_0 0 ((x_0 >>> (24 &&& 31)) &&& 255))))] H := hP
  have hD : va_D A [(q_0, .inr (7, [.ref q_1, .int 0, .int x_1, .int x_2, .ref q_2, .ref q_3, .ref q_4, .ref q_5, .int x_3, .int x_4, .int x_5, .int x_6, .int x_7, .int x_8, .long g_9, .int x_10])), (q_1, .inl (k 0, 400, .inl (upd f_0 0 ((x_0 >>> (24 &&& 31)) &&& 255))))] := hD
  refine lv_aload_n hx hb dX7_append_33 rfl (lv_at hl 1 rfl) ?_
  refine lv_dup hx hb dX7_append_34 rfl ?_
  refine va_get (D := D) (ci := 7) (v := .int 0) (C := RX7) (T := TX7) (N := 16) hx hb hts inX7 hown hK hP 0 rfl rfl 1 (by decide) (hts _ kF_X7_31) (fun _ h9 => h9) rfl dX7_append_35 ?_
  refine lv_iconst (v := 1) hx hb dX7_append_38 (by decide) ?_
  refine lv_iadd hx hb dX7_append_39 ?_
  refine lv_toc (v := 1) (by decide) ?_
  refine va_put (D := D) (ci := 7) (v := .int 1) (ty := .int) (C := RX7) (T := TX7) (N := 16) hx hb hts inX7 tyX7 tyX7_ok nmX7 hown hK hP hD hS 0 rfl rfl 1 (by decide) (hts _ kF_X7_31) (fun _ h9 => h9) rfl (by decide +kernel) rfl rfl (Nat.le_of_ble_eq_true rfl) dX7_append_40 (fun H locs hP hD hS => ?_)
  have hP : va_P D vwCl [(q_0, .inr (7, [.ref q_1, .int 1, .int x_1, .int x_2, .ref q_2, .ref q_3, .ref q_4, .ref q_5, .int x_3, .int x_4, .int x_5, .int x_6, .int x_7, .int x_8, .long g_9, .int x_10])), (q_1, .inl (k 0, 400, .inl (upd f_0 0 ((x_0 >>> (24 &&& 31)) &&& 255))))] H := hP
  have hD : va_D A [(q_0, .inr (7, [.ref q_1, .int 1, .int x_1, .int x_2, .ref q_2, .ref q_3, .ref q_4, .ref q_5, .int x_3, .int x_4, .int x_5, .int x_6, .int x_7, .int x_8, .long g_9, .int x_10])), (q_1, .inl (k 0, 400, .inl (upd f_0 0 ((x_0 >>> (24 &&& 31)) &&& 255))))] := hD
  refine lv_iinc (v := 16) (lv' := [(2, .int 16), (0, .ref q_0), (1, .int x_0)]) hx hb dX7_append_43 hl (k := 0) rfl (by decide) (by decide) rfl (fun ls hl => ?_)
  refine lv_goto (tgt := 3) hx hb dX7_append_46 (by decide) ?_
  refine lv_iload_n hx hb dX7_append_3 rfl (lv_at hl 0 rfl) ?_
  refine lv_if_lt (tgt := 49) hx hb dX7_append_4 (by decide) (fun c3 => absurd c3 (by decide)) (fun _ => ?_)
  refine lv_aload_n hx hb dX7_append_7 rfl (lv_at hl 1 rfl) ?_
  refine va_get (D := D) (ci := 7) (v := .int 1) (C := RX7) (T := TX7) (N := 16) hx hb hts inX7 hown hK hP 0 rfl rfl 1 (by decide) (hts _ kF_X7_31) (fun _ h9 => h9) rfl dX7_append_8 ?_
  refine lv_sipush (v := 400) hx hb dX7_append_11 (by decide) ?_
  refine lv_icmp_ge (tgt := 49) hx hb dX7_append_14 (by decide) (fun c4 => absurd c4 (by decide)) (fun _ => ?_)
  refine lv_aload_n hx hb dX7_append_17 rfl (lv_at hl 1 rfl) ?_
  refine va_get (D := D) (ci := 7) (v := .ref q_1) (C := RX7) (T := TX7) (N := 16) hx hb hts inX7 hown hK hP 0 rfl rfl 0 (by decide) (hts _ kF_X7_9) (fun _ h9 => h9) rfl dX7_append_18 ?_
  refine lv_aload_n hx hb dX7_append_21 rfl (lv_at hl 1 rfl) ?_
  refine va_get (D := D) (ci := 7) (v := .int 1) (C := RX7) (T := TX7) (N := 16) hx hb hts inX7 hown hK hP 0 rfl rfl 1 (by decide) (hts _ kF_X7_31) (fun _ h9 => h9) rfl dX7_append_22 ?_
  refine lv_iload_n hx hb dX7_append_25 rfl (lv_at hl 2 rfl) ?_
  refine lv_iload_n hx hb dX7_append_26 rfl (lv_at hl 0 rfl) ?_
  refine lv_ishr hx hb dX7_append_27 ?_
  refine lv_sipush (v := 255) hx hb dX7_append_28 (by decide) ?_
  refine lv_iand hx hb dX7_append_31 ?_
  refine va_iast hx hb hK hP hD hS 1 0 rfl rfl (by unfold vp_in; decide) dX7_append_32 (fun H locs hP hD hS => ?_)
  have hP : va_P D vwCl [(q_0, .inr (7, [.ref q_1, .int 1, .int x_1, .int x_2, .ref q_2, .ref q_3, .ref q_4, .ref q_5, .int x_3, .int x_4, .int x_5, .int x_6, .int x_7, .int x_8, .long g_9, .int x_10])), (q_1, .inl (k 0, 400, .inl (upd (upd f_0 0 ((x_0 >>> (24 &&& 31)) &&& 255)) 1 ((x_0 >>> (16 &&& 31)) &&& 255))))] H := hP
  have hD : va_D A [(q_0, .inr (7, [.ref q_1, .int 1, .int x_1, .int x_2, .ref q_2, .ref q_3, .ref q_4, .ref q_5, .int x_3, .int x_4, .int x_5, .int x_6, .int x_7, .int x_8, .long g_9, .int x_10])), (q_1, .inl (k 0, 400, .inl (upd (upd f_0 0 ((x_0 >>> (24 &&& 31)) &&& 255)) 1 ((x_0 >>> (16 &&& 31)) &&& 255))))] := hD
  refine lv_aload_n hx hb dX7_append_33 rfl (lv_at hl 1 rfl) ?_
  refine lv_dup hx hb dX7_append_34 rfl ?_
  refine va_get (D := D) (ci := 7) (v := .int 1) (C := RX7) (T := TX7) (N := 16) hx hb hts inX7 hown hK hP 0 rfl rfl 1 (by decide) (hts _ kF_X7_31) (fun _ h9 => h9) rfl dX7_append_35 ?_
  refine lv_iconst (v := 1) hx hb dX7_append_38 (by decide) ?_
  refine lv_iadd hx hb dX7_append_39 ?_
  refine lv_toc (v := 2) (by decide) ?_
  refine va_put (D := D) (ci := 7) (v := .int 2) (ty := .int) (C := RX7) (T := TX7) (N := 16) hx hb hts inX7 tyX7 tyX7_ok nmX7 hown hK hP hD hS 0 rfl rfl 1 (by decide) (hts _ kF_X7_31) (fun _ h9 => h9) rfl (by decide +kernel) rfl rfl (Nat.le_of_ble_eq_true rfl) dX7_append_40 (fun H locs hP hD hS => ?_)
  have hP : va_P D vwCl [(q_0, .inr (7, [.ref q_1, .int 2, .int x_1, .int x_2, .ref q_2, .ref q_3, .ref q_4, .ref q_5, .int x_3, .int x_4, .int x_5, .int x_6, .int x_7, .int x_8, .long g_9, .int x_10])), (q_1, .inl (k 0, 400, .inl (upd (upd f_0 0 ((x_0 >>> (24 &&& 31)) &&& 255)) 1 ((x_0 >>> (16 &&& 31)) &&& 255))))] H := hP
  have hD : va_D A [(q_0, .inr (7, [.ref q_1, .int 2, .int x_1, .int x_2, .ref q_2, .ref q_3, .ref q_4, .ref q_5, .int x_3, .int x_4, .int x_5, .int x_6, .int x_7, .int x_8, .long g_9, .int x_10])), (q_1, .inl (k 0, 400, .inl (upd (upd f_0 0 ((x_0 >>> (24 &&& 31)) &&& 255)) 1 ((x_0 >>> (16 &&& 31)) &&& 255))))] := hD
  refine lv_iinc (v := 8) (lv' := [(2, .int 8), (0, .ref q_0), (1, .int x_0)]) hx hb dX7_append_43 hl (k := 0) rfl (by decide) (by decide) rfl (fun ls hl => ?_)
  refine lv_goto (tgt := 3) hx hb dX7_append_46 (by decide) ?_
  refine lv_iload_n hx hb dX7_append_3 rfl (lv_at hl 0 rfl) ?_
  refine lv_if_lt (tgt := 49) hx hb dX7_append_4 (by decide) (fun c5 => absurd c5 (by decide)) (fun _ => ?_)
  refine lv_aload_n hx hb dX7_append_7 rfl (lv_at hl 1 rfl) ?_
  refine va_get (D := D) (ci := 7) (v := .int 2) (C := RX7) (T := TX7) (N := 16) hx hb hts inX7 hown hK hP 0 rfl rfl 1 (by decide) (hts _ kF_X7_31) (fun _ h9 => h9) rfl dX7_append_8 ?_
  refine lv_sipush (v := 400) hx hb dX7_append_11 (by decide) ?_
  refine lv_icmp_ge (tgt := 49) hx hb dX7_append_14 (by decide) (fun c6 => absurd c6 (by decide)) (fun _ => ?_)
  refine lv_aload_n hx hb dX7_append_17 rfl (lv_at hl 1 rfl) ?_
  refine va_get (D := D) (ci := 7) (v := .ref q_1) (C := RX7) (T := TX7) (N := 16) hx hb hts inX7 hown hK hP 0 rfl rfl 0 (by decide) (hts _ kF_X7_9) (fun _ h9 => h9) rfl dX7_append_18 ?_
  refine lv_aload_n hx hb dX7_append_21 rfl (lv_at hl 1 rfl) ?_
  refine va_get (D := D) (ci := 7) (v := .int 2) (C := RX7) (T := TX7) (N := 16) hx hb hts inX7 hown hK hP 0 rfl rfl 1 (by decide) (hts _ kF_X7_31) (fun _ h9 => h9) rfl dX7_append_22 ?_
  refine lv_iload_n hx hb dX7_append_25 rfl (lv_at hl 2 rfl) ?_
  refine lv_iload_n hx hb dX7_append_26 rfl (lv_at hl 0 rfl) ?_
  refine lv_ishr hx hb dX7_append_27 ?_
  refine lv_sipush (v := 255) hx hb dX7_append_28 (by decide) ?_
  refine lv_iand hx hb dX7_append_31 ?_
  refine va_iast hx hb hK hP hD hS 1 0 rfl rfl (by unfold vp_in; decide) dX7_append_32 (fun H locs hP hD hS => ?_)
  have hP : va_P D vwCl [(q_0, .inr (7, [.ref q_1, .int 2, .int x_1, .int x_2, .ref q_2, .ref q_3, .ref q_4, .ref q_5, .int x_3, .int x_4, .int x_5, .int x_6, .int x_7, .int x_8, .long g_9, .int x_10])), (q_1, .inl (k 0, 400, .inl (upd (upd (upd f_0 0 ((x_0 >>> (24 &&& 31)) &&& 255)) 1 ((x_0 >>> (16 &&& 31)) &&& 255)) 2 ((x_0 >>> (8 &&& 31)) &&& 255))))] H := hP
  have hD : va_D A [(q_0, .inr (7, [.ref q_1, .int 2, .int x_1, .int x_2, .ref q_2, .ref q_3, .ref q_4, .ref q_5, .int x_3, .int x_4, .int x_5, .int x_6, .int x_7, .int x_8, .long g_9, .int x_10])), (q_1, .inl (k 0, 400, .inl (upd (upd (upd f_0 0 ((x_0 >>> (24 &&& 31)) &&& 255)) 1 ((x_0 >>> (16 &&& 31)) &&& 255)) 2 ((x_0 >>> (8 &&& 31)) &&& 255))))] := hD
  refine lv_aload_n hx hb dX7_append_33 rfl (lv_at hl 1 rfl) ?_
  refine lv_dup hx hb dX7_append_34 rfl ?_
  refine va_get (D := D) (ci := 7) (v := .int 2) (C := RX7) (T := TX7) (N := 16) hx hb hts inX7 hown hK hP 0 rfl rfl 1 (by decide) (hts _ kF_X7_31) (fun _ h9 => h9) rfl dX7_append_35 ?_
  refine lv_iconst (v := 1) hx hb dX7_append_38 (by decide) ?_
  refine lv_iadd hx hb dX7_append_39 ?_
  refine lv_toc (v := 3) (by decide) ?_
  refine va_put (D := D) (ci := 7) (v := .int 3) (ty := .int) (C := RX7) (T := TX7) (N := 16) hx hb hts inX7 tyX7 tyX7_ok nmX7 hown hK hP hD hS 0 rfl rfl 1 (by decide) (hts _ kF_X7_31) (fun _ h9 => h9) rfl (by decide +kernel) rfl rfl (Nat.le_of_ble_eq_true rfl) dX7_append_40 (fun H locs hP hD hS => ?_)
  have hP : va_P D vwCl [(q_0, .inr (7, [.ref q_1, .int 3, .int x_1, .int x_2, .ref q_2, .ref q_3, .ref q_4, .ref q_5, .int x_3, .int x_4, .int x_5, .int x_6, .int x_7, .int x_8, .long g_9, .int x_10])), (q_1, .inl (k 0, 400, .inl (upd (upd (upd f_0 0 ((x_0 >>> (24 &&& 31)) &&& 255)) 1 ((x_0 >>> (16 &&& 31)) &&& 255)) 2 ((x_0 >>> (8 &&& 31)) &&& 255))))] H := hP
  have hD : va_D A [(q_0, .inr (7, [.ref q_1, .int 3, .int x_1, .int x_2, .ref q_2, .ref q_3, .ref q_4, .ref q_5, .int x_3, .int x_4, .int x_5, .int x_6, .int x_7, .int x_8, .long g_9, .int x_10])), (q_1, .inl (k 0, 400, .inl (upd (upd (upd f_0 0 ((x_0 >>> (24 &&& 31)) &&& 255)) 1 ((x_0 >>> (16 &&& 31)) &&& 255)) 2 ((x_0 >>> (8 &&& 31)) &&& 255))))] := hD
  refine lv_iinc (v := 0) (lv' := [(2, .int 0), (0, .ref q_0), (1, .int x_0)]) hx hb dX7_append_43 hl (k := 0) rfl (by decide) (by decide) rfl (fun ls hl => ?_)
  refine lv_goto (tgt := 3) hx hb dX7_append_46 (by decide) ?_
  refine lv_iload_n hx hb dX7_append_3 rfl (lv_at hl 0 rfl) ?_
  refine lv_if_lt (tgt := 49) hx hb dX7_append_4 (by decide) (fun c7 => absurd c7 (by decide)) (fun _ => ?_)
  refine lv_aload_n hx hb dX7_append_7 rfl (lv_at hl 1 rfl) ?_
  refine va_get (D := D) (ci := 7) (v := .int 3) (C := RX7) (T := TX7) (N := 16) hx hb hts inX7 hown hK hP 0 rfl rfl 1 (by decide) (hts _ kF_X7_31) (fun _ h9 => h9) rfl dX7_append_8 ?_
  refine lv_sipush (v := 400) hx hb dX7_append_11 (by decide) ?_
  refine lv_icmp_ge (tgt := 49) hx hb dX7_append_14 (by decide) (fun c8 => absurd c8 (by decide)) (fun _ => ?_)
  refine lv_aload_n hx hb dX7_append_17 rfl (lv_at hl 1 rfl) ?_
  refine va_get (D := D) (ci := 7) (v := .ref q_1) (C := RX7) (T := TX7) (N := 16) hx hb hts inX7 hown hK hP 0 rfl rfl 0 (by decide) (hts _ kF_X7_9) (fun _ h9 => h9) rfl dX7_append_18 ?_
  refine lv_aload_n hx hb dX7_append_21 rfl (lv_at hl 1 rfl) ?_
  refine va_get (D := D) (ci := 7) (v := .int 3) (C := RX7) (T := TX7) (N := 16) hx hb hts inX7 hown hK hP 0 rfl rfl 1 (by decide) (hts _ kF_X7_31) (fun _ h9 => h9) rfl dX7_append_22 ?_
  refine lv_iload_n hx hb dX7_append_25 rfl (lv_at hl 2 rfl) ?_
  refine lv_iload_n hx hb dX7_append_26 rfl (lv_at hl 0 rfl) ?_
  refine lv_ishr hx hb dX7_append_27 ?_
  refine lv_sipush (v := 255) hx hb dX7_append_28 (by decide) ?_
  refine lv_iand hx hb dX7_append_31 ?_
  refine va_iast hx hb hK hP hD hS 1 0 rfl rfl (by unfold vp_in; decide) dX7_append_32 (fun H locs hP hD hS => ?_)
  have hP : va_P D vwCl [(q_0, .inr (7, [.ref q_1, .int 3, .int x_1, .int x_2, .ref q_2, .ref q_3, .ref q_4, .ref q_5, .int x_3, .int x_4, .int x_5, .int x_6, .int x_7, .int x_8, .long g_9, .int x_10])), (q_1, .inl (k 0, 400, .inl (upd (upd (upd (upd f_0 0 ((x_0 >>> (24 &&& 31)) &&& 255)) 1 ((x_0 >>> (16 &&& 31)) &&& 255)) 2 ((x_0 >>> (8 &&& 31)) &&& 255)) 3 ((x_0 >>> (0 &&& 31)) &&& 255))))] H := hP
  have hD : va_D A [(q_0, .inr (7, [.ref q_1, .int 3, .int x_1, .int x_2, .ref q_2, .ref q_3, .ref q_4, .ref q_5, .int x_3, .int x_4, .int x_5, .int x_6, .int x_7, .int x_8, .long g_9, .int x_10])), (q_1, .inl (k 0, 400, .inl (upd (upd (upd (upd f_0 0 ((x_0 >>> (24 &&& 31)) &&& 255)) 1 ((x_0 >>> (16 &&& 31)) &&& 255)) 2 ((x_0 >>> (8 &&& 31)) &&& 255)) 3 ((x_0 >>> (0 &&& 31)) &&& 255))))] := hD
  refine lv_aload_n hx hb dX7_append_33 rfl (lv_at hl 1 rfl) ?_
  refine lv_dup hx hb dX7_append_34 rfl ?_
  refine va_get (D := D) (ci := 7) (v := .int 3) (C := RX7) (T := TX7) (N := 16) hx hb hts inX7 hown hK hP 0 rfl rfl 1 (by decide) (hts _ kF_X7_31) (fun _ h9 => h9) rfl dX7_append_35 ?_
  refine lv_iconst (v := 1) hx hb dX7_append_38 (by decide) ?_
  refine lv_iadd hx hb dX7_append_39 ?_
  refine lv_toc (v := 4) (by decide) ?_
  refine va_put (D := D) (ci := 7) (v := .int 4) (ty := .int) (C := RX7) (T := TX7) (N := 16) hx hb hts inX7 tyX7 tyX7_ok nmX7 hown hK hP hD hS 0 rfl rfl 1 (by decide) (hts _ kF_X7_31) (fun _ h9 => h9) rfl (by decide +kernel) rfl rfl (Nat.le_of_ble_eq_true rfl) dX7_append_40 (fun H locs hP hD hS => ?_)
  have hP : va_P D vwCl [(q_0, .inr (7, [.ref q_1, .int 4, .int x_1, .int x_2, .ref q_2, .ref q_3, .ref q_4, .ref q_5, .int x_3, .int x_4, .int x_5, .int x_6, .int x_7, .int x_8, .long g_9, .int x_10])), (q_1, .inl (k 0, 400, .inl (upd (upd (upd (upd f_0 0 ((x_0 >>> (24 &&& 31)) &&& 255)) 1 ((x_0 >>> (16 &&& 31)) &&& 255)) 2 ((x_0 >>> (8 &&& 31)) &&& 255)) 3 ((x_0 >>> (0 &&& 31)) &&& 255))))] H := hP
  have hD : va_D A [(q_0, .inr (7, [.ref q_1, .int 4, .int x_1, .int x_2, .ref q_2, .ref q_3, .ref q_4, .ref q_5, .int x_3, .int x_4, .int x_5, .int x_6, .int x_7, .int x_8, .long g_9, .int x_10])), (q_1, .inl (k 0, 400, .inl (upd (upd (upd (upd f_0 0 ((x_0 >>> (24 &&& 31)) &&& 255)) 1 ((x_0 >>> (16 &&& 31)) &&& 255)) 2 ((x_0 >>> (8 &&& 31)) &&& 255)) 3 ((x_0 >>> (0 &&& 31)) &&& 255))))] := hD
  refine lv_iinc (v := (-8)) (lv' := [(2, .int (-8)), (0, .ref q_0), (1, .int x_0)]) hx hb dX7_append_43 hl (k := 0) rfl (by decide) (by decide) rfl (fun ls hl => ?_)
  refine lv_goto (tgt := 3) hx hb dX7_append_46 (by decide) ?_
  refine lv_iload_n hx hb dX7_append_3 rfl (lv_at hl 0 rfl) ?_
  refine lv_if_lt (tgt := 49) hx hb dX7_append_4 (by decide) (fun _ => ?_) (fun c9 => absurd (by decide) c9)
  exact z_vret C0 hr hlk hK hP hD hS (0, fun _ => 0) rfl [0, 1] rfl rfl rfl dX7_append_49

set_option maxHeartbeats 4000000 in
set_option maxRecDepth 100000 in
theorem c_X7_append_2 (l : Launch) (D : va_G) (k : Nat → ClassId) (q_0 : Nat) (q_1 : Nat) (q_2 : Nat) (q_3 : Nat) (q_4 : Nat) (q_5 : Nat) (x_0 : Int32) (x_1 : Int32) (x_2 : Int32) (x_3 : Int32) (x_4 : Int32) (x_5 : Int32) (x_6 : Int32) (x_7 : Int32) (x_8 : Int32) (g_9 : Int64) (x_10 : Int32) (f_0 : Nat → Int32) : zMv l yX7_append cX7_append 3 none ({ frames := 0, cells := 0, slots := 0, locals := 0 }) D k [.ref q_0, .int x_0] [(q_0, .inr (7, [.ref q_1, .int 4, .int x_1, .int x_2, .ref q_2, .ref q_3, .ref q_4, .ref q_5, .int x_3, .int x_4, .int x_5, .int x_6, .int x_7, .int x_8, .long g_9, .int x_10])), (q_1, .inl (k 0, 400, .inl f_0))] (fun u => u.1 = 0) (fun u => [(q_0, .inr (7, [.ref q_1, .int 8, .int x_1, .int x_2, .ref q_2, .ref q_3, .ref q_4, .ref q_5, .int x_3, .int x_4, .int x_5, .int x_6, .int x_7, .int x_8, .long g_9, .int x_10])), (q_1, .inl (k 0, 400, .inl (upd (upd (upd (upd f_0 4 ((x_0 >>> (24 &&& 31)) &&& 255)) 5 ((x_0 >>> (16 &&& 31)) &&& 255)) 6 ((x_0 >>> (8 &&& 31)) &&& 255)) 7 ((x_0 >>> (0 &&& 31)) &&& 255))))]) := by
  refine zMv_of (own := RX7) (by decide +kernel) rfl (Nat.le_of_ble_eq_true rfl) ?_
  intro p e s m args below meth c A ls C0 hr hlk hin hP hD hS hA hK hN hl
  have hx := C0.1
  have hb := C0.2.1
  have hml := C0.2.2.1
  have hown := C0.2.2.2.1
  have hts := C0.2.2.2.2
  have hl : lv_has ls 3 [(0, .ref q_0), (1, .int x_0)] := hl
  have hP : va_P D vwCl [(q_0, .inr (7, [.ref q_1, .int 4, .int x_1, .int x_2, .ref q_2, .ref q_3, .ref q_4, .ref q_5, .int x_3, .int x_4, .int x_5, .int x_6, .int x_7, .int x_8, .long g_9, .int x_10])), (q_1, .inl (k 0, 400, .inl f_0))] s.heap := hP
  refine lv_bipush (v := 24) hx hb dX7_append_0 (by decide) ?_
  refine lv_istore_n (lv' := [(2, .int 24), (0, .ref q_0), (1, .int x_0)]) hx hb dX7_append_2 rfl hl (by decide) rfl (fun ls hl => ?_)
  refine lv_iload_n hx hb dX7_append_3 rfl (lv_at hl 0 rfl) ?_
  refine lv_if_lt (tgt := 49) hx hb dX7_append_4 (by decide) (fun c1 => absurd c1 (by decide)) (fun _ => ?_)
  refine lv_aload_n hx hb dX7_append_7 rfl (lv_at hl 1 rfl) ?_
  refine va_get (D := D) (ci := 7) (v := .int 4) (C := RX7) (T := TX7) (N := 16) hx hb hts inX7 hown hK hP 0 rfl rfl 1 (by decide) (hts _ kF_X7_31) (fun _ h9 => h9) rfl dX7_append_8 ?_
  refine lv_sipush (v := 400) hx hb dX7_append_11 (by decide) ?_
  refine lv_icmp_ge (tgt := 49) hx hb dX7_append_14 (by decide) (fun c2 => absurd c2 (by decide)) (fun _ => ?_)
  refine lv_aload_n hx hb dX7_append_17 rfl (lv_at hl 1 rfl) ?_
  refine va_get (D := D) (ci := 7) (v := .ref q_1) (C := RX7) (T := TX7) (N := 16) hx hb hts inX7 hown hK hP 0 rfl rfl 0 (by decide) (hts _ kF_X7_9) (fun _ h9 => h9) rfl dX7_append_18 ?_
  refine lv_aload_n hx hb dX7_append_21 rfl (lv_at hl 1 rfl) ?_
  refine va_get (D := D) (ci := 7) (v := .int 4) (C := RX7) (T := TX7) (N := 16) hx hb hts inX7 hown hK hP 0 rfl rfl 1 (by decide) (hts _ kF_X7_31) (fun _ h9 => h9) rfl dX7_append_22 ?_
  refine lv_iload_n hx hb dX7_append_25 rfl (lv_at hl 2 rfl) ?_
  refine lv_iload_n hx hb dX7_append_26 rfl (lv_at hl 0 rfl) ?_
  refine lv_ishr hx hb dX7_append_27 ?_
  refine lv_sipush (v := 255) hx hb dX7_append_28 (by decide) ?_
  refine lv_iand hx hb dX7_append_31 ?_
  refine va_iast hx hb hK hP hD hS 1 0 rfl rfl (by unfold vp_in; decide) dX7_append_32 (fun H locs hP hD hS => ?_)
  have hP : va_P D vwCl [(q_0, .inr (7, [.ref q_1, .int 4, .int x_1, .int x_2, .ref q_2, .ref q_3, .ref q_4, .ref q_5, .int x_3, .int x_4, .int x_5, .int x_6, .int x_7, .int x_8, .long g_9, .int x_10])), (q_1, .inl (k 0, 400, .inl (upd f_0 4 ((x_0 >>> (24 &&& 31)) &&& 255))))] H := hP
  have hD : va_D A [(q_0, .inr (7, [.ref q_1, .int 4, .int x_1, .int x_2, .ref q_2, .ref q_3, .ref q_4, .ref q_5, .int x_3, .int x_4, .int x_5, .int x_6, .int x_7, .int x_8, .long g_9, .int x_10])), (q_1, .inl (k 0, 400, .inl (upd f_0 4 ((x_0 >>> (24 &&& 31)) &&& 255))))] := hD
  refine lv_aload_n hx hb dX7_append_33 rfl (lv_at hl 1 rfl) ?_
  refine lv_dup hx hb dX7_append_34 rfl ?_
  refine va_get (D := D) (ci := 7) (v := .int 4) (C := RX7) (T := TX7) (N := 16) hx hb hts inX7 hown hK hP 0 rfl rfl 1 (by decide) (hts _ kF_X7_31) (fun _ h9 => h9) rfl dX7_append_35 ?_
  refine lv_iconst (v := 1) hx hb dX7_append_38 (by decide) ?_
  refine lv_iadd hx hb dX7_append_39 ?_
  refine lv_toc (v := 5) (by decide) ?_
  refine va_put (D := D) (ci := 7) (v := .int 5) (ty := .int) (C := RX7) (T := TX7) (N := 16) hx hb hts inX7 tyX7 tyX7_ok nmX7 hown hK hP hD hS 0 rfl rfl 1 (by decide) (hts _ kF_X7_31) (fun _ h9 => h9) rfl (by decide +kernel) rfl rfl (Nat.le_of_ble_eq_true rfl) dX7_append_40 (fun H locs hP hD hS => ?_)
  have hP : va_P D vwCl [(q_0, .inr (7, [.ref q_1, .int 5, .int x_1, .int x_2, .ref q_2, .ref q_3, .ref q_4, .ref q_5, .int x_3, .int x_4, .int x_5, .int x_6, .int x_7, .int x_8, .long g_9, .int x_10])), (q_1, .inl (k 0, 400, .inl (upd f_0 4 ((x_0 >>> (24 &&& 31)) &&& 255))))] H := hP
  have hD : va_D A [(q_0, .inr (7, [.ref q_1, .int 5, .int x_1, .int x_2, .ref q_2, .ref q_3, .ref q_4, .ref q_5, .int x_3, .int x_4, .int x_5, .int x_6, .int x_7, .int x_8, .long g_9, .int x_10])), (q_1, .inl (k 0, 400, .inl (upd f_0 4 ((x_0 >>> (24 &&& 31)) &&& 255))))] := hD
  refine lv_iinc (v := 16) (lv' := [(2, .int 16), (0, .ref q_0), (1, .int x_0)]) hx hb dX7_append_43 hl (k := 0) rfl (by decide) (by decide) rfl (fun ls hl => ?_)
  refine lv_goto (tgt := 3) hx hb dX7_append_46 (by decide) ?_
  refine lv_iload_n hx hb dX7_append_3 rfl (lv_at hl 0 rfl) ?_
  refine lv_if_lt (tgt := 49) hx hb dX7_append_4 (by decide) (fun c3 => absurd c3 (by decide)) (fun _ => ?_)
  refine lv_aload_n hx hb dX7_append_7 rfl (lv_at hl 1 rfl) ?_
  refine va_get (D := D) (ci := 7) (v := .int 5) (C := RX7) (T := TX7) (N := 16) hx hb hts inX7 hown hK hP 0 rfl rfl 1 (by decide) (hts _ kF_X7_31) (fun _ h9 => h9) rfl dX7_append_8 ?_
  refine lv_sipush (v := 400) hx hb dX7_append_11 (by decide) ?_
  refine lv_icmp_ge (tgt := 49) hx hb dX7_append_14 (by decide) (fun c4 => absurd c4 (by decide)) (fun _ => ?_)
  refine lv_aload_n hx hb dX7_append_17 rfl (lv_at hl 1 rfl) ?_
  refine va_get (D := D) (ci := 7) (v := .ref q_1) (C := RX7) (T := TX7) (N := 16) hx hb hts inX7 hown hK hP 0 rfl rfl 0 (by decide) (hts _ kF_X7_9) (fun _ h9 => h9) rfl dX7_append_18 ?_
  refine lv_aload_n hx hb dX7_append_21 rfl (lv_at hl 1 rfl) ?_
  refine va_get (D := D) (ci := 7) (v := .int 5) (C := RX7) (T := TX7) (N := 16) hx hb hts inX7 hown hK hP 0 rfl rfl 1 (by decide) (hts _ kF_X7_31) (fun _ h9 => h9) rfl dX7_append_22 ?_
  refine lv_iload_n hx hb dX7_append_25 rfl (lv_at hl 2 rfl) ?_
  refine lv_iload_n hx hb dX7_append_26 rfl (lv_at hl 0 rfl) ?_
  refine lv_ishr hx hb dX7_append_27 ?_
  refine lv_sipush (v := 255) hx hb dX7_append_28 (by decide) ?_
  refine lv_iand hx hb dX7_append_31 ?_
  refine va_iast hx hb hK hP hD hS 1 0 rfl rfl (by unfold vp_in; decide) dX7_append_32 (fun H locs hP hD hS => ?_)
  have hP : va_P D vwCl [(q_0, .inr (7, [.ref q_1, .int 5, .int x_1, .int x_2, .ref q_2, .ref q_3, .ref q_4, .ref q_5, .int x_3, .int x_4, .int x_5, .int x_6, .int x_7, .int x_8, .long g_9, .int x_10])), (q_1, .inl (k 0, 400, .inl (upd (upd f_0 4 ((x_0 >>> (24 &&& 31)) &&& 255)) 5 ((x_0 >>> (16 &&& 31)) &&& 255))))] H := hP
  have hD : va_D A [(q_0, .inr (7, [.ref q_1, .int 5, .int x_1, .int x_2, .ref q_2, .ref q_3, .ref q_4, .ref q_5, .int x_3, .int x_4, .int x_5, .int x_6, .int x_7, .int x_8, .long g_9, .int x_10])), (q_1, .inl (k 0, 400, .inl (upd (upd f_0 4 ((x_0 >>> (24 &&& 31)) &&& 255)) 5 ((x_0 >>> (16 &&& 31)) &&& 255))))] := hD
  refine lv_aload_n hx hb dX7_append_33 rfl (lv_at hl 1 rfl) ?_
  refine lv_dup hx hb dX7_append_34 rfl ?_
  refine va_get (D := D) (ci := 7) (v := .int 5) (C := RX7) (T := TX7) (N := 16) hx hb hts inX7 hown hK hP 0 rfl rfl 1 (by decide) (hts _ kF_X7_31) (fun _ h9 => h9) rfl dX7_append_35 ?_
  refine lv_iconst (v := 1) hx hb dX7_append_38 (by decide) ?_
  refine lv_iadd hx hb dX7_append_39 ?_
  refine lv_toc (v := 6) (by decide) ?_
  refine va_put (D := D) (ci := 7) (v := .int 6) (ty := .int) (C := RX7) (T := TX7) (N := 16) hx hb hts inX7 tyX7 tyX7_ok nmX7 hown hK hP hD hS 0 rfl rfl 1 (by decide) (hts _ kF_X7_31) (fun _ h9 => h9) rfl (by decide +kernel) rfl rfl (Nat.le_of_ble_eq_true rfl) dX7_append_40 (fun H locs hP hD hS => ?_)
  have hP : va_P D vwCl [(q_0, .inr (7, [.ref q_1, .int 6, .int x_1, .int x_2, .ref q_2, .ref q_3, .ref q_4, .ref q_5, .int x_3, .int x_4, .int x_5, .int x_6, .int x_7, .int x_8, .long g_9, .int x_10])), (q_1, .inl (k 0, 400, .inl (upd (upd f_0 4 ((x_0 >>> (24 &&& 31)) &&& 255)) 5 ((x_0 >>> (16 &&& 31)) &&& 255))))] H := hP
  have hD : va_D A [(q_0, .inr (7, [.ref q_1, .int 6, .int x_1, .int x_2, .ref q_2, .ref q_3, .ref q_4, .ref q_5, .int x_3, .int x_4, .int x_5, .int x_6, .int x_7, .int x_8, .long g_9, .int x_10])), (q_1, .inl (k 0, 400, .inl (upd (upd f_0 4 ((x_0 >>> (24 &&& 31)) &&& 255)) 5 ((x_0 >>> (16 &&& 31)) &&& 255))))] := hD
  refine lv_iinc (v := 8) (lv' := [(2, .int 8), (0, .ref q_0), (1, .int x_0)]) hx hb dX7_append_43 hl (k := 0) rfl (by decide) (by decide) rfl (fun ls hl => ?_)
  refine lv_goto (tgt := 3) hx hb dX7_append_46 (by decide) ?_
  refine lv_iload_n hx hb dX7_append_3 rfl (lv_at hl 0 rfl) ?_
  refine lv_if_lt (tgt := 49) hx hb dX7_append_4 (by decide) (fun c5 => absurd c5 (by decide)) (fun _ => ?_)
  refine lv_aload_n hx hb dX7_append_7 rfl (lv_at hl 1 rfl) ?_
  refine va_get (D := D) (ci := 7) (v := .int 6) (C := RX7) (T := TX7) (N := 16) hx hb hts inX7 hown hK hP 0 rfl rfl 1 (by decide) (hts _ kF_X7_31) (fun _ h9 => h9) rfl dX7_append_8 ?_
  refine lv_sipush (v := 400) hx hb dX7_append_11 (by decide) ?_
  refine lv_icmp_ge (tgt := 49) hx hb dX7_append_14 (by decide) (fun c6 => absurd c6 (by decide)) (fun _ => ?_)
  refine lv_aload_n hx hb dX7_append_17 rfl (lv_at hl 1 rfl) ?_
  refine va_get (D := D) (ci := 7) (v := .ref q_1) (C := RX7) (T := TX7) (N := 16) hx hb hts inX7 hown hK hP 0 rfl rfl 0 (by decide) (hts _ kF_X7_9) (fun _ h9 => h9) rfl dX7_append_18 ?_
  refine lv_aload_n hx hb dX7_append_21 rfl (lv_at hl 1 rfl) ?_
  refine va_get (D := D) (ci := 7) (v := .int 6) (C := RX7) (T := TX7) (N := 16) hx hb hts inX7 hown hK hP 0 rfl rfl 1 (by decide) (hts _ kF_X7_31) (fun _ h9 => h9) rfl dX7_append_22 ?_
  refine lv_iload_n hx hb dX7_append_25 rfl (lv_at hl 2 rfl) ?_
  refine lv_iload_n hx hb dX7_append_26 rfl (lv_at hl 0 rfl) ?_
  refine lv_ishr hx hb dX7_append_27 ?_
  refine lv_sipush (v := 255) hx hb dX7_append_28 (by decide) ?_
  refine lv_iand hx hb dX7_append_31 ?_
  refine va_iast hx hb hK hP hD hS 1 0 rfl rfl (by unfold vp_in; decide) dX7_append_32 (fun H locs hP hD hS => ?_)
  have hP : va_P D vwCl [(q_0, .inr (7, [.ref q_1, .int 6, .int x_1, .int x_2, .ref q_2, .ref q_3, .ref q_4, .ref q_5, .int x_3, .int x_4, .int x_5, .int x_6, .int x_7, .int x_8, .long g_9, .int x_10])), (q_1, .inl (k 0, 400, .inl (upd (upd (upd f_0 4 ((x_0 >>> (24 &&& 31)) &&& 255)) 5 ((x_0 >>> (16 &&& 31)) &&& 255)) 6 ((x_0 >>> (8 &&& 31)) &&& 255))))] H := hP
  have hD : va_D A [(q_0, .inr (7, [.ref q_1, .int 6, .int x_1, .int x_2, .ref q_2, .ref q_3, .ref q_4, .ref q_5, .int x_3, .int x_4, .int x_5, .int x_6, .int x_7, .int x_8, .long g_9, .int x_10])), (q_1, .inl (k 0, 400, .inl (upd (upd (upd f_0 4 ((x_0 >>> (24 &&& 31)) &&& 255)) 5 ((x_0 >>> (16 &&& 31)) &&& 255)) 6 ((x_0 >>> (8 &&& 31)) &&& 255))))] := hD
  refine lv_aload_n hx hb dX7_append_33 rfl (lv_at hl 1 rfl) ?_
  refine lv_dup hx hb dX7_append_34 rfl ?_
  refine va_get (D := D) (ci := 7) (v := .int 6) (C := RX7) (T := TX7) (N := 16) hx hb hts inX7 hown hK hP 0 rfl rfl 1 (by decide) (hts _ kF_X7_31) (fun _ h9 => h9) rfl dX7_append_35 ?_
  refine lv_iconst (v := 1) hx hb dX7_append_38 (by decide) ?_
  refine lv_iadd hx hb dX7_append_39 ?_
  refine lv_toc (v := 7) (by decide) ?_
  refine va_put (D := D) (ci := 7) (v := .int 7) (ty := .int) (C := RX7) (T := TX7) (N := 16) hx hb hts inX7 tyX7 tyX7_ok nmX7 hown hK hP hD hS 0 rfl rfl 1 (by decide) (hts _ kF_X7_31) (fun _ h9 => h9) rfl (by decide +kernel) rfl rfl (Nat.le_of_ble_eq_true rfl) dX7_append_40 (fun H locs hP hD hS => ?_)
  have hP : va_P D vwCl [(q_0, .inr (7, [.ref q_1, .int 7, .int x_1, .int x_2, .ref q_2, .ref q_3, .ref q_4, .ref q_5, .int x_3, .int x_4, .int x_5, .int x_6, .int x_7, .int x_8, .long g_9, .int x_10])), (q_1, .inl (k 0, 400, .inl (upd (upd (upd f_0 4 ((x_0 >>> (24 &&& 31)) &&& 255)) 5 ((x_0 >>> (16 &&& 31)) &&& 255)) 6 ((x_0 >>> (8 &&& 31)) &&& 255))))] H := hP
  have hD : va_D A [(q_0, .inr (7, [.ref q_1, .int 7, .int x_1, .int x_2, .ref q_2, .ref q_3, .ref q_4, .ref q_5, .int x_3, .int x_4, .int x_5, .int x_6, .int x_7, .int x_8, .long g_9, .int x_10])), (q_1, .inl (k 0, 400, .inl (upd (upd (upd f_0 4 ((x_0 >>> (24 &&& 31)) &&& 255)) 5 ((x_0 >>> (16 &&& 31)) &&& 255)) 6 ((x_0 >>> (8 &&& 31)) &&& 255))))] := hD
  refine lv_iinc (v := 0) (lv' := [(2, .int 0), (0, .ref q_0), (1, .int x_0)]) hx hb dX7_append_43 hl (k := 0) rfl (by decide) (by decide) rfl (fun ls hl => ?_)
  refine lv_goto (tgt := 3) hx hb dX7_append_46 (by decide) ?_
  refine lv_iload_n hx hb dX7_append_3 rfl (lv_at hl 0 rfl) ?_
  refine lv_if_lt (tgt := 49) hx hb dX7_append_4 (by decide) (fun c7 => absurd c7 (by decide)) (fun _ => ?_)
  refine lv_aload_n hx hb dX7_append_7 rfl (lv_at hl 1 rfl) ?_
  refine va_get (D := D) (ci := 7) (v := .int 7) (C := RX7) (T := TX7) (N := 16) hx hb hts inX7 hown hK hP 0 rfl rfl 1 (by decide) (hts _ kF_X7_31) (fun _ h9 => h9) rfl dX7_append_8 ?_
  refine lv_sipush (v := 400) hx hb dX7_append_11 (by decide) ?_
  refine lv_icmp_ge (tgt := 49) hx hb dX7_append_14 (by decide) (fun c8 => absurd c8 (by decide)) (fun _ => ?_)
  refine lv_aload_n hx hb dX7_append_17 rfl (lv_at hl 1 rfl) ?_
  refine va_get (D := D) (ci := 7) (v := .ref q_1) (C := RX7) (T := TX7) (N := 16) hx hb hts inX7 hown hK hP 0 rfl rfl 0 (by decide) (hts _ kF_X7_9) (fun _ h9 => h9) rfl dX7_append_18 ?_
  refine lv_aload_n hx hb dX7_append_21 rfl (lv_at hl 1 rfl) ?_
  refine va_get (D := D) (ci := 7) (v := .int 7) (C := RX7) (T := TX7) (N := 16) hx hb hts inX7 hown hK hP 0 rfl rfl 1 (by decide) (hts _ kF_X7_31) (fun _ h9 => h9) rfl dX7_append_22 ?_
  refine lv_iload_n hx hb dX7_append_25 rfl (lv_at hl 2 rfl) ?_
  refine lv_iload_n hx hb dX7_append_26 rfl (lv_at hl 0 rfl) ?_
  refine lv_ishr hx hb dX7_append_27 ?_
  refine lv_sipush (v := 255) hx hb dX7_append_28 (by decide) ?_
  refine lv_iand hx hb dX7_append_31 ?_
  refine va_iast hx hb hK hP hD hS 1 0 rfl rfl (by unfold vp_in; decide) dX7_append_32 (fun H locs hP hD hS => ?_)
  have hP : va_P D vwCl [(q_0, .inr (7, [.ref q_1, .int 7, .int x_1, .int x_2, .ref q_2, .ref q_3, .ref q_4, .ref q_5, .int x_3, .int x_4, .int x_5, .int x_6, .int x_7, .int x_8, .long g_9, .int x_10])), (q_1, .inl (k 0, 400, .inl (upd (upd (upd (upd f_0 4 ((x_0 >>> (24 &&& 31)) &&& 255)) 5 ((x_0 >>> (16 &&& 31)) &&& 255)) 6 ((x_0 >>> (8 &&& 31)) &&& 255)) 7 ((x_0 >>> (0 &&& 31)) &&& 255))))] H := hP
  have hD : va_D A [(q_0, .inr (7, [.ref q_1, .int 7, .int x_1, .int x_2, .ref q_2, .ref q_3, .ref q_4, .ref q_5, .int x_3, .int x_4, .int x_5, .int x_6, .int x_7, .int x_8, .long g_9, .int x_10])), (q_1, .inl (k 0, 400, .inl (upd (upd (upd (upd f_0 4 ((x_0 >>> (24 &&& 31)) &&& 255)) 5 ((x_0 >>> (16 &&& 31)) &&& 255)) 6 ((x_0 >>> (8 &&& 31)) &&& 255)) 7 ((x_0 >>> (0 &&& 31)) &&& 255))))] := hD
  refine lv_aload_n hx hb dX7_append_33 rfl (lv_at hl 1 rfl) ?_
  refine lv_dup hx hb dX7_append_34 rfl ?_
  refine va_get (D := D) (ci := 7) (v := .int 7) (C := RX7) (T := TX7) (N := 16) hx hb hts inX7 hown hK hP 0 rfl rfl 1 (by decide) (hts _ kF_X7_31) (fun _ h9 => h9) rfl dX7_append_35 ?_
  refine lv_iconst (v := 1) hx hb dX7_append_38 (by decide) ?_
  refine lv_iadd hx hb dX7_append_39 ?_
  refine lv_toc (v := 8) (by decide) ?_
  refine va_put (D := D) (ci := 7) (v := .int 8) (ty := .int) (C := RX7) (T := TX7) (N := 16) hx hb hts inX7 tyX7 tyX7_ok nmX7 hown hK hP hD hS 0 rfl rfl 1 (by decide) (hts _ kF_X7_31) (fun _ h9 => h9) rfl (by decide +kernel) rfl rfl (Nat.le_of_ble_eq_true rfl) dX7_append_40 (fun H locs hP hD hS => ?_)
  have hP : va_P D vwCl [(q_0, .inr (7, [.ref q_1, .int 8, .int x_1, .int x_2, .ref q_2, .ref q_3, .ref q_4, .ref q_5, .int x_3, .int x_4, .int x_5, .int x_6, .int x_7, .int x_8, .long g_9, .int x_10])), (q_1, .inl (k 0, 400, .inl (upd (upd (upd (upd f_0 4 ((x_0 >>> (24 &&& 31)) &&& 255)) 5 ((x_0 >>> (16 &&& 31)) &&& 255)) 6 ((x_0 >>> (8 &&& 31)) &&& 255)) 7 ((x_0 >>> (0 &&& 31)) &&& 255))))] H := hP
  have hD : va_D A [(q_0, .inr (7, [.ref q_1, .int 8, .int x_1, .int x_2, .ref q_2, .ref q_3, .ref q_4, .ref q_5, .int x_3, .int x_4, .int x_5, .int x_6, .int x_7, .int x_8, .long g_9, .int x_10])), (q_1, .inl (k 0, 400, .inl (upd (upd (upd (upd f_0 4 ((x_0 >>> (24 &&& 31)) &&& 255)) 5 ((x_0 >>> (16 &&& 31)) &&& 255)) 6 ((x_0 >>> (8 &&& 31)) &&& 255)) 7 ((x_0 >>> (0 &&& 31)) &&& 255))))] := hD
  refine lv_iinc (v := (-8)) (lv' := [(2, .int (-8)), (0, .ref q_0), (1, .int x_0)]) hx hb dX7_append_43 hl (k := 0) rfl (by decide) (by decide) rfl (fun ls hl => ?_)
  refine lv_goto (tgt := 3) hx hb dX7_append_46 (by decide) ?_
  refine lv_iload_n hx hb dX7_append_3 rfl (lv_at hl 0 rfl) ?_
  refine lv_if_lt (tgt := 49) hx hb dX7_append_4 (by decide) (fun _ => ?_) (fun c9 => absurd (by decide) c9)
  exact z_vret C0 hr hlk hK hP hD hS (0, fun _ => 0) rfl [0, 1] rfl rfl rfl dX7_append_49

set_option maxHeartbeats 4000000 in
set_option maxRecDepth 100000 in
theorem c_X7_append_3 (l : Launch) (D : va_G) (k : Nat → ClassId) (q_0 : Nat) (q_1 : Nat) (q_2 : Nat) (q_3 : Nat) (q_4 : Nat) (q_5 : Nat) (x_0 : Int32) (x_1 : Int32) (x_2 : Int32) (x_3 : Int32) (x_4 : Int32) (x_5 : Int32) (x_6 : Int32) (x_7 : Int32) (x_8 : Int32) (g_9 : Int64) (x_10 : Int32) (f_0 : Nat → Int32) : zMv l yX7_append cX7_append 3 none ({ frames := 0, cells := 0, slots := 0, locals := 0 }) D k [.ref q_0, .int x_0] [(q_0, .inr (7, [.ref q_1, .int 8, .int x_1, .int x_2, .ref q_2, .ref q_3, .ref q_4, .ref q_5, .int x_3, .int x_4, .int x_5, .int x_6, .int x_7, .int x_8, .long g_9, .int x_10])), (q_1, .inl (k 0, 400, .inl f_0))] (fun u => u.1 = 0) (fun u => [(q_0, .inr (7, [.ref q_1, .int 12, .int x_1, .int x_2, .ref q_2, .ref q_3, .ref q_4, .ref q_5, .int x_3, .int x_4, .int x_5, .int x_6, .int x_7, .int x_8, .long g_9, .int x_10])), (q_1, .inl (k 0, 400, .inl (upd (upd (upd (upd f_0 8 ((x_0 >>> (24 &&& 31)) &&& 255)) 9 ((x_0 >>> (16 &&& 31)) &&& 255)) 10 ((x_0 >>> (8 &&& 31)) &&& 255)) 11 ((x_0 >>> (0 &&& 31)) &&& 255))))]) := by
  refine zMv_of (own := RX7) (by decide +kernel) rfl (Nat.le_of_ble_eq_true rfl) ?_
  intro p e s m args below meth c A ls C0 hr hlk hin hP hD hS hA hK hN hl
  have hx := C0.1
  have hb := C0.2.1
  have hml := C0.2.2.1
  have hown := C0.2.2.2.1
  have hts := C0.2.2.2.2
  have hl : lv_has ls 3 [(0, .ref q_0), (1, .int x_0)] := hl
  have hP : va_P D vwCl [(q_0, .inr (7, [.ref q_1, .int 8, .int x_1, .int x_2, .ref q_2, .ref q_3, .ref q_4, .ref q_5, .int x_3, .int x_4, .int x_5, .int x_6, .int x_7, .int x_8, .long g_9, .int x_10])), (q_1, .inl (k 0, 400, .inl f_0))] s.heap := hP
  refine lv_bipush (v := 24) hx hb dX7_append_0 (by decide) ?_
  refine lv_istore_n (lv' := [(2, .int 24), (0, .ref q_0), (1, .int x_0)]) hx hb dX7_append_2 rfl hl (by decide) rfl (fun ls hl => ?_)
  refine lv_iload_n hx hb dX7_append_3 rfl (lv_at hl 0 rfl) ?_
  refine lv_if_lt (tgt := 49) hx hb dX7_append_4 (by decide) (fun c1 => absurd c1 (by decide)) (fun _ => ?_)
  refine lv_aload_n hx hb dX7_append_7 rfl (lv_at hl 1 rfl) ?_
  refine va_get (D := D) (ci := 7) (v := .int 8) (C := RX7) (T := TX7) (N := 16) hx hb hts inX7 hown hK hP 0 rfl rfl 1 (by decide) (hts _ kF_X7_31) (fun _ h9 => h9) rfl dX7_append_8 ?_
  refine lv_sipush (v := 400) hx hb dX7_append_11 (by decide) ?_
  refine lv_icmp_ge (tgt := 49) hx hb dX7_append_14 (by decide) (fun c2 => absurd c2 (by decide)) (fun _ => ?_)
  refine lv_aload_n hx hb dX7_append_17 rfl (lv_at hl 1 rfl) ?_
  refine va_get (D := D) (ci := 7) (v := .ref q_1) (C := RX7) (T := TX7) (N := 16) hx hb hts inX7 hown hK hP 0 rfl rfl 0 (by decide) (hts _ kF_X7_9) (fun _ h9 => h9) rfl dX7_append_18 ?_
  refine lv_aload_n hx hb dX7_append_21 rfl (lv_at hl 1 rfl) ?_
  refine va_get (D := D) (ci := 7) (v := .int 8) (C := RX7) (T := TX7) (N := 16) hx hb hts inX7 hown hK hP 0 rfl rfl 1 (by decide) (hts _ kF_X7_31) (fun _ h9 => h9) rfl dX7_append_22 ?_
  refine lv_iload_n hx hb dX7_append_25 rfl (lv_at hl 2 rfl) ?_
  refine lv_iload_n hx hb dX7_append_26 rfl (lv_at hl 0 rfl) ?_
  refine lv_ishr hx hb dX7_append_27 ?_
  refine lv_sipush (v := 255) hx hb dX7_append_28 (by decide) ?_
  refine lv_iand hx hb dX7_append_31 ?_
  refine va_iast hx hb hK hP hD hS 1 0 rfl rfl (by unfold vp_in; decide) dX7_append_32 (fun H locs hP hD hS => ?_)
  have hP : va_P D vwCl [(q_0, .inr (7, [.ref q_1, .int 8, .int x_1, .int x_2, .ref q_2, .ref q_3, .ref q_4, .ref q_5, .int x_3, .int x_4, .int x_5, .int x_6, .int x_7, .int x_8, .long g_9, .int x_10])), (q_1, .inl (k 0, 400, .inl (upd f_0 8 ((x_0 >>> (24 &&& 31)) &&& 255))))] H := hP
  have hD : va_D A [(q_0, .inr (7, [.ref q_1, .int 8, .int x_1, .int x_2, .ref q_2, .ref q_3, .ref q_4, .ref q_5, .int x_3, .int x_4, .int x_5, .int x_6, .int x_7, .int x_8, .long g_9, .int x_10])), (q_1, .inl (k 0, 400, .inl (upd f_0 8 ((x_0 >>> (24 &&& 31)) &&& 255))))] := hD
  refine lv_aload_n hx hb dX7_append_33 rfl (lv_at hl 1 rfl) ?_
  refine lv_dup hx hb dX7_append_34 rfl ?_
  refine va_get (D := D) (ci := 7) (v := .int 8) (C := RX7) (T := TX7) (N := 16) hx hb hts inX7 hown hK hP 0 rfl rfl 1 (by decide) (hts _ kF_X7_31) (fun _ h9 => h9) rfl dX7_append_35 ?_
  refine lv_iconst (v := 1) hx hb dX7_append_38 (by decide) ?_
  refine lv_iadd hx hb dX7_append_39 ?_
  refine lv_toc (v := 9) (by decide) ?_
  refine va_put (D := D) (ci := 7) (v := .int 9) (ty := .int) (C := RX7) (T := TX7) (N := 16) hx hb hts inX7 tyX7 tyX7_ok nmX7 hown hK hP hD hS 0 rfl rfl 1 (by decide) (hts _ kF_X7_31) (fun _ h9 => h9) rfl (by decide +kernel) rfl rfl (Nat.le_of_ble_eq_true rfl) dX7_append_40 (fun H locs hP hD hS => ?_)
  have hP : va_P D vwCl [(q_0, .inr (7, [.ref q_1, .int 9, .int x_1, .int x_2, .ref q_2, .ref q_3, .ref q_4, .ref q_5, .int x_3, .int x_4, .int x_5, .int x_6, .int x_7, .int x_8, .long g_9, .int x_10])), (q_1, .inl (k 0, 400, .inl (upd f_0 8 ((x_0 >>> (24 &&& 31)) &&& 255))))] H := hP
  have hD : va_D A [(q_0, .inr (7, [.ref q_1, .int 9, .int x_1, .int x_2, .ref q_2, .ref q_3, .ref q_4, .ref q_5, .int x_3, .int x_4, .int x_5, .int x_6, .int x_7, .int x_8, .long g_9, .int x_10])), (q_1, .inl (k 0, 400, .inl (upd f_0 8 ((x_0 >>> (24 &&& 31)) &&& 255))))] := hD
  refine lv_iinc (v := 16) (lv' := [(2, .int 16), (0, .ref q_0), (1, .int x_0)]) hx hb dX7_append_43 hl (k := 0) rfl (by decide) (by decide) rfl (fun ls hl => ?_)
  refine lv_goto (tgt := 3) hx hb dX7_append_46 (by decide) ?_
  refine lv_iload_n hx hb dX7_append_3 rfl (lv_at hl 0 rfl) ?_
  refine lv_if_lt (tgt := 49) hx hb dX7_append_4 (by decide) (fun c3 => absurd c3 (by decide)) (fun _ => ?_)
  refine lv_aload_n hx hb dX7_append_7 rfl (lv_at hl 1 rfl) ?_
  refine va_get (D := D) (ci := 7) (v := .int 9) (C := RX7) (T := TX7) (N := 16) hx hb hts inX7 hown hK hP 0 rfl rfl 1 (by decide) (hts _ kF_X7_31) (fun _ h9 => h9) rfl dX7_append_8 ?_
  refine lv_sipush (v := 400) hx hb dX7_append_11 (by decide) ?_
  refine lv_icmp_ge (tgt := 49) hx hb dX7_append_14 (by decide) (fun c4 => absurd c4 (by decide)) (fun _ => ?_)
  refine lv_aload_n hx hb dX7_append_17 rfl (lv_at hl 1 rfl) ?_
  refine va_get (D := D) (ci := 7) (v := .ref q_1) (C := RX7) (T := TX7) (N := 16) hx hb hts inX7 hown hK hP 0 rfl rfl 0 (by decide) (hts _ kF_X7_9) (fun _ h9 => h9) rfl dX7_append_18 ?_
  refine lv_aload_n hx hb dX7_append_21 rfl (lv_at hl 1 rfl) ?_
  refine va_get (D := D) (ci := 7) (v := .int 9) (C := RX7) (T := TX7) (N := 16) hx hb hts inX7 hown hK hP 0 rfl rfl 1 (by decide) (hts _ kF_X7_31) (fun _ h9 => h9) rfl dX7_append_22 ?_
  refine lv_iload_n hx hb dX7_append_25 rfl (lv_at hl 2 rfl) ?_
  refine lv_iload_n hx hb dX7_append_26 rfl (lv_at hl 0 rfl) ?_
  refine lv_ishr hx hb dX7_append_27 ?_
  refine lv_sipush (v := 255) hx hb dX7_append_28 (by decide) ?_
  refine lv_iand hx hb dX7_append_31 ?_
  refine va_iast hx hb hK hP hD hS 1 0 rfl rfl (by unfold vp_in; decide) dX7_append_32 (fun H locs hP hD hS => ?_)
  have hP : va_P D vwCl [(q_0, .inr (7, [.ref q_1, .int 9, .int x_1, .int x_2, .ref q_2, .ref q_3, .ref q_4, .ref q_5, .int x_3, .int x_4, .int x_5, .int x_6, .int x_7, .int x_8, .long g_9, .int x_10])), (q_1, .inl (k 0, 400, .inl (upd (upd f_0 8 ((x_0 >>> (24 &&& 31)) &&& 255)) 9 ((x_0 >>> (16 &&& 31)) &&& 255))))] H := hP
  have hD : va_D A [(q_0, .inr (7, [.ref q_1, .int 9, .int x_1, .int x_2, .ref q_2, .ref q_3, .ref q_4, .ref q_5, .int x_3, .int x_4, .int x_5, .int x_6, .int x_7, .int x_8, .long g_9, .int x_10])), (q_1, .inl (k 0, 400, .inl (upd (upd f_0 8 ((x_0 >>> (24 &&& 31)) &&& 255)) 9 ((x_0 >>> (16 &&& 31)) &&& 255))))] := hD
  refine lv_aload_n hx hb dX7_append_33 rfl (lv_at hl 1 rfl) ?_
  refine lv_dup hx hb dX7_append_34 rfl ?_
  refine va_get (D := D) (ci := 7) (v := .int 9) (C := RX7) (T := TX7) (N := 16) hx hb hts inX7 hown hK hP 0 rfl rfl 1 (by decide) (hts _ kF_X7_31) (fun _ h9 => h9) rfl dX7_append_35 ?_
  refine lv_iconst (v := 1) hx hb dX7_append_38 (by decide) ?_
  refine lv_iadd hx hb dX7_append_39 ?_
  refine lv_toc (v := 10) (by decide) ?_
  refine va_put (D := D) (ci := 7) (v := .int 10) (ty := .int) (C := RX7) (T := TX7) (N := 16) hx hb hts inX7 tyX7 tyX7_ok nmX7 hown hK hP hD hS 0 rfl rfl 1 (by decide) (hts _ kF_X7_31) (fun _ h9 => h9) rfl (by decide +kernel) rfl rfl (Nat.le_of_ble_eq_true rfl) dX7_append_40 (fun H locs hP hD hS => ?_)
  have hP : va_P D vwCl [(q_0, .inr (7, [.ref q_1, .int 10, .int x_1, .int x_2, .ref q_2, .ref q_3, .ref q_4, .ref q_5, .int x_3, .int x_4, .int x_5, .int x_6, .int x_7, .int x_8, .long g_9, .int x_10])), (q_1, .inl (k 0, 400, .inl (upd (upd f_0 8 ((x_0 >>> (24 &&& 31)) &&& 255)) 9 ((x_0 >>> (16 &&& 31)) &&& 255))))] H := hP
  have hD : va_D A [(q_0, .inr (7, [.ref q_1, .int 10, .int x_1, .int x_2, .ref q_2, .ref q_3, .ref q_4, .ref q_5, .int x_3, .int x_4, .int x_5, .int x_6, .int x_7, .int x_8, .long g_9, .int x_10])), (q_1, .inl (k 0, 400, .inl (upd (upd f_0 8 ((x_0 >>> (24 &&& 31)) &&& 255)) 9 ((x_0 >>> (16 &&& 31)) &&& 255))))] := hD
  refine lv_iinc (v := 8) (lv' := [(2, .int 8), (0, .ref q_0), (1, .int x_0)]) hx hb dX7_append_43 hl (k := 0) rfl (by decide) (by decide) rfl (fun ls hl => ?_)
  refine lv_goto (tgt := 3) hx hb dX7_append_46 (by decide) ?_
  refine lv_iload_n hx hb dX7_append_3 rfl (lv_at hl 0 rfl) ?_
  refine lv_if_lt (tgt := 49) hx hb dX7_append_4 (by decide) (fun c5 => absurd c5 (by decide)) (fun _ => ?_)
  refine lv_aload_n hx hb dX7_append_7 rfl (lv_at hl 1 rfl) ?_
  refine va_get (D := D) (ci := 7) (v := .int 10) (C := RX7) (T := TX7) (N := 16) hx hb hts inX7 hown hK hP 0 rfl rfl 1 (by decide) (hts _ kF_X7_31) (fun _ h9 => h9) rfl dX7_append_8 ?_
  refine lv_sipush (v := 400) hx hb dX7_append_11 (by decide) ?_
  refine lv_icmp_ge (tgt := 49) hx hb dX7_append_14 (by decide) (fun c6 => absurd c6 (by decide)) (fun _ => ?_)
  refine lv_aload_n hx hb dX7_append_17 rfl (lv_at hl 1 rfl) ?_
  refine va_get (D := D) (ci := 7) (v := .ref q_1) (C := RX7) (T := TX7) (N := 16) hx hb hts inX7 hown hK hP 0 rfl rfl 0 (by decide) (hts _ kF_X7_9) (fun _ h9 => h9) rfl dX7_append_18 ?_
  refine lv_aload_n hx hb dX7_append_21 rfl (lv_at hl 1 rfl) ?_
  refine va_get (D := D) (ci := 7) (v := .int 10) (C := RX7) (T := TX7) (N := 16) hx hb hts inX7 hown hK hP 0 rfl rfl 1 (by decide) (hts _ kF_X7_31) (fun _ h9 => h9) rfl dX7_append_22 ?_
  refine lv_iload_n hx hb dX7_append_25 rfl (lv_at hl 2 rfl) ?_
  refine lv_iload_n hx hb dX7_append_26 rfl (lv_at hl 0 rfl) ?_
  refine lv_ishr hx hb dX7_append_27 ?_
  refine lv_sipush (v := 255) hx hb dX7_append_28 (by decide) ?_
  refine lv_iand hx hb dX7_append_31 ?_
  refine va_iast hx hb hK hP hD hS 1 0 rfl rfl (by unfold vp_in; decide) dX7_append_32 (fun H locs hP hD hS => ?_)
  have hP : va_P D vwCl [(q_0, .inr (7, [.ref q_1, .int 10, .int x_1, .int x_2, .ref q_2, .ref q_3, .ref q_4, .ref q_5, .int x_3, .int x_4, .int x_5, .int x_6, .int x_7, .int x_8, .long g_9, .int x_10])), (q_1, .inl (k 0, 400, .inl (upd (upd (upd f_0 8 ((x_0 >>> (24 &&& 31)) &&& 255)) 9 ((x_0 >>> (16 &&& 31)) &&& 255)) 10 ((x_0 >>> (8 &&& 31)) &&& 255))))] H := hP
  have hD : va_D A [(q_0, .inr (7, [.ref q_1, .int 10, .int x_1, .int x_2, .ref q_2, .ref q_3, .ref q_4, .ref q_5, .int x_3, .int x_4, .int x_5, .int x_6, .int x_7, .int x_8, .long g_9, .int x_10])), (q_1, .inl (k 0, 400, .inl (upd (upd (upd f_0 8 ((x_0 >>> (24 &&& 31)) &&& 255)) 9 ((x_0 >>> (16 &&& 31)) &&& 255)) 10 ((x_0 >>> (8 &&& 31)) &&& 255))))] := hD
  refine lv_aload_n hx hb dX7_append_33 rfl (lv_at hl 1 rfl) ?_
  refine lv_dup hx hb dX7_append_34 rfl ?_
  refine va_get (D := D) (ci := 7) (v := .int 10) (C := RX7) (T := TX7) (N := 16) hx hb hts inX7 hown hK hP 0 rfl rfl 1 (by decide) (hts _ kF_X7_31) (fun _ h9 => h9) rfl dX7_append_35 ?_
  refine lv_iconst (v := 1) hx hb dX7_append_38 (by decide) ?_
  refine lv_iadd hx hb dX7_append_39 ?_
  refine lv_toc (v := 11) (by decide) ?_
  refine va_put (D := D) (ci := 7) (v := .int 11) (ty := .int) (C := RX7) (T := TX7) (N := 16) hx hb hts inX7 tyX7 tyX7_ok nmX7 hown hK hP hD hS 0 rfl rfl 1 (by decide) (hts _ kF_X7_31) (fun _ h9 => h9) rfl (by decide +kernel) rfl rfl (Nat.le_of_ble_eq_true rfl) dX7_append_40 (fun H locs hP hD hS => ?_)
  have hP : va_P D vwCl [(q_0, .inr (7, [.ref q_1, .int 11, .int x_1, .int x_2, .ref q_2, .ref q_3, .ref q_4, .ref q_5, .int x_3, .int x_4, .int x_5, .int x_6, .int x_7, .int x_8, .long g_9, .int x_10])), (q_1, .inl (k 0, 400, .inl (upd (upd (upd f_0 8 ((x_0 >>> (24 &&& 31)) &&& 255)) 9 ((x_0 >>> (16 &&& 31)) &&& 255)) 10 ((x_0 >>> (8 &&& 31)) &&& 255))))] H := hP
  have hD : va_D A [(q_0, .inr (7, [.ref q_1, .int 11, .int x_1, .int x_2, .ref q_2, .ref q_3, .ref q_4, .ref q_5, .int x_3, .int x_4, .int x_5, .int x_6, .int x_7, .int x_8, .long g_9, .int x_10])), (q_1, .inl (k 0, 400, .inl (upd (upd (upd f_0 8 ((x_0 >>> (24 &&& 31)) &&& 255)) 9 ((x_0 >>> (16 &&& 31)) &&& 255)) 10 ((x_0 >>> (8 &&& 31)) &&& 255))))] := hD
  refine lv_iinc (v := 0) (lv' := [(2, .int 0), (0, .ref q_0), (1, .int x_0)]) hx hb dX7_append_43 hl (k := 0) rfl (by decide) (by decide) rfl (fun ls hl => ?_)
  refine lv_goto (tgt := 3) hx hb dX7_append_46 (by decide) ?_
  refine lv_iload_n hx hb dX7_append_3 rfl (lv_at hl 0 rfl) ?_
  refine lv_if_lt (tgt := 49) hx hb dX7_append_4 (by decide) (fun c7 => absurd c7 (by decide)) (fun _ => ?_)
  refine lv_aload_n hx hb dX7_append_7 rfl (lv_at hl 1 rfl) ?_
  refine va_get (D := D) (ci := 7) (v := .int 11) (C := RX7) (T := TX7) (N := 16) hx hb hts inX7 hown hK hP 0 rfl rfl 1 (by decide) (hts _ kF_X7_31) (fun _ h9 => h9) rfl dX7_append_8 ?_
  refine lv_sipush (v := 400) hx hb dX7_append_11 (by decide) ?_
  refine lv_icmp_ge (tgt := 49) hx hb dX7_append_14 (by decide) (fun c8 => absurd c8 (by decide)) (fun _ => ?_)
  refine lv_aload_n hx hb dX7_append_17 rfl (lv_at hl 1 rfl) ?_
  refine va_get (D := D) (ci := 7) (v := .ref q_1) (C := RX7) (T := TX7) (N := 16) hx hb hts inX7 hown hK hP 0 rfl rfl 0 (by decide) (hts _ kF_X7_9) (fun _ h9 => h9) rfl dX7_append_18 ?_
  refine lv_aload_n hx hb dX7_append_21 rfl (lv_at hl 1 rfl) ?_
  refine va_get (D := D) (ci := 7) (v := .int 11) (C := RX7) (T := TX7) (N := 16) hx hb hts inX7 hown hK hP 0 rfl rfl 1 (by decide) (hts _ kF_X7_31) (fun _ h9 => h9) rfl dX7_append_22 ?_
  refine lv_iload_n hx hb dX7_append_25 rfl (lv_at hl 2 rfl) ?_
  refine lv_iload_n hx hb dX7_append_26 rfl (lv_at hl 0 rfl) ?_
  refine lv_ishr hx hb dX7_append_27 ?_
  refine lv_sipush (v := 255) hx hb dX7_append_28 (by decide) ?_
  refine lv_iand hx hb dX7_append_31 ?_
  refine va_iast hx hb hK hP hD hS 1 0 rfl rfl (by unfold vp_in; decide) dX7_append_32 (fun H locs hP hD hS => ?_)
  have hP : va_P D vwCl [(q_0, .inr (7, [.ref q_1, .int 11, .int x_1, .int x_2, .ref q_2, .ref q_3, .ref q_4, .ref q_5, .int x_3, .int x_4, .int x_5, .int x_6, .int x_7, .int x_8, .long g_9, .int x_10])), (q_1, .inl (k 0, 400, .inl (upd (upd (upd (upd f_0 8 ((x_0 >>> (24 &&& 31)) &&& 255)) 9 ((x_0 >>> (16 &&& 31)) &&& 255)) 10 ((x_0 >>> (8 &&& 31)) &&& 255)) 11 ((x_0 >>> (0 &&& 31)) &&& 255))))] H := hP
  have hD : va_D A [(q_0, .inr (7, [.ref q_1, .int 11, .int x_1, .int x_2, .ref q_2, .ref q_3, .ref q_4, .ref q_5, .int x_3, .int x_4, .int x_5, .int x_6, .int x_7, .int x_8, .long g_9, .int x_10])), (q_1, .inl (k 0, 400, .inl (upd (upd (upd (upd f_0 8 ((x_0 >>> (24 &&& 31)) &&& 255)) 9 ((x_0 >>> (16 &&& 31)) &&& 255)) 10 ((x_0 >>> (8 &&& 31)) &&& 255)) 11 ((x_0 >>> (0 &&& 31)) &&& 255))))] := hD
  refine lv_aload_n hx hb dX7_append_33 rfl (lv_at hl 1 rfl) ?_
  refine lv_dup hx hb dX7_append_34 rfl ?_
  refine va_get (D := D) (ci := 7) (v := .int 11) (C := RX7) (T := TX7) (N := 16) hx hb hts inX7 hown hK hP 0 rfl rfl 1 (by decide) (hts _ kF_X7_31) (fun _ h9 => h9) rfl dX7_append_35 ?_
  refine lv_iconst (v := 1) hx hb dX7_append_38 (by decide) ?_
  refine lv_iadd hx hb dX7_append_39 ?_
  refine lv_toc (v := 12) (by decide) ?_
  refine va_put (D := D) (ci := 7) (v := .int 12) (ty := .int) (C := RX7) (T := TX7) (N := 16) hx hb hts inX7 tyX7 tyX7_ok nmX7 hown hK hP hD hS 0 rfl rfl 1 (by decide) (hts _ kF_X7_31) (fun _ h9 => h9) rfl (by decide +kernel) rfl rfl (Nat.le_of_ble_eq_true rfl) dX7_append_40 (fun H locs hP hD hS => ?_)
  have hP : va_P D vwCl [(q_0, .inr (7, [.ref q_1, .int 12, .int x_1, .int x_2, .ref q_2, .ref q_3, .ref q_4, .ref q_5, .int x_3, .int x_4, .int x_5, .int x_6, .int x_7, .int x_8, .long g_9, .int x_10])), (q_1, .inl (k 0, 400, .inl (upd (upd (upd (upd f_0 8 ((x_0 >>> (24 &&& 31)) &&& 255)) 9 ((x_0 >>> (16 &&& 31)) &&& 255)) 10 ((x_0 >>> (8 &&& 31)) &&& 255)) 11 ((x_0 >>> (0 &&& 31)) &&& 255))))] H := hP
  have hD : va_D A [(q_0, .inr (7, [.ref q_1, .int 12, .int x_1, .int x_2, .ref q_2, .ref q_3, .ref q_4, .ref q_5, .int x_3, .int x_4, .int x_5, .int x_6, .int x_7, .int x_8, .long g_9, .int x_10])), (q_1, .inl (k 0, 400, .inl (upd (upd (upd (upd f_0 8 ((x_0 >>> (24 &&& 31)) &&& 255)) 9 ((x_0 >>> (16 &&& 31)) &&& 255)) 10 ((x_0 >>> (8 &&& 31)) &&& 255)) 11 ((x_0 >>> (0 &&& 31)) &&& 255))))] := hD
  refine lv_iinc (v := (-8)) (lv' := [(2, .int (-8)), (0, .ref q_0), (1, .int x_0)]) hx hb dX7_append_43 hl (k := 0) rfl (by decide) (by decide) rfl (fun ls hl => ?_)
  refine lv_goto (tgt := 3) hx hb dX7_append_46 (by decide) ?_
  refine lv_iload_n hx hb dX7_append_3 rfl (lv_at hl 0 rfl) ?_
  refine lv_if_lt (tgt := 49) hx hb dX7_append_4 (by decide) (fun _ => ?_) (fun c9 => absurd (by decide) c9)
  exact z_vret C0 hr hlk hK hP hD hS (0, fun _ => 0) rfl [0, 1] rfl rfl rfl dX7_append_49

set_option maxHeartbeats 4000000 in
set_option maxRecDepth 100000 in
theorem c_X7_append_4 (l : Launch) (D : va_G) (k : Nat → ClassId) (q_0 : Nat) (q_1 : Nat) (q_2 : Nat) (q_3 : Nat) (q_4 : Nat) (q_5 : Nat) (x_0 : Int32) (x_1 : Int32) (x_2 : Int32) (x_3 : Int32) (x_4 : Int32) (x_5 : Int32) (x_6 : Int32) (x_7 : Int32) (x_8 : Int32) (g_9 : Int64) (x_10 : Int32) (f_0 : Nat → Int32) : zMv l yX7_append cX7_append 3 none ({ frames := 0, cells := 0, slots := 0, locals := 0 }) D k [.ref q_0, .int x_0] [(q_0, .inr (7, [.ref q_1, .int 12, .int x_1, .int x_2, .ref q_2, .ref q_3, .ref q_4, .ref q_5, .int x_3, .int x_4, .int x_5, .int x_6, .int x_7, .int x_8, .long g_9, .int x_10])), (q_1, .inl (k 0, 400, .inl f_0))] (fun u => u.1 = 0) (fun u => [(q_0, .inr (7, [.ref q_1, .int 16, .int x_1, .int x_2, .ref q_2, .ref q_3, .ref q_4, .ref q_5, .int x_3, .int x_4, .int x_5, .int x_6, .int x_7, .int x_8, .long g_9, .int x_10])), (q_1, .inl (k 0, 400, .inl (upd (upd (upd (upd f_0 12 ((x_0 >>> (24 &&& 31)) &&& 255)) 13 ((x_0 >>> (16 &&& 31)) &&& 255)) 14 ((x_0 >>> (8 &&& 31)) &&& 255)) 15 ((x_0 >>> (0 &&& 31)) &&& 255))))]) := by
  refine zMv_of (own := RX7) (by decide +kernel) rfl (Nat.le_of_ble_eq_true rfl) ?_
  intro p e s m args below meth c A ls C0 hr hlk hin hP hD hS hA hK hN hl
  have hx := C0.1
  have hb := C0.2.1
  have hml := C0.2.2.1
  have hown := C0.2.2.2.1
  have hts := C0.2.2.2.2
  have hl : lv_has ls 3 [(0, .ref q_0), (1, .int x_0)] := hl
  have hP : va_P D vwCl [(q_0, .inr (7, [.ref q_1, .int 12, .int x_1, .int x_2, .ref q_2, .ref q_3, .ref q_4, .ref q_5, .int x_3, .int x_4, .int x_5, .int x_6, .int x_7, .int x_8, .long g_9, .int x_10])), (q_1, .inl (k 0, 400, .inl f_0))] s.heap := hP
  refine lv_bipush (v := 24) hx hb dX7_append_0 (by decide) ?_
  refine lv_istore_n (lv' := [(2, .int 24), (0, .ref q_0), (1, .int x_0)]) hx hb dX7_append_2 rfl hl (by decide) rfl (fun ls hl => ?_)
  refine lv_iload_n hx hb dX7_append_3 rfl (lv_at hl 0 rfl) ?_
  refine lv_if_lt (tgt := 49) hx hb dX7_append_4 (by decide) (fun c1 => absurd c1 (by decide)) (fun _ => ?_)
  refine lv_aload_n hx hb dX7_append_7 rfl (lv_at hl 1 rfl) ?_
  refine va_get (D := D) (ci := 7) (v := .int 12) (C := RX7) (T := TX7) (N := 16) hx hb hts inX7 hown hK hP 0 rfl rfl 1 (by decide) (hts _ kF_X7_31) (fun _ h9 => h9) rfl dX7_append_8 ?_
  refine lv_sipush (v := 400) hx hb dX7_append_11 (by decide) ?_
  refine lv_icmp_ge (tgt := 49) hx hb dX7_append_14 (by decide) (fun c2 => absurd c2 (by decide)) (fun _ => ?_)
  refine lv_aload_n hx hb dX7_append_17 rfl (lv_at hl 1 rfl) ?_
  refine va_get (D := D) (ci := 7) (v := .ref q_1) (C := RX7) (T := TX7) (N := 16) hx hb hts inX7 hown hK hP 0 rfl rfl 0 (by decide) (hts _ kF_X7_9) (fun _ h9 => h9) rfl dX7_append_18 ?_
  refine lv_aload_n hx hb dX7_append_21 rfl (lv_at hl 1 rfl) ?_
  refine va_get (D := D) (ci := 7) (v := .int 12) (C := RX7) (T := TX7) (N := 16) hx hb hts inX7 hown hK hP 0 rfl rfl 1 (by decide) (hts _ kF_X7_31) (fun _ h9 => h9) rfl dX7_append_22 ?_
  refine lv_iload_n hx hb dX7_append_25 rfl (lv_at hl 2 rfl) ?_
  refine lv_iload_n hx hb dX7_append_26 rfl (lv_at hl 0 rfl) ?_
  refine lv_ishr hx hb dX7_append_27 ?_
  refine lv_sipush (v := 255) hx hb dX7_append_28 (by decide) ?_
  refine lv_iand hx hb dX7_append_31 ?_
  refine va_iast hx hb hK hP hD hS 1 0 rfl rfl (by unfold vp_in; decide) dX7_append_32 (fun H locs hP hD hS => ?_)
  have hP : va_P D vwCl [(q_0, .inr (7, [.ref q_1, .int 12, .int x_1, .int x_2, .ref q_2, .ref q_3, .ref q_4, .ref q_5, .int x_3, .int x_4, .int x_5, .int x_6, .int x_7, .int x_8, .long g_9, .int x_10])), (q_1, .inl (k 0, 400, .inl (upd f_0 12 ((x_0 >>> (24 &&& 31)) &&& 255))))] H := hP
  have hD : va_D A [(q_0, .inr (7, [.ref q_1, .int 12, .int x_1, .int x_2, .ref q_2, .ref q_3, .ref q_4, .ref q_5, .int x_3, .int x_4, .int x_5, .int x_6, .int x_7, .int x_8, .long g_9, .int x_10])), (q_1, .inl (k 0, 400, .inl (upd f_0 12 ((x_0 >>> (24 &&& 31)) &&& 255))))] := hD
  refine lv_aload_n hx hb dX7_append_33 rfl (lv_at hl 1 rfl) ?_
  refine lv_dup hx hb dX7_append_34 rfl ?_
  refine va_get (D := D) (ci := 7) (v := .int 12) (C := RX7) (T := TX7) (N := 16) hx hb hts inX7 hown hK hP 0 rfl rfl 1 (by decide) (hts _ kF_X7_31) (fun _ h9 => h9) rfl dX7_append_35 ?_
  refine lv_iconst (v := 1) hx hb dX7_append_38 (by decide) ?_
  refine lv_iadd hx hb dX7_append_39 ?_
  refine lv_toc (v := 13) (by decide) ?_
  refine va_put (D := D) (ci := 7) (v := .int 13) (ty := .int) (C := RX7) (T := TX7) (N := 16) hx hb hts inX7 tyX7 tyX7_ok nmX7 hown hK hP hD hS 0 rfl rfl 1 (by decide) (hts _ kF_X7_31) (fun _ h9 => h9) rfl (by decide +kernel) rfl rfl (Nat.le_of_ble_eq_true rfl) dX7_append_40 (fun H locs hP hD hS => ?_)
  have hP : va_P D vwCl [(q_0, .inr (7, [.ref q_1, .int 13, .int x_1, .int x_2, .ref q_2, .ref q_3, .ref q_4, .ref q_5, .int x_3, .int x_4, .int x_5, .int x_6, .int x_7, .int x_8, .long g_9, .int x_10])), (q_1, .inl (k 0, 400, .inl (upd f_0 12 ((x_0 >>> (24 &&& 31)) &&& 255))))] H := hP
  have hD : va_D A [(q_0, .inr (7, [.ref q_1, .int 13, .int x_1, .int x_2, .ref q_2, .ref q_3, .ref q_4, .ref q_5, .int x_3, .int x_4, .int x_5, .int x_6, .int x_7, .int x_8, .long g_9, .int x_10])), (q_1, .inl (k 0, 400, .inl (upd f_0 12 ((x_0 >>> (24 &&& 31)) &&& 255))))] := hD
  refine lv_iinc (v := 16) (lv' := [(2, .int 16), (0, .ref q_0), (1, .int x_0)]) hx hb dX7_append_43 hl (k := 0) rfl (by decide) (by decide) rfl (fun ls hl => ?_)
  refine lv_goto (tgt := 3) hx hb dX7_append_46 (by decide) ?_
  refine lv_iload_n hx hb dX7_append_3 rfl (lv_at hl 0 rfl) ?_
  refine lv_if_lt (tgt := 49) hx hb dX7_append_4 (by decide) (fun c3 => absurd c3 (by decide)) (fun _ => ?_)
  refine lv_aload_n hx hb dX7_append_7 rfl (lv_at hl 1 rfl) ?_
  refine va_get (D := D) (ci := 7) (v := .int 13) (C := RX7) (T := TX7) (N := 16) hx hb hts inX7 hown hK hP 0 rfl rfl 1 (by decide) (hts _ kF_X7_31) (fun _ h9 => h9) rfl dX7_append_8 ?_
  refine lv_sipush (v := 400) hx hb dX7_append_11 (by decide) ?_
  refine lv_icmp_ge (tgt := 49) hx hb dX7_append_14 (by decide) (fun c4 => absurd c4 (by decide)) (fun _ => ?_)
  refine lv_aload_n hx hb dX7_append_17 rfl (lv_at hl 1 rfl) ?_
  refine va_get (D := D) (ci := 7) (v := .ref q_1) (C := RX7) (T := TX7) (N := 16) hx hb hts inX7 hown hK hP 0 rfl rfl 0 (by decide) (hts _ kF_X7_9) (fun _ h9 => h9) rfl dX7_append_18 ?_
  refine lv_aload_n hx hb dX7_append_21 rfl (lv_at hl 1 rfl) ?_
  refine va_get (D := D) (ci := 7) (v := .int 13) (C := RX7) (T := TX7) (N := 16) hx hb hts inX7 hown hK hP 0 rfl rfl 1 (by decide) (hts _ kF_X7_31) (fun _ h9 => h9) rfl dX7_append_22 ?_
  refine lv_iload_n hx hb dX7_append_25 rfl (lv_at hl 2 rfl) ?_
  refine lv_iload_n hx hb dX7_append_26 rfl (lv_at hl 0 rfl) ?_
  refine lv_ishr hx hb dX7_append_27 ?_
  refine lv_sipush (v := 255) hx hb dX7_append_28 (by decide) ?_
  refine lv_iand hx hb dX7_append_31 ?_
  refine va_iast hx hb hK hP hD hS 1 0 rfl rfl (by unfold vp_in; decide) dX7_append_32 (fun H locs hP hD hS => ?_)
  have hP : va_P D vwCl [(q_0, .inr (7, [.ref q_1, .int 13, .int x_1, .int x_2, .ref q_2, .ref q_3, .ref q_4, .ref q_5, .int x_3, .int x_4, .int x_5, .int x_6, .int x_7, .int x_8, .long g_9, .int x_10])), (q_1, .inl (k 0, 400, .inl (upd (upd f_0 12 ((x_0 >>> (24 &&& 31)) &&& 255)) 13 ((x_0 >>> (16 &&& 31)) &&& 255))))] H := hP
  have hD : va_D A [(q_0, .inr (7, [.ref q_1, .int 13, .int x_1, .int x_2, .ref q_2, .ref q_3, .ref q_4, .ref q_5, .int x_3, .int x_4, .int x_5, .int x_6, .int x_7, .int x_8, .long g_9, .int x_10])), (q_1, .inl (k 0, 400, .inl (upd (upd f_0 12 ((x_0 >>> (24 &&& 31)) &&& 255)) 13 ((x_0 >>> (16 &&& 31)) &&& 255))))] := hD
  refine lv_aload_n hx hb dX7_append_33 rfl (lv_at hl 1 rfl) ?_
  refine lv_dup hx hb dX7_append_34 rfl ?_
  refine va_get (D := D) (ci := 7) (v := .int 13) (C := RX7) (T := TX7) (N := 16) hx hb hts inX7 hown hK hP 0 rfl rfl 1 (by decide) (hts _ kF_X7_31) (fun _ h9 => h9) rfl dX7_append_35 ?_
  refine lv_iconst (v := 1) hx hb dX7_append_38 (by decide) ?_
  refine lv_iadd hx hb dX7_append_39 ?_
  refine lv_toc (v := 14) (by decide) ?_
  refine va_put (D := D) (ci := 7) (v := .int 14) (ty := .int) (C := RX7) (T := TX7) (N := 16) hx hb hts inX7 tyX7 tyX7_ok nmX7 hown hK hP hD hS 0 rfl rfl 1 (by decide) (hts _ kF_X7_31) (fun _ h9 => h9) rfl (by decide +kernel) rfl rfl (Nat.le_of_ble_eq_true rfl) dX7_append_40 (fun H locs hP hD hS => ?_)
  have hP : va_P D vwCl [(q_0, .inr (7, [.ref q_1, .int 14, .int x_1, .int x_2, .ref q_2, .ref q_3, .ref q_4, .ref q_5, .int x_3, .int x_4, .int x_5, .int x_6, .int x_7, .int x_8, .long g_9, .int x_10])), (q_1, .inl (k 0, 400, .inl (upd (upd f_0 12 ((x_0 >>> (24 &&& 31)) &&& 255)) 13 ((x_0 >>> (16 &&& 31)) &&& 255))))] H := hP
  have hD : va_D A [(q_0, .inr (7, [.ref q_1, .int 14, .int x_1, .int x_2, .ref q_2, .ref q_3, .ref q_4, .ref q_5, .int x_3, .int x_4, .int x_5, .int x_6, .int x_7, .int x_8, .long g_9, .int x_10])), (q_1, .inl (k 0, 400, .inl (upd (upd f_0 12 ((x_0 >>> (24 &&& 31)) &&& 255)) 13 ((x_0 >>> (16 &&& 31)) &&& 255))))] := hD
  refine lv_iinc (v := 8) (lv' := [(2, .int 8), (0, .ref q_0), (1, .int x_0)]) hx hb dX7_append_43 hl (k := 0) rfl (by decide) (by decide) rfl (fun ls hl => ?_)
  refine lv_goto (tgt := 3) hx hb dX7_append_46 (by decide) ?_
  refine lv_iload_n hx hb dX7_append_3 rfl (lv_at hl 0 rfl) ?_
  refine lv_if_lt (tgt := 49) hx hb dX7_append_4 (by decide) (fun c5 => absurd c5 (by decide)) (fun _ => ?_)
  refine lv_aload_n hx hb dX7_append_7 rfl (lv_at hl 1 rfl) ?_
  refine va_get (D := D) (ci := 7) (v := .int 14) (C := RX7) (T := TX7) (N := 16) hx hb hts inX7 hown hK hP 0 rfl rfl 1 (by decide) (hts _ kF_X7_31) (fun _ h9 => h9) rfl dX7_append_8 ?_
  refine lv_sipush (v := 400) hx hb dX7_append_11 (by decide) ?_
  refine lv_icmp_ge (tgt := 49) hx hb dX7_append_14 (by decide) (fun c6 => absurd c6 (by decide)) (fun _ => ?_)
  refine lv_aload_n hx hb dX7_append_17 rfl (lv_at hl 1 rfl) ?_
  refine va_get (D := D) (ci := 7) (v := .ref q_1) (C := RX7) (T := TX7) (N := 16) hx hb hts inX7 hown hK hP 0 rfl rfl 0 (by decide) (hts _ kF_X7_9) (fun _ h9 => h9) rfl dX7_append_18 ?_
  refine lv_aload_n hx hb dX7_append_21 rfl (lv_at hl 1 rfl) ?_
  refine va_get (D := D) (ci := 7) (v := .int 14) (C := RX7) (T := TX7) (N := 16) hx hb hts inX7 hown hK hP 0 rfl rfl 1 (by decide) (hts _ kF_X7_31) (fun _ h9 => h9) rfl dX7_append_22 ?_
  refine lv_iload_n hx hb dX7_append_25 rfl (lv_at hl 2 rfl) ?_
  refine lv_iload_n hx hb dX7_append_26 rfl (lv_at hl 0 rfl) ?_
  refine lv_ishr hx hb dX7_append_27 ?_
  refine lv_sipush (v := 255) hx hb dX7_append_28 (by decide) ?_
  refine lv_iand hx hb dX7_append_31 ?_
  refine va_iast hx hb hK hP hD hS 1 0 rfl rfl (by unfold vp_in; decide) dX7_append_32 (fun H locs hP hD hS => ?_)
  have hP : va_P D vwCl [(q_0, .inr (7, [.ref q_1, .int 14, .int x_1, .int x_2, .ref q_2, .ref q_3, .ref q_4, .ref q_5, .int x_3, .int x_4, .int x_5, .int x_6, .int x_7, .int x_8, .long g_9, .int x_10])), (q_1, .inl (k 0, 400, .inl (upd (upd (upd f_0 12 ((x_0 >>> (24 &&& 31)) &&& 255)) 13 ((x_0 >>> (16 &&& 31)) &&& 255)) 14 ((x_0 >>> (8 &&& 31)) &&& 255))))] H := hP
  have hD : va_D A [(q_0, .inr (7, [.ref q_1, .int 14, .int x_1, .int x_2, .ref q_2, .ref q_3, .ref q_4, .ref q_5, .int x_3, .int x_4, .int x_5, .int x_6, .int x_7, .int x_8, .long g_9, .int x_10])), (q_1, .inl (k 0, 400, .inl (upd (upd (upd f_0 12 ((x_0 >>> (24 &&& 31)) &&& 255)) 13 ((x_0 >>> (16 &&& 31)) &&& 255)) 14 ((x_0 >>> (8 &&& 31)) &&& 255))))] := hD
  refine lv_aload_n hx hb dX7_append_33 rfl (lv_at hl 1 rfl) ?_
  refine lv_dup hx hb dX7_append_34 rfl ?_
  refine va_get (D := D) (ci := 7) (v := .int 14) (C := RX7) (T := TX7) (N := 16) hx hb hts inX7 hown hK hP 0 rfl rfl 1 (by decide) (hts _ kF_X7_31) (fun _ h9 => h9) rfl dX7_append_35 ?_
  refine lv_iconst (v := 1) hx hb dX7_append_38 (by decide) ?_
  refine lv_iadd hx hb dX7_append_39 ?_
  refine lv_toc (v := 15) (by decide) ?_
  refine va_put (D := D) (ci := 7) (v := .int 15) (ty := .int) (C := RX7) (T := TX7) (N := 16) hx hb hts inX7 tyX7 tyX7_ok nmX7 hown hK hP hD hS 0 rfl rfl 1 (by decide) (hts _ kF_X7_31) (fun _ h9 => h9) rfl (by decide +kernel) rfl rfl (Nat.le_of_ble_eq_true rfl) dX7_append_40 (fun H locs hP hD hS => ?_)
  have hP : va_P D vwCl [(q_0, .inr (7, [.ref q_1, .int 15, .int x_1, .int x_2, .ref q_2, .ref q_3, .ref q_4, .ref q_5, .int x_3, .int x_4, .int x_5, .int x_6, .int x_7, .int x_8, .long g_9, .int x_10])), (q_1, .inl (k 0, 400, .inl (upd (upd (upd f_0 12 ((x_0 >>> (24 &&& 31)) &&& 255)) 13 ((x_0 >>> (16 &&& 31)) &&& 255)) 14 ((x_0 >>> (8 &&& 31)) &&& 255))))] H := hP
  have hD : va_D A [(q_0, .inr (7, [.ref q_1, .int 15, .int x_1, .int x_2, .ref q_2, .ref q_3, .ref q_4, .ref q_5, .int x_3, .int x_4, .int x_5, .int x_6, .int x_7, .int x_8, .long g_9, .int x_10])), (q_1, .inl (k 0, 400, .inl (upd (upd (upd f_0 12 ((x_0 >>> (24 &&& 31)) &&& 255)) 13 ((x_0 >>> (16 &&& 31)) &&& 255)) 14 ((x_0 >>> (8 &&& 31)) &&& 255))))] := hD
  refine lv_iinc (v := 0) (lv' := [(2, .int 0), (0, .ref q_0), (1, .int x_0)]) hx hb dX7_append_43 hl (k := 0) rfl (by decide) (by decide) rfl (fun ls hl => ?_)
  refine lv_goto (tgt := 3) hx hb dX7_append_46 (by decide) ?_
  refine lv_iload_n hx hb dX7_append_3 rfl (lv_at hl 0 rfl) ?_
  refine lv_if_lt (tgt := 49) hx hb dX7_append_4 (by decide) (fun c7 => absurd c7 (by decide)) (fun _ => ?_)
  refine lv_aload_n hx hb dX7_append_7 rfl (lv_at hl 1 rfl) ?_
  refine va_get (D := D) (ci := 7) (v := .int 15) (C := RX7) (T := TX7) (N := 16) hx hb hts inX7 hown hK hP 0 rfl rfl 1 (by decide) (hts _ kF_X7_31) (fun _ h9 => h9) rfl dX7_append_8 ?_
  refine lv_sipush (v := 400) hx hb dX7_append_11 (by decide) ?_
  refine lv_icmp_ge (tgt := 49) hx hb dX7_append_14 (by decide) (fun c8 => absurd c8 (by decide)) (fun _ => ?_)
  refine lv_aload_n hx hb dX7_append_17 rfl (lv_at hl 1 rfl) ?_
  refine va_get (D := D) (ci := 7) (v := .ref q_1) (C := RX7) (T := TX7) (N := 16) hx hb hts inX7 hown hK hP 0 rfl rfl 0 (by decide) (hts _ kF_X7_9) (fun _ h9 => h9) rfl dX7_append_18 ?_
  refine lv_aload_n hx hb dX7_append_21 rfl (lv_at hl 1 rfl) ?_
  refine va_get (D := D) (ci := 7) (v := .int 15) (C := RX7) (T := TX7) (N := 16) hx hb hts inX7 hown hK hP 0 rfl rfl 1 (by decide) (hts _ kF_X7_31) (fun _ h9 => h9) rfl dX7_append_22 ?_
  refine lv_iload_n hx hb dX7_append_25 rfl (lv_at hl 2 rfl) ?_
  refine lv_iload_n hx hb dX7_append_26 rfl (lv_at hl 0 rfl) ?_
  refine lv_ishr hx hb dX7_append_27 ?_
  refine lv_sipush (v := 255) hx hb dX7_append_28 (by decide) ?_
  refine lv_iand hx hb dX7_append_31 ?_
  refine va_iast hx hb hK hP hD hS 1 0 rfl rfl (by unfold vp_in; decide) dX7_append_32 (fun H locs hP hD hS => ?_)
  have hP : va_P D vwCl [(q_0, .inr (7, [.ref q_1, .int 15, .int x_1, .int x_2, .ref q_2, .ref q_3, .ref q_4, .ref q_5, .int x_3, .int x_4, .int x_5, .int x_6, .int x_7, .int x_8, .long g_9, .int x_10])), (q_1, .inl (k 0, 400, .inl (upd (upd (upd (upd f_0 12 ((x_0 >>> (24 &&& 31)) &&& 255)) 13 ((x_0 >>> (16 &&& 31)) &&& 255)) 14 ((x_0 >>> (8 &&& 31)) &&& 255)) 15 ((x_0 >>> (0 &&& 31)) &&& 255))))] H := hP
  have hD : va_D A [(q_0, .inr (7, [.ref q_1, .int 15, .int x_1, .int x_2, .ref q_2, .ref q_3, .ref q_4, .ref q_5, .int x_3, .int x_4, .int x_5, .int x_6, .int x_7, .int x_8, .long g_9, .int x_10])), (q_1, .inl (k 0, 400, .inl (upd (upd (upd (upd f_0 12 ((x_0 >>> (24 &&& 31)) &&& 255)) 13 ((x_0 >>> (16 &&& 31)) &&& 255)) 14 ((x_0 >>> (8 &&& 31)) &&& 255)) 15 ((x_0 >>> (0 &&& 31)) &&& 255))))] := hD
  refine lv_aload_n hx hb dX7_append_33 rfl (lv_at hl 1 rfl) ?_
  refine lv_dup hx hb dX7_append_34 rfl ?_
  refine va_get (D := D) (ci := 7) (v := .int 15) (C := RX7) (T := TX7) (N := 16) hx hb hts inX7 hown hK hP 0 rfl rfl 1 (by decide) (hts _ kF_X7_31) (fun _ h9 => h9) rfl dX7_append_35 ?_
  refine lv_iconst (v := 1) hx hb dX7_append_38 (by decide) ?_
  refine lv_iadd hx hb dX7_append_39 ?_
  refine lv_toc (v := 16) (by decide) ?_
  refine va_put (D := D) (ci := 7) (v := .int 16) (ty := .int) (C := RX7) (T := TX7) (N := 16) hx hb hts inX7 tyX7 tyX7_ok nmX7 hown hK hP hD hS 0 rfl rfl 1 (by decide) (hts _ kF_X7_31) (fun _ h9 => h9) rfl (by decide +kernel) rfl rfl (Nat.le_of_ble_eq_true rfl) dX7_append_40 (fun H locs hP hD hS => ?_)
  have hP : va_P D vwCl [(q_0, .inr (7, [.ref q_1, .int 16, .int x_1, .int x_2, .ref q_2, .ref q_3, .ref q_4, .ref q_5, .int x_3, .int x_4, .int x_5, .int x_6, .int x_7, .int x_8, .long g_9, .int x_10])), (q_1, .inl (k 0, 400, .inl (upd (upd (upd (upd f_0 12 ((x_0 >>> (24 &&& 31)) &&& 255)) 13 ((x_0 >>> (16 &&& 31)) &&& 255)) 14 ((x_0 >>> (8 &&& 31)) &&& 255)) 15 ((x_0 >>> (0 &&& 31)) &&& 255))))] H := hP
  have hD : va_D A [(q_0, .inr (7, [.ref q_1, .int 16, .int x_1, .int x_2, .ref q_2, .ref q_3, .ref q_4, .ref q_5, .int x_3, .int x_4, .int x_5, .int x_6, .int x_7, .int x_8, .long g_9, .int x_10])), (q_1, .inl (k 0, 400, .inl (upd (upd (upd (upd f_0 12 ((x_0 >>> (24 &&& 31)) &&& 255)) 13 ((x_0 >>> (16 &&& 31)) &&& 255)) 14 ((x_0 >>> (8 &&& 31)) &&& 255)) 15 ((x_0 >>> (0 &&& 31)) &&& 255))))] := hD
  refine lv_iinc (v := (-8)) (lv' := [(2, .int (-8)), (0, .ref q_0), (1, .int x_0)]) hx hb dX7_append_43 hl (k := 0) rfl (by decide) (by decide) rfl (fun ls hl => ?_)
  refine lv_goto (tgt := 3) hx hb dX7_append_46 (by decide) ?_
  refine lv_iload_n hx hb dX7_append_3 rfl (lv_at hl 0 rfl) ?_
  refine lv_if_lt (tgt := 49) hx hb dX7_append_4 (by decide) (fun _ => ?_) (fun c9 => absurd (by decide) c9)
  exact z_vret C0 hr hlk hK hP hD hS (0, fun _ => 0) rfl [0, 1] rfl rfl rfl dX7_append_49

set_option maxHeartbeats 4000000 in
set_option maxRecDepth 100000 in
theorem c_X7_append_5 (l : Launch) (D : va_G) (k : Nat → ClassId) (q_0 : Nat) (q_1 : Nat) (q_2 : Nat) (q_3 : Nat) (q_4 : Nat) (q_5 : Nat) (x_0 : Int32) (x_1 : Int32) (x_2 : Int32) (x_3 : Int32) (x_4 : Int32) (x_5 : Int32) (x_6 : Int32) (x_7 : Int32) (x_8 : Int32) (g_9 : Int64) (x_10 : Int32) (f_0 : Nat → Int32) : zMv l yX7_append cX7_append 3 none ({ frames := 0, cells := 0, slots := 0, locals := 0 }) D k [.ref q_0, .int x_0] [(q_0, .inr (7, [.ref q_1, .int 16, .int x_1, .int x_2, .ref q_2, .ref q_3, .ref q_4, .ref q_5, .int x_3, .int x_4, .int x_5, .int x_6, .int x_7, .int x_8, .long g_9, .int x_10])), (q_1, .inl (k 0, 400, .inl f_0))] (fun u => u.1 = 0) (fun u => [(q_0, .inr (7, [.ref q_1, .int 20, .int x_1, .int x_2, .ref q_2, .ref q_3, .ref q_4, .ref q_5, .int x_3, .int x_4, .int x_5, .int x_6, .int x_7, .int x_8, .long g_9, .int x_10])), (q_1, .inl (k 0, 400, .inl (upd (upd (upd (upd f_0 16 ((x_0 >>> (24 &&& 31)) &&& 255)) 17 ((x_0 >>> (16 &&& 31)) &&& 255)) 18 ((x_0 >>> (8 &&& 31)) &&& 255)) 19 ((x_0 >>> (0 &&& 31)) &&& 255))))]) := by
  refine zMv_of (own := RX7) (by decide +kernel) rfl (Nat.le_of_ble_eq_true rfl) ?_
  intro p e s m args below meth c A ls C0 hr hlk hin hP hD hS hA hK hN hl
  have hx := C0.1
  have hb := C0.2.1
  have hml := C0.2.2.1
  have hown := C0.2.2.2.1
  have hts := C0.2.2.2.2
  have hl : lv_has ls 3 [(0, .ref q_0), (1, .int x_0)] := hl
  have hP : va_P D vwCl [(q_0, .inr (7, [.ref q_1, .int 16, .int x_1, .int x_2, .ref q_2, .ref q_3, .ref q_4, .ref q_5, .int x_3, .int x_4, .int x_5, .int x_6, .int x_7, .int x_8, .long g_9, .int x_10])), (q_1, .inl (k 0, 400, .inl f_0))] s.heap := hP
  refine lv_bipush (v := 24) hx hb dX7_append_0 (by decide) ?_
  refine lv_istore_n (lv' := [(2, .int 24), (0, .ref q_0), (1, .int x_0)]) hx hb dX7_append_2 rfl hl (by decide) rfl (fun ls hl => ?_)
  refine lv_iload_n hx hb dX7_append_3 rfl (lv_at hl 0 rfl) ?_
  refine lv_if_lt (tgt := 49) hx hb dX7_append_4 (by decide) (fun c1 => absurd c1 (by decide)) (fun _ => ?_)
  refine lv_aload_n hx hb dX7_append_7 rfl (lv_at hl 1 rfl) ?_
  refine va_get (D := D) (ci := 7) (v := .int 16) (C := RX7) (T := TX7) (N := 16) hx hb hts inX7 hown hK hP 0 rfl rfl 1 (by decide) (hts _ kF_X7_31) (fun _ h9 => h9) rfl dX7_append_8 ?_
  refine lv_sipush (v := 400) hx hb dX7_append_11 (by decide) ?_
  refine lv_icmp_ge (tgt := 49) hx hb dX7_append_14 (by decide) (fun c2 => absurd c2 (by decide)) (fun _ => ?_)
  refine lv_aload_n hx hb dX7_append_17 rfl (lv_at hl 1 rfl) ?_
  refine va_get (D := D) (ci := 7) (v := .ref q_1) (C := RX7) (T := TX7) (N := 16) hx hb hts inX7 hown hK hP 0 rfl rfl 0 (by decide) (hts _ kF_X7_9) (fun _ h9 => h9) rfl dX7_append_18 ?_
  refine lv_aload_n hx hb dX7_append_21 rfl (lv_at hl 1 rfl) ?_
  refine va_get (D := D) (ci := 7) (v := .int 16) (C := RX7) (T := TX7) (N := 16) hx hb hts inX7 hown hK hP 0 rfl rfl 1 (by decide) (hts _ kF_X7_31) (fun _ h9 => h9) rfl dX7_append_22 ?_
  refine lv_iload_n hx hb dX7_append_25 rfl (lv_at hl 2 rfl) ?_
  refine lv_iload_n hx hb dX7_append_26 rfl (lv_at hl 0 rfl) ?_
  refine lv_ishr hx hb dX7_append_27 ?_
  refine lv_sipush (v := 255) hx hb dX7_append_28 (by decide) ?_
  refine lv_iand hx hb dX7_append_31 ?_
  refine va_iast hx hb hK hP hD hS 1 0 rfl rfl (by unfold vp_in; decide) dX7_append_32 (fun H locs hP hD hS => ?_)
  have hP : va_P D vwCl [(q_0, .inr (7, [.ref q_1, .int 16, .int x_1, .int x_2, .ref q_2, .ref q_3, .ref q_4, .ref q_5, .int x_3, .int x_4, .int x_5, .int x_6, .int x_7, .int x_8, .long g_9, .int x_10])), (q_1, .inl (k 0, 400, .inl (upd f_0 16 ((x_0 >>> (24 &&& 31)) &&& 255))))] H := hP
  have hD : va_D A [(q_0, .inr (7, [.ref q_1, .int 16, .int x_1, .int x_2, .ref q_2, .ref q_3, .ref q_4, .ref q_5, .int x_3, .int x_4, .int x_5, .int x_6, .int x_7, .int x_8, .long g_9, .int x_10])), (q_1, .inl (k 0, 400, .inl (upd f_0 16 ((x_0 >>> (24 &&& 31)) &&& 255))))] := hD
  refine lv_aload_n hx hb dX7_append_33 rfl (lv_at hl 1 rfl) ?_
  refine lv_dup hx hb dX7_append_34 rfl ?_
  refine va_get (D := D) (ci := 7) (v := .int 16) (C := RX7) (T := TX7) (N := 16) hx hb hts inX7 hown hK hP 0 rfl rfl 1 (by decide) (hts _ kF_X7_31) (fun _ h9 => h9) rfl dX7_append_35 ?_
  refine lv_iconst (v := 1) hx hb dX7_append_38 (by decide) ?_
  refine lv_iadd hx hb dX7_append_39 ?_
  refine lv_toc (v := 17) (by decide) ?_
  refine va_put (D := D) (ci := 7) (v := .int 17) (ty := .int) (C := RX7) (T := TX7) (N := 16) hx hb hts inX7 tyX7 tyX7_ok nmX7 hown hK hP hD hS 0 rfl rfl 1 (by decide) (hts _ kF_X7_31) (fun _ h9 => h9) rfl (by decide +kernel) rfl rfl (Nat.le_of_ble_eq_true rfl) dX7_append_40 (fun H locs hP hD hS => ?_)
  have hP : va_P D vwCl [(q_0, .inr (7, [.ref q_1, .int 17, .int x_1, .int x_2, .ref q_2, .ref q_3, .ref q_4, .ref q_5, .int x_3, .int x_4, .int x_5, .int x_6, .int x_7, .int x_8, .long g_9, .int x_10])), (q_1, .inl (k 0, 400, .inl (upd f_0 16 ((x_0 >>> (24 &&& 31)) &&& 255))))] H := hP
  have hD : va_D A [(q_0, .inr (7, [.ref q_1, .int 17, .int x_1, .int x_2, .ref q_2, .ref q_3, .ref q_4, .ref q_5, .int x_3, .int x_4, .int x_5, .int x_6, .int x_7, .int x_8, .long g_9, .int x_10])), (q_1, .inl (k 0, 400, .inl (upd f_0 16 ((x_0 >>> (24 &&& 31)) &&& 255))))] := hD
  refine lv_iinc (v := 16) (lv' := [(2, .int 16), (0, .ref q_0), (1, .int x_0)]) hx hb dX7_append_43 hl (k := 0) rfl (by decide) (by decide) rfl (fun ls hl => ?_)
  refine lv_goto (tgt := 3) hx hb dX7_append_46 (by decide) ?_
  refine lv_iload_n hx hb dX7_append_3 rfl (lv_at hl 0 rfl) ?_
  refine lv_if_lt (tgt := 49) hx hb dX7_append_4 (by decide) (fun c3 => absurd c3 (by decide)) (fun _ => ?_)
  refine lv_aload_n hx hb dX7_append_7 rfl (lv_at hl 1 rfl) ?_
  refine va_get (D := D) (ci := 7) (v := .int 17) (C := RX7) (T := TX7) (N := 16) hx hb hts inX7 hown hK hP 0 rfl rfl 1 (by decide) (hts _ kF_X7_31) (fun _ h9 => h9) rfl dX7_append_8 ?_
  refine lv_sipush (v := 400) hx hb dX7_append_11 (by decide) ?_
  refine lv_icmp_ge (tgt := 49) hx hb dX7_append_14 (by decide) (fun c4 => absurd c4 (by decide)) (fun _ => ?_)
  refine lv_aload_n hx hb dX7_append_17 rfl (lv_at hl 1 rfl) ?_
  refine va_get (D := D) (ci := 7) (v := .ref q_1) (C := RX7) (T := TX7) (N := 16) hx hb hts inX7 hown hK hP 0 rfl rfl 0 (by decide) (hts _ kF_X7_9) (fun _ h9 => h9) rfl dX7_append_18 ?_
  refine lv_aload_n hx hb dX7_append_21 rfl (lv_at hl 1 rfl) ?_
  refine va_get (D := D) (ci := 7) (v := .int 17) (C := RX7) (T := TX7) (N := 16) hx hb hts inX7 hown hK hP 0 rfl rfl 1 (by decide) (hts _ kF_X7_31) (fun _ h9 => h9) rfl dX7_append_22 ?_
  refine lv_iload_n hx hb dX7_append_25 rfl (lv_at hl 2 rfl) ?_
  refine lv_iload_n hx hb dX7_append_26 rfl (lv_at hl 0 rfl) ?_
  refine lv_ishr hx hb dX7_append_27 ?_
  refine lv_sipush (v := 255) hx hb dX7_append_28 (by decide) ?_
  refine lv_iand hx hb dX7_append_31 ?_
  refine va_iast hx hb hK hP hD hS 1 0 rfl rfl (by unfold vp_in; decide) dX7_append_32 (fun H locs hP hD hS => ?_)
  have hP : va_P D vwCl [(q_0, .inr (7, [.ref q_1, .int 17, .int x_1, .int x_2, .ref q_2, .ref q_3, .ref q_4, .ref q_5, .int x_3, .int x_4, .int x_5, .int x_6, .int x_7, .int x_8, .long g_9, .int x_10])), (q_1, .inl (k 0, 400, .inl (upd (upd f_0 16 ((x_0 >>> (24 &&& 31)) &&& 255)) 17 ((x_0 >>> (16 &&& 31)) &&& 255))))] H := hP
  have hD : va_D A [(q_0, .inr (7, [.ref q_1, .int 17, .int x_1, .int x_2, .ref q_2, .ref q_3, .ref q_4, .ref q_5, .int x_3, .int x_4, .int x_5, .int x_6, .int x_7, .int x_8, .long g_9, .int x_10])), (q_1, .inl (k 0, 400, .inl (upd (upd f_0 16 ((x_0 >>> (24 &&& 31)) &&& 255)) 17 ((x_0 >>> (16 &&& 31)) &&& 255))))] := hD
  refine lv_aload_n hx hb dX7_append_33 rfl (lv_at hl 1 rfl) ?_
  refine lv_dup hx hb dX7_append_34 rfl ?_
  refine va_get (D := D) (ci := 7) (v := .int 17) (C := RX7) (T := TX7) (N := 16) hx hb hts inX7 hown hK hP 0 rfl rfl 1 (by decide) (hts _ kF_X7_31) (fun _ h9 => h9) rfl dX7_append_35 ?_
  refine lv_iconst (v := 1) hx hb dX7_append_38 (by decide) ?_
  refine lv_iadd hx hb dX7_append_39 ?_
  refine lv_toc (v := 18) (by decide) ?_
  refine va_put (D := D) (ci := 7) (v := .int 18) (ty := .int) (C := RX7) (T := TX7) (N := 16) hx hb hts inX7 tyX7 tyX7_ok nmX7 hown hK hP hD hS 0 rfl rfl 1 (by decide) (hts _ kF_X7_31) (fun _ h9 => h9) rfl (by decide +kernel) rfl rfl (Nat.le_of_ble_eq_true rfl) dX7_append_40 (fun H locs hP hD hS => ?_)
  have hP : va_P D vwCl [(q_0, .inr (7, [.ref q_1, .int 18, .int x_1, .int x_2, .ref q_2, .ref q_3, .ref q_4, .ref q_5, .int x_3, .int x_4, .int x_5, .int x_6, .int x_7, .int x_8, .long g_9, .int x_10])), (q_1, .inl (k 0, 400, .inl (upd (upd f_0 16 ((x_0 >>> (24 &&& 31)) &&& 255)) 17 ((x_0 >>> (16 &&& 31)) &&& 255))))] H := hP
  have hD : va_D A [(q_0, .inr (7, [.ref q_1, .int 18, .int x_1, .int x_2, .ref q_2, .ref q_3, .ref q_4, .ref q_5, .int x_3, .int x_4, .int x_5, .int x_6, .int x_7, .int x_8, .long g_9, .int x_10])), (q_1, .inl (k 0, 400, .inl (upd (upd f_0 16 ((x_0 >>> (24 &&& 31)) &&& 255)) 17 ((x_0 >>> (16 &&& 31)) &&& 255))))] := hD
  refine lv_iinc (v := 8) (lv' := [(2, .int 8), (0, .ref q_0), (1, .int x_0)]) hx hb dX7_append_43 hl (k := 0) rfl (by decide) (by decide) rfl (fun ls hl => ?_)
  refine lv_goto (tgt := 3) hx hb dX7_append_46 (by decide) ?_
  refine lv_iload_n hx hb dX7_append_3 rfl (lv_at hl 0 rfl) ?_
  refine lv_if_lt (tgt := 49) hx hb dX7_append_4 (by decide) (fun c5 => absurd c5 (by decide)) (fun _ => ?_)
  refine lv_aload_n hx hb dX7_append_7 rfl (lv_at hl 1 rfl) ?_
  refine va_get (D := D) (ci := 7) (v := .int 18) (C := RX7) (T := TX7) (N := 16) hx hb hts inX7 hown hK hP 0 rfl rfl 1 (by decide) (hts _ kF_X7_31) (fun _ h9 => h9) rfl dX7_append_8 ?_
  refine lv_sipush (v := 400) hx hb dX7_append_11 (by decide) ?_
  refine lv_icmp_ge (tgt := 49) hx hb dX7_append_14 (by decide) (fun c6 => absurd c6 (by decide)) (fun _ => ?_)
  refine lv_aload_n hx hb dX7_append_17 rfl (lv_at hl 1 rfl) ?_
  refine va_get (D := D) (ci := 7) (v := .ref q_1) (C := RX7) (T := TX7) (N := 16) hx hb hts inX7 hown hK hP 0 rfl rfl 0 (by decide) (hts _ kF_X7_9) (fun _ h9 => h9) rfl dX7_append_18 ?_
  refine lv_aload_n hx hb dX7_append_21 rfl (lv_at hl 1 rfl) ?_
  refine va_get (D := D) (ci := 7) (v := .int 18) (C := RX7) (T := TX7) (N := 16) hx hb hts inX7 hown hK hP 0 rfl rfl 1 (by decide) (hts _ kF_X7_31) (fun _ h9 => h9) rfl dX7_append_22 ?_
  refine lv_iload_n hx hb dX7_append_25 rfl (lv_at hl 2 rfl) ?_
  refine lv_iload_n hx hb dX7_append_26 rfl (lv_at hl 0 rfl) ?_
  refine lv_ishr hx hb dX7_append_27 ?_
  refine lv_sipush (v := 255) hx hb dX7_append_28 (by decide) ?_
  refine lv_iand hx hb dX7_append_31 ?_
  refine va_iast hx hb hK hP hD hS 1 0 rfl rfl (by unfold vp_in; decide) dX7_append_32 (fun H locs hP hD hS => ?_)
  have hP : va_P D vwCl [(q_0, .inr (7, [.ref q_1, .int 18, .int x_1, .int x_2, .ref q_2, .ref q_3, .ref q_4, .ref q_5, .int x_3, .int x_4, .int x_5, .int x_6, .int x_7, .int x_8, .long g_9, .int x_10])), (q_1, .inl (k 0, 400, .inl (upd (upd (upd f_0 16 ((x_0 >>> (24 &&& 31)) &&& 255)) 17 ((x_0 >>> (16 &&& 31)) &&& 255)) 18 ((x_0 >>> (8 &&& 31)) &&& 255))))] H := hP
  have hD : va_D A [(q_0, .inr (7, [.ref q_1, .int 18, .int x_1, .int x_2, .ref q_2, .ref q_3, .ref q_4, .ref q_5, .int x_3, .int x_4, .int x_5, .int x_6, .int x_7, .int x_8, .long g_9, .int x_10])), (q_1, .inl (k 0, 400, .inl (upd (upd (upd f_0 16 ((x_0 >>> (24 &&& 31)) &&& 255)) 17 ((x_0 >>> (16 &&& 31)) &&& 255)) 18 ((x_0 >>> (8 &&& 31)) &&& 255))))] := hD
  refine lv_aload_n hx hb dX7_append_33 rfl (lv_at hl 1 rfl) ?_
  refine lv_dup hx hb dX7_append_34 rfl ?_
  refine va_get (D := D) (ci := 7) (v := .int 18) (C := RX7) (T := TX7) (N := 16) hx hb hts inX7 hown hK hP 0 rfl rfl 1 (by decide) (hts _ kF_X7_31) (fun _ h9 => h9) rfl dX7_append_35 ?_
  refine lv_iconst (v := 1) hx hb dX7_append_38 (by decide) ?_
  refine lv_iadd hx hb dX7_append_39 ?_
  refine lv_toc (v := 19) (by decide) ?_
  refine va_put (D := D) (ci := 7) (v := .int 19) (ty := .int) (C := RX7) (T := TX7) (N := 16) hx hb hts inX7 tyX7 tyX7_ok nmX7 hown hK hP hD hS 0 rfl rfl 1 (by decide) (hts _ kF_X7_31) (fun _ h9 => h9) rfl (by decide +kernel) rfl rfl (Nat.le_of_ble_eq_true rfl) dX7_append_40 (fun H locs hP hD hS => ?_)
  have hP : va_P D vwCl [(q_0, .inr (7, [.ref q_1, .int 19, .int x_1, .int x_2, .ref q_2, .ref q_3, .ref q_4, .ref q_5, .int x_3, .int x_4, .int x_5, .int x_6, .int x_7, .int x_8, .long g_9, .int x_10])), (q_1, .inl (k 0, 400, .inl (upd (upd (upd f_0 16 ((x_0 >>> (24 &&& 31)) &&& 255)) 17 ((x_0 >>> (16 &&& 31)) &&& 255)) 18 ((x_0 >>> (8 &&& 31)) &&& 255))))] H := hP
  have hD : va_D A [(q_0, .inr (7, [.ref q_1, .int 19, .int x_1, .int x_2, .ref q_2, .ref q_3, .ref q_4, .ref q_5, .int x_3, .int x_4, .int x_5, .int x_6, .int x_7, .int x_8, .long g_9, .int x_10])), (q_1, .inl (k 0, 400, .inl (upd (upd (upd f_0 16 ((x_0 >>> (24 &&& 31)) &&& 255)) 17 ((x_0 >>> (16 &&& 31)) &&& 255)) 18 ((x_0 >>> (8 &&& 31)) &&& 255))))] := hD
  refine lv_iinc (v := 0) (lv' := [(2, .int 0), (0, .ref q_0), (1, .int x_0)]) hx hb dX7_append_43 hl (k := 0) rfl (by decide) (by decide) rfl (fun ls hl => ?_)
  refine lv_goto (tgt := 3) hx hb dX7_append_46 (by decide) ?_
  refine lv_iload_n hx hb dX7_append_3 rfl (lv_at hl 0 rfl) ?_
  refine lv_if_lt (tgt := 49) hx hb dX7_append_4 (by decide) (fun c7 => absurd c7 (by decide)) (fun _ => ?_)
  refine lv_aload_n hx hb dX7_append_7 rfl (lv_at hl 1 rfl) ?_
  refine va_get (D := D) (ci := 7) (v := .int 19) (C := RX7) (T := TX7) (N := 16) hx hb hts inX7 hown hK hP 0 rfl rfl 1 (by decide) (hts _ kF_X7_31) (fun _ h9 => h9) rfl dX7_append_8 ?_
  refine lv_sipush (v := 400) hx hb dX7_append_11 (by decide) ?_
  refine lv_icmp_ge (tgt := 49) hx hb dX7_append_14 (by decide) (fun c8 => absurd c8 (by decide)) (fun _ => ?_)
  refine lv_aload_n hx hb dX7_append_17 rfl (lv_at hl 1 rfl) ?_
  refine va_get (D := D) (ci := 7) (v := .ref q_1) (C := RX7) (T := TX7) (N := 16) hx hb hts inX7 hown hK hP 0 rfl rfl 0 (by decide) (hts _ kF_X7_9) (fun _ h9 => h9) rfl dX7_append_18 ?_
  refine lv_aload_n hx hb dX7_append_21 rfl (lv_at hl 1 rfl) ?_
  refine va_get (D := D) (ci := 7) (v := .int 19) (C := RX7) (T := TX7) (N := 16) hx hb hts inX7 hown hK hP 0 rfl rfl 1 (by decide) (hts _ kF_X7_31) (fun _ h9 => h9) rfl dX7_append_22 ?_
  refine lv_iload_n hx hb dX7_append_25 rfl (lv_at hl 2 rfl) ?_
  refine lv_iload_n hx hb dX7_append_26 rfl (lv_at hl 0 rfl) ?_
  refine lv_ishr hx hb dX7_append_27 ?_
  refine lv_sipush (v := 255) hx hb dX7_append_28 (by decide) ?_
  refine lv_iand hx hb dX7_append_31 ?_
  refine va_iast hx hb hK hP hD hS 1 0 rfl rfl (by unfold vp_in; decide) dX7_append_32 (fun H locs hP hD hS => ?_)
  have hP : va_P D vwCl [(q_0, .inr (7, [.ref q_1, .int 19, .int x_1, .int x_2, .ref q_2, .ref q_3, .ref q_4, .ref q_5, .int x_3, .int x_4, .int x_5, .int x_6, .int x_7, .int x_8, .long g_9, .int x_10])), (q_1, .inl (k 0, 400, .inl (upd (upd (upd (upd f_0 16 ((x_0 >>> (24 &&& 31)) &&& 255)) 17 ((x_0 >>> (16 &&& 31)) &&& 255)) 18 ((x_0 >>> (8 &&& 31)) &&& 255)) 19 ((x_0 >>> (0 &&& 31)) &&& 255))))] H := hP
  have hD : va_D A [(q_0, .inr (7, [.ref q_1, .int 19, .int x_1, .int x_2, .ref q_2, .ref q_3, .ref q_4, .ref q_5, .int x_3, .int x_4, .int x_5, .int x_6, .int x_7, .int x_8, .long g_9, .int x_10])), (q_1, .inl (k 0, 400, .inl (upd (upd (upd (upd f_0 16 ((x_0 >>> (24 &&& 31)) &&& 255)) 17 ((x_0 >>> (16 &&& 31)) &&& 255)) 18 ((x_0 >>> (8 &&& 31)) &&& 255)) 19 ((x_0 >>> (0 &&& 31)) &&& 255))))] := hD
  refine lv_aload_n hx hb dX7_append_33 rfl (lv_at hl 1 rfl) ?_
  refine lv_dup hx hb dX7_append_34 rfl ?_
  refine va_get (D := D) (ci := 7) (v := .int 19) (C := RX7) (T := TX7) (N := 16) hx hb hts inX7 hown hK hP 0 rfl rfl 1 (by decide) (hts _ kF_X7_31) (fun _ h9 => h9) rfl dX7_append_35 ?_
  refine lv_iconst (v := 1) hx hb dX7_append_38 (by decide) ?_
  refine lv_iadd hx hb dX7_append_39 ?_
  refine lv_toc (v := 20) (by decide) ?_
  refine va_put (D := D) (ci := 7) (v := .int 20) (ty := .int) (C := RX7) (T := TX7) (N := 16) hx hb hts inX7 tyX7 tyX7_ok nmX7 hown hK hP hD hS 0 rfl rfl 1 (by decide) (hts _ kF_X7_31) (fun _ h9 => h9) rfl (by decide +kernel) rfl rfl (Nat.le_of_ble_eq_true rfl) dX7_append_40 (fun H locs hP hD hS => ?_)
  have hP : va_P D vwCl [(q_0, .inr (7, [.ref q_1, .int 20, .int x_1, .int x_2, .ref q_2, .ref q_3, .ref q_4, .ref q_5, .int x_3, .int x_4, .int x_5, .int x_6, .int x_7, .int x_8, .long g_9, .int x_10])), (q_1, .inl (k 0, 400, .inl (upd (upd (upd (upd f_0 16 ((x_0 >>> (24 &&& 31)) &&& 255)) 17 ((x_0 >>> (16 &&& 31)) &&& 255)) 18 ((x_0 >>> (8 &&& 31)) &&& 255)) 19 ((x_0 >>> (0 &&& 31)) &&& 255))))] H := hP
  have hD : va_D A [(q_0, .inr (7, [.ref q_1, .int 20, .int x_1, .int x_2, .ref q_2, .ref q_3, .ref q_4, .ref q_5, .int x_3, .int x_4, .int x_5, .int x_6, .int x_7, .int x_8, .long g_9, .int x_10])), (q_1, .inl (k 0, 400, .inl (upd (upd (upd (upd f_0 16 ((x_0 >>> (24 &&& 31)) &&& 255)) 17 ((x_0 >>> (16 &&& 31)) &&& 255)) 18 ((x_0 >>> (8 &&& 31)) &&& 255)) 19 ((x_0 >>> (0 &&& 31)) &&& 255))))] := hD
  refine lv_iinc (v := (-8)) (lv' := [(2, .int (-8)), (0, .ref q_0), (1, .int x_0)]) hx hb dX7_append_43 hl (k := 0) rfl (by decide) (by decide) rfl (fun ls hl => ?_)
  refine lv_goto (tgt := 3) hx hb dX7_append_46 (by decide) ?_
  refine lv_iload_n hx hb dX7_append_3 rfl (lv_at hl 0 rfl) ?_
  refine lv_if_lt (tgt := 49) hx hb dX7_append_4 (by decide) (fun _ => ?_) (fun c9 => absurd (by decide) c9)
  exact z_vret C0 hr hlk hK hP hD hS (0, fun _ => 0) rfl [0, 1] rfl rfl rfl dX7_append_49

set_option maxHeartbeats 4000000 in
set_option maxRecDepth 100000 in
theorem c_X11_feed_1 (l : Launch) (D : va_G) (k : Nat → ClassId) (q_0 : Nat) (q_1 : Nat) (q_2 : Nat) (q_3 : Nat) (q_4 : Nat) (q_5 : Nat) (q_6 : Nat) (q_7 : Nat) (q_8 : Nat) (q_9 : Nat) (q_10 : Nat) (x_0 : Int32) (x_1 : Int32) (x_2 : Int32) (x_3 : Int32) (x_4 : Int32) (x_5 : Int32) (x_6 : Int32) (x_7 : Int32) (x_8 : Int32) (x_9 : Int32) (x_10 : Int32) (x_11 : Int32) (x_12 : Int32) (x_13 : Int32) (g_14 : Int64) (x_15 : Int32) (f_0 : Nat → Int32) : zMi l yX11_feed cX11_feed 6 (some .int) ({ frames := 1, cells := 0, slots := 0, locals := 22 }) D k [.ref q_0, .int x_0, .int x_1, .int x_2, .int x_3, .int x_4] [(q_0, .inr (11, [.ref q_3, .ref q_4, .ref q_1, .ref q_5, .ref q_6, .int x_5])), (q_1, .inr (7, [.ref q_2, .int 0, .int x_6, .int x_7, .ref q_7, .ref q_8, .ref q_9, .ref q_10, .int x_8, .int x_9, .int x_10, .int x_11, .int x_12, .int x_13, .long g_14, .int x_15])), (q_2, .inl (k 0, 400, .inl f_0))] (fun r u => u.1 = 0 ∧ r = 20) (fun u => []) := by
  refine zMi_of (own := RX11) (by decide +kernel) rfl (Nat.le_of_ble_eq_true rfl) ?_
  intro p e s m args below meth c A ls C0 hr hlk hin hP hD hS hA hK hN hl
  have hx := C0.1
  have hb := C0.2.1
  have hml := C0.2.2.1
  have hown := C0.2.2.2.1
  have hts := C0.2.2.2.2
  have hl : lv_has ls 6 [(0, .ref q_0), (1, .int x_0), (2, .int x_1), (3, .int x_2), (4, .int x_3), (5, .int x_4)] := hl
  have hP : va_P D vwCl [(q_0, .inr (11, [.ref q_3, .ref q_4, .ref q_1, .ref q_5, .ref q_6, .int x_5])), (q_1, .inr (7, [.ref q_2, .int 0, .int x_6, .int x_7, .ref q_7, .ref q_8, .ref q_9, .ref q_10, .int x_8, .int x_9, .int x_10, .int x_11, .int x_12, .int x_13, .long g_14, .int x_15])), (q_2, .inl (k 0, 400, .inl f_0))] s.heap := hP
  refine lv_aload_n hx hb dX11_feed_0 rfl (lv_at hl 0 rfl) ?_
  refine va_get (D := D) (ci := 11) (v := .ref q_1) (C := RX11) (T := TX11) (N := 6) hx hb hts inX11 hown hK hP 0 rfl rfl 2 (by decide) (hts _ kF_X11_23) (fun _ h9 => h9) rfl dX11_feed_1 ?_
  refine va_get (D := D) (ci := 7) (v := .int 0) (C := RX7) (T := TX7) (N := 16) hx hb hts inX7 hown hK hP 1 rfl rfl 1 (by decide) (hts _ kF_X11_181) (fun _ h9 => h9) rfl dX11_feed_4 ?_
  refine lv_sipush (v := 380) hx hb dX11_feed_7 (by decide) ?_
  refine lv_icmp_le (tgt := 15) hx hb dX11_feed_10 (by decide) (fun _ => ?_) (fun c1 => absurd (by decide) c1)
  refine lv_aload_n hx hb dX11_feed_15 rfl (lv_at hl 0 rfl) ?_
  refine va_get (D := D) (ci := 11) (v := .ref q_1) (C := RX11) (T := TX11) (N := 6) hx hb hts inX11 hown hK hP 0 rfl rfl 2 (by decide) (hts _ kF_X11_23) (fun _ h9 => h9) rfl dX11_feed_16 ?_
  refine lv_iload_n hx hb dX11_feed_19 rfl (lv_at hl 1 rfl) ?_
  refine z_bv (wr := [(q_0, .inr (11, [.ref q_3, .ref q_4, .ref q_1, .ref q_5, .ref q_6, .int x_5]))]) (z_runV (C := RX7) (As := [.int x_0]) (rest := []) C0 (c_X7_append_1 l D k q_1 q_2 q_7 q_8 q_9 q_10 x_0 x_6 x_7 x_8 x_9 x_10 x_11 x_12 x_13 g_14 x_15 f_0 _) okV_X7_append kM_X11_184 rfl (z_pV (q0 := 1) hK hN hP hD [1, 2] rfl rfl rfl rfl rfl) rfl hl.1 rfl (Nat.le_of_ble_eq_true rfl) dX11_feed_20 rfl) hP hD hS hA [1, 2] [0] rfl rfl rfl rfl (fun u2 H locs hw2 hP hD hS => ?_)
  obtain ⟨i2, a2⟩ := u2
  dsimp only at hw2
  obtain rfl := hw2
  have hP : va_P D vwCl [(q_0, .inr (11, [.ref q_3, .ref q_4, .ref q_1, .ref q_5, .ref q_6, .int x_5])), (q_1, .inr (7, [.ref q_2, .int 4, .int x_6, .int x_7, .ref q_7, .ref q_8, .ref q_9, .ref q_10, .int x_8, .int x_9, .int x_10, .int x_11, .int x_12, .int x_13, .long g_14, .int x_15])), (q_2, .inl (k 0, 400, .inl (upd (upd (upd (upd f_0 0 ((x_0 >>> (24 &&& 31)) &&& 255)) 1 ((x_0 >>> (16 &&& 31)) &&& 255)) 2 ((x_0 >>> (8 &&& 31)) &&& 255)) 3 ((x_0 >>> (0 &&& 31)) &&& 255))))] H := hP
  have hD : va_D A [(q_0, .inr (11, [.ref q_3, .ref q_4, .ref q_1, .ref q_5, .ref q_6, .int x_5])), (q_1, .inr (7, [.ref q_2, .int 4, .int x_6, .int x_7, .ref q_7, .ref q_8, .ref q_9, .ref q_10, .int x_8, .int x_9, .int x_10, .int x_11, .int x_12, .int x_13, .long g_14, .int x_15])), (q_2, .inl (k 0, 400, .inl (upd (upd (upd (upd f_0 0 ((x_0 >>> (24 &&& 31)) &&& 255)) 1 ((x_0 >>> (16 &&& 31)) &&& 255)) 2 ((x_0 >>> (8 &&& 31)) &&& 255)) 3 ((x_0 >>> (0 &&& 31)) &&& 255))))] := hD
  refine lv_aload_n hx hb dX11_feed_23 rfl (lv_at hl 0 rfl) ?_
  refine va_get (D := D) (ci := 11) (v := .ref q_1) (C := RX11) (T := TX11) (N := 6) hx hb hts inX11 hown hK hP 0 rfl rfl 2 (by decide) (hts _ kF_X11_23) (fun _ h9 => h9) rfl dX11_feed_24 ?_
  refine lv_iload_n hx hb dX11_feed_27 rfl (lv_at hl 2 rfl) ?_
  refine z_bv (wr := [(q_0, .inr (11, [.ref q_3, .ref q_4, .ref q_1, .ref q_5, .ref q_6, .int x_5]))]) (z_runV (C := RX7) (As := [.int x_1]) (rest := []) C0 (c_X7_append_2 l D k q_1 q_2 q_7 q_8 q_9 q_10 x_1 x_6 x_7 x_8 x_9 x_10 x_11 x_12 x_13 g_14 x_15 (upd (upd (upd (upd f_0 0 ((x_0 >>> (24 &&& 31)) &&& 255)) 1 ((x_0 >>> (16 &&& 31)) &&& 255)) 2 ((x_0 >>> (8 &&& 31)) &&& 255)) 3 ((x_0 >>> (0 &&& 31)) &&& 255)) _) okV_X7_append kM_X11_184 rfl (z_pV (q0 := 1) hK hN hP hD [1, 2] rfl rfl rfl rfl rfl) rfl hl.1 rfl (Nat.le_of_ble_eq_true rfl) dX11_feed_28 rfl) hP hD hS hA [1, 2] [0] rfl rfl rfl rfl (fun u3 H locs hw3 hP hD hS => ?_)
  obtain ⟨i3, a3⟩ := u3
  dsimp only at hw3
  obtain rfl := hw3
  have hP : va_P D vwCl [(q_0, .inr (11, [.ref q_3, .ref q_4, .ref q_1, .ref q_5, .ref q_6, .int x_5])), (q_1, .inr (7, [.ref q_2, .int 8, .int x_6, .int x_7, .ref q_7, .ref q_8, .ref q_9, .ref q_10, .int x_8, .int x_9, .int x_10, .int x_11, .int x_12, .int x_13, .long g_14, .int x_15])), (q_2, .inl (k 0, 400, .inl (upd (upd (upd (upd (upd (upd (upd (upd f_0 0 ((x_0 >>> (24 &&& 31)) &&& 255)) 1 ((x_0 >>> (16 &&& 31)) &&& 255)) 2 ((x_0 >>> (8 &&& 31)) &&& 255)) 3 ((x_0 >>> (0 &&& 31)) &&& 255)) 4 ((x_1 >>> (24 &&& 31)) &&& 255)) 5 ((x_1 >>> (16 &&& 31)) &&& 255)) 6 ((x_1 >>> (8 &&& 31)) &&& 255)) 7 ((x_1 >>> (0 &&& 31)) &&& 255))))] H := hP
  have hD : va_D A [(q_0, .inr (11, [.ref q_3, .ref q_4, .ref q_1, .ref q_5, .ref q_6, .int x_5])), (q_1, .inr (7, [.ref q_2, .int 8, .int x_6, .int x_7, .ref q_7, .ref q_8, .ref q_9, .ref q_10, .int x_8, .int x_9, .int x_10, .int x_11, .int x_12, .int x_13, .long g_14, .int x_15])), (q_2, .inl (k 0, 400, .inl (upd (upd (upd (upd (upd (upd (upd (upd f_0 0 ((x_0 >>> (24 &&& 31)) &&& 255)) 1 ((x_0 >>> (16 &&& 31)) &&& 255)) 2 ((x_0 >>> (8 &&& 31)) &&& 255)) 3 ((x_0 >>> (0 &&& 31)) &&& 255)) 4 ((x_1 >>> (24 &&& 31)) &&& 255)) 5 ((x_1 >>> (16 &&& 31)) &&& 255)) 6 ((x_1 >>> (8 &&& 31)) &&& 255)) 7 ((x_1 >>> (0 &&& 31)) &&& 255))))] := hD
  refine lv_aload_n hx hb dX11_feed_31 rfl (lv_at hl 0 rfl) ?_
  refine va_get (D := D) (ci := 11) (v := .ref q_1) (C := RX11) (T := TX11) (N := 6) hx hb hts inX11 hown hK hP 0 rfl rfl 2 (by decide) (hts _ kF_X11_23) (fun _ h9 => h9) rfl dX11_feed_32 ?_
  refine lv_iload_n hx hb dX11_feed_35 rfl (lv_at hl 3 rfl) ?_
  refine z_bv (wr := [(q_0, .inr (11, [.ref q_3, .ref q_4, .ref q_1, .ref q_5, .ref q_6, .int x_5]))]) (z_runV (C := RX7) (As := [.int x_2]) (rest := []) C0 (c_X7_append_3 l D k q_1 q_2 q_7 q_8 q_9 q_10 x_2 x_6 x_7 x_8 x_9 x_10 x_11 x_12 x_13 g_14 x_15 (upd (upd (upd (upd (upd (upd (upd (upd f_0 0 ((x_0 >>> (24 &&& 31)) &&& 255)) 1 ((x_0 >>> (16 &&& 31)) &&& 255)) 2 ((x_0 >>> (8 &&& 31)) &&& 255)) 3 ((x_0 >>> (0 &&& 31)) &&& 255)) 4 ((x_1 >>> (24 &&& 31)) &&& 255)) 5 ((x_1 >>> (16 &&& 31)) &&& 255)) 6 ((x_1 >>> (8 &&& 31)) &&& 255)) 7 ((x_1 >>> (0 &&& 31)) &&& 255)) _) okV_X7_append kM_X11_184 rfl (z_pV (q0 := 1) hK hN hP hD [1, 2] rfl rfl rfl rfl rfl) rfl hl.1 rfl (Nat.le_of_ble_eq_true rfl) dX11_feed_36 rfl) hP hD hS hA [1, 2] [0] rfl rfl rfl rfl (fun u4 H locs hw4 hP hD hS => ?_)
  obtain ⟨i4, a4⟩ := u4
  dsimp only at hw4
  obtain rfl := hw4
  have hP : va_P D vwCl [(q_0, .inr (11, [.ref q_3, .ref q_4, .ref q_1, .ref q_5, .ref q_6, .int x_5])), (q_1, .inr (7, [.ref q_2, .int 12, .int x_6, .int x_7, .ref q_7, .ref q_8, .ref q_9, .ref q_10, .int x_8, .int x_9, .int x_10, .int x_11, .int x_12, .int x_13, .long g_14, .int x_15])), (q_2, .inl (k 0, 400, .inl (upd (upd (upd (upd (upd (upd (upd (upd (upd (upd (upd (upd f_0 0 ((x_0 >>> (24 &&& 31)) &&& 255)) 1 ((x_0 >>> (16 &&& 31)) &&& 255)) 2 ((x_0 >>> (8 &&& 31)) &&& 255)) 3 ((x_0 >>> (0 &&& 31)) &&& 255)) 4 ((x_1 >>> (24 &&& 31)) &&& 255)) 5 ((x_1 >>> (16 &&& 31)) &&& 255)) 6 ((x_1 >>> (8 &&& 31)) &&& 255)) 7 ((x_1 >>> (0 &&& 31)) &&& 255)) 8 ((x_2 >>> (24 &&& 31)) &&& 255)) 9 ((x_2 >>> (16 &&& 31)) &&& 255)) 10 ((x_2 >>> (8 &&& 31)) &&& 255)) 11 ((x_2 >>> (0 &&& 31)) &&& 255))))] H := hP
  have hD : va_D A [(q_0, .inr (11, [.ref q_3, .ref q_4, .ref q_1, .ref q_5, .ref q_6, .int x_5])), (q_1, .inr (7, [.ref q_2, .int 12, .int x_6, .int x_7, .ref q_7, .ref q_8, .ref q_9, .ref q_10, .int x_8, .int x_9, .int x_10, .int x_11, .int x_12, .int x_13, .long g_14, .int x_15])), (q_2, .inl (k 0, 400, .inl (upd (upd (upd (upd (upd (upd (upd (upd (upd (upd (upd (upd f_0 0 ((x_0 >>> (24 &&& 31)) &&& 255)) 1 ((x_0 >>> (16 &&& 31)) &&& 255)) 2 ((x_0 >>> (8 &&& 31)) &&& 255)) 3 ((x_0 >>> (0 &&& 31)) &&& 255)) 4 ((x_1 >>> (24 &&& 31)) &&& 255)) 5 ((x_1 >>> (16 &&& 31)) &&& 255)) 6 ((x_1 >>> (8 &&& 31)) &&& 255)) 7 ((x_1 >>> (0 &&& 31)) &&& 255)) 8 ((x_2 >>> (24 &&& 31)) &&& 255)) 9 ((x_2 >>> (16 &&& 31)) &&& 255)) 10 ((x_2 >>> (8 &&& 31)) &&& 255)) 11 ((x_2 >>> (0 &&& 31)) &&& 255))))] := hD
  refine lv_aload_n hx hb dX11_feed_39 rfl (lv_at hl 0 rfl) ?_
  refine va_get (D := D) (ci := 11) (v := .ref q_1) (C := RX11) (T := TX11) (N := 6) hx hb hts inX11 hown hK hP 0 rfl rfl 2 (by decide) (hts _ kF_X11_23) (fun _ h9 => h9) rfl dX11_feed_40 ?_
  refine lv_iload hx hb dX11_feed_43 (lv_at hl 4 rfl) ?_
  refine z_bv (wr := [(q_0, .inr (11, [.ref q_3, .ref q_4, .ref q_1, .ref q_5, .ref q_6, .int x_5]))]) (z_runV (C := RX7) (As := [.int x_3]) (rest := []) C0 (c_X7_append_4 l D k q_1 q_2 q_7 q_8 q_9 q_10 x_3 x_6 x_7 x_8 x_9 x_10 x_11 x_12 x_13 g_14 x_15 (upd (upd (upd (upd (upd (upd (upd (upd (upd (upd (upd (upd f_0 0 ((x_0 >>> (24 &&& 31)) &&& 255)) 1 ((x_0 >>> (16 &&& 31)) &&& 255)) 2 ((x_0 >>> (8 &&& 31)) &&& 255)) 3 ((x_0 >>> (0 &&& 31)) &&& 255)) 4 ((x_1 >>> (24 &&& 31)) &&& 255)) 5 ((x_1 >>> (16 &&& 31)) &&& 255)) 6 ((x_1 >>> (8 &&& 31)) &&& 255)) 7 ((x_1 >>> (0 &&& 31)) &&& 255)) 8 ((x_2 >>> (24 &&& 31)) &&& 255)) 9 ((x_2 >>> (16 &&& 31)) &&& 255)) 10 ((x_2 >>> (8 &&& 31)) &&& 255)) 11 ((x_2 >>> (0 &&& 31)) &&& 255)) _) okV_X7_append kM_X11_184 rfl (z_pV (q0 := 1) hK hN hP hD [1, 2] rfl rfl rfl rfl rfl) rfl hl.1 rfl (Nat.le_of_ble_eq_true rfl) dX11_feed_45 rfl) hP hD hS hA [1, 2] [0] rfl rfl rfl rfl (fun u5 H locs hw5 hP hD hS => ?_)
  obtain ⟨i5, a5⟩ := u5
  dsimp only at hw5
  obtain rfl := hw5
  have hP : va_P D vwCl [(q_0, .inr (11, [.ref q_3, .ref q_4, .ref q_1, .ref q_5, .ref q_6, .int x_5])), (q_1, .inr (7, [.ref q_2, .int 16, .int x_6, .int x_7, .ref q_7, .ref q_8, .ref q_9, .ref q_10, .int x_8, .int x_9, .int x_10, .int x_11, .int x_12, .int x_13, .long g_14, .int x_15])), (q_2, .inl (k 0, 400, .inl (upd (upd (upd (upd (upd (upd (upd (upd (upd (upd (upd (upd (upd (upd (upd (upd f_0 0 ((x_0 >>> (24 &&& 31)) &&& 255)) 1 ((x_0 >>> (16 &&& 31)) &&& 255)) 2 ((x_0 >>> (8 &&& 31)) &&& 255)) 3 ((x_0 >>> (0 &&& 31)) &&& 255)) 4 ((x_1 >>> (24 &&& 31)) &&& 255)) 5 ((x_1 >>> (16 &&& 31)) &&& 255)) 6 ((x_1 >>> (8 &&& 31)) &&& 255)) 7 ((x_1 >>> (0 &&& 31)) &&& 255)) 8 ((x_2 >>> (24 &&& 31)) &&& 255)) 9 ((x_2 >>> (16 &&& 31)) &&& 255)) 10 ((x_2 >>> (8 &&& 31)) &&& 255)) 11 ((x_2 >>> (0 &&& 31)) &&& 255)) 12 ((x_3 >>> (24 &&& 31)) &&& 255)) 13 ((x_3 >>> (16 &&& 31)) &&& 255)) 14 ((x_3 >>> (8 &&& 31)) &&& 255)) 15 ((x_3 >>> (0 &&& 31)) &&& 255))))] H := hP
  have hD : va_D A [(q_0, .inr (11, [.ref q_3, .ref q_4, .ref q_1, .ref q_5, .ref q_6, .int x_5])), (q_1, .inr (7, [.ref q_2, .int 16, .int x_6, .int x_7, .ref q_7, .ref q_8, .ref q_9, .ref q_10, .int x_8, .int x_9, .int x_10, .int x_11, .int x_12, .int x_13, .long g_14, .int x_15])), (q_2, .inl (k 0, 400, .inl (upd (upd (upd (upd (upd (upd (upd (upd (upd (upd (upd (upd (upd (upd (upd (upd f_0 0 ((x_0 >>> (24 &&& 31)) &&& 255)) 1 ((x_0 >>> (16 &&& 31)) &&& 255)) 2 ((x_0 >>> (8 &&& 31)) &&& 255)) 3 ((x_0 >>> (0 &&& 31)) &&& 255)) 4 ((x_1 >>> (24 &&& 31)) &&& 255)) 5 ((x_1 >>> (16 &&& 31)) &&& 255)) 6 ((x_1 >>> (8 &&& 31)) &&& 255)) 7 ((x_1 >>> (0 &&& 31)) &&& 255)) 8 ((x_2 >>> (24 &&& 31)) &&& 255)) 9 ((x_2 >>> (16 &&& 31)) &&& 255)) 10 ((x_2 >>> (8 &&& 31)) &&& 255)) 11 ((x_2 >>> (0 &&& 31)) &&& 255)) 12 ((x_3 >>> (24 &&& 31)) &&& 255)) 13 ((x_3 >>> (16 &&& 31)) &&& 255)) 14 ((x_3 >>> (8 &&& 31)) &&& 255)) 15 ((x_3 >>> (0 &&& 31)) &&& 255))))] := hD
  refine lv_aload_n hx hb dX11_feed_48 rfl (lv_at hl 0 rfl) ?_
  refine va_get (D := D) (ci := 11) (v := .ref q_1) (C := RX11) (T := TX11) (N := 6) hx hb hts inX11 hown hK hP 0 rfl rfl 2 (by decide) (hts _ kF_X11_23) (fun _ h9 => h9) rfl dX11_feed_49 ?_
  refine lv_iload hx hb dX11_feed_52 (lv_at hl 5 rfl) ?_
  refine z_bv (wr := [(q_0, .inr (11, [.ref q_3, .ref q_4, .ref q_1, .ref q_5, .ref q_6, .int x_5]))]) (z_runV (C := RX7) (As := [.int x_4]) (rest := []) C0 (c_X7_append_5 l D k q_1 q_2 q_7 q_8 q_9 q_10 x_4 x_6 x_7 x_8 x_9 x_10 x_11 x_12 x_13 g_14 x_15 (upd (upd (upd (upd (upd (upd (upd (upd (upd (upd (upd (upd (upd (upd (upd (upd f_0 0 ((x_0 >>> (24 &&& 31)) &&& 255)) 1 ((x_0 >>> (16 &&& 31)) &&& 255)) 2 ((x_0 >>> (8 &&& 31)) &&& 255)) 3 ((x_0 >>> (0 &&& 31)) &&& 255)) 4 ((x_1 >>> (24 &&& 31)) &&& 255)) 5 ((x_1 >>> (16 &&& 31)) &&& 255)) 6 ((x_1 >>> (8 &&& 31)) &&& 255)) 7 ((x_1 >>> (0 &&& 31)) &&& 255)) 8 ((x_2 >>> (24 &&& 31)) &&& 255)) 9 ((x_2 >>> (16 &&& 31)) &&& 255)) 10 ((x_2 >>> (8 &&& 31)) &&& 255)) 11 ((x_2 >>> (0 &&& 31)) &&& 255)) 12 ((x_3 >>> (24 &&& 31)) &&& 255)) 13 ((x_3 >>> (16 &&& 31)) &&& 255)) 14 ((x_3 >>> (8 &&& 31)) &&& 255)) 15 ((x_3 >>> (0 &&& 31)) &&& 255)) _) okV_X7_append kM_X11_184 rfl (z_pV (q0 := 1) hK hN hP hD [1, 2] rfl rfl rfl rfl rfl) rfl hl.1 rfl (Nat.le_of_ble_eq_true rfl) dX11_feed_54 rfl) hP hD hS hA [1, 2] [0] rfl rfl rfl rfl (fun u6 H locs hw6 hP hD hS => ?_)
  obtain ⟨i6, a6⟩ := u6
  dsimp only at hw6
  obtain rfl := hw6
  have hP : va_P D vwCl [(q_0, .inr (11, [.ref q_3, .ref q_4, .ref q_1, .ref q_5, .ref q_6, .int x_5])), (q_1, .inr (7, [.ref q_2, .int 20, .int x_6, .int x_7, .ref q_7, .ref q_8, .ref q_9, .ref q_10, .int x_8, .int x_9, .int x_10, .int x_11, .int x_12, .int x_13, .long g_14, .int x_15])), (q_2, .inl (k 0, 400, .inl (upd (upd (upd (upd (upd (upd (upd (upd (upd (upd (upd (upd (upd (upd (upd (upd (upd (upd (upd (upd f_0 0 ((x_0 >>> (24 &&& 31)) &&& 255)) 1 ((x_0 >>> (16 &&& 31)) &&& 255)) 2 ((x_0 >>> (8 &&& 31)) &&& 255)) 3 ((x_0 >>> (0 &&& 31)) &&& 255)) 4 ((x_1 >>> (24 &&& 31)) &&& 255)) 5 ((x_1 >>> (16 &&& 31)) &&& 255)) 6 ((x_1 >>> (8 &&& 31)) &&& 255)) 7 ((x_1 >>> (0 &&& 31)) &&& 255)) 8 ((x_2 >>> (24 &&& 31)) &&& 255)) 9 ((x_2 >>> (16 &&& 31)) &&& 255)) 10 ((x_2 >>> (8 &&& 31)) &&& 255)) 11 ((x_2 >>> (0 &&& 31)) &&& 255)) 12 ((x_3 >>> (24 &&& 31)) &&& 255)) 13 ((x_3 >>> (16 &&& 31)) &&& 255)) 14 ((x_3 >>> (8 &&& 31)) &&& 255)) 15 ((x_3 >>> (0 &&& 31)) &&& 255)) 16 ((x_4 >>> (24 &&& 31)) &&& 255)) 17 ((x_4 >>> (16 &&& 31)) &&& 255)) 18 ((x_4 >>> (8 &&& 31)) &&& 255)) 19 ((x_4 >>> (0 &&& 31)) &&& 255))))] H := hP
  have hD : va_D A [(q_0, .inr (11, [.ref q_3, .ref q_4, .ref q_1, .ref q_5, .ref q_6, .int x_5])), (q_1, .inr (7, [.ref q_2, .int 20, .int x_6, .int x_7, .ref q_7, .ref q_8, .ref q_9, .ref q_10, .int x_8, .int x_9, .int x_10, .int x_11, .int x_12, .int x_13, .long g_14, .int x_15])), (q_2, .inl (k 0, 400, .inl (upd (upd (upd (upd (upd (upd (upd (upd (upd (upd (upd (upd (upd (upd (upd (upd (upd (upd (upd (upd f_0 0 ((x_0 >>> (24 &&& 31)) &&& 255)) 1 ((x_0 >>> (16 &&& 31)) &&& 255)) 2 ((x_0 >>> (8 &&& 31)) &&& 255)) 3 ((x_0 >>> (0 &&& 31)) &&& 255)) 4 ((x_1 >>> (24 &&& 31)) &&& 255)) 5 ((x_1 >>> (16 &&& 31)) &&& 255)) 6 ((x_1 >>> (8 &&& 31)) &&& 255)) 7 ((x_1 >>> (0 &&& 31)) &&& 255)) 8 ((x_2 >>> (24 &&& 31)) &&& 255)) 9 ((x_2 >>> (16 &&& 31)) &&& 255)) 10 ((x_2 >>> (8 &&& 31)) &&& 255)) 11 ((x_2 >>> (0 &&& 31)) &&& 255)) 12 ((x_3 >>> (24 &&& 31)) &&& 255)) 13 ((x_3 >>> (16 &&& 31)) &&& 255)) 14 ((x_3 >>> (8 &&& 31)) &&& 255)) 15 ((x_3 >>> (0 &&& 31)) &&& 255)) 16 ((x_4 >>> (24 &&& 31)) &&& 255)) 17 ((x_4 >>> (16 &&& 31)) &&& 255)) 18 ((x_4 >>> (8 &&& 31)) &&& 255)) 19 ((x_4 >>> (0 &&& 31)) &&& 255))))] := hD
  refine lv_aload_n hx hb dX11_feed_57 rfl (lv_at hl 0 rfl) ?_
  refine va_get (D := D) (ci := 11) (v := .ref q_1) (C := RX11) (T := TX11) (N := 6) hx hb hts inX11 hown hK hP 0 rfl rfl 2 (by decide) (hts _ kF_X11_23) (fun _ h9 => h9) rfl dX11_feed_58 ?_
  refine va_get (D := D) (ci := 7) (v := .int 20) (C := RX7) (T := TX7) (N := 16) hx hb hts inX7 hown hK hP 1 rfl rfl 1 (by decide) (hts _ kF_X11_181) (fun _ h9 => h9) rfl dX11_feed_61 ?_
  exact z_iret C0 hr hlk rfl hK hP hD hS (0, fun _ => 0) ⟨rfl, rfl⟩ [] rfl rfl rfl dX11_feed_64

set_option maxHeartbeats 4000000 in
set_option maxRecDepth 100000 in
theorem c_X12_four_1 (l : Launch) (D : va_G) (k : Nat → ClassId) (q_0 : Nat) (q_1 : Nat) (q_2 : Nat) (q_3 : Nat) (q_4 : Nat) (q_5 : Nat) (q_6 : Nat) (q_7 : Nat) (q_8 : Nat) (q_9 : Nat) (q_10 : Nat) (q_11 : Nat) (q_12 : Nat) (q_13 : Nat) (q_14 : Nat) (q_15 : Nat) (q_16 : Nat) (q_17 : Nat) (q_18 : Nat) (q_19 : Nat) (q_20 : Nat) (q_21 : Nat) (q_22 : Nat) (q_23 : Nat) (q_24 : Nat) (q_25 : Nat) (x_0 : Int32) (x_1 : Int32) (x_2 : Int32) (x_3 : Int32) (x_4 : Int32) (x_5 : Int32) (x_6 : Int32) (g_7 : Int64) (x_8 : Int32) (x_9 : Int32) (x_10 : Int32) (x_11 : Int32) (x_12 : Int32) (x_13 : Int32) (x_14 : Int32) (x_15 : Int32) (g_16 : Int64) (g_17 : Int64) (x_18 : Int32) (x_19 : Int32) (x_20 : Int32) (x_21 : Int32) (x_22 : Int32) (x_23 : Int32) (x_24 : Int32) (x_25 : Int32) (x_26 : Int32) (x_27 : Int32) (x_28 : Int32) (x_29 : Int32) (x_30 : Int32) (f_0 : Nat → Int32) : zMv l yX12_four cX12_four 3 none ({ frames := 0, cells := 0, slots := 0, locals := 0 }) D k [.ref q_0, .int x_0] [(q_0, .inr (12, [.int x_1, .int x_2, .ref q_2, .ref q_3, .ref q_4, .int x_3, .ref q_5, .ref q_6, .ref q_7, .ref q_8, .ref q_1, .int 0, .int x_4, .int x_5, .int x_6, .long g_7, .int x_8, .int x_9, .int x_10, .ref q_9, .int x_11, .ref q_10, .ref q_11, .int x_12, .ref q_12, .ref q_13, .int x_13, .int x_14, .ref q_14, .ref q_15, .ref q_16, .ref q_17, .int x_15, .long g_16, .long g_17, .int x_18, .int x_19, .int x_20, .int x_21, .ref q_18, .ref q_19, .int x_22, .int x_23, .int x_24, .int x_25, .ref q_20, .ref q_21, .int x_26, .int x_27, .ref q_22, .ref q_23, .ref q_24, .ref q_25, .int x_28, .int x_29, .int x_30])), (q_1, .inl (k 0, 400, .inl f_0))] (fun u => u.1 = 0) (fun u => [(q_0, .inr (12, [.int x_1, .int x_2, .ref q_2, .ref q_3, .ref q_4, .int x_3, .ref q_5, .ref q_6, .ref q_7, .ref q_8, .ref q_1, .int 4, .int x_4, .int x_5, .int x_6, .long g_7, .int x_8, .int x_9, .int x_10, .ref q_9, .int x_11, .ref q_10, .ref q_11, .int x_12, .ref q_12, .ref q_13, .int x_13, .int x_14, .ref q_14, .ref q_15, .ref q_16, .ref q_17, .int x_15, .long g_16, .long g_17, .int x_18, .int x_19, .int x_20, .int x_21, .ref q_18, .ref q_19, .int x_22, .int x_23, .int x_24, .int x_25, .ref q_20, .ref q_21, .int x_26, .int x_27, .ref q_22, .ref q_23, .ref q_24, .ref q_25, .int x_28, .int x_29, .int x_30])), (q_1, .inl (k 0, 400, .inl (upd (upd (upd (upd f_0 0 ((x_0 >>> (24 &&& 31)) &&& 255)) 1 ((x_0 >>> (16 &&& 31)) &&& 255)) 2 ((x_0 >>> (8 &&& 31)) &&& 255)) 3 ((x_0 >>> (0 &&& 31)) &&& 255))))]) := by
  refine zMv_of (own := RX12) (by decide +kernel) rfl (Nat.le_of_ble_eq_true rfl) ?_
  intro p e s m args below meth c A ls C0 hr hlk hin hP hD hS hA hK hN hl
  have hx := C0.1
  have hb := C0.2.1
  have hml := C0.2.2.1
  have hown := C0.2.2.2.1
  have hts := C0.2.2.2.2
  have hl : lv_has ls 3 [(0, .ref q_0), (1, .int x_0)] := hl
  have hP : va_P D vwCl [(q_0, .inr (12, [.int x_1, .int x_2, .ref q_2, .ref q_3, .ref q_4, .int x_3, .ref q_5, .ref q_6, .ref q_7, .ref q_8, .ref q_1, .int 0, .int x_4, .int x_5, .int x_6, .long g_7, .int x_8, .int x_9, .int x_10, .ref q_9, .int x_11, .ref q_10, .ref q_11, .int x_12, .ref q_12, .ref q_13, .int x_13, .int x_14, .ref q_14, .ref q_15, .ref q_16, .ref q_17, .int x_15, .long g_16, .long g_17, .int x_18, .int x_19, .int x_20, .int x_21, .ref q_18, .ref q_19, .int x_22, .int x_23, .int x_24, .int x_25, .ref q_20, .ref q_21, .int x_26, .int x_27, .ref q_22, .ref q_23, .ref q_24, .ref q_25, .int x_28, .int x_29, .int x_30])), (q_1, .inl (k 0, 400, .inl f_0))] s.heap := hP
  refine lv_bipush (v := 24) hx hb dX12_four_0 (by decide) ?_
  refine lv_istore_n (lv' := [(2, .int 24), (0, .ref q_0), (1, .int x_0)]) hx hb dX12_four_2 rfl hl (by decide) rfl (fun ls hl => ?_)
  refine lv_iload_n hx hb dX12_four_3 rfl (lv_at hl 0 rfl) ?_
  refine lv_if_lt (tgt := 39) hx hb dX12_four_4 (by decide) (fun c1 => absurd c1 (by decide)) (fun _ => ?_)
  refine lv_aload_n hx hb dX12_four_7 rfl (lv_at hl 1 rfl) ?_
  refine va_get (D := D) (ci := 12) (v := .ref q_1) (C := RX12) (T := TX12) (N := 56) hx hb hts inX12 hown hK hP 0 rfl rfl 10 (by decide) (hts _ kF_X12_33) (fun _ h9 => h9) rfl dX12_four_8 ?_
  refine lv_aload_n hx hb dX12_four_11 rfl (lv_at hl 1 rfl) ?_
  refine va_get (D := D) (ci := 12) (v := .int 0) (C := RX12) (T := TX12) (N := 56) hx hb hts inX12 hown hK hP 0 rfl rfl 11 (by decide) (hts _ kF_X12_193) (fun _ h9 => h9) rfl dX12_four_12 ?_
  refine lv_iload_n hx hb dX12_four_15 rfl (lv_at hl 2 rfl) ?_
  refine lv_iload_n hx hb dX12_four_16 rfl (lv_at hl 0 rfl) ?_
  refine lv_ishr hx hb dX12_four_17 ?_
  refine lv_sipush (v := 255) hx hb dX12_four_18 (by decide) ?_
  refine lv_iand hx hb dX12_four_21 ?_
  refine va_iast hx hb hK hP hD hS 1 0 rfl rfl (by unfold vp_in; decide) dX12_four_22 (fun H locs hP hD hS => ?_)
  have hP : va_P D vwCl [(q_0, .inr (12, [.int x_1, .int x_2, .ref q_2, .ref q_3, .ref q_4, .int x_3, .ref q_5, .ref q_6, .ref q_7, .ref q_8, .ref q_1, .int 0, .int x_4, .int x_5, .int x_6, .long g_7, .int x_8, .int x_9, .int x_10, .ref q_9, .int x_11, .ref q_10, .ref q_11, .int x_12, .ref q_12, .ref q_13, .int x_13, .int x_14, .ref q_14, .ref q_15, .ref q_16, .ref q_17, .int x_15, .long g_16, .long g_17, .int x_18, .int x_19, .int x_20, .int x_21, .ref q_18, .ref q_19, .int x_22, .int x_23, .int x_24, .int x_25, .ref q_20, .ref q_21, .int x_26, .int x_27, .ref q_22, .ref q_23, .ref q_24, .ref q_25, .int x_28, .int x_29, .int x_30])), (q_1, .inl (k 0, 400, .inl (upd f_0 0 ((x_0 >>> (24 &&& 31)) &&& 255))))] H := hP
  have hD : va_D A [(q_0, .inr (12, [.int x_1, .int x_2, .ref q_2, .ref q_3, .ref q_4, .int x_3, .ref q_5, .ref q_6, .ref q_7, .ref q_8, .ref q_1, .int 0, .int x_4, .int x_5, .int x_6, .long g_7, .int x_8, .int x_9, .int x_10, .ref q_9, .int x_11, .ref q_10, .ref q_11, .int x_12, .ref q_12, .ref q_13, .int x_13, .int x_14, .ref q_14, .ref q_15, .ref q_16, .ref q_17, .int x_15, .long g_16, .long g_17, .int x_18, .int x_19, .int x_20, .int x_21, .ref q_18, .ref q_19, .int x_22, .int x_23, .int x_24, .int x_25, .ref q_20, .ref q_21, .int x_26, .int x_27, .ref q_22, .ref q_23, .ref q_24, .ref q_25, .int x_28, .int x_29, .int x_30])), (q_1, .inl (k 0, 400, .inl (upd f_0 0 ((x_0 >>> (24 &&& 31)) &&& 255))))] := hD
  refine lv_aload_n hx hb dX12_four_23 rfl (lv_at hl 1 rfl) ?_
  refine lv_dup hx hb dX12_four_24 rfl ?_
  refine va_get (D := D) (ci := 12) (v := .int 0) (C := RX12) (T := TX12) (N := 56) hx hb hts inX12 hown hK hP 0 rfl rfl 11 (by decide) (hts _ kF_X12_193) (fun _ h9 => h9) rfl dX12_four_25 ?_
  refine lv_iconst (v := 1) hx hb dX12_four_28 (by decide) ?_
  refine lv_iadd hx hb dX12_four_29 ?_
  refine lv_toc (v := 1) (by decide) ?_
  refine va_put (D := D) (ci := 12) (v := .int 1) (ty := .int) (C := RX12) (T := TX12) (N := 56) hx hb hts inX12 tyX12 tyX12_ok nmX12 hown hK hP hD hS 0 rfl rfl 11 (by decide) (hts _ kF_X12_193) (fun _ h9 => h9) rfl (by decide +kernel) rfl rfl (Nat.le_of_ble_eq_true rfl) dX12_four_30 (fun H locs hP hD hS => ?_)
  have hP : va_P D vwCl [(q_0, .inr (12, [.int x_1, .int x_2, .ref q_2, .ref q_3, .ref q_4, .int x_3, .ref q_5, .ref q_6, .ref q_7, .ref q_8, .ref q_1, .int 1, .int x_4, .int x_5, .int x_6, .long g_7, .int x_8, .int x_9, .int x_10, .ref q_9, .int x_11, .ref q_10, .ref q_11, .int x_12, .ref q_12, .ref q_13, .int x_13, .int x_14, .ref q_14, .ref q_15, .ref q_16, .ref q_17, .int x_15, .long g_16, .long g_17, .int x_18, .int x_19, .int x_20, .int x_21, .ref q_18, .ref q_19, .int x_22, .int x_23, .int x_24, .int x_25, .ref q_20, .ref q_21, .int x_26, .int x_27, .ref q_22, .ref q_23, .ref q_24, .ref q_25, .int x_28, .int x_29, .int x_30])), (q_1, .inl (k 0, 400, .inl (upd f_0 0 ((x_0 >>> (24 &&& 31)) &&& 255))))] H := hP
  have hD : va_D A [(q_0, .inr (12, [.int x_1, .int x_2, .ref q_2, .ref q_3, .ref q_4, .int x_3, .ref q_5, .ref q_6, .ref q_7, .ref q_8, .ref q_1, .int 1, .int x_4, .int x_5, .int x_6, .long g_7, .int x_8, .int x_9, .int x_10, .ref q_9, .int x_11, .ref q_10, .ref q_11, .int x_12, .ref q_12, .ref q_13, .int x_13, .int x_14, .ref q_14, .ref q_15, .ref q_16, .ref q_17, .int x_15, .long g_16, .long g_17, .int x_18, .int x_19, .int x_20, .int x_21, .ref q_18, .ref q_19, .int x_22, .int x_23, .int x_24, .int x_25, .ref q_20, .ref q_21, .int x_26, .int x_27, .ref q_22, .ref q_23, .ref q_24, .ref q_25, .int x_28, .int x_29, .int x_30])), (q_1, .inl (k 0, 400, .inl (upd f_0 0 ((x_0 >>> (24 &&& 31)) &&& 255))))] := hD
  refine lv_iinc (v := 16) (lv' := [(2, .int 16), (0, .ref q_0), (1, .int x_0)]) hx hb dX12_four_33 hl (k := 0) rfl (by decide) (by decide) rfl (fun ls hl => ?_)
  refine lv_goto (tgt := 3) hx hb dX12_four_36 (by decide) ?_
  refine lv_iload_n hx hb dX12_four_3 rfl (lv_at hl 0 rfl) ?_
  refine lv_if_lt (tgt := 39) hx hb dX12_four_4 (by decide) (fun c2 => absurd c2 (by decide)) (fun _ => ?_)
  refine lv_aload_n hx hb dX12_four_7 rfl (lv_at hl 1 rfl) ?_
  refine va_get (D := D) (ci := 12) (v := .ref q_1) (C := RX12) (T := TX12) (N := 56) hx hb hts inX12 hown hK hP 0 rfl rfl 10 (by decide) (hts _ kF_X12_33) (fun _ h9 => h9) rfl dX12_four_8 ?_
  refine lv_aload_n hx hb dX12_four_11 rfl (lv_at hl 1 rfl) ?_
  refine va_get (D := D) (ci := 12) (v := .int 1) (C := RX12) (T := TX12) (N := 56) hx hb hts inX12 hown hK hP 0 rfl rfl 11 (by decide) (hts _ kF_X12_193) (fun _ h9 => h9) rfl dX12_four_12 ?_
  refine lv_iload_n hx hb dX12_four_15 rfl (lv_at hl 2 rfl) ?_
  refine lv_iload_n hx hb dX12_four_16 rfl (lv_at hl 0 rfl) ?_
  refine lv_ishr hx hb dX12_four_17 ?_
  refine lv_sipush (v := 255) hx hb dX12_four_18 (by decide) ?_
  refine lv_iand hx hb dX12_four_21 ?_
  refine va_iast hx hb hK hP hD hS 1 0 rfl rfl (by unfold vp_in; decide) dX12_four_22 (fun H locs hP hD hS => ?_)
  have hP : va_P D vwCl [(q_0, .inr (12, [.int x_1, .int x_2, .ref q_2, .ref q_3, .ref q_4, .int x_3, .ref q_5, .ref q_6, .ref q_7, .ref q_8, .ref q_1, .int 1, .int x_4, .int x_5, .int x_6, .long g_7, .int x_8, .int x_9, .int x_10, .ref q_9, .int x_11, .ref q_10, .ref q_11, .int x_12, .ref q_12, .ref q_13, .int x_13, .int x_14, .ref q_14, .ref q_15, .ref q_16, .ref q_17, .int x_15, .long g_16, .long g_17, .int x_18, .int x_19, .int x_20, .int x_21, .ref q_18, .ref q_19, .int x_22, .int x_23, .int x_24, .int x_25, .ref q_20, .ref q_21, .int x_26, .int x_27, .ref q_22, .ref q_23, .ref q_24, .ref q_25, .int x_28, .int x_29, .int x_30])), (q_1, .inl (k 0, 400, .inl (upd (upd f_0 0 ((x_0 >>> (24 &&& 31)) &&& 255)) 1 ((x_0 >>> (16 &&& 31)) &&& 255))))] H := hP
  have hD : va_D A [(q_0, .inr (12, [.int x_1, .int x_2, .ref q_2, .ref q_3, .ref q_4, .int x_3, .ref q_5, .ref q_6, .ref q_7, .ref q_8, .ref q_1, .int 1, .int x_4, .int x_5, .int x_6, .long g_7, .int x_8, .int x_9, .int x_10, .ref q_9, .int x_11, .ref q_10, .ref q_11, .int x_12, .ref q_12, .ref q_13, .int x_13, .int x_14, .ref q_14, .ref q_15, .ref q_16, .ref q_17, .int x_15, .long g_16, .long g_17, .int x_18, .int x_19, .int x_20, .int x_21, .ref q_18, .ref q_19, .int x_22, .int x_23, .int x_24, .int x_25, .ref q_20, .ref q_21, .int x_26, .int x_27, .ref q_22, .ref q_23, .ref q_24, .ref q_25, .int x_28, .int x_29, .int x_30])), (q_1, .inl (k 0, 400, .inl (upd (upd f_0 0 ((x_0 >>> (24 &&& 31)) &&& 255)) 1 ((x_0 >>> (16 &&& 31)) &&& 255))))] := hD
  refine lv_aload_n hx hb dX12_four_23 rfl (lv_at hl 1 rfl) ?_
  refine lv_dup hx hb dX12_four_24 rfl ?_
  refine va_get (D := D) (ci := 12) (v := .int 1) (C := RX12) (T := TX12) (N := 56) hx hb hts inX12 hown hK hP 0 rfl rfl 11 (by decide) (hts _ kF_X12_193) (fun _ h9 => h9) rfl dX12_four_25 ?_
  refine lv_iconst (v := 1) hx hb dX12_four_28 (by decide) ?_
  refine lv_iadd hx hb dX12_four_29 ?_
  refine lv_toc (v := 2) (by decide) ?_
  refine va_put (D := D) (ci := 12) (v := .int 2) (ty := .int) (C := RX12) (T := TX12) (N := 56) hx hb hts inX12 tyX12 tyX12_ok nmX12 hown hK hP hD hS 0 rfl rfl 11 (by decide) (hts _ kF_X12_193) (fun _ h9 => h9) rfl (by decide +kernel) rfl rfl (Nat.le_of_ble_eq_true rfl) dX12_four_30 (fun H locs hP hD hS => ?_)
  have hP : va_P D vwCl [(q_0, .inr (12, [.int x_1, .int x_2, .ref q_2, .ref q_3, .ref q_4, .int x_3, .ref q_5, .ref q_6, .ref q_7, .ref q_8, .ref q_1, .int 2, .int x_4, .int x_5, .int x_6, .long g_7, .int x_8, .int x_9, .int x_10, .ref q_9, .int x_11, .ref q_10, .ref q_11, .int x_12, .ref q_12, .ref q_13, .int x_13, .int x_14, .ref q_14, .ref q_15, .ref q_16, .ref q_17, .int x_15, .long g_16, .long g_17, .int x_18, .int x_19, .int x_20, .int x_21, .ref q_18, .ref q_19, .int x_22, .int x_23, .int x_24, .int x_25, .ref q_20, .ref q_21, .int x_26, .int x_27, .ref q_22, .ref q_23, .ref q_24, .ref q_25, .int x_28, .int x_29, .int x_30])), (q_1, .inl (k 0, 400, .inl (upd (upd f_0 0 ((x_0 >>> (24 &&& 31)) &&& 255)) 1 ((x_0 >>> (16 &&& 31)) &&& 255))))] H := hP
  have hD : va_D A [(q_0, .inr (12, [.int x_1, .int x_2, .ref q_2, .ref q_3, .ref q_4, .int x_3, .ref q_5, .ref q_6, .ref q_7, .ref q_8, .ref q_1, .int 2, .int x_4, .int x_5, .int x_6, .long g_7, .int x_8, .int x_9, .int x_10, .ref q_9, .int x_11, .ref q_10, .ref q_11, .int x_12, .ref q_12, .ref q_13, .int x_13, .int x_14, .ref q_14, .ref q_15, .ref q_16, .ref q_17, .int x_15, .long g_16, .long g_17, .int x_18, .int x_19, .int x_20, .int x_21, .ref q_18, .ref q_19, .int x_22, .int x_23, .int x_24, .int x_25, .ref q_20, .ref q_21, .int x_26, .int x_27, .ref q_22, .ref q_23, .ref q_24, .ref q_25, .int x_28, .int x_29, .int x_30])), (q_1, .inl (k 0, 400, .inl (upd (upd f_0 0 ((x_0 >>> (24 &&& 31)) &&& 255)) 1 ((x_0 >>> (16 &&& 31)) &&& 255))))] := hD
  refine lv_iinc (v := 8) (lv' := [(2, .int 8), (0, .ref q_0), (1, .int x_0)]) hx hb dX12_four_33 hl (k := 0) rfl (by decide) (by decide) rfl (fun ls hl => ?_)
  refine lv_goto (tgt := 3) hx hb dX12_four_36 (by decide) ?_
  refine lv_iload_n hx hb dX12_four_3 rfl (lv_at hl 0 rfl) ?_
  refine lv_if_lt (tgt := 39) hx hb dX12_four_4 (by decide) (fun c3 => absurd c3 (by decide)) (fun _ => ?_)
  refine lv_aload_n hx hb dX12_four_7 rfl (lv_at hl 1 rfl) ?_
  refine va_get (D := D) (ci := 12) (v := .ref q_1) (C := RX12) (T := TX12) (N := 56) hx hb hts inX12 hown hK hP 0 rfl rfl 10 (by decide) (hts _ kF_X12_33) (fun _ h9 => h9) rfl dX12_four_8 ?_
  refine lv_aload_n hx hb dX12_four_11 rfl (lv_at hl 1 rfl) ?_
  refine va_get (D := D) (ci := 12) (v := .int 2) (C := RX12) (T := TX12) (N := 56) hx hb hts inX12 hown hK hP 0 rfl rfl 11 (by decide) (hts _ kF_X12_193) (fun _ h9 => h9) rfl dX12_four_12 ?_
  refine lv_iload_n hx hb dX12_four_15 rfl (lv_at hl 2 rfl) ?_
  refine lv_iload_n hx hb dX12_four_16 rfl (lv_at hl 0 rfl) ?_
  refine lv_ishr hx hb dX12_four_17 ?_
  refine lv_sipush (v := 255) hx hb dX12_four_18 (by decide) ?_
  refine lv_iand hx hb dX12_four_21 ?_
  refine va_iast hx hb hK hP hD hS 1 0 rfl rfl (by unfold vp_in; decide) dX12_four_22 (fun H locs hP hD hS => ?_)
  have hP : va_P D vwCl [(q_0, .inr (12, [.int x_1, .int x_2, .ref q_2, .ref q_3, .ref q_4, .int x_3, .ref q_5, .ref q_6, .ref q_7, .ref q_8, .ref q_1, .int 2, .int x_4, .int x_5, .int x_6, .long g_7, .int x_8, .int x_9, .int x_10, .ref q_9, .int x_11, .ref q_10, .ref q_11, .int x_12, .ref q_12, .ref q_13, .int x_13, .int x_14, .ref q_14, .ref q_15, .ref q_16, .ref q_17, .int x_15, .long g_16, .long g_17, .int x_18, .int x_19, .int x_20, .int x_21, .ref q_18, .ref q_19, .int x_22, .int x_23, .int x_24, .int x_25, .ref q_20, .ref q_21, .int x_26, .int x_27, .ref q_22, .ref q_23, .ref q_24, .ref q_25, .int x_28, .int x_29, .int x_30])), (q_1, .inl (k 0, 400, .inl (upd (upd (upd f_0 0 ((x_0 >>> (24 &&& 31)) &&& 255)) 1 ((x_0 >>> (16 &&& 31)) &&& 255)) 2 ((x_0 >>> (8 &&& 31)) &&& 255))))] H := hP
  have hD : va_D A [(q_0, .inr (12, [.int x_1, .int x_2, .ref q_2, .ref q_3, .ref q_4, .int x_3, .ref q_5, .ref q_6, .ref q_7, .ref q_8, .ref q_1, .int 2, .int x_4, .int x_5, .int x_6, .long g_7, .int x_8, .int x_9, .int x_10, .ref q_9, .int x_11, .ref q_10, .ref q_11, .int x_12, .ref q_12, .ref q_13, .int x_13, .int x_14, .ref q_14, .ref q_15, .ref q_16, .ref q_17, .int x_15, .long g_16, .long g_17, .int x_18, .int x_19, .int x_20, .int x_21, .ref q_18, .ref q_19, .int x_22, .int x_23, .int x_24, .int x_25, .ref q_20, .ref q_21, .int x_26, .int x_27, .ref q_22, .ref q_23, .ref q_24, .ref q_25, .int x_28, .int x_29, .int x_30])), (q_1, .inl (k 0, 400, .inl (upd (upd (upd f_0 0 ((x_0 >>> (24 &&& 31)) &&& 255)) 1 ((x_0 >>> (16 &&& 31)) &&& 255)) 2 ((x_0 >>> (8 &&& 31)) &&& 255))))] := hD
  refine lv_aload_n hx hb dX12_four_23 rfl (lv_at hl 1 rfl) ?_
  refine lv_dup hx hb dX12_four_24 rfl ?_
  refine va_get (D := D) (ci := 12) (v := .int 2) (C := RX12) (T := TX12) (N := 56) hx hb hts inX12 hown hK hP 0 rfl rfl 11 (by decide) (hts _ kF_X12_193) (fun _ h9 => h9) rfl dX12_four_25 ?_
  refine lv_iconst (v := 1) hx hb dX12_four_28 (by decide) ?_
  refine lv_iadd hx hb dX12_four_29 ?_
  refine lv_toc (v := 3) (by decide) ?_
  refine va_put (D := D) (ci := 12) (v := .int 3) (ty := .int) (C := RX12) (T := TX12) (N := 56) hx hb hts inX12 tyX12 tyX12_ok nmX12 hown hK hP hD hS 0 rfl rfl 11 (by decide) (hts _ kF_X12_193) (fun _ h9 => h9) rfl (by decide +kernel) rfl rfl (Nat.le_of_ble_eq_true rfl) dX12_four_30 (fun H locs hP hD hS => ?_)
  have hP : va_P D vwCl [(q_0, .inr (12, [.int x_1, .int x_2, .ref q_2, .ref q_3, .ref q_4, .int x_3, .ref q_5, .ref q_6, .ref q_7, .ref q_8, .ref q_1, .int 3, .int x_4, .int x_5, .int x_6, .long g_7, .int x_8, .int x_9, .int x_10, .ref q_9, .int x_11, .ref q_10, .ref q_11, .int x_12, .ref q_12, .ref q_13, .int x_13, .int x_14, .ref q_14, .ref q_15, .ref q_16, .ref q_17, .int x_15, .long g_16, .long g_17, .int x_18, .int x_19, .int x_20, .int x_21, .ref q_18, .ref q_19, .int x_22, .int x_23, .int x_24, .int x_25, .ref q_20, .ref q_21, .int x_26, .int x_27, .ref q_22, .ref q_23, .ref q_24, .ref q_25, .int x_28, .int x_29, .int x_30])), (q_1, .inl (k 0, 400, .inl (upd (upd (upd f_0 0 ((x_0 >>> (24 &&& 31)) &&& 255)) 1 ((x_0 >>> (16 &&& 31)) &&& 255)) 2 ((x_0 >>> (8 &&& 31)) &&& 255))))] H := hP
  have hD : va_D A [(q_0, .inr (12, [.int x_1, .int x_2, .ref q_2, .ref q_3, .ref q_4, .int x_3, .ref q_5, .ref q_6, .ref q_7, .ref q_8, .ref q_1, .int 3, .int x_4, .int x_5, .int x_6, .long g_7, .int x_8, .int x_9, .int x_10, .ref q_9, .int x_11, .ref q_10, .ref q_11, .int x_12, .ref q_12, .ref q_13, .int x_13, .int x_14, .ref q_14, .ref q_15, .ref q_16, .ref q_17, .int x_15, .long g_16, .long g_17, .int x_18, .int x_19, .int x_20, .int x_21, .ref q_18, .ref q_19, .int x_22, .int x_23, .int x_24, .int x_25, .ref q_20, .ref q_21, .int x_26, .int x_27, .ref q_22, .ref q_23, .ref q_24, .ref q_25, .int x_28, .int x_29, .int x_30])), (q_1, .inl (k 0, 400, .inl (upd (upd (upd f_0 0 ((x_0 >>> (24 &&& 31)) &&& 255)) 1 ((x_0 >>> (16 &&& 31)) &&& 255)) 2 ((x_0 >>> (8 &&& 31)) &&& 255))))] := hD
  refine lv_iinc (v := 0) (lv' := [(2, .int 0), (0, .ref q_0), (1, .int x_0)]) hx hb dX12_four_33 hl (k := 0) rfl (by decide) (by decide) rfl (fun ls hl => ?_)
  refine lv_goto (tgt := 3) hx hb dX12_four_36 (by decide) ?_
  refine lv_iload_n hx hb dX12_four_3 rfl (lv_at hl 0 rfl) ?_
  refine lv_if_lt (tgt := 39) hx hb dX12_four_4 (by decide) (fun c4 => absurd c4 (by decide)) (fun _ => ?_)
  refine lv_aload_n hx hb dX12_four_7 rfl (lv_at hl 1 rfl) ?_
  refine va_get (D := D) (ci := 12) (v := .ref q_1) (C := RX12) (T := TX12) (N := 56) hx hb hts inX12 hown hK hP 0 rfl rfl 10 (by decide) (hts _ kF_X12_33) (fun _ h9 => h9) rfl dX12_four_8 ?_
  refine lv_aload_n hx hb dX12_four_11 rfl (lv_at hl 1 rfl) ?_
  refine va_get (D := D) (ci := 12) (v := .int 3) (C := RX12) (T := TX12) (N := 56) hx hb hts inX12 hown hK hP 0 rfl rfl 11 (by decide) (hts _ kF_X12_193) (fun _ h9 => h9) rfl dX12_four_12 ?_
  refine lv_iload_n hx hb dX12_four_15 rfl (lv_at hl 2 rfl) ?_
  refine lv_iload_n hx hb dX12_four_16 rfl (lv_at hl 0 rfl) ?_
  refine lv_ishr hx hb dX12_four_17 ?_
  refine lv_sipush (v := 255) hx hb dX12_four_18 (by decide) ?_
  refine lv_iand hx hb dX12_four_21 ?_
  refine va_iast hx hb hK hP hD hS 1 0 rfl rfl (by unfold vp_in; decide) dX12_four_22 (fun H locs hP hD hS => ?_)
  have hP : va_P D vwCl [(q_0, .inr (12, [.int x_1, .int x_2, .ref q_2, .ref q_3, .ref q_4, .int x_3, .ref q_5, .ref q_6, .ref q_7, .ref q_8, .ref q_1, .int 3, .int x_4, .int x_5, .int x_6, .long g_7, .int x_8, .int x_9, .int x_10, .ref q_9, .int x_11, .ref q_10, .ref q_11, .int x_12, .ref q_12, .ref q_13, .int x_13, .int x_14, .ref q_14, .ref q_15, .ref q_16, .ref q_17, .int x_15, .long g_16, .long g_17, .int x_18, .int x_19, .int x_20, .int x_21, .ref q_18, .ref q_19, .int x_22, .int x_23, .int x_24, .int x_25, .ref q_20, .ref q_21, .int x_26, .int x_27, .ref q_22, .ref q_23, .ref q_24, .ref q_25, .int x_28, .int x_29, .int x_30])), (q_1, .inl (k 0, 400, .inl (upd (upd (upd (upd f_0 0 ((x_0 >>> (24 &&& 31)) &&& 255)) 1 ((x_0 >>> (16 &&& 31)) &&& 255)) 2 ((x_0 >>> (8 &&& 31)) &&& 255)) 3 ((x_0 >>> (0 &&& 31)) &&& 255))))] H := hP
  have hD : va_D A [(q_0, .inr (12, [.int x_1, .int x_2, .ref q_2, .ref q_3, .ref q_4, .int x_3, .ref q_5, .ref q_6, .ref q_7, .ref q_8, .ref q_1, .int 3, .int x_4, .int x_5, .int x_6, .long g_7, .int x_8, .int x_9, .int x_10, .ref q_9, .int x_11, .ref q_10, .ref q_11, .int x_12, .ref q_12, .ref q_13, .int x_13, .int x_14, .ref q_14, .ref q_15, .ref q_16, .ref q_17, .int x_15, .long g_16, .long g_17, .int x_18, .int x_19, .int x_20, .int x_21, .ref q_18, .ref q_19, .int x_22, .int x_23, .int x_24, .int x_25, .ref q_20, .ref q_21, .int x_26, .int x_27, .ref q_22, .ref q_23, .ref q_24, .ref q_25, .int x_28, .int x_29, .int x_30])), (q_1, .inl (k 0, 400, .inl (upd (upd (upd (upd f_0 0 ((x_0 >>> (24 &&& 31)) &&& 255)) 1 ((x_0 >>> (16 &&& 31)) &&& 255)) 2 ((x_0 >>> (8 &&& 31)) &&& 255)) 3 ((x_0 >>> (0 &&& 31)) &&& 255))))] := hD
  refine lv_aload_n hx hb dX12_four_23 rfl (lv_at hl 1 rfl) ?_
  refine lv_dup hx hb dX12_four_24 rfl ?_
  refine va_get (D := D) (ci := 12) (v := .int 3) (C := RX12) (T := TX12) (N := 56) hx hb hts inX12 hown hK hP 0 rfl rfl 11 (by decide) (hts _ kF_X12_193) (fun _ h9 => h9) rfl dX12_four_25 ?_
  refine lv_iconst (v := 1) hx hb dX12_four_28 (by decide) ?_
  refine lv_iadd hx hb dX12_four_29 ?_
  refine lv_toc (v := 4) (by decide) ?_
  refine va_put (D := D) (ci := 12) (v := .int 4) (ty := .int) (C := RX12) (T := TX12) (N := 56) hx hb hts inX12 tyX12 tyX12_ok nmX12 hown hK hP hD hS 0 rfl rfl 11 (by decide) (hts _ kF_X12_193) (fun _ h9 => h9) rfl (by decide +kernel) rfl rfl (Nat.le_of_ble_eq_true rfl) dX12_four_30 (fun H locs hP hD hS => ?_)
  have hP : va_P D vwCl [(q_0, .inr (12, [.int x_1, .int x_2, .ref q_2, .ref q_3, .ref q_4, .int x_3, .ref q_5, .ref q_6, .ref q_7, .ref q_8, .ref q_1, .int 4, .int x_4, .int x_5, .int x_6, .long g_7, .int x_8, .int x_9, .int x_10, .ref q_9, .int x_11, .ref q_10, .ref q_11, .int x_12, .ref q_12, .ref q_13, .int x_13, .int x_14, .ref q_14, .ref q_15, .ref q_16, .ref q_17, .int x_15, .long g_16, .long g_17, .int x_18, .int x_19, .int x_20, .int x_21, .ref q_18, .ref q_19, .int x_22, .int x_23, .int x_24, .int x_25, .ref q_20, .ref q_21, .int x_26, .int x_27, .ref q_22, .ref q_23, .ref q_24, .ref q_25, .int x_28, .int x_29, .int x_30])), (q_1, .inl (k 0, 400, .inl (upd (upd (upd (upd f_0 0 ((x_0 >>> (24 &&& 31)) &&& 255)) 1 ((x_0 >>> (16 &&& 31)) &&& 255)) 2 ((x_0 >>> (8 &&& 31)) &&& 255)) 3 ((x_0 >>> (0 &&& 31)) &&& 255))))] H := hP
  have hD : va_D A [(q_0, .inr (12, [.int x_1, .int x_2, .ref q_2, .ref q_3, .ref q_4, .int x_3, .ref q_5, .ref q_6, .ref q_7, .ref q_8, .ref q_1, .int 4, .int x_4, .int x_5, .int x_6, .long g_7, .int x_8, .int x_9, .int x_10, .ref q_9, .int x_11, .ref q_10, .ref q_11, .int x_12, .ref q_12, .ref q_13, .int x_13, .int x_14, .ref q_14, .ref q_15, .ref q_16, .ref q_17, .int x_15, .long g_16, .long g_17, .int x_18, .int x_19, .int x_20, .int x_21, .ref q_18, .ref q_19, .int x_22, .int x_23, .int x_24, .int x_25, .ref q_20, .ref q_21, .int x_26, .int x_27, .ref q_22, .ref q_23, .ref q_24, .ref q_25, .int x_28, .int x_29, .int x_30])), (q_1, .inl (k 0, 400, .inl (upd (upd (upd (upd f_0 0 ((x_0 >>> (24 &&& 31)) &&& 255)) 1 ((x_0 >>> (16 &&& 31)) &&& 255)) 2 ((x_0 >>> (8 &&& 31)) &&& 255)) 3 ((x_0 >>> (0 &&& 31)) &&& 255))))] := hD
  refine lv_iinc (v := (-8)) (lv' := [(2, .int (-8)), (0, .ref q_0), (1, .int x_0)]) hx hb dX12_four_33 hl (k := 0) rfl (by decide) (by decide) rfl (fun ls hl => ?_)
  refine lv_goto (tgt := 3) hx hb dX12_four_36 (by decide) ?_
  refine lv_iload_n hx hb dX12_four_3 rfl (lv_at hl 0 rfl) ?_
  refine lv_if_lt (tgt := 39) hx hb dX12_four_4 (by decide) (fun _ => ?_) (fun c5 => absurd (by decide) c5)
  exact z_vret C0 hr hlk hK hP hD hS (0, fun _ => 0) rfl [0, 1] rfl rfl rfl dX12_four_39

set_option maxHeartbeats 4000000 in
set_option maxRecDepth 100000 in
theorem c_X12_four_2 (l : Launch) (D : va_G) (k : Nat → ClassId) (q_0 : Nat) (q_1 : Nat) (q_2 : Nat) (q_3 : Nat) (q_4 : Nat) (q_5 : Nat) (q_6 : Nat) (q_7 : Nat) (q_8 : Nat) (q_9 : Nat) (q_10 : Nat) (q_11 : Nat) (q_12 : Nat) (q_13 : Nat) (q_14 : Nat) (q_15 : Nat) (q_16 : Nat) (q_17 : Nat) (q_18 : Nat) (q_19 : Nat) (q_20 : Nat) (q_21 : Nat) (q_22 : Nat) (q_23 : Nat) (q_24 : Nat) (q_25 : Nat) (x_0 : Int32) (x_1 : Int32) (x_2 : Int32) (x_3 : Int32) (x_4 : Int32) (x_5 : Int32) (x_6 : Int32) (g_7 : Int64) (x_8 : Int32) (x_9 : Int32) (x_10 : Int32) (x_11 : Int32) (x_12 : Int32) (x_13 : Int32) (x_14 : Int32) (x_15 : Int32) (g_16 : Int64) (g_17 : Int64) (x_18 : Int32) (x_19 : Int32) (x_20 : Int32) (x_21 : Int32) (x_22 : Int32) (x_23 : Int32) (x_24 : Int32) (x_25 : Int32) (x_26 : Int32) (x_27 : Int32) (x_28 : Int32) (x_29 : Int32) (x_30 : Int32) (f_0 : Nat → Int32) : zMv l yX12_four cX12_four 3 none ({ frames := 0, cells := 0, slots := 0, locals := 0 }) D k [.ref q_0, .int x_0] [(q_0, .inr (12, [.int x_1, .int x_2, .ref q_2, .ref q_3, .ref q_4, .int x_3, .ref q_5, .ref q_6, .ref q_7, .ref q_8, .ref q_1, .int 4, .int x_4, .int x_5, .int x_6, .long g_7, .int x_8, .int x_9, .int x_10, .ref q_9, .int x_11, .ref q_10, .ref q_11, .int x_12, .ref q_12, .ref q_13, .int x_13, .int x_14, .ref q_14, .ref q_15, .ref q_16, .ref q_17, .int x_15, .long g_16, .long g_17, .int x_18, .int x_19, .int x_20, .int x_21, .ref q_18, .ref q_19, .int x_22, .int x_23, .int x_24, .int x_25, .ref q_20, .ref q_21, .int x_26, .int x_27, .ref q_22, .ref q_23, .ref q_24, .ref q_25, .int x_28, .int x_29, .int x_30])), (q_1, .inl (k 0, 400, .inl f_0))] (fun u => u.1 = 0) (fun u => [(q_0, .inr (12, [.int x_1, .int x_2, .ref q_2, .ref q_3, .ref q_4, .int x_3, .ref q_5, .ref q_6, .ref q_7, .ref q_8, .ref q_1, .int 8, .int x_4, .int x_5, .int x_6, .long g_7, .int x_8, .int x_9, .int x_10, .ref q_9, .int x_11, .ref q_10, .ref q_11, .int x_12, .ref q_12, .ref q_13, .int x_13, .int x_14, .ref q_14, .ref q_15, .ref q_16, .ref q_17, .int x_15, .long g_16, .long g_17, .int x_18, .int x_19, .int x_20, .int x_21, .ref q_18, .ref q_19, .int x_22, .int x_23, .int x_24, .int x_25, .ref q_20, .ref q_21, .int x_26, .int x_27, .ref q_22, .ref q_23, .ref q_24, .ref q_25, .int x_28, .int x_29, .int x_30])), (q_1, .inl (k 0, 400, .inl (upd (upd (upd (upd f_0 4 ((x_0 >>> (24 &&& 31)) &&& 255)) 5 ((x_0 >>> (16 &&& 31)) &&& 255)) 6 ((x_0 >>> (8 &&& 31)) &&& 255)) 7 ((x_0 >>> (0 &&& 31)) &&& 255))))]) := by
  refine zMv_of (own := RX12) (by decide +kernel) rfl (Nat.le_of_ble_eq_true rfl) ?_
  intro p e s m args below meth c A ls C0 hr hlk hin hP hD hS hA hK hN hl
  have hx := C0.1
  have hb := C0.2.1
  have hml := C0.2.2.1
  have hown := C0.2.2.2.1
  have hts := C0.2.2.2.2
  have hl : lv_has ls 3 [(0, .ref q_0), (1, .int x_0)] := hl
  have hP : va_P D vwCl [(q_0, .inr (12, [.int x_1, .int x_2, .ref q_2, .ref q_3, .ref q_4, .int x_3, .ref q_5, .ref q_6, .ref q_7, .ref q_8, .ref q_1, .int 4, .int x_4, .int x_5, .int x_6, .long g_7, .int x_8, .int x_9, .int x_10, .ref q_9, .int x_11, .ref q_10, .ref q_11, .int x_12, .ref q_12, .ref q_13, .int x_13, .int x_14, .ref q_14, .ref q_15, .ref q_16, .ref q_17, .int x_15, .long g_16, .long g_17, .int x_18, .int x_19, .int x_20, .int x_21, .ref q_18, .ref q_19, .int x_22, .int x_23, .int x_24, .int x_25, .ref q_20, .ref q_21, .int x_26, .int x_27, .ref q_22, .ref q_23, .ref q_24, .ref q_25, .int x_28, .int x_29, .int x_30])), (q_1, .inl (k 0, 400, .inl f_0))] s.heap := hP
  refine lv_bipush (v := 24) hx hb dX12_four_0 (by decide) ?_
  refine lv_istore_n (lv' := [(2, .int 24), (0, .ref q_0), (1, .int x_0)]) hx hb dX12_four_2 rfl hl (by decide) rfl (fun ls hl => ?_)
  refine lv_iload_n hx hb dX12_four_3 rfl (lv_at hl 0 rfl) ?_
  refine lv_if_lt (tgt := 39) hx hb dX12_four_4 (by decide) (fun c1 => absurd c1 (by decide)) (fun _ => ?_)
  refine lv_aload_n hx hb dX12_four_7 rfl (lv_at hl 1 rfl) ?_
  refine va_get (D := D) (ci := 12) (v := .ref q_1) (C := RX12) (T := TX12) (N := 56) hx hb hts inX12 hown hK hP 0 rfl rfl 10 (by decide) (hts _ kF_X12_33) (fun _ h9 => h9) rfl dX12_four_8 ?_
  refine lv_aload_n hx hb dX12_four_11 rfl (lv_at hl 1 rfl) ?_
  refine va_get (D := D) (ci := 12) (v := .int 4) (C := RX12) (T := TX12) (N := 56) hx hb hts inX12 hown hK hP 0 rfl rfl 11 (by decide) (hts _ kF_X12_193) (fun _ h9 => h9) rfl dX12_four_12 ?_
  refine lv_iload_n hx hb dX12_four_15 rfl (lv_at hl 2 rfl) ?_
  refine lv_iload_n hx hb dX12_four_16 rfl (lv_at hl 0 rfl) ?_
  refine lv_ishr hx hb dX12_four_17 ?_
  refine lv_sipush (v := 255) hx hb dX12_four_18 (by decide) ?_
  refine lv_iand hx hb dX12_four_21 ?_
  refine va_iast hx hb hK hP hD hS 1 0 rfl rfl (by unfold vp_in; decide) dX12_four_22 (fun H locs hP hD hS => ?_)
  have hP : va_P D vwCl [(q_0, .inr (12, [.int x_1, .int x_2, .ref q_2, .ref q_3, .ref q_4, .int x_3, .ref q_5, .ref q_6, .ref q_7, .ref q_8, .ref q_1, .int 4, .int x_4, .int x_5, .int x_6, .long g_7, .int x_8, .int x_9, .int x_10, .ref q_9, .int x_11, .ref q_10, .ref q_11, .int x_12, .ref q_12, .ref q_13, .int x_13, .int x_14, .ref q_14, .ref q_15, .ref q_16, .ref q_17, .int x_15, .long g_16, .long g_17, .int x_18, .int x_19, .int x_20, .int x_21, .ref q_18, .ref q_19, .int x_22, .int x_23, .int x_24, .int x_25, .ref q_20, .ref q_21, .int x_26, .int x_27, .ref q_22, .ref q_23, .ref q_24, .ref q_25, .int x_28, .int x_29, .int x_30])), (q_1, .inl (k 0, 400, .inl (upd f_0 4 ((x_0 >>> (24 &&& 31)) &&& 255))))] H := hP
  have hD : va_D A [(q_0, .inr (12, [.int x_1, .int x_2, .ref q_2, .ref q_3, .ref q_4, .int x_3, .ref q_5, .ref q_6, .ref q_7, .ref q_8, .ref q_1, .int 4, .int x_4, .int x_5, .int x_6, .long g_7, .int x_8, .int x_9, .int x_10, .ref q_9, .int x_11, .ref q_10, .ref q_11, .int x_12, .ref q_12, .ref q_13, .int x_13, .int x_14, .ref q_14, .ref q_15, .ref q_16, .ref q_17, .int x_15, .long g_16, .long g_17, .int x_18, .int x_19, .int x_20, .int x_21, .ref q_18, .ref q_19, .int x_22, .int x_23, .int x_24, .int x_25, .ref q_20, .ref q_21, .int x_26, .int x_27, .ref q_22, .ref q_23, .ref q_24, .ref q_25, .int x_28, .int x_29, .int x_30])), (q_1, .inl (k 0, 400, .inl (upd f_0 4 ((x_0 >>> (24 &&& 31)) &&& 255))))] := hD
  refine lv_aload_n hx hb dX12_four_23 rfl (lv_at hl 1 rfl) ?_
  refine lv_dup hx hb dX12_four_24 rfl ?_
  refine va_get (D := D) (ci := 12) (v := .int 4) (C := RX12) (T := TX12) (N := 56) hx hb hts inX12 hown hK hP 0 rfl rfl 11 (by decide) (hts _ kF_X12_193) (fun _ h9 => h9) rfl dX12_four_25 ?_
  refine lv_iconst (v := 1) hx hb dX12_four_28 (by decide) ?_
  refine lv_iadd hx hb dX12_four_29 ?_
  refine lv_toc (v := 5) (by decide) ?_
  refine va_put (D := D) (ci := 12) (v := .int 5) (ty := .int) (C := RX12) (T := TX12) (N := 56) hx hb hts inX12 tyX12 tyX12_ok nmX12 hown hK hP hD hS 0 rfl rfl 11 (by decide) (hts _ kF_X12_193) (fun _ h9 => h9) rfl (by decide +kernel) rfl rfl (Nat.le_of_ble_eq_true rfl) dX12_four_30 (fun H locs hP hD hS => ?_)
  have hP : va_P D vwCl [(q_0, .inr (12, [.int x_1, .int x_2, .ref q_2, .ref q_3, .ref q_4, .int x_3, .ref q_5, .ref q_6, .ref q_7, .ref q_8, .ref q_1, .int 5, .int x_4, .int x_5, .int x_6, .long g_7, .int x_8, .int x_9, .int x_10, .ref q_9, .int x_11, .ref q_10, .ref q_11, .int x_12, .ref q_12, .ref q_13, .int x_13, .int x_14, .ref q_14, .ref q_15, .ref q_16, .ref q_17, .int x_15, .long g_16, .long g_17, .int x_18, .int x_19, .int x_20, .int x_21, .ref q_18, .ref q_19, .int x_22, .int x_23, .int x_24, .int x_25, .ref q_20, .ref q_21, .int x_26, .int x_27, .ref q_22, .ref q_23, .ref q_24, .ref q_25, .int x_28, .int x_29, .int x_30])), (q_1, .inl (k 0, 400, .inl (upd f_0 4 ((x_0 >>> (24 &&& 31)) &&& 255))))] H := hP
  have hD : va_D A [(q_0, .inr (12, [.int x_1, .int x_2, .ref q_2, .ref q_3, .ref q_4, .int x_3, .ref q_5, .ref q_6, .ref q_7, .ref q_8, .ref q_1, .int 5, .int x_4, .int x_5, .int x_6, .long g_7, .int x_8, .int x_9, .int x_10, .ref q_9, .int x_11, .ref q_10, .ref q_11, .int x_12, .ref q_12, .ref q_13, .int x_13, .int x_14, .ref q_14, .ref q_15, .ref q_16, .ref q_17, .int x_15, .long g_16, .long g_17, .int x_18, .int x_19, .int x_20, .int x_21, .ref q_18, .ref q_19, .int x_22, .int x_23, .int x_24, .int x_25, .ref q_20, .ref q_21, .int x_26, .int x_27, .ref q_22, .ref q_23, .ref q_24, .ref q_25, .int x_28, .int x_29, .int x_30])), (q_1, .inl (k 0, 400, .inl (upd f_0 4 ((x_0 >>> (24 &&& 31)) &&& 255))))] := hD
  refine lv_iinc (v := 16) (lv' := [(2, .int 16), (0, .ref q_0), (1, .int x_0)]) hx hb dX12_four_33 hl (k := 0) rfl (by decide) (by decide) rfl (fun ls hl => ?_)
  refine lv_goto (tgt := 3) hx hb dX12_four_36 (by decide) ?_
  refine lv_iload_n hx hb dX12_four_3 rfl (lv_at hl 0 rfl) ?_
  refine lv_if_lt (tgt := 39) hx hb dX12_four_4 (by decide) (fun c2 => absurd c2 (by decide)) (fun _ => ?_)
  refine lv_aload_n hx hb dX12_four_7 rfl (lv_at hl 1 rfl) ?_
  refine va_get (D := D) (ci := 12) (v := .ref q_1) (C := RX12) (T := TX12) (N := 56) hx hb hts inX12 hown hK hP 0 rfl rfl 10 (by decide) (hts _ kF_X12_33) (fun _ h9 => h9) rfl dX12_four_8 ?_
  refine lv_aload_n hx hb dX12_four_11 rfl (lv_at hl 1 rfl) ?_
  refine va_get (D := D) (ci := 12) (v := .int 5) (C := RX12) (T := TX12) (N := 56) hx hb hts inX12 hown hK hP 0 rfl rfl 11 (by decide) (hts _ kF_X12_193) (fun _ h9 => h9) rfl dX12_four_12 ?_
  refine lv_iload_n hx hb dX12_four_15 rfl (lv_at hl 2 rfl) ?_
  refine lv_iload_n hx hb dX12_four_16 rfl (lv_at hl 0 rfl) ?_
  refine lv_ishr hx hb dX12_four_17 ?_
  refine lv_sipush (v := 255) hx hb dX12_four_18 (by decide) ?_
  refine lv_iand hx hb dX12_four_21 ?_
  refine va_iast hx hb hK hP hD hS 1 0 rfl rfl (by unfold vp_in; decide) dX12_four_22 (fun H locs hP hD hS => ?_)
  have hP : va_P D vwCl [(q_0, .inr (12, [.int x_1, .int x_2, .ref q_2, .ref q_3, .ref q_4, .int x_3, .ref q_5, .ref q_6, .ref q_7, .ref q_8, .ref q_1, .int 5, .int x_4, .int x_5, .int x_6, .long g_7, .int x_8, .int x_9, .int x_10, .ref q_9, .int x_11, .ref q_10, .ref q_11, .int x_12, .ref q_12, .ref q_13, .int x_13, .int x_14, .ref q_14, .ref q_15, .ref q_16, .ref q_17, .int x_15, .long g_16, .long g_17, .int x_18, .int x_19, .int x_20, .int x_21, .ref q_18, .ref q_19, .int x_22, .int x_23, .int x_24, .int x_25, .ref q_20, .ref q_21, .int x_26, .int x_27, .ref q_22, .ref q_23, .ref q_24, .ref q_25, .int x_28, .int x_29, .int x_30])), (q_1, .inl (k 0, 400, .inl (upd (upd f_0 4 ((x_0 >>> (24 &&& 31)) &&& 255)) 5 ((x_0 >>> (16 &&& 31)) &&& 255))))] H := hP
  have hD : va_D A [(q_0, .inr (12, [.int x_1, .int x_2, .ref q_2, .ref q_3, .ref q_4, .int x_3, .ref q_5, .ref q_6, .ref q_7, .ref q_8, .ref q_1, .int 5, .int x_4, .int x_5, .int x_6, .long g_7, .int x_8, .int x_9, .int x_10, .ref q_9, .int x_11, .ref q_10, .ref q_11, .int x_12, .ref q_12, .ref q_13, .int x_13, .int x_14, .ref q_14, .ref q_15, .ref q_16, .ref q_17, .int x_15, .long g_16, .long g_17, .int x_18, .int x_19, .int x_20, .int x_21, .ref q_18, .ref q_19, .int x_22, .int x_23, .int x_24, .int x_25, .ref q_20, .ref q_21, .int x_26, .int x_27, .ref q_22, .ref q_23, .ref q_24, .ref q_25, .int x_28, .int x_29, .int x_30])), (q_1, .inl (k 0, 400, .inl (upd (upd f_0 4 ((x_0 >>> (24 &&& 31)) &&& 255)) 5 ((x_0 >>> (16 &&& 31)) &&& 255))))] := hD
  refine lv_aload_n hx hb dX12_four_23 rfl (lv_at hl 1 rfl) ?_
  refine lv_dup hx hb dX12_four_24 rfl ?_
  refine va_get (D := D) (ci := 12) (v := .int 5) (C := RX12) (T := TX12) (N := 56) hx hb hts inX12 hown hK hP 0 rfl rfl 11 (by decide) (hts _ kF_X12_193) (fun _ h9 => h9) rfl dX12_four_25 ?_
  refine lv_iconst (v := 1) hx hb dX12_four_28 (by decide) ?_
  refine lv_iadd hx hb dX12_four_29 ?_
  refine lv_toc (v := 6) (by decide) ?_
  refine va_put (D := D) (ci := 12) (v := .int 6) (ty := .int) (C := RX12) (T := TX12) (N := 56) hx hb hts inX12 tyX12 tyX12_ok nmX12 hown hK hP hD hS 0 rfl rfl 11 (by decide) (hts _ kF_X12_193) (fun _ h9 => h9) rfl (by decide +kernel) rfl rfl (Nat.le_of_ble_eq_true rfl) dX12_four_30 (fun H locs hP hD hS => ?_)
  have hP : va_P D vwCl [(q_0, .inr (12, [.int x_1, .int x_2, .ref q_2, .ref q_3, .ref q_4, .int x_3, .ref q_5, .ref q_6, .ref q_7, .ref q_8, .ref q_1, .int 6, .int x_4, .int x_5, .int x_6, .long g_7, .int x_8, .int x_9, .int x_10, .ref q_9, .int x_11, .ref q_10, .ref q_11, .int x_12, .ref q_12, .ref q_13, .int x_13, .int x_14, .ref q_14, .ref q_15, .ref q_16, .ref q_17, .int x_15, .long g_16, .long g_17, .int x_18, .int x_19, .int x_20, .int x_21, .ref q_18, .ref q_19, .int x_22, .int x_23, .int x_24, .int x_25, .ref q_20, .ref q_21, .int x_26, .int x_27, .ref q_22, .ref q_23, .ref q_24, .ref q_25, .int x_28, .int x_29, .int x_30])), (q_1, .inl (k 0, 400, .inl (upd (upd f_0 4 ((x_0 >>> (24 &&& 31)) &&& 255)) 5 ((x_0 >>> (16 &&& 31)) &&& 255))))] H := hP
  have hD : va_D A [(q_0, .inr (12, [.int x_1, .int x_2, .ref q_2, .ref q_3, .ref q_4, .int x_3, .ref q_5, .ref q_6, .ref q_7, .ref q_8, .ref q_1, .int 6, .int x_4, .int x_5, .int x_6, .long g_7, .int x_8, .int x_9, .int x_10, .ref q_9, .int x_11, .ref q_10, .ref q_11, .int x_12, .ref q_12, .ref q_13, .int x_13, .int x_14, .ref q_14, .ref q_15, .ref q_16, .ref q_17, .int x_15, .long g_16, .long g_17, .int x_18, .int x_19, .int x_20, .int x_21, .ref q_18, .ref q_19, .int x_22, .int x_23, .int x_24, .int x_25, .ref q_20, .ref q_21, .int x_26, .int x_27, .ref q_22, .ref q_23, .ref q_24, .ref q_25, .int x_28, .int x_29, .int x_30])), (q_1, .inl (k 0, 400, .inl (upd (upd f_0 4 ((x_0 >>> (24 &&& 31)) &&& 255)) 5 ((x_0 >>> (16 &&& 31)) &&& 255))))] := hD
  refine lv_iinc (v := 8) (lv' := [(2, .int 8), (0, .ref q_0), (1, .int x_0)]) hx hb dX12_four_33 hl (k := 0) rfl (by decide) (by decide) rfl (fun ls hl => ?_)
  refine lv_goto (tgt := 3) hx hb dX12_four_36 (by decide) ?_
  refine lv_iload_n hx hb dX12_four_3 rfl (lv_at hl 0 rfl) ?_
  refine lv_if_lt (tgt := 39) hx hb dX12_four_4 (by decide) (fun c3 => absurd c3 (by decide)) (fun _ => ?_)
  refine lv_aload_n hx hb dX12_four_7 rfl (lv_at hl 1 rfl) ?_
  refine va_get (D := D) (ci := 12) (v := .ref q_1) (C := RX12) (T := TX12) (N := 56) hx hb hts inX12 hown hK hP 0 rfl rfl 10 (by decide) (hts _ kF_X12_33) (fun _ h9 => h9) rfl dX12_four_8 ?_
  refine lv_aload_n hx hb dX12_four_11 rfl (lv_at hl 1 rfl) ?_
  refine va_get (D := D) (ci := 12) (v := .int 6) (C := RX12) (T := TX12) (N := 56) hx hb hts inX12 hown hK hP 0 rfl rfl 11 (by decide) (hts _ kF_X12_193) (fun _ h9 => h9) rfl dX12_four_12 ?_
  refine lv_iload_n hx hb dX12_four_15 rfl (lv_at hl 2 rfl) ?_
  refine lv_iload_n hx hb dX12_four_16 rfl (lv_at hl 0 rfl) ?_
  refine lv_ishr hx hb dX12_four_17 ?_
  refine lv_sipush (v := 255) hx hb dX12_four_18 (by decide) ?_
  refine lv_iand hx hb dX12_four_21 ?_
  refine va_iast hx hb hK hP hD hS 1 0 rfl rfl (by unfold vp_in; decide) dX12_four_22 (fun H locs hP hD hS => ?_)
  have hP : va_P D vwCl [(q_0, .inr (12, [.int x_1, .int x_2, .ref q_2, .ref q_3, .ref q_4, .int x_3, .ref q_5, .ref q_6, .ref q_7, .ref q_8, .ref q_1, .int 6, .int x_4, .int x_5, .int x_6, .long g_7, .int x_8, .int x_9, .int x_10, .ref q_9, .int x_11, .ref q_10, .ref q_11, .int x_12, .ref q_12, .ref q_13, .int x_13, .int x_14, .ref q_14, .ref q_15, .ref q_16, .ref q_17, .int x_15, .long g_16, .long g_17, .int x_18, .int x_19, .int x_20, .int x_21, .ref q_18, .ref q_19, .int x_22, .int x_23, .int x_24, .int x_25, .ref q_20, .ref q_21, .int x_26, .int x_27, .ref q_22, .ref q_23, .ref q_24, .ref q_25, .int x_28, .int x_29, .int x_30])), (q_1, .inl (k 0, 400, .inl (upd (upd (upd f_0 4 ((x_0 >>> (24 &&& 31)) &&& 255)) 5 ((x_0 >>> (16 &&& 31)) &&& 255)) 6 ((x_0 >>> (8 &&& 31)) &&& 255))))] H := hP
  have hD : va_D A [(q_0, .inr (12, [.int x_1, .int x_2, .ref q_2, .ref q_3, .ref q_4, .int x_3, .ref q_5, .ref q_6, .ref q_7, .ref q_8, .ref q_1, .int 6, .int x_4, .int x_5, .int x_6, .long g_7, .int x_8, .int x_9, .int x_10, .ref q_9, .int x_11, .ref q_10, .ref q_11, .int x_12, .ref q_12, .ref q_13, .int x_13, .int x_14, .ref q_14, .ref q_15, .ref q_16, .ref q_17, .int x_15, .long g_16, .long g_17, .int x_18, .int x_19, .int x_20, .int x_21, .ref q_18, .ref q_19, .int x_22, .int x_23, .int x_24, .int x_25, .ref q_20, .ref q_21, .int x_26, .int x_27, .ref q_22, .ref q_23, .ref q_24, .ref q_25, .int x_28, .int x_29, .int x_30])), (q_1, .inl (k 0, 400, .inl (upd (upd (upd f_0 4 ((x_0 >>> (24 &&& 31)) &&& 255)) 5 ((x_0 >>> (16 &&& 31)) &&& 255)) 6 ((x_0 >>> (8 &&& 31)) &&& 255))))] := hD
  refine lv_aload_n hx hb dX12_four_23 rfl (lv_at hl 1 rfl) ?_
  refine lv_dup hx hb dX12_four_24 rfl ?_
  refine va_get (D := D) (ci := 12) (v := .int 6) (C := RX12) (T := TX12) (N := 56) hx hb hts inX12 hown hK hP 0 rfl rfl 11 (by decide) (hts _ kF_X12_193) (fun _ h9 => h9) rfl dX12_four_25 ?_
  refine lv_iconst (v := 1) hx hb dX12_four_28 (by decide) ?_
  refine lv_iadd hx hb dX12_four_29 ?_
  refine lv_toc (v := 7) (by decide) ?_
  refine va_put (D := D) (ci := 12) (v := .int 7) (ty := .int) (C := RX12) (T := TX12) (N := 56) hx hb hts inX12 tyX12 tyX12_ok nmX12 hown hK hP hD hS 0 rfl rfl 11 (by decide) (hts _ kF_X12_193) (fun _ h9 => h9) rfl (by decide +kernel) rfl rfl (Nat.le_of_ble_eq_true rfl) dX12_four_30 (fun H locs hP hD hS => ?_)
  have hP : va_P D vwCl [(q_0, .inr (12, [.int x_1, .int x_2, .ref q_2, .ref q_3, .ref q_4, .int x_3, .ref q_5, .ref q_6, .ref q_7, .ref q_8, .ref q_1, .int 7, .int x_4, .int x_5, .int x_6, .long g_7, .int x_8, .int x_9, .int x_10, .ref q_9, .int x_11, .ref q_10, .ref q_11, .int x_12, .ref q_12, .ref q_13, .int x_13, .int x_14, .ref q_14, .ref q_15, .ref q_16, .ref q_17, .int x_15, .long g_16, .long g_17, .int x_18, .int x_19, .int x_20, .int x_21, .ref q_18, .ref q_19, .int x_22, .int x_23, .int x_24, .int x_25, .ref q_20, .ref q_21, .int x_26, .int x_27, .ref q_22, .ref q_23, .ref q_24, .ref q_25, .int x_28, .int x_29, .int x_30])), (q_1, .inl (k 0, 400, .inl (upd (upd (upd f_0 4 ((x_0 >>> (24 &&& 31)) &&& 255)) 5 ((x_0 >>> (16 &&& 31)) &&& 255)) 6 ((x_0 >>> (8 &&& 31)) &&& 255))))] H := hP
  have hD : va_D A [(q_0, .inr (12, [.int x_1, .int x_2, .ref q_2, .ref q_3, .ref q_4, .int x_3, .ref q_5, .ref q_6, .ref q_7, .ref q_8, .ref q_1, .int 7, .int x_4, .int x_5, .int x_6, .long g_7, .int x_8, .int x_9, .int x_10, .ref q_9, .int x_11, .ref q_10, .ref q_11, .int x_12, .ref q_12, .ref q_13, .int x_13, .int x_14, .ref q_14, .ref q_15, .ref q_16, .ref q_17, .int x_15, .long g_16, .long g_17, .int x_18, .int x_19, .int x_20, .int x_21, .ref q_18, .ref q_19, .int x_22, .int x_23, .int x_24, .int x_25, .ref q_20, .ref q_21, .int x_26, .int x_27, .ref q_22, .ref q_23, .ref q_24, .ref q_25, .int x_28, .int x_29, .int x_30])), (q_1, .inl (k 0, 400, .inl (upd (upd (upd f_0 4 ((x_0 >>> (24 &&& 31)) &&& 255)) 5 ((x_0 >>> (16 &&& 31)) &&& 255)) 6 ((x_0 >>> (8 &&& 31)) &&& 255))))] := hD
  refine lv_iinc (v := 0) (lv' := [(2, .int 0), (0, .ref q_0), (1, .int x_0)]) hx hb dX12_four_33 hl (k := 0) rfl (by decide) (by decide) rfl (fun ls hl => ?_)
  refine lv_goto (tgt := 3) hx hb dX12_four_36 (by decide) ?_
  refine lv_iload_n hx hb dX12_four_3 rfl (lv_at hl 0 rfl) ?_
  refine lv_if_lt (tgt := 39) hx hb dX12_four_4 (by decide) (fun c4 => absurd c4 (by decide)) (fun _ => ?_)
  refine lv_aload_n hx hb dX12_four_7 rfl (lv_at hl 1 rfl) ?_
  refine va_get (D := D) (ci := 12) (v := .ref q_1) (C := RX12) (T := TX12) (N := 56) hx hb hts inX12 hown hK hP 0 rfl rfl 10 (by decide) (hts _ kF_X12_33) (fun _ h9 => h9) rfl dX12_four_8 ?_
  refine lv_aload_n hx hb dX12_four_11 rfl (lv_at hl 1 rfl) ?_
  refine va_get (D := D) (ci := 12) (v := .int 7) (C := RX12) (T := TX12) (N := 56) hx hb hts inX12 hown hK hP 0 rfl rfl 11 (by decide) (hts _ kF_X12_193) (fun _ h9 => h9) rfl dX12_four_12 ?_
  refine lv_iload_n hx hb dX12_four_15 rfl (lv_at hl 2 rfl) ?_
  refine lv_iload_n hx hb dX12_four_16 rfl (lv_at hl 0 rfl) ?_
  refine lv_ishr hx hb dX12_four_17 ?_
  refine lv_sipush (v := 255) hx hb dX12_four_18 (by decide) ?_
  refine lv_iand hx hb dX12_four_21 ?_
  refine va_iast hx hb hK hP hD hS 1 0 rfl rfl (by unfold vp_in; decide) dX12_four_22 (fun H locs hP hD hS => ?_)
  have hP : va_P D vwCl [(q_0, .inr (12, [.int x_1, .int x_2, .ref q_2, .ref q_3, .ref q_4, .int x_3, .ref q_5, .ref q_6, .ref q_7, .ref q_8, .ref q_1, .int 7, .int x_4, .int x_5, .int x_6, .long g_7, .int x_8, .int x_9, .int x_10, .ref q_9, .int x_11, .ref q_10, .ref q_11, .int x_12, .ref q_12, .ref q_13, .int x_13, .int x_14, .ref q_14, .ref q_15, .ref q_16, .ref q_17, .int x_15, .long g_16, .long g_17, .int x_18, .int x_19, .int x_20, .int x_21, .ref q_18, .ref q_19, .int x_22, .int x_23, .int x_24, .int x_25, .ref q_20, .ref q_21, .int x_26, .int x_27, .ref q_22, .ref q_23, .ref q_24, .ref q_25, .int x_28, .int x_29, .int x_30])), (q_1, .inl (k 0, 400, .inl (upd (upd (upd (upd f_0 4 ((x_0 >>> (24 &&& 31)) &&& 255)) 5 ((x_0 >>> (16 &&& 31)) &&& 255)) 6 ((x_0 >>> (8 &&& 31)) &&& 255)) 7 ((x_0 >>> (0 &&& 31)) &&& 255))))] H := hP
  have hD : va_D A [(q_0, .inr (12, [.int x_1, .int x_2, .ref q_2, .ref q_3, .ref q_4, .int x_3, .ref q_5, .ref q_6, .ref q_7, .ref q_8, .ref q_1, .int 7, .int x_4, .int x_5, .int x_6, .long g_7, .int x_8, .int x_9, .int x_10, .ref q_9, .int x_11, .ref q_10, .ref q_11, .int x_12, .ref q_12, .ref q_13, .int x_13, .int x_14, .ref q_14, .ref q_15, .ref q_16, .ref q_17, .int x_15, .long g_16, .long g_17, .int x_18, .int x_19, .int x_20, .int x_21, .ref q_18, .ref q_19, .int x_22, .int x_23, .int x_24, .int x_25, .ref q_20, .ref q_21, .int x_26, .int x_27, .ref q_22, .ref q_23, .ref q_24, .ref q_25, .int x_28, .int x_29, .int x_30])), (q_1, .inl (k 0, 400, .inl (upd (upd (upd (upd f_0 4 ((x_0 >>> (24 &&& 31)) &&& 255)) 5 ((x_0 >>> (16 &&& 31)) &&& 255)) 6 ((x_0 >>> (8 &&& 31)) &&& 255)) 7 ((x_0 >>> (0 &&& 31)) &&& 255))))] := hD
  refine lv_aload_n hx hb dX12_four_23 rfl (lv_at hl 1 rfl) ?_
  refine lv_dup hx hb dX12_four_24 rfl ?_
  refine va_get (D := D) (ci := 12) (v := .int 7) (C := RX12) (T := TX12) (N := 56) hx hb hts inX12 hown hK hP 0 rfl rfl 11 (by decide) (hts _ kF_X12_193) (fun _ h9 => h9) rfl dX12_four_25 ?_
  refine lv_iconst (v := 1) hx hb dX12_four_28 (by decide) ?_
  refine lv_iadd hx hb dX12_four_29 ?_
  refine lv_toc (v := 8) (by decide) ?_
  refine va_put (D := D) (ci := 12) (v := .int 8) (ty := .int) (C := RX12) (T := TX12) (N := 56) hx hb hts inX12 tyX12 tyX12_ok nmX12 hown hK hP hD hS 0 rfl rfl 11 (by decide) (hts _ kF_X12_193) (fun _ h9 => h9) rfl (by decide +kernel) rfl rfl (Nat.le_of_ble_eq_true rfl) dX12_four_30 (fun H locs hP hD hS => ?_)
  have hP : va_P D vwCl [(q_0, .inr (12, [.int x_1, .int x_2, .ref q_2, .ref q_3, .ref q_4, .int x_3, .ref q_5, .ref q_6, .ref q_7, .ref q_8, .ref q_1, .int 8, .int x_4, .int x_5, .int x_6, .long g_7, .int x_8, .int x_9, .int x_10, .ref q_9, .int x_11, .ref q_10, .ref q_11, .int x_12, .ref q_12, .ref q_13, .int x_13, .int x_14, .ref q_14, .ref q_15, .ref q_16, .ref q_17, .int x_15, .long g_16, .long g_17, .int x_18, .int x_19, .int x_20, .int x_21, .ref q_18, .ref q_19, .int x_22, .int x_23, .int x_24, .int x_25, .ref q_20, .ref q_21, .int x_26, .int x_27, .ref q_22, .ref q_23, .ref q_24, .ref q_25, .int x_28, .int x_29, .int x_30])), (q_1, .inl (k 0, 400, .inl (upd (upd (upd (upd f_0 4 ((x_0 >>> (24 &&& 31)) &&& 255)) 5 ((x_0 >>> (16 &&& 31)) &&& 255)) 6 ((x_0 >>> (8 &&& 31)) &&& 255)) 7 ((x_0 >>> (0 &&& 31)) &&& 255))))] H := hP
  have hD : va_D A [(q_0, .inr (12, [.int x_1, .int x_2, .ref q_2, .ref q_3, .ref q_4, .int x_3, .ref q_5, .ref q_6, .ref q_7, .ref q_8, .ref q_1, .int 8, .int x_4, .int x_5, .int x_6, .long g_7, .int x_8, .int x_9, .int x_10, .ref q_9, .int x_11, .ref q_10, .ref q_11, .int x_12, .ref q_12, .ref q_13, .int x_13, .int x_14, .ref q_14, .ref q_15, .ref q_16, .ref q_17, .int x_15, .long g_16, .long g_17, .int x_18, .int x_19, .int x_20, .int x_21, .ref q_18, .ref q_19, .int x_22, .int x_23, .int x_24, .int x_25, .ref q_20, .ref q_21, .int x_26, .int x_27, .ref q_22, .ref q_23, .ref q_24, .ref q_25, .int x_28, .int x_29, .int x_30])), (q_1, .inl (k 0, 400, .inl (upd (upd (upd (upd f_0 4 ((x_0 >>> (24 &&& 31)) &&& 255)) 5 ((x_0 >>> (16 &&& 31)) &&& 255)) 6 ((x_0 >>> (8 &&& 31)) &&& 255)) 7 ((x_0 >>> (0 &&& 31)) &&& 255))))] := hD
  refine lv_iinc (v := (-8)) (lv' := [(2, .int (-8)), (0, .ref q_0), (1, .int x_0)]) hx hb dX12_four_33 hl (k := 0) rfl (by decide) (by decide) rfl (fun ls hl => ?_)
  refine lv_goto (tgt := 3) hx hb dX12_four_36 (by decide) ?_
  refine lv_iload_n hx hb dX12_four_3 rfl (lv_at hl 0 rfl) ?_
  refine lv_if_lt (tgt := 39) hx hb dX12_four_4 (by decide) (fun _ => ?_) (fun c5 => absurd (by decide) c5)
  exact z_vret C0 hr hlk hK hP hD hS (0, fun _ => 0) rfl [0, 1] rfl rfl rfl dX12_four_39

set_option maxHeartbeats 4000000 in
set_option maxRecDepth 100000 in
theorem c_X12_four_3 (l : Launch) (D : va_G) (k : Nat → ClassId) (q_0 : Nat) (q_1 : Nat) (q_2 : Nat) (q_3 : Nat) (q_4 : Nat) (q_5 : Nat) (q_6 : Nat) (q_7 : Nat) (q_8 : Nat) (q_9 : Nat) (q_10 : Nat) (q_11 : Nat) (q_12 : Nat) (q_13 : Nat) (q_14 : Nat) (q_15 : Nat) (q_16 : Nat) (q_17 : Nat) (q_18 : Nat) (q_19 : Nat) (q_20 : Nat) (q_21 : Nat) (q_22 : Nat) (q_23 : Nat) (q_24 : Nat) (q_25 : Nat) (x_0 : Int32) (x_1 : Int32) (x_2 : Int32) (x_3 : Int32) (x_4 : Int32) (x_5 : Int32) (x_6 : Int32) (g_7 : Int64) (x_8 : Int32) (x_9 : Int32) (x_10 : Int32) (x_11 : Int32) (x_12 : Int32) (x_13 : Int32) (x_14 : Int32) (x_15 : Int32) (g_16 : Int64) (g_17 : Int64) (x_18 : Int32) (x_19 : Int32) (x_20 : Int32) (x_21 : Int32) (x_22 : Int32) (x_23 : Int32) (x_24 : Int32) (x_25 : Int32) (x_26 : Int32) (x_27 : Int32) (x_28 : Int32) (x_29 : Int32) (x_30 : Int32) (f_0 : Nat → Int32) : zMv l yX12_four cX12_four 3 none ({ frames := 0, cells := 0, slots := 0, locals := 0 }) D k [.ref q_0, .int x_0] [(q_0, .inr (12, [.int x_1, .int x_2, .ref q_2, .ref q_3, .ref q_4, .int x_3, .ref q_5, .ref q_6, .ref q_7, .ref q_8, .ref q_1, .int 8, .int x_4, .int x_5, .int x_6, .long g_7, .int x_8, .int x_9, .int x_10, .ref q_9, .int x_11, .ref q_10, .ref q_11, .int x_12, .ref q_12, .ref q_13, .int x_13, .int x_14, .ref q_14, .ref q_15, .ref q_16, .ref q_17, .int x_15, .long g_16, .long g_17, .int x_18, .int x_19, .int x_20, .int x_21, .ref q_18, .ref q_19, .int x_22, .int x_23, .int x_24, .int x_25, .ref q_20, .ref q_21, .int x_26, .int x_27, .ref q_22, .ref q_23, .ref q_24, .ref q_25, .int x_28, .int x_29, .int x_30])), (q_1, .inl (k 0, 400, .inl f_0))] (fun u => u.1 = 0) (fun u => [(q_0, .inr (12, [.int x_1, .int x_2, .ref q_2, .ref q_3, .ref q_4, .int x_3, .ref q_5, .ref q_6, .ref q_7, .ref q_8, .ref q_1, .int 12, .int x_4, .int x_5, .int x_6, .long g_7, .int x_8, .int x_9, .int x_10, .ref q_9, .int x_11, .ref q_10, .ref q_11, .int x_12, .ref q_12, .ref q_13, .int x_13, .int x_14, .ref q_14, .ref q_15, .ref q_16, .ref q_17, .int x_15, .long g_16, .long g_17, .int x_18, .int x_19, .int x_20, .int x_21, .ref q_18, .ref q_19, .int x_22, .int x_23, .int x_24, .int x_25, .ref q_20, .ref q_21, .int x_26, .int x_27, .ref q_22, .ref q_23, .ref q_24, .ref q_25, .int x_28, .int x_29, .int x_30])), (q_1, .inl (k 0, 400, .inl (upd (upd (upd (upd f_0 8 ((x_0 >>> (24 &&& 31)) &&& 255)) 9 ((x_0 >>> (16 &&& 31)) &&& 255)) 10 ((x_0 >>> (8 &&& 31)) &&& 255)) 11 ((x_0 >>> (0 &&& 31)) &&& 255))))]) := by
  refine zMv_of (own := RX12) (by decide +kernel) rfl (Nat.le_of_ble_eq_true rfl) ?_
  intro p e s m args below meth c A ls C0 hr hlk hin hP hD hS hA hK hN hl
  have hx := C0.1
  have hb := C0.2.1
  have hml := C0.2.2.1
  have hown := C0.2.2.2.1
  have hts := C0.2.2.2.2
  have hl : lv_has ls 3 [(0, .ref q_0), (1, .int x_0)] := hl
  have hP : va_P D vwCl [(q_0, .inr (12, [.int x_1, .int x_2, .ref q_2, .ref q_3, .ref q_4, .int x_3, .ref q_5, .ref q_6, .ref q_7, .ref q_8, .ref q_1, .int 8, .int x_4, .int x_5, .int x_6, .long g_7, .int x_8, .int x_9, .int x_10, .ref q_9, .int x_11, .ref q_10, .ref q_11, .int x_12, .ref q_12, .ref q_13, .int x_13, .int x_14, .ref q_14, .ref q_15, .ref q_16, .ref q_17, .int x_15, .long g_16, .long g_17, .int x_18, .int x_19, .int x_20, .int x_21, .ref q_18, .ref q_19, .int x_22, .int x_23, .int x_24, .int x_25, .ref q_20, .ref q_21, .int x_26, .int x_27, .ref q_22, .ref q_23, .ref q_24, .ref q_25, .int x_28, .int x_29, .int x_30])), (q_1, .inl (k 0, 400, .inl f_0))] s.heap := hP
  refine lv_bipush (v := 24) hx hb dX12_four_0 (by decide) ?_
  refine lv_istore_n (lv' := [(2, .int 24), (0, .ref q_0), (1, .int x_0)]) hx hb dX12_four_2 rfl hl (by decide) rfl (fun ls hl => ?_)
  refine lv_iload_n hx hb dX12_four_3 rfl (lv_at hl 0 rfl) ?_
  refine lv_if_lt (tgt := 39) hx hb dX12_four_4 (by decide) (fun c1 => absurd c1 (by decide)) (fun _ => ?_)
  refine lv_aload_n hx hb dX12_four_7 rfl (lv_at hl 1 rfl) ?_
  refine va_get (D := D) (ci := 12) (v := .ref q_1) (C := RX12) (T := TX12) (N := 56) hx hb hts inX12 hown hK hP 0 rfl rfl 10 (by decide) (hts _ kF_X12_33) (fun _ h9 => h9) rfl dX12_four_8 ?_
  refine lv_aload_n hx hb dX12_four_11 rfl (lv_at hl 1 rfl) ?_
  refine va_get (D := D) (ci := 12) (v := .int 8) (C := RX12) (T := TX12) (N := 56) hx hb hts inX12 hown hK hP 0 rfl rfl 11 (by decide) (hts _ kF_X12_193) (fun _ h9 => h9) rfl dX12_four_12 ?_
  refine lv_iload_n hx hb dX12_four_15 rfl (lv_at hl 2 rfl) ?_
  refine lv_iload_n hx hb dX12_four_16 rfl (lv_at hl 0 rfl) ?_
  refine lv_ishr hx hb dX12_four_17 ?_
  refine lv_sipush (v := 255) hx hb dX12_four_18 (by decide) ?_
  refine lv_iand hx hb dX12_four_21 ?_
  refine va_iast hx hb hK hP hD hS 1 0 rfl rfl (by unfold vp_in; decide) dX12_four_22 (fun H locs hP hD hS => ?_)
  have hP : va_P D vwCl [(q_0, .inr (12, [.int x_1, .int x_2, .ref q_2, .ref q_3, .ref q_4, .int x_3, .ref q_5, .ref q_6, .ref q_7, .ref q_8, .ref q_1, .int 8, .int x_4, .int x_5, .int x_6, .long g_7, .int x_8, .int x_9, .int x_10, .ref q_9, .int x_11, .ref q_10, .ref q_11, .int x_12, .ref q_12, .ref q_13, .int x_13, .int x_14, .ref q_14, .ref q_15, .ref q_16, .ref q_17, .int x_15, .long g_16, .long g_17, .int x_18, .int x_19, .int x_20, .int x_21, .ref q_18, .ref q_19, .int x_22, .int x_23, .int x_24, .int x_25, .ref q_20, .ref q_21, .int x_26, .int x_27, .ref q_22, .ref q_23, .ref q_24, .ref q_25, .int x_28, .int x_29, .int x_30])), (q_1, .inl (k 0, 400, .inl (upd f_0 8 ((x_0 >>> (24 &&& 31)) &&& 255))))] H := hP
  have hD : va_D A [(q_0, .inr (12, [.int x_1, .int x_2, .ref q_2, .ref q_3, .ref q_4, .int x_3, .ref q_5, .ref q_6, .ref q_7, .ref q_8, .ref q_1, .int 8, .int x_4, .int x_5, .int x_6, .long g_7, .int x_8, .int x_9, .int x_10, .ref q_9, .int x_11, .ref q_10, .ref q_11, .int x_12, .ref q_12, .ref q_13, .int x_13, .int x_14, .ref q_14, .ref q_15, .ref q_16, .ref q_17, .int x_15, .long g_16, .long g_17, .int x_18, .int x_19, .int x_20, .int x_21, .ref q_18, .ref q_19, .int x_22, .int x_23, .int x_24, .int x_25, .ref q_20, .ref q_21, .int x_26, .int x_27, .ref q_22, .ref q_23, .ref q_24, .ref q_25, .int x_28, .int x_29, .int x_30])), (q_1, .inl (k 0, 400, .inl (upd f_0 8 ((x_0 >>> (24 &&& 31)) &&& 255))))] := hD
  refine lv_aload_n hx hb dX12_four_23 rfl (lv_at hl 1 rfl) ?_
  refine lv_dup hx hb dX12_four_24 rfl ?_
  refine va_get (D := D) (ci := 12) (v := .int 8) (C := RX12) (T := TX12) (N := 56) hx hb hts inX12 hown hK hP 0 rfl rfl 11 (by decide) (hts _ kF_X12_193) (fun _ h9 => h9) rfl dX12_four_25 ?_
  refine lv_iconst (v := 1) hx hb dX12_four_28 (by decide) ?_
  refine lv_iadd hx hb dX12_four_29 ?_
  refine lv_toc (v := 9) (by decide) ?_
  refine va_put (D := D) (ci := 12) (v := .int 9) (ty := .int) (C := RX12) (T := TX12) (N := 56) hx hb hts inX12 tyX12 tyX12_ok nmX12 hown hK hP hD hS 0 rfl rfl 11 (by decide) (hts _ kF_X12_193) (fun _ h9 => h9) rfl (by decide +kernel) rfl rfl (Nat.le_of_ble_eq_true rfl) dX12_four_30 (fun H locs hP hD hS => ?_)
  have hP : va_P D vwCl [(q_0, .inr (12, [.int x_1, .int x_2, .ref q_2, .ref q_3, .ref q_4, .int x_3, .ref q_5, .ref q_6, .ref q_7, .ref q_8, .ref q_1, .int 9, .int x_4, .int x_5, .int x_6, .long g_7, .int x_8, .int x_9, .int x_10, .ref q_9, .int x_11, .ref q_10, .ref q_11, .int x_12, .ref q_12, .ref q_13, .int x_13, .int x_14, .ref q_14, .ref q_15, .ref q_16, .ref q_17, .int x_15, .long g_16, .long g_17, .int x_18, .int x_19, .int x_20, .int x_21, .ref q_18, .ref q_19, .int x_22, .int x_23, .int x_24, .int x_25, .ref q_20, .ref q_21, .int x_26, .int x_27, .ref q_22, .ref q_23, .ref q_24, .ref q_25, .int x_28, .int x_29, .int x_30])), (q_1, .inl (k 0, 400, .inl (upd f_0 8 ((x_0 >>> (24 &&& 31)) &&& 255))))] H := hP
  have hD : va_D A [(q_0, .inr (12, [.int x_1, .int x_2, .ref q_2, .ref q_3, .ref q_4, .int x_3, .ref q_5, .ref q_6, .ref q_7, .ref q_8, .ref q_1, .int 9, .int x_4, .int x_5, .int x_6, .long g_7, .int x_8, .int x_9, .int x_10, .ref q_9, .int x_11, .ref q_10, .ref q_11, .int x_12, .ref q_12, .ref q_13, .int x_13, .int x_14, .ref q_14, .ref q_15, .ref q_16, .ref q_17, .int x_15, .long g_16, .long g_17, .int x_18, .int x_19, .int x_20, .int x_21, .ref q_18, .ref q_19, .int x_22, .int x_23, .int x_24, .int x_25, .ref q_20, .ref q_21, .int x_26, .int x_27, .ref q_22, .ref q_23, .ref q_24, .ref q_25, .int x_28, .int x_29, .int x_30])), (q_1, .inl (k 0, 400, .inl (upd f_0 8 ((x_0 >>> (24 &&& 31)) &&& 255))))] := hD
  refine lv_iinc (v := 16) (lv' := [(2, .int 16), (0, .ref q_0), (1, .int x_0)]) hx hb dX12_four_33 hl (k := 0) rfl (by decide) (by decide) rfl (fun ls hl => ?_)
  refine lv_goto (tgt := 3) hx hb dX12_four_36 (by decide) ?_
  refine lv_iload_n hx hb dX12_four_3 rfl (lv_at hl 0 rfl) ?_
  refine lv_if_lt (tgt := 39) hx hb dX12_four_4 (by decide) (fun c2 => absurd c2 (by decide)) (fun _ => ?_)
  refine lv_aload_n hx hb dX12_four_7 rfl (lv_at hl 1 rfl) ?_
  refine va_get (D := D) (ci := 12) (v := .ref q_1) (C := RX12) (T := TX12) (N := 56) hx hb hts inX12 hown hK hP 0 rfl rfl 10 (by decide) (hts _ kF_X12_33) (fun _ h9 => h9) rfl dX12_four_8 ?_
  refine lv_aload_n hx hb dX12_four_11 rfl (lv_at hl 1 rfl) ?_
  refine va_get (D := D) (ci := 12) (v := .int 9) (C := RX12) (T := TX12) (N := 56) hx hb hts inX12 hown hK hP 0 rfl rfl 11 (by decide) (hts _ kF_X12_193) (fun _ h9 => h9) rfl dX12_four_12 ?_
  refine lv_iload_n hx hb dX12_four_15 rfl (lv_at hl 2 rfl) ?_
  refine lv_iload_n hx hb dX12_four_16 rfl (lv_at hl 0 rfl) ?_
  refine lv_ishr hx hb dX12_four_17 ?_
  refine lv_sipush (v := 255) hx hb dX12_four_18 (by decide) ?_
  refine lv_iand hx hb dX12_four_21 ?_
  refine va_iast hx hb hK hP hD hS 1 0 rfl rfl (by unfold vp_in; decide) dX12_four_22 (fun H locs hP hD hS => ?_)
  have hP : va_P D vwCl [(q_0, .inr (12, [.int x_1, .int x_2, .ref q_2, .ref q_3, .ref q_4, .int x_3, .ref q_5, .ref q_6, .ref q_7, .ref q_8, .ref q_1, .int 9, .int x_4, .int x_5, .int x_6, .long g_7, .int x_8, .int x_9, .int x_10, .ref q_9, .int x_11, .ref q_10, .ref q_11, .int x_12, .ref q_12, .ref q_13, .int x_13, .int x_14, .ref q_14, .ref q_15, .ref q_16, .ref q_17, .int x_15, .long g_16, .long g_17, .int x_18, .int x_19, .int x_20, .int x_21, .ref q_18, .ref q_19, .int x_22, .int x_23, .int x_24, .int x_25, .ref q_20, .ref q_21, .int x_26, .int x_27, .ref q_22, .ref q_23, .ref q_24, .ref q_25, .int x_28, .int x_29, .int x_30])), (q_1, .inl (k 0, 400, .inl (upd (upd f_0 8 ((x_0 >>> (24 &&& 31)) &&& 255)) 9 ((x_0 >>> (16 &&& 31)) &&& 255))))] H := hP
  have hD : va_D A [(q_0, .inr (12, [.int x_1, .int x_2, .ref q_2, .ref q_3, .ref q_4, .int x_3, .ref q_5, .ref q_6, .ref q_7, .ref q_8, .ref q_1, .int 9, .int x_4, .int x_5, .int x_6, .long g_7, .int x_8, .int x_9, .int x_10, .ref q_9, .int x_11, .ref q_10, .ref q_11, .int x_12, .ref q_12, .ref q_13, .int x_13, .int x_14, .ref q_14, .ref q_15, .ref q_16, .ref q_17, .int x_15, .long g_16, .long g_17, .int x_18, .int x_19, .int x_20, .int x_21, .ref q_18, .ref q_19, .int x_22, .int x_23, .int x_24, .int x_25, .ref q_20, .ref q_21, .int x_26, .int x_27, .ref q_22, .ref q_23, .ref q_24, .ref q_25, .int x_28, .int x_29, .int x_30])), (q_1, .inl (k 0, 400, .inl (upd (upd f_0 8 ((x_0 >>> (24 &&& 31)) &&& 255)) 9 ((x_0 >>> (16 &&& 31)) &&& 255))))] := hD
  refine lv_aload_n hx hb dX12_four_23 rfl (lv_at hl 1 rfl) ?_
  refine lv_dup hx hb dX12_four_24 rfl ?_
  refine va_get (D := D) (ci := 12) (v := .int 9) (C := RX12) (T := TX12) (N := 56) hx hb hts inX12 hown hK hP 0 rfl rfl 11 (by decide) (hts _ kF_X12_193) (fun _ h9 => h9) rfl dX12_four_25 ?_
  refine lv_iconst (v := 1) hx hb dX12_four_28 (by decide) ?_
  refine lv_iadd hx hb dX12_four_29 ?_
  refine lv_toc (v := 10) (by decide) ?_
  refine va_put (D := D) (ci := 12) (v := .int 10) (ty := .int) (C := RX12) (T := TX12) (N := 56) hx hb hts inX12 tyX12 tyX12_ok nmX12 hown hK hP hD hS 0 rfl rfl 11 (by decide) (hts _ kF_X12_193) (fun _ h9 => h9) rfl (by decide +kernel) rfl rfl (Nat.le_of_ble_eq_true rfl) dX12_four_30 (fun H locs hP hD hS => ?_)
  have hP : va_P D vwCl [(q_0, .inr (12, [.int x_1, .int x_2, .ref q_2, .ref q_3, .ref q_4, .int x_3, .ref q_5, .ref q_6, .ref q_7, .ref q_8, .ref q_1, .int 10, .int x_4, .int x_5, .int x_6, .long g_7, .int x_8, .int x_9, .int x_10, .ref q_9, .int x_11, .ref q_10, .ref q_11, .int x_12, .ref q_12, .ref q_13, .int x_13, .int x_14, .ref q_14, .ref q_15, .ref q_16, .ref q_17, .int x_15, .long g_16, .long g_17, .int x_18, .int x_19, .int x_20, .int x_21, .ref q_18, .ref q_19, .int x_22, .int x_23, .int x_24, .int x_25, .ref q_20, .ref q_21, .int x_26, .int x_27, .ref q_22, .ref q_23, .ref q_24, .ref q_25, .int x_28, .int x_29, .int x_30])), (q_1, .inl (k 0, 400, .inl (upd (upd f_0 8 ((x_0 >>> (24 &&& 31)) &&& 255)) 9 ((x_0 >>> (16 &&& 31)) &&& 255))))] H := hP
  have hD : va_D A [(q_0, .inr (12, [.int x_1, .int x_2, .ref q_2, .ref q_3, .ref q_4, .int x_3, .ref q_5, .ref q_6, .ref q_7, .ref q_8, .ref q_1, .int 10, .int x_4, .int x_5, .int x_6, .long g_7, .int x_8, .int x_9, .int x_10, .ref q_9, .int x_11, .ref q_10, .ref q_11, .int x_12, .ref q_12, .ref q_13, .int x_13, .int x_14, .ref q_14, .ref q_15, .ref q_16, .ref q_17, .int x_15, .long g_16, .long g_17, .int x_18, .int x_19, .int x_20, .int x_21, .ref q_18, .ref q_19, .int x_22, .int x_23, .int x_24, .int x_25, .ref q_20, .ref q_21, .int x_26, .int x_27, .ref q_22, .ref q_23, .ref q_24, .ref q_25, .int x_28, .int x_29, .int x_30])), (q_1, .inl (k 0, 400, .inl (upd (upd f_0 8 ((x_0 >>> (24 &&& 31)) &&& 255)) 9 ((x_0 >>> (16 &&& 31)) &&& 255))))] := hD
  refine lv_iinc (v := 8) (lv' := [(2, .int 8), (0, .ref q_0), (1, .int x_0)]) hx hb dX12_four_33 hl (k := 0) rfl (by decide) (by decide) rfl (fun ls hl => ?_)
  refine lv_goto (tgt := 3) hx hb dX12_four_36 (by decide) ?_
  refine lv_iload_n hx hb dX12_four_3 rfl (lv_at hl 0 rfl) ?_
  refine lv_if_lt (tgt := 39) hx hb dX12_four_4 (by decide) (fun c3 => absurd c3 (by decide)) (fun _ => ?_)
  refine lv_aload_n hx hb dX12_four_7 rfl (lv_at hl 1 rfl) ?_
  refine va_get (D := D) (ci := 12) (v := .ref q_1) (C := RX12) (T := TX12) (N := 56) hx hb hts inX12 hown hK hP 0 rfl rfl 10 (by decide) (hts _ kF_X12_33) (fun _ h9 => h9) rfl dX12_four_8 ?_
  refine lv_aload_n hx hb dX12_four_11 rfl (lv_at hl 1 rfl) ?_
  refine va_get (D := D) (ci := 12) (v := .int 10) (C := RX12) (T := TX12) (N := 56) hx hb hts inX12 hown hK hP 0 rfl rfl 11 (by decide) (hts _ kF_X12_193) (fun _ h9 => h9) rfl dX12_four_12 ?_
  refine lv_iload_n hx hb dX12_four_15 rfl (lv_at hl 2 rfl) ?_
  refine lv_iload_n hx hb dX12_four_16 rfl (lv_at hl 0 rfl) ?_
  refine lv_ishr hx hb dX12_four_17 ?_
  refine lv_sipush (v := 255) hx hb dX12_four_18 (by decide) ?_
  refine lv_iand hx hb dX12_four_21 ?_
  refine va_iast hx hb hK hP hD hS 1 0 rfl rfl (by unfold vp_in; decide) dX12_four_22 (fun H locs hP hD hS => ?_)
  have hP : va_P D vwCl [(q_0, .inr (12, [.int x_1, .int x_2, .ref q_2, .ref q_3, .ref q_4, .int x_3, .ref q_5, .ref q_6, .ref q_7, .ref q_8, .ref q_1, .int 10, .int x_4, .int x_5, .int x_6, .long g_7, .int x_8, .int x_9, .int x_10, .ref q_9, .int x_11, .ref q_10, .ref q_11, .int x_12, .ref q_12, .ref q_13, .int x_13, .int x_14, .ref q_14, .ref q_15, .ref q_16, .ref q_17, .int x_15, .long g_16, .long g_17, .int x_18, .int x_19, .int x_20, .int x_21, .ref q_18, .ref q_19, .int x_22, .int x_23, .int x_24, .int x_25, .ref q_20, .ref q_21, .int x_26, .int x_27, .ref q_22, .ref q_23, .ref q_24, .ref q_25, .int x_28, .int x_29, .int x_30])), (q_1, .inl (k 0, 400, .inl (upd (upd (upd f_0 8 ((x_0 >>> (24 &&& 31)) &&& 255)) 9 ((x_0 >>> (16 &&& 31)) &&& 255)) 10 ((x_0 >>> (8 &&& 31)) &&& 255))))] H := hP
  have hD : va_D A [(q_0, .inr (12, [.int x_1, .int x_2, .ref q_2, .ref q_3, .ref q_4, .int x_3, .ref q_5, .ref q_6, .ref q_7, .ref q_8, .ref q_1, .int 10, .int x_4, .int x_5, .int x_6, .long g_7, .int x_8, .int x_9, .int x_10, .ref q_9, .int x_11, .ref q_10, .ref q_11, .int x_12, .ref q_12, .ref q_13, .int x_13, .int x_14, .ref q_14, .ref q_15, .ref q_16, .ref q_17, .int x_15, .long g_16, .long g_17, .int x_18, .int x_19, .int x_20, .int x_21, .ref q_18, .ref q_19, .int x_22, .int x_23, .int x_24, .int x_25, .ref q_20, .ref q_21, .int x_26, .int x_27, .ref q_22, .ref q_23, .ref q_24, .ref q_25, .int x_28, .int x_29, .int x_30])), (q_1, .inl (k 0, 400, .inl (upd (upd (upd f_0 8 ((x_0 >>> (24 &&& 31)) &&& 255)) 9 ((x_0 >>> (16 &&& 31)) &&& 255)) 10 ((x_0 >>> (8 &&& 31)) &&& 255))))] := hD
  refine lv_aload_n hx hb dX12_four_23 rfl (lv_at hl 1 rfl) ?_
  refine lv_dup hx hb dX12_four_24 rfl ?_
  refine va_get (D := D) (ci := 12) (v := .int 10) (C := RX12) (T := TX12) (N := 56) hx hb hts inX12 hown hK hP 0 rfl rfl 11 (by decide) (hts _ kF_X12_193) (fun _ h9 => h9) rfl dX12_four_25 ?_
  refine lv_iconst (v := 1) hx hb dX12_four_28 (by decide) ?_
  refine lv_iadd hx hb dX12_four_29 ?_
  refine lv_toc (v := 11) (by decide) ?_
  refine va_put (D := D) (ci := 12) (v := .int 11) (ty := .int) (C := RX12) (T := TX12) (N := 56) hx hb hts inX12 tyX12 tyX12_ok nmX12 hown hK hP hD hS 0 rfl rfl 11 (by decide) (hts _ kF_X12_193) (fun _ h9 => h9) rfl (by decide +kernel) rfl rfl (Nat.le_of_ble_eq_true rfl) dX12_four_30 (fun H locs hP hD hS => ?_)
  have hP : va_P D vwCl [(q_0, .inr (12, [.int x_1, .int x_2, .ref q_2, .ref q_3, .ref q_4, .int x_3, .ref q_5, .ref q_6, .ref q_7, .ref q_8, .ref q_1, .int 11, .int x_4, .int x_5, .int x_6, .long g_7, .int x_8, .int x_9, .int x_10, .ref q_9, .int x_11, .ref q_10, .ref q_11, .int x_12, .ref q_12, .ref q_13, .int x_13, .int x_14, .ref q_14, .ref q_15, .ref q_16, .ref q_17, .int x_15, .long g_16, .long g_17, .int x_18, .int x_19, .int x_20, .int x_21, .ref q_18, .ref q_19, .int x_22, .int x_23, .int x_24, .int x_25, .ref q_20, .ref q_21, .int x_26, .int x_27, .ref q_22, .ref q_23, .ref q_24, .ref q_25, .int x_28, .int x_29, .int x_30])), (q_1, .inl (k 0, 400, .inl (upd (upd (upd f_0 8 ((x_0 >>> (24 &&& 31)) &&& 255)) 9 ((x_0 >>> (16 &&& 31)) &&& 255)) 10 ((x_0 >>> (8 &&& 31)) &&& 255))))] H := hP
  have hD : va_D A [(q_0, .inr (12, [.int x_1, .int x_2, .ref q_2, .ref q_3, .ref q_4, .int x_3, .ref q_5, .ref q_6, .ref q_7, .ref q_8, .ref q_1, .int 11, .int x_4, .int x_5, .int x_6, .long g_7, .int x_8, .int x_9, .int x_10, .ref q_9, .int x_11, .ref q_10, .ref q_11, .int x_12, .ref q_12, .ref q_13, .int x_13, .int x_14, .ref q_14, .ref q_15, .ref q_16, .ref q_17, .int x_15, .long g_16, .long g_17, .int x_18, .int x_19, .int x_20, .int x_21, .ref q_18, .ref q_19, .int x_22, .int x_23, .int x_24, .int x_25, .ref q_20, .ref q_21, .int x_26, .int x_27, .ref q_22, .ref q_23, .ref q_24, .ref q_25, .int x_28, .int x_29, .int x_30])), (q_1, .inl (k 0, 400, .inl (upd (upd (upd f_0 8 ((x_0 >>> (24 &&& 31)) &&& 255)) 9 ((x_0 >>> (16 &&& 31)) &&& 255)) 10 ((x_0 >>> (8 &&& 31)) &&& 255))))] := hD
  refine lv_iinc (v := 0) (lv' := [(2, .int 0), (0, .ref q_0), (1, .int x_0)]) hx hb dX12_four_33 hl (k := 0) rfl (by decide) (by decide) rfl (fun ls hl => ?_)
  refine lv_goto (tgt := 3) hx hb dX12_four_36 (by decide) ?_
  refine lv_iload_n hx hb dX12_four_3 rfl (lv_at hl 0 rfl) ?_
  refine lv_if_lt (tgt := 39) hx hb dX12_four_4 (by decide) (fun c4 => absurd c4 (by decide)) (fun _ => ?_)
  refine lv_aload_n hx hb dX12_four_7 rfl (lv_at hl 1 rfl) ?_
  refine va_get (D := D) (ci := 12) (v := .ref q_1) (C := RX12) (T := TX12) (N := 56) hx hb hts inX12 hown hK hP 0 rfl rfl 10 (by decide) (hts _ kF_X12_33) (fun _ h9 => h9) rfl dX12_four_8 ?_
  refine lv_aload_n hx hb dX12_four_11 rfl (lv_at hl 1 rfl) ?_
  refine va_get (D := D) (ci := 12) (v := .int 11) (C := RX12) (T := TX12) (N := 56) hx hb hts inX12 hown hK hP 0 rfl rfl 11 (by decide) (hts _ kF_X12_193) (fun _ h9 => h9) rfl dX12_four_12 ?_
  refine lv_iload_n hx hb dX12_four_15 rfl (lv_at hl 2 rfl) ?_
  refine lv_iload_n hx hb dX12_four_16 rfl (lv_at hl 0 rfl) ?_
  refine lv_ishr hx hb dX12_four_17 ?_
  refine lv_sipush (v := 255) hx hb dX12_four_18 (by decide) ?_
  refine lv_iand hx hb dX12_four_21 ?_
  refine va_iast hx hb hK hP hD hS 1 0 rfl rfl (by unfold vp_in; decide) dX12_four_22 (fun H locs hP hD hS => ?_)
  have hP : va_P D vwCl [(q_0, .inr (12, [.int x_1, .int x_2, .ref q_2, .ref q_3, .ref q_4, .int x_3, .ref q_5, .ref q_6, .ref q_7, .ref q_8, .ref q_1, .int 11, .int x_4, .int x_5, .int x_6, .long g_7, .int x_8, .int x_9, .int x_10, .ref q_9, .int x_11, .ref q_10, .ref q_11, .int x_12, .ref q_12, .ref q_13, .int x_13, .int x_14, .ref q_14, .ref q_15, .ref q_16, .ref q_17, .int x_15, .long g_16, .long g_17, .int x_18, .int x_19, .int x_20, .int x_21, .ref q_18, .ref q_19, .int x_22, .int x_23, .int x_24, .int x_25, .ref q_20, .ref q_21, .int x_26, .int x_27, .ref q_22, .ref q_23, .ref q_24, .ref q_25, .int x_28, .int x_29, .int x_30])), (q_1, .inl (k 0, 400, .inl (upd (upd (upd (upd f_0 8 ((x_0 >>> (24 &&& 31)) &&& 255)) 9 ((x_0 >>> (16 &&& 31)) &&& 255)) 10 ((x_0 >>> (8 &&& 31)) &&& 255)) 11 ((x_0 >>> (0 &&& 31)) &&& 255))))] H := hP
  have hD : va_D A [(q_0, .inr (12, [.int x_1, .int x_2, .ref q_2, .ref q_3, .ref q_4, .int x_3, .ref q_5, .ref q_6, .ref q_7, .ref q_8, .ref q_1, .int 11, .int x_4, .int x_5, .int x_6, .long g_7, .int x_8, .int x_9, .int x_10, .ref q_9, .int x_11, .ref q_10, .ref q_11, .int x_12, .ref q_12, .ref q_13, .int x_13, .int x_14, .ref q_14, .ref q_15, .ref q_16, .ref q_17, .int x_15, .long g_16, .long g_17, .int x_18, .int x_19, .int x_20, .int x_21, .ref q_18, .ref q_19, .int x_22, .int x_23, .int x_24, .int x_25, .ref q_20, .ref q_21, .int x_26, .int x_27, .ref q_22, .ref q_23, .ref q_24, .ref q_25, .int x_28, .int x_29, .int x_30])), (q_1, .inl (k 0, 400, .inl (upd (upd (upd (upd f_0 8 ((x_0 >>> (24 &&& 31)) &&& 255)) 9 ((x_0 >>> (16 &&& 31)) &&& 255)) 10 ((x_0 >>> (8 &&& 31)) &&& 255)) 11 ((x_0 >>> (0 &&& 31)) &&& 255))))] := hD
  refine lv_aload_n hx hb dX12_four_23 rfl (lv_at hl 1 rfl) ?_
  refine lv_dup hx hb dX12_four_24 rfl ?_
  refine va_get (D := D) (ci := 12) (v := .int 11) (C := RX12) (T := TX12) (N := 56) hx hb hts inX12 hown hK hP 0 rfl rfl 11 (by decide) (hts _ kF_X12_193) (fun _ h9 => h9) rfl dX12_four_25 ?_
  refine lv_iconst (v := 1) hx hb dX12_four_28 (by decide) ?_
  refine lv_iadd hx hb dX12_four_29 ?_
  refine lv_toc (v := 12) (by decide) ?_
  refine va_put (D := D) (ci := 12) (v := .int 12) (ty := .int) (C := RX12) (T := TX12) (N := 56) hx hb hts inX12 tyX12 tyX12_ok nmX12 hown hK hP hD hS 0 rfl rfl 11 (by decide) (hts _ kF_X12_193) (fun _ h9 => h9) rfl (by decide +kernel) rfl rfl (Nat.le_of_ble_eq_true rfl) dX12_four_30 (fun H locs hP hD hS => ?_)
  have hP : va_P D vwCl [(q_0, .inr (12, [.int x_1, .int x_2, .ref q_2, .ref q_3, .ref q_4, .int x_3, .ref q_5, .ref q_6, .ref q_7, .ref q_8, .ref q_1, .int 12, .int x_4, .int x_5, .int x_6, .long g_7, .int x_8, .int x_9, .int x_10, .ref q_9, .int x_11, .ref q_10, .ref q_11, .int x_12, .ref q_12, .ref q_13, .int x_13, .int x_14, .ref q_14, .ref q_15, .ref q_16, .ref q_17, .int x_15, .long g_16, .long g_17, .int x_18, .int x_19, .int x_20, .int x_21, .ref q_18, .ref q_19, .int x_22, .int x_23, .int x_24, .int x_25, .ref q_20, .ref q_21, .int x_26, .int x_27, .ref q_22, .ref q_23, .ref q_24, .ref q_25, .int x_28, .int x_29, .int x_30])), (q_1, .inl (k 0, 400, .inl (upd (upd (upd (upd f_0 8 ((x_0 >>> (24 &&& 31)) &&& 255)) 9 ((x_0 >>> (16 &&& 31)) &&& 255)) 10 ((x_0 >>> (8 &&& 31)) &&& 255)) 11 ((x_0 >>> (0 &&& 31)) &&& 255))))] H := hP
  have hD : va_D A [(q_0, .inr (12, [.int x_1, .int x_2, .ref q_2, .ref q_3, .ref q_4, .int x_3, .ref q_5, .ref q_6, .ref q_7, .ref q_8, .ref q_1, .int 12, .int x_4, .int x_5, .int x_6, .long g_7, .int x_8, .int x_9, .int x_10, .ref q_9, .int x_11, .ref q_10, .ref q_11, .int x_12, .ref q_12, .ref q_13, .int x_13, .int x_14, .ref q_14, .ref q_15, .ref q_16, .ref q_17, .int x_15, .long g_16, .long g_17, .int x_18, .int x_19, .int x_20, .int x_21, .ref q_18, .ref q_19, .int x_22, .int x_23, .int x_24, .int x_25, .ref q_20, .ref q_21, .int x_26, .int x_27, .ref q_22, .ref q_23, .ref q_24, .ref q_25, .int x_28, .int x_29, .int x_30])), (q_1, .inl (k 0, 400, .inl (upd (upd (upd (upd f_0 8 ((x_0 >>> (24 &&& 31)) &&& 255)) 9 ((x_0 >>> (16 &&& 31)) &&& 255)) 10 ((x_0 >>> (8 &&& 31)) &&& 255)) 11 ((x_0 >>> (0 &&& 31)) &&& 255))))] := hD
  refine lv_iinc (v := (-8)) (lv' := [(2, .int (-8)), (0, .ref q_0), (1, .int x_0)]) hx hb dX12_four_33 hl (k := 0) rfl (by decide) (by decide) rfl (fun ls hl => ?_)
  refine lv_goto (tgt := 3) hx hb dX12_four_36 (by decide) ?_
  refine lv_iload_n hx hb dX12_four_3 rfl (lv_at hl 0 rfl) ?_
  refine lv_if_lt (tgt := 39) hx hb dX12_four_4 (by decide) (fun _ => ?_) (fun c5 => absurd (by decide) c5)
  exact z_vret C0 hr hlk hK hP hD hS (0, fun _ => 0) rfl [0, 1] rfl rfl rfl dX12_four_39

set_option maxHeartbeats 4000000 in
set_option maxRecDepth 100000 in
theorem c_X12_four_4 (l : Launch) (D : va_G) (k : Nat → ClassId) (q_0 : Nat) (q_1 : Nat) (q_2 : Nat) (q_3 : Nat) (q_4 : Nat) (q_5 : Nat) (q_6 : Nat) (q_7 : Nat) (q_8 : Nat) (q_9 : Nat) (q_10 : Nat) (q_11 : Nat) (q_12 : Nat) (q_13 : Nat) (q_14 : Nat) (q_15 : Nat) (q_16 : Nat) (q_17 : Nat) (q_18 : Nat) (q_19 : Nat) (q_20 : Nat) (q_21 : Nat) (q_22 : Nat) (q_23 : Nat) (q_24 : Nat) (q_25 : Nat) (x_0 : Int32) (x_1 : Int32) (x_2 : Int32) (x_3 : Int32) (x_4 : Int32) (x_5 : Int32) (x_6 : Int32) (g_7 : Int64) (x_8 : Int32) (x_9 : Int32) (x_10 : Int32) (x_11 : Int32) (x_12 : Int32) (x_13 : Int32) (x_14 : Int32) (x_15 : Int32) (g_16 : Int64) (g_17 : Int64) (x_18 : Int32) (x_19 : Int32) (x_20 : Int32) (x_21 : Int32) (x_22 : Int32) (x_23 : Int32) (x_24 : Int32) (x_25 : Int32) (x_26 : Int32) (x_27 : Int32) (x_28 : Int32) (x_29 : Int32) (x_30 : Int32) (f_0 : Nat → Int32) : zMv l yX12_four cX12_four 3 none ({ frames := 0, cells := 0, slots := 0, locals := 0 }) D k [.ref q_0, .int x_0] [(q_0, .inr (12, [.int x_1, .int x_2, .ref q_2, .ref q_3, .ref q_4, .int x_3, .ref q_5, .ref q_6, .ref q_7, .ref q_8, .ref q_1, .int 12, .int x_4, .int x_5, .int x_6, .long g_7, .int x_8, .int x_9, .int x_10, .ref q_9, .int x_11, .ref q_10, .ref q_11, .int x_12, .ref q_12, .ref q_13, .int x_13, .int x_14, .ref q_14, .ref q_15, .ref q_16, .ref q_17, .int x_15, .long g_16, .long g_17, .int x_18, .int x_19, .int x_20, .int x_21, .ref q_18, .ref q_19, .int x_22, .int x_23, .int x_24, .int x_25, .ref q_20, .ref q_21, .int x_26, .int x_27, .ref q_22, .ref q_23, .ref q_24, .ref q_25, .int x_28, .int x_29, .int x_30])), (q_1, .inl (k 0, 400, .inl f_0))] (fun u => u.1 = 0) (fun u => [(q_0, .inr (12, [.int x_1, .int x_2, .ref q_2, .ref q_3, .ref q_4, .int x_3, .ref q_5, .ref q_6, .ref q_7, .ref q_8, .ref q_1, .int 16, .int x_4, .int x_5, .int x_6, .long g_7, .int x_8, .int x_9, .int x_10, .ref q_9, .int x_11, .ref q_10, .ref q_11, .int x_12, .ref q_12, .ref q_13, .int x_13, .int x_14, .ref q_14, .ref q_15, .ref q_16, .ref q_17, .int x_15, .long g_16, .long g_17, .int x_18, .int x_19, .int x_20, .int x_21, .ref q_18, .ref q_19, .int x_22, .int x_23, .int x_24, .int x_25, .ref q_20, .ref q_21, .int x_26, .int x_27, .ref q_22, .ref q_23, .ref q_24, .ref q_25, .int x_28, .int x_29, .int x_30])), (q_1, .inl (k 0, 400, .inl (upd (upd (upd (upd f_0 12 ((x_0 >>> (24 &&& 31)) &&& 255)) 13 ((x_0 >>> (16 &&& 31)) &&& 255)) 14 ((x_0 >>> (8 &&& 31)) &&& 255)) 15 ((x_0 >>> (0 &&& 31)) &&& 255))))]) := by
  refine zMv_of (own := RX12) (by decide +kernel) rfl (Nat.le_of_ble_eq_true rfl) ?_
  intro p e s m args below meth c A ls C0 hr hlk hin hP hD hS hA hK hN hl
  have hx := C0.1
  have hb := C0.2.1
  have hml := C0.2.2.1
  have hown := C0.2.2.2.1
  have hts := C0.2.2.2.2
  have hl : lv_has ls 3 [(0, .ref q_0), (1, .int x_0)] := hl
  have hP : va_P D vwCl [(q_0, .inr (12, [.int x_1, .int x_2, .ref q_2, .ref q_3, .ref q_4, .int x_3, .ref q_5, .ref q_6, .ref q_7, .ref q_8, .ref q_1, .int 12, .int x_4, .int x_5, .int x_6, .long g_7, .int x_8, .int x_9, .int x_10, .ref q_9, .int x_11, .ref q_10, .ref q_11, .int x_12, .ref q_12, .ref q_13, .int x_13, .int x_14, .ref q_14, .ref q_15, .ref q_16, .ref q_17, .int x_15, .long g_16, .long g_17, .int x_18, .int x_19, .int x_20, .int x_21, .ref q_18, .ref q_19, .int x_22, .int x_23, .int x_24, .int x_25, .ref q_20, .ref q_21, .int x_26, .int x_27, .ref q_22, .ref q_23, .ref q_24, .ref q_25, .int x_28, .int x_29, .int x_30])), (q_1, .inl (k 0, 400, .inl f_0))] s.heap := hP
  refine lv_bipush (v := 24) hx hb dX12_four_0 (by decide) ?_
  refine lv_istore_n (lv' := [(2, .int 24), (0, .ref q_0), (1, .int x_0)]) hx hb dX12_four_2 rfl hl (by decide) rfl (fun ls hl => ?_)
  refine lv_iload_n hx hb dX12_four_3 rfl (lv_at hl 0 rfl) ?_
  refine lv_if_lt (tgt := 39) hx hb dX12_four_4 (by decide) (fun c1 => absurd c1 (by decide)) (fun _ => ?_)
  refine lv_aload_n hx hb dX12_four_7 rfl (lv_at hl 1 rfl) ?_
  refine va_get (D := D) (ci := 12) (v := .ref q_1) (C := RX12) (T := TX12) (N := 56) hx hb hts inX12 hown hK hP 0 rfl rfl 10 (by decide) (hts _ kF_X12_33) (fun _ h9 => h9) rfl dX12_four_8 ?_
  refine lv_aload_n hx hb dX12_four_11 rfl (lv_at hl 1 rfl) ?_
  refine va_get (D := D) (ci := 12) (v := .int 12) (C := RX12) (T := TX12) (N := 56) hx hb hts inX12 hown hK hP 0 rfl rfl 11 (by decide) (hts _ kF_X12_193) (fun _ h9 => h9) rfl dX12_four_12 ?_
  refine lv_iload_n hx hb dX12_four_15 rfl (lv_at hl 2 rfl) ?_
  refine lv_iload_n hx hb dX12_four_16 rfl (lv_at hl 0 rfl) ?_
  refine lv_ishr hx hb dX12_four_17 ?_
  refine lv_sipush (v := 255) hx hb dX12_four_18 (by decide) ?_
  refine lv_iand hx hb dX12_four_21 ?_
  refine va_iast hx hb hK hP hD hS 1 0 rfl rfl (by unfold vp_in; decide) dX12_four_22 (fun H locs hP hD hS => ?_)
  have hP : va_P D vwCl [(q_0, .inr (12, [.int x_1, .int x_2, .ref q_2, .ref q_3, .ref q_4, .int x_3, .ref q_5, .ref q_6, .ref q_7, .ref q_8, .ref q_1, .int 12, .int x_4, .int x_5, .int x_6, .long g_7, .int x_8, .int x_9, .int x_10, .ref q_9, .int x_11, .ref q_10, .ref q_11, .int x_12, .ref q_12, .ref q_13, .int x_13, .int x_14, .ref q_14, .ref q_15, .ref q_16, .ref q_17, .int x_15, .long g_16, .long g_17, .int x_18, .int x_19, .int x_20, .int x_21, .ref q_18, .ref q_19, .int x_22, .int x_23, .int x_24, .int x_25, .ref q_20, .ref q_21, .int x_26, .int x_27, .ref q_22, .ref q_23, .ref q_24, .ref q_25, .int x_28, .int x_29, .int x_30])), (q_1, .inl (k 0, 400, .inl (upd f_0 12 ((x_0 >>> (24 &&& 31)) &&& 255))))] H := hP
  have hD : va_D A [(q_0, .inr (12, [.int x_1, .int x_2, .ref q_2, .ref q_3, .ref q_4, .int x_3, .ref q_5, .ref q_6, .ref q_7, .ref q_8, .ref q_1, .int 12, .int x_4, .int x_5, .int x_6, .long g_7, .int x_8, .int x_9, .int x_10, .ref q_9, .int x_11, .ref q_10, .ref q_11, .int x_12, .ref q_12, .ref q_13, .int x_13, .int x_14, .ref q_14, .ref q_15, .ref q_16, .ref q_17, .int x_15, .long g_16, .long g_17, .int x_18, .int x_19, .int x_20, .int x_21, .ref q_18, .ref q_19, .int x_22, .int x_23, .int x_24, .int x_25, .ref q_20, .ref q_21, .int x_26, .int x_27, .ref q_22, .ref q_23, .ref q_24, .ref q_25, .int x_28, .int x_29, .int x_30])), (q_1, .inl (k 0, 400, .inl (upd f_0 12 ((x_0 >>> (24 &&& 31)) &&& 255))))] := hD
  refine lv_aload_n hx hb dX12_four_23 rfl (lv_at hl 1 rfl) ?_
  refine lv_dup hx hb dX12_four_24 rfl ?_
  refine va_get (D := D) (ci := 12) (v := .int 12) (C := RX12) (T := TX12) (N := 56) hx hb hts inX12 hown hK hP 0 rfl rfl 11 (by decide) (hts _ kF_X12_193) (fun _ h9 => h9) rfl dX12_four_25 ?_
  refine lv_iconst (v := 1) hx hb dX12_four_28 (by decide) ?_
  refine lv_iadd hx hb dX12_four_29 ?_
  refine lv_toc (v := 13) (by decide) ?_
  refine va_put (D := D) (ci := 12) (v := .int 13) (ty := .int) (C := RX12) (T := TX12) (N := 56) hx hb hts inX12 tyX12 tyX12_ok nmX12 hown hK hP hD hS 0 rfl rfl 11 (by decide) (hts _ kF_X12_193) (fun _ h9 => h9) rfl (by decide +kernel) rfl rfl (Nat.le_of_ble_eq_true rfl) dX12_four_30 (fun H locs hP hD hS => ?_)
  have hP : va_P D vwCl [(q_0, .inr (12, [.int x_1, .int x_2, .ref q_2, .ref q_3, .ref q_4, .int x_3, .ref q_5, .ref q_6, .ref q_7, .ref q_8, .ref q_1, .int 13, .int x_4, .int x_5, .int x_6, .long g_7, .int x_8, .int x_9, .int x_10, .ref q_9, .int x_11, .ref q_10, .ref q_11, .int x_12, .ref q_12, .ref q_13, .int x_13, .int x_14, .ref q_14, .ref q_15, .ref q_16, .ref q_17, .int x_15, .long g_16, .long g_17, .int x_18, .int x_19, .int x_20, .int x_21, .ref q_18, .ref q_19, .int x_22, .int x_23, .int x_24, .int x_25, .ref q_20, .ref q_21, .int x_26, .int x_27, .ref q_22, .ref q_23, .ref q_24, .ref q_25, .int x_28, .int x_29, .int x_30])), (q_1, .inl (k 0, 400, .inl (upd f_0 12 ((x_0 >>> (24 &&& 31)) &&& 255))))] H := hP
  have hD : va_D A [(q_0, .inr (12, [.int x_1, .int x_2, .ref q_2, .ref q_3, .ref q_4, .int x_3, .ref q_5, .ref q_6, .ref q_7, .ref q_8, .ref q_1, .int 13, .int x_4, .int x_5, .int x_6, .long g_7, .int x_8, .int x_9, .int x_10, .ref q_9, .int x_11, .ref q_10, .ref q_11, .int x_12, .ref q_12, .ref q_13, .int x_13, .int x_14, .ref q_14, .ref q_15, .ref q_16, .ref q_17, .int x_15, .long g_16, .long g_17, .int x_18, .int x_19, .int x_20, .int x_21, .ref q_18, .ref q_19, .int x_22, .int x_23, .int x_24, .int x_25, .ref q_20, .ref q_21, .int x_26, .int x_27, .ref q_22, .ref q_23, .ref q_24, .ref q_25, .int x_28, .int x_29, .int x_30])), (q_1, .inl (k 0, 400, .inl (upd f_0 12 ((x_0 >>> (24 &&& 31)) &&& 255))))] := hD
  refine lv_iinc (v := 16) (lv' := [(2, .int 16), (0, .ref q_0), (1, .int x_0)]) hx hb dX12_four_33 hl (k := 0) rfl (by decide) (by decide) rfl (fun ls hl => ?_)
  refine lv_goto (tgt := 3) hx hb dX12_four_36 (by decide) ?_
  refine lv_iload_n hx hb dX12_four_3 rfl (lv_at hl 0 rfl) ?_
  refine lv_if_lt (tgt := 39) hx hb dX12_four_4 (by decide) (fun c2 => absurd c2 (by decide)) (fun _ => ?_)
  refine lv_aload_n hx hb dX12_four_7 rfl (lv_at hl 1 rfl) ?_
  refine va_get (D := D) (ci := 12) (v := .ref q_1) (C := RX12) (T := TX12) (N := 56) hx hb hts inX12 hown hK hP 0 rfl rfl 10 (by decide) (hts _ kF_X12_33) (fun _ h9 => h9) rfl dX12_four_8 ?_
  refine lv_aload_n hx hb dX12_four_11 rfl (lv_at hl 1 rfl) ?_
  refine va_get (D := D) (ci := 12) (v := .int 13) (C := RX12) (T := TX12) (N := 56) hx hb hts inX12 hown hK hP 0 rfl rfl 11 (by decide) (hts _ kF_X12_193) (fun _ h9 => h9) rfl dX12_four_12 ?_
  refine lv_iload_n hx hb dX12_four_15 rfl (lv_at hl 2 rfl) ?_
  refine lv_iload_n hx hb dX12_four_16 rfl (lv_at hl 0 rfl) ?_
  refine lv_ishr hx hb dX12_four_17 ?_
  refine lv_sipush (v := 255) hx hb dX12_four_18 (by decide) ?_
  refine lv_iand hx hb dX12_four_21 ?_
  refine va_iast hx hb hK hP hD hS 1 0 rfl rfl (by unfold vp_in; decide) dX12_four_22 (fun H locs hP hD hS => ?_)
  have hP : va_P D vwCl [(q_0, .inr (12, [.int x_1, .int x_2, .ref q_2, .ref q_3, .ref q_4, .int x_3, .ref q_5, .ref q_6, .ref q_7, .ref q_8, .ref q_1, .int 13, .int x_4, .int x_5, .int x_6, .long g_7, .int x_8, .int x_9, .int x_10, .ref q_9, .int x_11, .ref q_10, .ref q_11, .int x_12, .ref q_12, .ref q_13, .int x_13, .int x_14, .ref q_14, .ref q_15, .ref q_16, .ref q_17, .int x_15, .long g_16, .long g_17, .int x_18, .int x_19, .int x_20, .int x_21, .ref q_18, .ref q_19, .int x_22, .int x_23, .int x_24, .int x_25, .ref q_20, .ref q_21, .int x_26, .int x_27, .ref q_22, .ref q_23, .ref q_24, .ref q_25, .int x_28, .int x_29, .int x_30])), (q_1, .inl (k 0, 400, .inl (upd (upd f_0 12 ((x_0 >>> (24 &&& 31)) &&& 255)) 13 ((x_0 >>> (16 &&& 31)) &&& 255))))] H := hP
  have hD : va_D A [(q_0, .inr (12, [.int x_1, .int x_2, .ref q_2, .ref q_3, .ref q_4, .int x_3, .ref q_5, .ref q_6, .ref q_7, .ref q_8, .ref q_1, .int 13, .int x_4, .int x_5, .int x_6, .long g_7, .int x_8, .int x_9, .int x_10, .ref q_9, .int x_11, .ref q_10, .ref q_11, .int x_12, .ref q_12, .ref q_13, .int x_13, .int x_14, .ref q_14, .ref q_15, .ref q_16, .ref q_17, .int x_15, .long g_16, .long g_17, .int x_18, .int x_19, .int x_20, .int x_21, .ref q_18, .ref q_19, .int x_22, .int x_23, .int x_24, .int x_25, .ref q_20, .ref q_21, .int x_26, .int x_27, .ref q_22, .ref q_23, .ref q_24, .ref q_25, .int x_28, .int x_29, .int x_30])), (q_1, .inl (k 0, 400, .inl (upd (upd f_0 12 ((x_0 >>> (24 &&& 31)) &&& 255)) 13 ((x_0 >>> (16 &&& 31)) &&& 255))))] := hD
  refine lv_aload_n hx hb dX12_four_23 rfl (lv_at hl 1 rfl) ?_
  refine lv_dup hx hb dX12_four_24 rfl ?_
  refine va_get (D := D) (ci := 12) (v := .int 13) (C := RX12) (T := TX12) (N := 56) hx hb hts inX12 hown hK hP 0 rfl rfl 11 (by decide) (hts _ kF_X12_193) (fun _ h9 => h9) rfl dX12_four_25 ?_
  refine lv_iconst (v := 1) hx hb dX12_four_28 (by decide) ?_
  refine lv_iadd hx hb dX12_four_29 ?_
  refine lv_toc (v := 14) (by decide) ?_
  refine va_put (D := D) (ci := 12) (v := .int 14) (ty := .int) (C := RX12) (T := TX12) (N := 56) hx hb hts inX12 tyX12 tyX12_ok nmX12 hown hK hP hD hS 0 rfl rfl 11 (by decide) (hts _ kF_X12_193) (fun _ h9 => h9) rfl (by decide +kernel) rfl rfl (Nat.le_of_ble_eq_true rfl) dX12_four_30 (fun H locs hP hD hS => ?_)
  have hP : va_P D vwCl [(q_0, .inr (12, [.int x_1, .int x_2, .ref q_2, .ref q_3, .ref q_4, .int x_3, .ref q_5, .ref q_6, .ref q_7, .ref q_8, .ref q_1, .int 14, .int x_4, .int x_5, .int x_6, .long g_7, .int x_8, .int x_9, .int x_10, .ref q_9, .int x_11, .ref q_10, .ref q_11, .int x_12, .ref q_12, .ref q_13, .int x_13, .int x_14, .ref q_14, .ref q_15, .ref q_16, .ref q_17, .int x_15, .long g_16, .long g_17, .int x_18, .int x_19, .int x_20, .int x_21, .ref q_18, .ref q_19, .int x_22, .int x_23, .int x_24, .int x_25, .ref q_20, .ref q_21, .int x_26, .int x_27, .ref q_22, .ref q_23, .ref q_24, .ref q_25, .int x_28, .int x_29, .int x_30])), (q_1, .inl (k 0, 400, .inl (upd (upd f_0 12 ((x_0 >>> (24 &&& 31)) &&& 255)) 13 ((x_0 >>> (16 &&& 31)) &&& 255))))] H := hP
  have hD : va_D A [(q_0, .inr (12, [.int x_1, .int x_2, .ref q_2, .ref q_3, .ref q_4, .int x_3, .ref q_5, .ref q_6, .ref q_7, .ref q_8, .ref q_1, .int 14, .int x_4, .int x_5, .int x_6, .long g_7, .int x_8, .int x_9, .int x_10, .ref q_9, .int x_11, .ref q_10, .ref q_11, .int x_12, .ref q_12, .ref q_13, .int x_13, .int x_14, .ref q_14, .ref q_15, .ref q_16, .ref q_17, .int x_15, .long g_16, .long g_17, .int x_18, .int x_19, .int x_20, .int x_21, .ref q_18, .ref q_19, .int x_22, .int x_23, .int x_24, .int x_25, .ref q_20, .ref q_21, .int x_26, .int x_27, .ref q_22, .ref q_23, .ref q_24, .ref q_25, .int x_28, .int x_29, .int x_30])), (q_1, .inl (k 0, 400, .inl (upd (upd f_0 12 ((x_0 >>> (24 &&& 31)) &&& 255)) 13 ((x_0 >>> (16 &&& 31)) &&& 255))))] := hD
  refine lv_iinc (v := 8) (lv' := [(2, .int 8), (0, .ref q_0), (1, .int x_0)]) hx hb dX12_four_33 hl (k := 0) rfl (by decide) (by decide) rfl (fun ls hl => ?_)
  refine lv_goto (tgt := 3) hx hb dX12_four_36 (by decide) ?_
  refine lv_iload_n hx hb dX12_four_3 rfl (lv_at hl 0 rfl) ?_
  refine lv_if_lt (tgt := 39) hx hb dX12_four_4 (by decide) (fun c3 => absurd c3 (by decide)) (fun _ => ?_)
  refine lv_aload_n hx hb dX12_four_7 rfl (lv_at hl 1 rfl) ?_
  refine va_get (D := D) (ci := 12) (v := .ref q_1) (C := RX12) (T := TX12) (N := 56) hx hb hts inX12 hown hK hP 0 rfl rfl 10 (by decide) (hts _ kF_X12_33) (fun _ h9 => h9) rfl dX12_four_8 ?_
  refine lv_aload_n hx hb dX12_four_11 rfl (lv_at hl 1 rfl) ?_
  refine va_get (D := D) (ci := 12) (v := .int 14) (C := RX12) (T := TX12) (N := 56) hx hb hts inX12 hown hK hP 0 rfl rfl 11 (by decide) (hts _ kF_X12_193) (fun _ h9 => h9) rfl dX12_four_12 ?_
  refine lv_iload_n hx hb dX12_four_15 rfl (lv_at hl 2 rfl) ?_
  refine lv_iload_n hx hb dX12_four_16 rfl (lv_at hl 0 rfl) ?_
  refine lv_ishr hx hb dX12_four_17 ?_
  refine lv_sipush (v := 255) hx hb dX12_four_18 (by decide) ?_
  refine lv_iand hx hb dX12_four_21 ?_
  refine va_iast hx hb hK hP hD hS 1 0 rfl rfl (by unfold vp_in; decide) dX12_four_22 (fun H locs hP hD hS => ?_)
  have hP : va_P D vwCl [(q_0, .inr (12, [.int x_1, .int x_2, .ref q_2, .ref q_3, .ref q_4, .int x_3, .ref q_5, .ref q_6, .ref q_7, .ref q_8, .ref q_1, .int 14, .int x_4, .int x_5, .int x_6, .long g_7, .int x_8, .int x_9, .int x_10, .ref q_9, .int x_11, .ref q_10, .ref q_11, .int x_12, .ref q_12, .ref q_13, .int x_13, .int x_14, .ref q_14, .ref q_15, .ref q_16, .ref q_17, .int x_15, .long g_16, .long g_17, .int x_18, .int x_19, .int x_20, .int x_21, .ref q_18, .ref q_19, .int x_22, .int x_23, .int x_24, .int x_25, .ref q_20, .ref q_21, .int x_26, .int x_27, .ref q_22, .ref q_23, .ref q_24, .ref q_25, .int x_28, .int x_29, .int x_30])), (q_1, .inl (k 0, 400, .inl (upd (upd (upd f_0 12 ((x_0 >>> (24 &&& 31)) &&& 255)) 13 ((x_0 >>> (16 &&& 31)) &&& 255)) 14 ((x_0 >>> (8 &&& 31)) &&& 255))))] H := hP
  have hD : va_D A [(q_0, .inr (12, [.int x_1, .int x_2, .ref q_2, .ref q_3, .ref q_4, .int x_3, .ref q_5, .ref q_6, .ref q_7, .ref q_8, .ref q_1, .int 14, .int x_4, .int x_5, .int x_6, .long g_7, .int x_8, .int x_9, .int x_10, .ref q_9, .int x_11, .ref q_10, .ref q_11, .int x_12, .ref q_12, .ref q_13, .int x_13, .int x_14, .ref q_14, .ref q_15, .ref q_16, .ref q_17, .int x_15, .long g_16, .long g_17, .int x_18, .int x_19, .int x_20, .int x_21, .ref q_18, .ref q_19, .int x_22, .int x_23, .int x_24, .int x_25, .ref q_20, .ref q_21, .int x_26, .int x_27, .ref q_22, .ref q_23, .ref q_24, .ref q_25, .int x_28, .int x_29, .int x_30])), (q_1, .inl (k 0, 400, .inl (upd (upd (upd f_0 12 ((x_0 >>> (24 &&& 31)) &&& 255)) 13 ((x_0 >>> (16 &&& 31)) &&& 255)) 14 ((x_0 >>> (8 &&& 31)) &&& 255))))] := hD
  refine lv_aload_n hx hb dX12_four_23 rfl (lv_at hl 1 rfl) ?_
  refine lv_dup hx hb dX12_four_24 rfl ?_
  refine va_get (D := D) (ci := 12) (v := .int 14) (C := RX12) (T := TX12) (N := 56) hx hb hts inX12 hown hK hP 0 rfl rfl 11 (by decide) (hts _ kF_X12_193) (fun _ h9 => h9) rfl dX12_four_25 ?_
  refine lv_iconst (v := 1) hx hb dX12_four_28 (by decide) ?_
  refine lv_iadd hx hb dX12_four_29 ?_
  refine lv_toc (v := 15) (by decide) ?_
  refine va_put (D := D) (ci := 12) (v := .int 15) (ty := .int) (C := RX12) (T := TX12) (N := 56) hx hb hts inX12 tyX12 tyX12_ok nmX12 hown hK hP hD hS 0 rfl rfl 11 (by decide) (hts _ kF_X12_193) (fun _ h9 => h9) rfl (by decide +kernel) rfl rfl (Nat.le_of_ble_eq_true rfl) dX12_four_30 (fun H locs hP hD hS => ?_)
  have hP : va_P D vwCl [(q_0, .inr (12, [.int x_1, .int x_2, .ref q_2, .ref q_3, .ref q_4, .int x_3, .ref q_5, .ref q_6, .ref q_7, .ref q_8, .ref q_1, .int 15, .int x_4, .int x_5, .int x_6, .long g_7, .int x_8, .int x_9, .int x_10, .ref q_9, .int x_11, .ref q_10, .ref q_11, .int x_12, .ref q_12, .ref q_13, .int x_13, .int x_14, .ref q_14, .ref q_15, .ref q_16, .ref q_17, .int x_15, .long g_16, .long g_17, .int x_18, .int x_19, .int x_20, .int x_21, .ref q_18, .ref q_19, .int x_22, .int x_23, .int x_24, .int x_25, .ref q_20, .ref q_21, .int x_26, .int x_27, .ref q_22, .ref q_23, .ref q_24, .ref q_25, .int x_28, .int x_29, .int x_30])), (q_1, .inl (k 0, 400, .inl (upd (upd (upd f_0 12 ((x_0 >>> (24 &&& 31)) &&& 255)) 13 ((x_0 >>> (16 &&& 31)) &&& 255)) 14 ((x_0 >>> (8 &&& 31)) &&& 255))))] H := hP
  have hD : va_D A [(q_0, .inr (12, [.int x_1, .int x_2, .ref q_2, .ref q_3, .ref q_4, .int x_3, .ref q_5, .ref q_6, .ref q_7, .ref q_8, .ref q_1, .int 15, .int x_4, .int x_5, .int x_6, .long g_7, .int x_8, .int x_9, .int x_10, .ref q_9, .int x_11, .ref q_10, .ref q_11, .int x_12, .ref q_12, .ref q_13, .int x_13, .int x_14, .ref q_14, .ref q_15, .ref q_16, .ref q_17, .int x_15, .long g_16, .long g_17, .int x_18, .int x_19, .int x_20, .int x_21, .ref q_18, .ref q_19, .int x_22, .int x_23, .int x_24, .int x_25, .ref q_20, .ref q_21, .int x_26, .int x_27, .ref q_22, .ref q_23, .ref q_24, .ref q_25, .int x_28, .int x_29, .int x_30])), (q_1, .inl (k 0, 400, .inl (upd (upd (upd f_0 12 ((x_0 >>> (24 &&& 31)) &&& 255)) 13 ((x_0 >>> (16 &&& 31)) &&& 255)) 14 ((x_0 >>> (8 &&& 31)) &&& 255))))] := hD
  refine lv_iinc (v := 0) (lv' := [(2, .int 0), (0, .ref q_0), (1, .int x_0)]) hx hb dX12_four_33 hl (k := 0) rfl (by decide) (by decide) rfl (fun ls hl => ?_)
  refine lv_goto (tgt := 3) hx hb dX12_four_36 (by decide) ?_
  refine lv_iload_n hx hb dX12_four_3 rfl (lv_at hl 0 rfl) ?_
  refine lv_if_lt (tgt := 39) hx hb dX12_four_4 (by decide) (fun c4 => absurd c4 (by decide)) (fun _ => ?_)
  refine lv_aload_n hx hb dX12_four_7 rfl (lv_at hl 1 rfl) ?_
  refine va_get (D := D) (ci := 12) (v := .ref q_1) (C := RX12) (T := TX12) (N := 56) hx hb hts inX12 hown hK hP 0 rfl rfl 10 (by decide) (hts _ kF_X12_33) (fun _ h9 => h9) rfl dX12_four_8 ?_
  refine lv_aload_n hx hb dX12_four_11 rfl (lv_at hl 1 rfl) ?_
  refine va_get (D := D) (ci := 12) (v := .int 15) (C := RX12) (T := TX12) (N := 56) hx hb hts inX12 hown hK hP 0 rfl rfl 11 (by decide) (hts _ kF_X12_193) (fun _ h9 => h9) rfl dX12_four_12 ?_
  refine lv_iload_n hx hb dX12_four_15 rfl (lv_at hl 2 rfl) ?_
  refine lv_iload_n hx hb dX12_four_16 rfl (lv_at hl 0 rfl) ?_
  refine lv_ishr hx hb dX12_four_17 ?_
  refine lv_sipush (v := 255) hx hb dX12_four_18 (by decide) ?_
  refine lv_iand hx hb dX12_four_21 ?_
  refine va_iast hx hb hK hP hD hS 1 0 rfl rfl (by unfold vp_in; decide) dX12_four_22 (fun H locs hP hD hS => ?_)
  have hP : va_P D vwCl [(q_0, .inr (12, [.int x_1, .int x_2, .ref q_2, .ref q_3, .ref q_4, .int x_3, .ref q_5, .ref q_6, .ref q_7, .ref q_8, .ref q_1, .int 15, .int x_4, .int x_5, .int x_6, .long g_7, .int x_8, .int x_9, .int x_10, .ref q_9, .int x_11, .ref q_10, .ref q_11, .int x_12, .ref q_12, .ref q_13, .int x_13, .int x_14, .ref q_14, .ref q_15, .ref q_16, .ref q_17, .int x_15, .long g_16, .long g_17, .int x_18, .int x_19, .int x_20, .int x_21, .ref q_18, .ref q_19, .int x_22, .int x_23, .int x_24, .int x_25, .ref q_20, .ref q_21, .int x_26, .int x_27, .ref q_22, .ref q_23, .ref q_24, .ref q_25, .int x_28, .int x_29, .int x_30])), (q_1, .inl (k 0, 400, .inl (upd (upd (upd (upd f_0 12 ((x_0 >>> (24 &&& 31)) &&& 255)) 13 ((x_0 >>> (16 &&& 31)) &&& 255)) 14 ((x_0 >>> (8 &&& 31)) &&& 255)) 15 ((x_0 >>> (0 &&& 31)) &&& 255))))] H := hP
  have hD : va_D A [(q_0, .inr (12, [.int x_1, .int x_2, .ref q_2, .ref q_3, .ref q_4, .int x_3, .ref q_5, .ref q_6, .ref q_7, .ref q_8, .ref q_1, .int 15, .int x_4, .int x_5, .int x_6, .long g_7, .int x_8, .int x_9, .int x_10, .ref q_9, .int x_11, .ref q_10, .ref q_11, .int x_12, .ref q_12, .ref q_13, .int x_13, .int x_14, .ref q_14, .ref q_15, .ref q_16, .ref q_17, .int x_15, .long g_16, .long g_17, .int x_18, .int x_19, .int x_20, .int x_21, .ref q_18, .ref q_19, .int x_22, .int x_23, .int x_24, .int x_25, .ref q_20, .ref q_21, .int x_26, .int x_27, .ref q_22, .ref q_23, .ref q_24, .ref q_25, .int x_28, .int x_29, .int x_30])), (q_1, .inl (k 0, 400, .inl (upd (upd (upd (upd f_0 12 ((x_0 >>> (24 &&& 31)) &&& 255)) 13 ((x_0 >>> (16 &&& 31)) &&& 255)) 14 ((x_0 >>> (8 &&& 31)) &&& 255)) 15 ((x_0 >>> (0 &&& 31)) &&& 255))))] := hD
  refine lv_aload_n hx hb dX12_four_23 rfl (lv_at hl 1 rfl) ?_
  refine lv_dup hx hb dX12_four_24 rfl ?_
  refine va_get (D := D) (ci := 12) (v := .int 15) (C := RX12) (T := TX12) (N := 56) hx hb hts inX12 hown hK hP 0 rfl rfl 11 (by decide) (hts _ kF_X12_193) (fun _ h9 => h9) rfl dX12_four_25 ?_
  refine lv_iconst (v := 1) hx hb dX12_four_28 (by decide) ?_
  refine lv_iadd hx hb dX12_four_29 ?_
  refine lv_toc (v := 16) (by decide) ?_
  refine va_put (D := D) (ci := 12) (v := .int 16) (ty := .int) (C := RX12) (T := TX12) (N := 56) hx hb hts inX12 tyX12 tyX12_ok nmX12 hown hK hP hD hS 0 rfl rfl 11 (by decide) (hts _ kF_X12_193) (fun _ h9 => h9) rfl (by decide +kernel) rfl rfl (Nat.le_of_ble_eq_true rfl) dX12_four_30 (fun H locs hP hD hS => ?_)
  have hP : va_P D vwCl [(q_0, .inr (12, [.int x_1, .int x_2, .ref q_2, .ref q_3, .ref q_4, .int x_3, .ref q_5, .ref q_6, .ref q_7, .ref q_8, .ref q_1, .int 16, .int x_4, .int x_5, .int x_6, .long g_7, .int x_8, .int x_9, .int x_10, .ref q_9, .int x_11, .ref q_10, .ref q_11, .int x_12, .ref q_12, .ref q_13, .int x_13, .int x_14, .ref q_14, .ref q_15, .ref q_16, .ref q_17, .int x_15, .long g_16, .long g_17, .int x_18, .int x_19, .int x_20, .int x_21, .ref q_18, .ref q_19, .int x_22, .int x_23, .int x_24, .int x_25, .ref q_20, .ref q_21, .int x_26, .int x_27, .ref q_22, .ref q_23, .ref q_24, .ref q_25, .int x_28, .int x_29, .int x_30])), (q_1, .inl (k 0, 400, .inl (upd (upd (upd (upd f_0 12 ((x_0 >>> (24 &&& 31)) &&& 255)) 13 ((x_0 >>> (16 &&& 31)) &&& 255)) 14 ((x_0 >>> (8 &&& 31)) &&& 255)) 15 ((x_0 >>> (0 &&& 31)) &&& 255))))] H := hP
  have hD : va_D A [(q_0, .inr (12, [.int x_1, .int x_2, .ref q_2, .ref q_3, .ref q_4, .int x_3, .ref q_5, .ref q_6, .ref q_7, .ref q_8, .ref q_1, .int 16, .int x_4, .int x_5, .int x_6, .long g_7, .int x_8, .int x_9, .int x_10, .ref q_9, .int x_11, .ref q_10, .ref q_11, .int x_12, .ref q_12, .ref q_13, .int x_13, .int x_14, .ref q_14, .ref q_15, .ref q_16, .ref q_17, .int x_15, .long g_16, .long g_17, .int x_18, .int x_19, .int x_20, .int x_21, .ref q_18, .ref q_19, .int x_22, .int x_23, .int x_24, .int x_25, .ref q_20, .ref q_21, .int x_26, .int x_27, .ref q_22, .ref q_23, .ref q_24, .ref q_25, .int x_28, .int x_29, .int x_30])), (q_1, .inl (k 0, 400, .inl (upd (upd (upd (upd f_0 12 ((x_0 >>> (24 &&& 31)) &&& 255)) 13 ((x_0 >>> (16 &&& 31)) &&& 255)) 14 ((x_0 >>> (8 &&& 31)) &&& 255)) 15 ((x_0 >>> (0 &&& 31)) &&& 255))))] := hD
  refine lv_iinc (v := (-8)) (lv' := [(2, .int (-8)), (0, .ref q_0), (1, .int x_0)]) hx hb dX12_four_33 hl (k := 0) rfl (by decide) (by decide) rfl (fun ls hl => ?_)
  refine lv_goto (tgt := 3) hx hb dX12_four_36 (by decide) ?_
  refine lv_iload_n hx hb dX12_four_3 rfl (lv_at hl 0 rfl) ?_
  refine lv_if_lt (tgt := 39) hx hb dX12_four_4 (by decide) (fun _ => ?_) (fun c5 => absurd (by decide) c5)
  exact z_vret C0 hr hlk hK hP hD hS (0, fun _ => 0) rfl [0, 1] rfl rfl rfl dX12_four_39
