set_option maxHeartbeats 4000000 in
set_option maxRecDepth 100000 in
theorem s_X5_turnBits_1 (l : Launch) (D : va_G) (k : Nat → ClassId) (q_0 : Nat) (q_1 : Nat) (q_2 : Nat) (q_3 : Nat) (q_4 : Nat) (q_5 : Nat) (q_6 : Nat) (q_7 : Nat) (q_8 : Nat) (q_9 : Nat) (q_10 : Nat) (q_11 : Nat) (q_12 : Nat) (x_0 : Int32) (x_1 : Int32) (x_2 : Int32) (x_3 : Int32) (x_4 : Int32) (f_5 : Nat → Int32) (f_6 : Nat → Int32) (h_x_0 : 0 ≤ Int32.toInt x_0 ∧ Int32.toInt x_0 ≤ 399) (h_x_1 : 1 ≤ Int32.toInt x_1 ∧ Int32.toInt x_1 ≤ 7) (h_x_2 : 1 ≤ Int32.toInt x_2 ∧ Int32.toInt x_2 ≤ 400) : zMi l yX5_turnBits cX5_turnBits 4 (some .int) ({ frames := 1, cells := 0, slots := 0, locals := 21 }) D k [.ref q_0, .int x_0, .int x_1] [(q_0, .inr (5, [.int x_2, .ref q_3, .ref q_4, .ref q_5, .ref q_2, .ref q_1, .ref q_6, .ref q_7, .ref q_8, .ref q_9, .ref q_10, .ref q_11, .ref q_12, .int x_3, .int x_4])), (q_1, .inl (k 0, 400, .inl f_5)), (q_2, .inl (k 0, 400, .inl f_6))] (fun r u => u.1 = 0) (fun u => [(q_0, .inr (5, [.int x_2, .ref q_3, .ref q_4, .ref q_5, .ref q_2, .ref q_1, .ref q_6, .ref q_7, .ref q_8, .ref q_9, .ref q_10, .ref q_11, .ref q_12, .int x_3, .int x_4])), (q_1, .inl (k 0, 400, .inl (u.2.2.2.2.1 0))), (q_2, .inl (k 0, 400, .inl (u.2.2.2.2.1 1)))]) := by
  refine zMi_of (own := RX5) (by decide +kernel) rfl (Nat.le_of_ble_eq_true rfl) ?_
  intro p e s m args below meth c A ls C0 hr hlk hin hP hD hS hA hK hN hl
  have hx := C0.1
  have hb := C0.2.1
  have hml := C0.2.2.1
  have hown := C0.2.2.2.1
  have hts := C0.2.2.2.2
  have hl : lv_has ls 4 [(0, .ref q_0), (1, .int x_0), (2, .int x_1)] := hl
  have hP : va_P D vwCl [(q_0, .inr (5, [.int x_2, .ref q_3, .ref q_4, .ref q_5, .ref q_2, .ref q_1, .ref q_6, .ref q_7, .ref q_8, .ref q_9, .ref q_10, .ref q_11, .ref q_12, .int x_3, .int x_4])), (q_1, .inl (k 0, 400, .inl f_5)), (q_2, .inl (k 0, 400, .inl f_6))] s.heap := hP
  refine lv_aload_n hx hb dX5_turnBits_0 rfl (lv_at hl 0 rfl) ?_
  refine lv_iload_n hx hb dX5_turnBits_1 rfl (lv_at hl 1 rfl) ?_
  refine z_bi (wr := []) (z_runV (C := RX5) (As := [.int x_0]) (rest := []) C0 (s_X5_numberOf_10 l D k q_0 q_1 q_2 q_3 q_4 q_5 q_6 q_7 q_8 q_9 q_10 q_11 q_12 x_0 x_2 x_3 x_4 f_5 f_6 (by revert h_x_0; first | omega | (simp only [vp_in_iff, Int32.lt_iff_toInt_lt, Int32.le_iff_toInt_le, Int64.lt_iff_toInt_lt, Int64.le_iff_toInt_le, Int32.toInt_toInt64, ← Int32.toInt_inj, ← Int64.toInt_inj, Int32.reduceToInt, Int64.reduceToInt] <;> omega)) (by revert h_x_2; first | omega | (simp only [vp_in_iff, Int32.lt_iff_toInt_lt, Int32.le_iff_toInt_le, Int64.lt_iff_toInt_lt, Int64.le_iff_toInt_le, Int32.toInt_toInt64, ← Int32.toInt_inj, ← Int64.toInt_inj, Int32.reduceToInt, Int64.reduceToInt] <;> omega)) _) okV_X5_numberOf kM_X5_62 rfl (z_pV (q0 := 0) hK hN hP hD [0, 1, 2] rfl rfl rfl rfl rfl) rfl hl.1 rfl (Nat.le_of_ble_eq_true rfl) dX5_turnBits_2 rfl) hP hD hS hA [0, 1, 2] [] rfl rfl rfl rfl (fun r1 u1 H locs hw1 hP hD hS => ?_)
  obtain ⟨i1, a1, v1, w1, f1, g1, o1⟩ := u1
  dsimp only at hw1
  obtain rfl := hw1
  have hP : va_P D vwCl [(q_0, .inr (5, [.int x_2, .ref q_3, .ref q_4, .ref q_5, .ref q_2, .ref q_1, .ref q_6, .ref q_7, .ref q_8, .ref q_9, .ref q_10, .ref q_11, .ref q_12, .int x_3, .int x_4])), (q_1, .inl (k 0, 400, .inl f_5)), (q_2, .inl (k 0, 400, .inl f_6))] H := hP
  have hD : va_D A [(q_0, .inr (5, [.int x_2, .ref q_3, .ref q_4, .ref q_5, .ref q_2, .ref q_1, .ref q_6, .ref q_7, .ref q_8, .ref q_9, .ref q_10, .ref q_11, .ref q_12, .int x_3, .int x_4])), (q_1, .inl (k 0, 400, .inl f_5)), (q_2, .inl (k 0, 400, .inl f_6))] := hD
  refine lv_iload_n hx hb dX5_turnBits_5 rfl (lv_at hl 2 rfl) ?_
  refine lv_ixor hx hb dX5_turnBits_6 ?_
  refine lv_topi (fun y2 ey2 => ?_)
  refine lv_istore_n (lv' := [(3, .int y2), (0, .ref q_0), (1, .int x_0), (2, .int x_1)]) hx hb dX5_turnBits_7 rfl hl (by decide) rfl (fun ls hl => ?_)
  refine lv_aload_n hx hb dX5_turnBits_8 rfl (lv_at hl 1 rfl) ?_
  refine va_get (D := D) (ci := 5) (v := .ref q_2) (C := RX5) (T := TX5) (N := 15) hx hb hts inX5 hown hK hP 0 rfl rfl 4 (by decide) (hts _ kF_X5_21) (fun _ h9 => h9) rfl dX5_turnBits_9 ?_
  refine lv_iload_n hx hb dX5_turnBits_12 rfl (lv_at hl 2 rfl) ?_
  refine lv_iload_n hx hb dX5_turnBits_13 rfl (lv_at hl 0 rfl) ?_
  refine lv_bipush (v := 26) hx hb dX5_turnBits_14 (by decide) ?_
  refine lv_irem hx hb dX5_turnBits_16 (by decide) ?_
  refine lv_topi (fun y3 ey3 => ?_)
  refine va_iast hx hb hK hP hD hS 2 0 rfl rfl (by revert h_x_0; first | omega | (simp only [vp_in_iff, Int32.lt_iff_toInt_lt, Int32.le_iff_toInt_le, Int64.lt_iff_toInt_lt, Int64.le_iff_toInt_le, Int32.toInt_toInt64, ← Int32.toInt_inj, ← Int64.toInt_inj, Int32.reduceToInt, Int64.reduceToInt] <;> omega)) dX5_turnBits_17 (fun H locs hP hD hS => ?_)
  obtain ⟨F4, eF4⟩ : ∃ q, q = upd f_6 (Int32.toNatClampNeg x_0) y3 := ⟨_, rfl⟩
  have hP : va_P D vwCl [(q_0, .inr (5, [.int x_2, .ref q_3, .ref q_4, .ref q_5, .ref q_2, .ref q_1, .ref q_6, .ref q_7, .ref q_8, .ref q_9, .ref q_10, .ref q_11, .ref q_12, .int x_3, .int x_4])), (q_1, .inl (k 0, 400, .inl f_5)), (q_2, .inl (k 0, 400, .inl F4))] H := by rw [eF4]; exact hP
  have hD : va_D A [(q_0, .inr (5, [.int x_2, .ref q_3, .ref q_4, .ref q_5, .ref q_2, .ref q_1, .ref q_6, .ref q_7, .ref q_8, .ref q_9, .ref q_10, .ref q_11, .ref q_12, .int x_3, .int x_4])), (q_1, .inl (k 0, 400, .inl f_5)), (q_2, .inl (k 0, 400, .inl F4))] := by rw [eF4]; exact hD
  refine lv_aload_n hx hb dX5_turnBits_18 rfl (lv_at hl 1 rfl) ?_
  refine va_get (D := D) (ci := 5) (v := .ref q_1) (C := RX5) (T := TX5) (N := 15) hx hb hts inX5 hown hK hP 0 rfl rfl 5 (by decide) (hts _ kF_X5_24) (fun _ h9 => h9) rfl dX5_turnBits_19 ?_
  refine lv_iload_n hx hb dX5_turnBits_22 rfl (lv_at hl 2 rfl) ?_
  refine lv_iload_n hx hb dX5_turnBits_23 rfl (lv_at hl 0 rfl) ?_
  refine lv_bipush (v := 26) hx hb dX5_turnBits_24 (by decide) ?_
  refine lv_idiv hx hb dX5_turnBits_26 (by decide) ?_
  refine lv_topi (fun y5 ey5 => ?_)
  refine va_iast hx hb hK hP hD hS 1 0 rfl rfl (by revert h_x_0; first | omega | (simp only [vp_in_iff, Int32.lt_iff_toInt_lt, Int32.le_iff_toInt_le, Int64.lt_iff_toInt_lt, Int64.le_iff_toInt_le, Int32.toInt_toInt64, ← Int32.toInt_inj, ← Int64.toInt_inj, Int32.reduceToInt, Int64.reduceToInt] <;> omega)) dX5_turnBits_27 (fun H locs hP hD hS => ?_)
  obtain ⟨F6, eF6⟩ : ∃ q, q = upd f_5 (Int32.toNatClampNeg x_0) y5 := ⟨_, rfl⟩
  have hP : va_P D vwCl [(q_0, .inr (5, [.int x_2, .ref q_3, .ref q_4, .ref q_5, .ref q_2, .ref q_1, .ref q_6, .ref q_7, .ref q_8, .ref q_9, .ref q_10, .ref q_11, .ref q_12, .int x_3, .int x_4])), (q_1, .inl (k 0, 400, .inl F6)), (q_2, .inl (k 0, 400, .inl F4))] H := by rw [eF6]; exact hP
  have hD : va_D A [(q_0, .inr (5, [.int x_2, .ref q_3, .ref q_4, .ref q_5, .ref q_2, .ref q_1, .ref q_6, .ref q_7, .ref q_8, .ref q_9, .ref q_10, .ref q_11, .ref q_12, .int x_3, .int x_4])), (q_1, .inl (k 0, 400, .inl F6)), (q_2, .inl (k 0, 400, .inl F4))] := by rw [eF6]; exact hD
  refine lv_iload_n hx hb dX5_turnBits_28 rfl (lv_at hl 0 rfl) ?_
  exact z_iret C0 hr hlk rfl hK hP hD hS (0, fun _ => 0, fun _ => 0, fun _ => 0, fun i => [F6, F4].getD i (fun _ => 0), fun _ => (fun _ => 0), fun _ => (fun _ => none)) rfl [0, 1, 2] rfl rfl rfl dX5_turnBits_29

set_option maxHeartbeats 4000000 in
set_option maxRecDepth 100000 in
theorem s_X11_alter_1 (l : Launch) (D : va_G) (k : Nat → ClassId) (q_0 : Nat) (q_1 : Nat) (q_2 : Nat) (q_3 : Nat) (q_4 : Nat) (q_5 : Nat) (q_6 : Nat) (q_7 : Nat) (q_8 : Nat) (q_9 : Nat) (q_10 : Nat) (q_11 : Nat) (q_12 : Nat) (q_13 : Nat) (q_14 : Nat) (q_15 : Nat) (q_16 : Nat) (q_17 : Nat) (q_18 : Nat) (q_19 : Nat) (q_20 : Nat) (q_21 : Nat) (q_22 : Nat) (q_23 : Nat) (x_0 : Int32) (x_1 : Int32) (x_2 : Int32) (x_3 : Int32) (x_4 : Int32) (x_5 : Int32) (f_6 : Nat → Int32) (f_7 : Nat → Int32) (h_x_3 : 0 ≤ Int32.toInt x_3 ∧ Int32.toInt x_3 ≤ 400) : zMi l yX11_alter cX11_alter 3 (some .int) ({ frames := 2, cells := 0, slots := 0, locals := 44 }) D k [.ref q_0, .int x_0, .int x_1] [(q_0, .inr (11, [.ref q_1, .ref q_5, .ref q_6, .ref q_7, .ref q_8, .int x_2])), (q_1, .inr (3, [.ref q_9, .ref q_10, .ref q_2, .ref q_11, .ref q_12, .ref q_13])), (q_2, .inr (5, [.int x_3, .ref q_14, .ref q_15, .ref q_16, .ref q_4, .ref q_3, .ref q_17, .ref q_18, .ref q_19, .ref q_20, .ref q_21, .ref q_22, .ref q_23, .int x_4, .int x_5])), (q_3, .inl (k 0, 400, .inl f_6)), (q_4, .inl (k 0, 400, .inl f_7))] (fun r u => u.1 = 0) (fun u => [(q_0, .inr (11, [.ref q_1, .ref q_5, .ref q_6, .ref q_7, .ref q_8, .int (u.2.2.1 0)])), (q_1, .inr (3, [.ref q_9, .ref q_10, .ref q_2, .ref q_11, .ref q_12, .ref q_13])), (q_2, .inr (5, [.int x_3, .ref q_14, .ref q_15, .ref q_16, .ref q_4, .ref q_3, .ref q_17, .ref q_18, .ref q_19, .ref q_20, .ref q_21, .ref q_22, .ref q_23, .int x_4, .int x_5])), (q_3, .inl (k 0, 400, .inl (u.2.2.2.2.1 0))), (q_4, .inl (k 0, 400, .inl (u.2.2.2.2.1 1)))]) := by
  refine zMi_of (own := RX11) (by decide +kernel) rfl (Nat.le_of_ble_eq_true rfl) ?_
  intro p e s m args below meth c A ls C0 hr hlk hin hP hD hS hA hK hN hl
  have hx := C0.1
  have hb := C0.2.1
  have hml := C0.2.2.1
  have hown := C0.2.2.2.1
  have hts := C0.2.2.2.2
  have hl : lv_has ls 3 [(0, .ref q_0), (1, .int x_0), (2, .int x_1)] := hl
  have hP : va_P D vwCl [(q_0, .inr (11, [.ref q_1, .ref q_5, .ref q_6, .ref q_7, .ref q_8, .int x_2])), (q_1, .inr (3, [.ref q_9, .ref q_10, .ref q_2, .ref q_11, .ref q_12, .ref q_13])), (q_2, .inr (5, [.int x_3, .ref q_14, .ref q_15, .ref q_16, .ref q_4, .ref q_3, .ref q_17, .ref q_18, .ref q_19, .ref q_20, .ref q_21, .ref q_22, .ref q_23, .int x_4, .int x_5])), (q_3, .inl (k 0, 400, .inl f_6)), (q_4, .inl (k 0, 400, .inl f_7))] s.heap := hP
  refine lv_iload_n hx hb dX11_alter_0 rfl (lv_at hl 2 rfl) ?_
  refine lv_iconst (v := 1) hx hb dX11_alter_1 (by decide) ?_
  refine lv_bipush (v := 7) hx hb dX11_alter_2 (by decide) ?_
  refine z_bi0 (z_runS (As := [.int x_1, .int 1, .int 7]) (rest := []) C0 (s_X11_isOutside_1 l D k x_1 1 7 _) okS_X11_isOutside kM_X11_47 rfl (z_p0 hK hN) rfl hl.1 rfl (Nat.le_of_ble_eq_true rfl) dX11_alter_4 rfl) hP hS hA (fun r1 u1 H locs hw1 hP hS => ?_)
  obtain ⟨i1, a1, v1, w1, f1, g1, o1⟩ := u1
  dsimp only at hw1
  rcases hw1 with ⟨rfl, rfl, c1⟩ | ⟨rfl, rfl, c1⟩
  · refine lv_if_eq (tgt := 16) hx hb dX11_alter_7 (by decide) (fun c2 => absurd c2 (by decide)) (fun _ => ?_)
    refine lv_aload_n hx hb dX11_alter_10 rfl (lv_at hl 0 rfl) ?_
    refine lv_iconst (v := (-1)) hx hb dX11_alter_11 (by decide) ?_
    refine z_bi (wr := [(q_1, .inr (3, [.ref q_9, .ref q_10, .ref q_2, .ref q_11, .ref q_12, .ref q_13])), (q_2, .inr (5, [.int x_3, .ref q_14, .ref q_15, .ref q_16, .ref q_4, .ref q_3, .ref q_17, .ref q_18, .ref q_19, .ref q_20, .ref q_21, .ref q_22, .ref q_23, .int x_4, .int x_5])), (q_3, .inl (k 0, 400, .inl f_6)), (q_4, .inl (k 0, 400, .inl f_7))]) (z_runV (C := RX11) (As := [.int (-1)]) (rest := []) C0 (s_X11_answer_1 l D k q_0 q_1 q_5 q_6 q_7 q_8 (-1) x_2 _) okV_X11_answer kM_X11_55 rfl (z_pV (q0 := 0) hK hN hP hD [0] rfl rfl rfl rfl rfl) rfl hl.1 rfl (Nat.le_of_ble_eq_true rfl) dX11_alter_12 rfl) hP hD hS hA [0] [1, 2, 3, 4] rfl rfl rfl rfl (fun r3 u3 H locs hw3 hP hD hS => ?_)
    obtain ⟨i3, a3, v3, w3, f3, g3, o3⟩ := u3
    dsimp only at hw3
    obtain rfl := hw3
    have hP : va_P D vwCl [(q_1, .inr (3, [.ref q_9, .ref q_10, .ref q_2, .ref q_11, .ref q_12, .ref q_13])), (q_2, .inr (5, [.int x_3, .ref q_14, .ref q_15, .ref q_16, .ref q_4, .ref q_3, .ref q_17, .ref q_18, .ref q_19, .ref q_20, .ref q_21, .ref q_22, .ref q_23, .int x_4, .int x_5])), (q_3, .inl (k 0, 400, .inl f_6)), (q_4, .inl (k 0, 400, .inl f_7)), (q_0, .inr (11, [.ref q_1, .ref q_5, .ref q_6, .ref q_7, .ref q_8, .int (v3 0)]))] H := hP
    have hD : va_D A [(q_1, .inr (3, [.ref q_9, .ref q_10, .ref q_2, .ref q_11, .ref q_12, .ref q_13])), (q_2, .inr (5, [.int x_3, .ref q_14, .ref q_15, .ref q_16, .ref q_4, .ref q_3, .ref q_17, .ref q_18, .ref q_19, .ref q_20, .ref q_21, .ref q_22, .ref q_23, .int x_4, .int x_5])), (q_3, .inl (k 0, 400, .inl f_6)), (q_4, .inl (k 0, 400, .inl f_7)), (q_0, .inr (11, [.ref q_1, .ref q_5, .ref q_6, .ref q_7, .ref q_8, .int (v3 0)]))] := hD
    exact z_iret C0 hr hlk rfl hK hP hD hS (0, fun _ => 0, fun i => [(v3 0)].getD i 0, fun _ => 0, fun i => [f_6, f_7].getD i (fun _ => 0), fun _ => (fun _ => 0), fun _ => (fun _ => none)) rfl [4, 0, 1, 2, 3] rfl rfl rfl dX11_alter_15
  · refine lv_if_eq (tgt := 16) hx hb dX11_alter_7 (by decide) (fun _ => ?_) (fun c4 => absurd (by decide) c4)
    refine lv_aload_n hx hb dX11_alter_16 rfl (lv_at hl 0 rfl) ?_
    refine va_get (D := D) (ci := 11) (v := .ref q_1) (C := RX11) (T := TX11) (N := 6) hx hb hts inX11 hown hK hP 0 rfl rfl 0 (by decide) (hts _ kF_X11_12) (fun _ h9 => h9) rfl dX11_alter_17 ?_
    refine va_get (D := D) (ci := 3) (v := .ref q_2) (C := RX3) (T := TX3) (N := 6) hx hb hts inX3 hown hK hP 1 rfl rfl 2 (by decide) (hts _ kF_X11_137) (fun _ h9 => h9) rfl dX11_alter_20 ?_
    refine lv_iload_n hx hb dX11_alter_23 rfl (lv_at hl 1 rfl) ?_
    refine z_bi (wr := [(q_0, .inr (11, [.ref q_1, .ref q_5, .ref q_6, .ref q_7, .ref q_8, .int x_2])), (q_1, .inr (3, [.ref q_9, .ref q_10, .ref q_2, .ref q_11, .ref q_12, .ref q_13])), (q_3, .inl (k 0, 400, .inl f_6)), (q_4, .inl (k 0, 400, .inl f_7))]) (z_runV (C := RX5) (As := [.int x_0]) (rest := []) C0 (s_X5_isNoMark_1 l D k q_2 q_14 q_15 q_16 q_4 q_3 q_17 q_18 q_19 q_20 q_21 q_22 q_23 x_0 x_3 x_4 x_5 (by revert h_x_3; first | omega | (simp only [vp_in_iff, Int32.lt_iff_toInt_lt, Int32.le_iff_toInt_le, Int64.lt_iff_toInt_lt, Int64.le_iff_toInt_le, Int32.toInt_toInt64, ← Int32.toInt_inj, ← Int64.toInt_inj, Int32.reduceToInt, Int64.reduceToInt] <;> omega)) _) okV_X5_isNoMark kM_X11_149 rfl (z_pV (q0 := 2) hK hN hP hD [2] rfl rfl rfl rfl rfl) rfl hl.1 rfl (Nat.le_of_ble_eq_true rfl) dX11_alter_24 rfl) hP hD hS hA [2] [0, 1, 3, 4] rfl rfl rfl rfl (fun r5 u5 H locs hw5 hP hD hS => ?_)
    obtain ⟨i5, a5, v5, w5, f5, g5, o5⟩ := u5
    dsimp only at hw5
    rcases hw5 with ⟨rfl, rfl, c5⟩ | ⟨rfl, rfl, c5⟩
    · have hP : va_P D vwCl [(q_0, .inr (11, [.ref q_1, .ref q_5, .ref q_6, .ref q_7, .ref q_8, .int x_2])), (q_1, .inr (3, [.ref q_9, .ref q_10, .ref q_2, .ref q_11, .ref q_12, .ref q_13])), (q_3, .inl (k 0, 400, .inl f_6)), (q_4, .inl (k 0, 400, .inl f_7)), (q_2, .inr (5, [.int x_3, .ref q_14, .ref q_15, .ref q_16, .ref q_4, .ref q_3, .ref q_17, .ref q_18, .ref q_19, .ref q_20, .ref q_21, .ref q_22, .ref q_23, .int x_4, .int x_5]))] H := hP
      have hD : va_D A [(q_0, .inr (11, [.ref q_1, .ref q_5, .ref q_6, .ref q_7, .ref q_8, .int x_2])), (q_1, .inr (3, [.ref q_9, .ref q_10, .ref q_2, .ref q_11, .ref q_12, .ref q_13])), (q_3, .inl (k 0, 400, .inl f_6)), (q_4, .inl (k 0, 400, .inl f_7)), (q_2, .inr (5, [.int x_3, .ref q_14, .ref q_15, .ref q_16, .ref q_4, .ref q_3, .ref q_17, .ref q_18, .ref q_19, .ref q_20, .ref q_21, .ref q_22, .ref q_23, .int x_4, .int x_5]))] := hD
      refine lv_if_eq (tgt := 37) hx hb dX11_alter_27 (by decide) (fun c6 => absurd c6 (by decide)) (fun _ => ?_)
      refine lv_aload_n hx hb dX11_alter_30 rfl (lv_at hl 0 rfl) ?_
      refine lv_bipush (v := (-2)) hx hb dX11_alter_31 (by decide) ?_
      refine z_bi (wr := [(q_1, .inr (3, [.ref q_9, .ref q_10, .ref q_2, .ref q_11, .ref q_12, .ref q_13])), (q_3, .inl (k 0, 400, .inl f_6)), (q_4, .inl (k 0, 400, .inl f_7)), (q_2, .inr (5, [.int x_3, .ref q_14, .ref q_15, .ref q_16, .ref q_4, .ref q_3, .ref q_17, .ref q_18, .ref q_19, .ref q_20, .ref q_21, .ref q_22, .ref q_23, .int x_4, .int x_5]))]) (z_runV (C := RX11) (As := [.int (-2)]) (rest := []) C0 (s_X11_answer_1 l D k q_0 q_1 q_5 q_6 q_7 q_8 (-2) x_2 _) okV_X11_answer kM_X11_55 rfl (z_pV (q0 := 0) hK hN hP hD [0] rfl rfl rfl rfl rfl) rfl hl.1 rfl (Nat.le_of_ble_eq_true rfl) dX11_alter_33 rfl) hP hD hS hA [0] [1, 2, 3, 4] rfl rfl rfl rfl (fun r7 u7 H locs hw7 hP hD hS => ?_)
      obtain ⟨i7, a7, v7, w7, f7, g7, o7⟩ := u7
      dsimp only at hw7
      obtain rfl := hw7
      have hP : va_P D vwCl [(q_1, .inr (3, [.ref q_9, .ref q_10, .ref q_2, .ref q_11, .ref q_12, .ref q_13])), (q_3, .inl (k 0, 400, .inl f_6)), (q_4, .inl (k 0, 400, .inl f_7)), (q_2, .inr (5, [.int x_3, .ref q_14, .ref q_15, .ref q_16, .ref q_4, .ref q_3, .ref q_17, .ref q_18, .ref q_19, .ref q_20, .ref q_21, .ref q_22, .ref q_23, .int x_4, .int x_5])), (q_0, .inr (11, [.ref q_1, .ref q_5, .ref q_6, .ref q_7, .ref q_8, .int (v7 0)]))] H := hP
      have hD : va_D A [(q_1, .inr (3, [.ref q_9, .ref q_10, .ref q_2, .ref q_11, .ref q_12, .ref q_13])), (q_3, .inl (k 0, 400, .inl f_6)), (q_4, .inl (k 0, 400, .inl f_7)), (q_2, .inr (5, [.int x_3, .ref q_14, .ref q_15, .ref q_16, .ref q_4, .ref q_3, .ref q_17, .ref q_18, .ref q_19, .ref q_20, .ref q_21, .ref q_22, .ref q_23, .int x_4, .int x_5])), (q_0, .inr (11, [.ref q_1, .ref q_5, .ref q_6, .ref q_7, .ref q_8, .int (v7 0)]))] := hD
      exact z_iret C0 hr hlk rfl hK hP hD hS (0, fun _ => 0, fun i => [(v7 0)].getD i 0, fun _ => 0, fun i => [f_6, f_7].getD i (fun _ => 0), fun _ => (fun _ => 0), fun _ => (fun _ => none)) rfl [4, 0, 3, 1, 2] rfl rfl rfl dX11_alter_36
    · have hP : va_P D vwCl [(q_0, .inr (11, [.ref q_1, .ref q_5, .ref q_6, .ref q_7, .ref q_8, .int x_2])), (q_1, .inr (3, [.ref q_9, .ref q_10, .ref q_2, .ref q_11, .ref q_12, .ref q_13])), (q_3, .inl (k 0, 400, .inl f_6)), (q_4, .inl (k 0, 400, .inl f_7)), (q_2, .inr (5, [.int x_3, .ref q_14, .ref q_15, .ref q_16, .ref q_4, .ref q_3, .ref q_17, .ref q_18, .ref q_19, .ref q_20, .ref q_21, .ref q_22, .ref q_23, .int x_4, .int x_5]))] H := hP
      have hD : va_D A [(q_0, .inr (11, [.ref q_1, .ref q_5, .ref q_6, .ref q_7, .ref q_8, .int x_2])), (q_1, .inr (3, [.ref q_9, .ref q_10, .ref q_2, .ref q_11, .ref q_12, .ref q_13])), (q_3, .inl (k 0, 400, .inl f_6)), (q_4, .inl (k 0, 400, .inl f_7)), (q_2, .inr (5, [.int x_3, .ref q_14, .ref q_15, .ref q_16, .ref q_4, .ref q_3, .ref q_17, .ref q_18, .ref q_19, .ref q_20, .ref q_21, .ref q_22, .ref q_23, .int x_4, .int x_5]))] := hD
      refine lv_if_eq (tgt := 37) hx hb dX11_alter_27 (by decide) (fun _ => ?_) (fun c8 => absurd (by decide) c8)
      refine lv_aload_n hx hb dX11_alter_37 rfl (lv_at hl 0 rfl) ?_
      refine lv_aload_n hx hb dX11_alter_38 rfl (lv_at hl 0 rfl) ?_
      refine va_get (D := D) (ci := 11) (v := .ref q_1) (C := RX11) (T := TX11) (N := 6) hx hb hts inX11 hown hK hP 0 rfl rfl 0 (by decide) (hts _ kF_X11_12) (fun _ h9 => h9) rfl dX11_alter_39 ?_
      refine va_get (D := D) (ci := 3) (v := .ref q_2) (C := RX3) (T := TX3) (N := 6) hx hb hts inX3 hown hK hP 1 rfl rfl 2 (by decide) (hts _ kF_X11_137) (fun _ h9 => h9) rfl dX11_alter_42 ?_
      refine lv_iload_n hx hb dX11_alter_45 rfl (lv_at hl 1 rfl) ?_
      refine lv_iload_n hx hb dX11_alter_46 rfl (lv_at hl 2 rfl) ?_
      refine z_bi (wr := [(q_0, .inr (11, [.ref q_1, .ref q_5, .ref q_6, .ref q_7, .ref q_8, .int x_2])), (q_1, .inr (3, [.ref q_9, .ref q_10, .ref q_2, .ref q_11, .ref q_12, .ref q_13]))]) (z_runV (C := RX5) (As := [.int x_0, .int x_1]) (rest := [.ref q_0]) C0 (s_X5_turnBits_1 l D k q_2 q_3 q_4 q_14 q_15 q_16 q_17 q_18 q_19 q_20 q_21 q_22 q_23 x_0 x_1 x_3 x_4 x_5 f_6 f_7 (by revert c5 h_x_3; first | omega | (simp only [vp_in_iff, Int32.lt_iff_toInt_lt, Int32.le_iff_toInt_le, Int64.lt_iff_toInt_lt, Int64.le_iff_toInt_le, Int32.toInt_toInt64, ← Int32.toInt_inj, ← Int64.toInt_inj, Int32.reduceToInt, Int64.reduceToInt] <;> omega)) (by revert c1; first | omega | (simp only [vp_in_iff, Int32.lt_iff_toInt_lt, Int32.le_iff_toInt_le, Int64.lt_iff_toInt_lt, Int64.le_iff_toInt_le, Int32.toInt_toInt64, ← Int32.toInt_inj, ← Int64.toInt_inj, Int32.reduceToInt, Int64.reduceToInt] <;> omega)) (by revert h_x_3 c5; first | omega | (simp only [vp_in_iff, Int32.lt_iff_toInt_lt, Int32.le_iff_toInt_le, Int64.lt_iff_toInt_lt, Int64.le_iff_toInt_le, Int32.toInt_toInt64, ← Int32.toInt_inj, ← Int64.toInt_inj, Int32.reduceToInt, Int64.reduceToInt] <;> omega)) _) okV_X5_turnBits kM_X11_374 rfl (z_pV (q0 := 4) hK hN hP hD [4, 2, 3] rfl rfl rfl rfl rfl) rfl hl.1 rfl (Nat.le_of_ble_eq_true rfl) dX11_alter_47 rfl) hP hD hS hA [4, 2, 3] [0, 1] rfl rfl rfl rfl (fun r9 u9 H locs hw9 hP hD hS => ?_)
      obtain ⟨i9, a9, v9, w9, f9, g9, o9⟩ := u9
      dsimp only at hw9
      obtain rfl := hw9
      have hP : va_P D vwCl [(q_0, .inr (11, [.ref q_1, .ref q_5, .ref q_6, .ref q_7, .ref q_8, .int x_2])), (q_1, .inr (3, [.ref q_9, .ref q_10, .ref q_2, .ref q_11, .ref q_12, .ref q_13])), (q_2, .inr (5, [.int x_3, .ref q_14, .ref q_15, .ref q_16, .ref q_4, .ref q_3, .ref q_17, .ref q_18, .ref q_19, .ref q_20, .ref q_21, .ref q_22, .ref q_23, .int x_4, .int x_5])), (q_3, .inl (k 0, 400, .inl (f9 0))), (q_4, .inl (k 0, 400, .inl (f9 1)))] H := hP
      have hD : va_D A [(q_0, .inr (11, [.ref q_1, .ref q_5, .ref q_6, .ref q_7, .ref q_8, .int x_2])), (q_1, .inr (3, [.ref q_9, .ref q_10, .ref q_2, .ref q_11, .ref q_12, .ref q_13])), (q_2, .inr (5, [.int x_3, .ref q_14, .ref q_15, .ref q_16, .ref q_4, .ref q_3, .ref q_17, .ref q_18, .ref q_19, .ref q_20, .ref q_21, .ref q_22, .ref q_23, .int x_4, .int x_5])), (q_3, .inl (k 0, 400, .inl (f9 0))), (q_4, .inl (k 0, 400, .inl (f9 1)))] := hD
      refine z_bi (wr := [(q_1, .inr (3, [.ref q_9, .ref q_10, .ref q_2, .ref q_11, .ref q_12, .ref q_13])), (q_2, .inr (5, [.int x_3, .ref q_14, .ref q_15, .ref q_16, .ref q_4, .ref q_3, .ref q_17, .ref q_18, .ref q_19, .ref q_20, .ref q_21, .ref q_22, .ref q_23, .int x_4, .int x_5])), (q_3, .inl (k 0, 400, .inl (f9 0))), (q_4, .inl (k 0, 400, .inl (f9 1)))]) (z_runV (C := RX11) (As := [.int r9]) (rest := []) C0 (s_X11_answer_1 l D k q_0 q_1 q_5 q_6 q_7 q_8 r9 x_2 _) okV_X11_answer kM_X11_55 rfl (z_pV (q0 := 0) hK hN hP hD [0] rfl rfl rfl rfl rfl) rfl hl.1 rfl (Nat.le_of_ble_eq_true rfl) dX11_alter_50 rfl) hP hD hS hA [0] [1, 2, 3, 4] rfl rfl rfl rfl (fun r10 u10 H locs hw10 hP hD hS => ?_)
      obtain ⟨i10, a10, v10, w10, f10, g10, o10⟩ := u10
      dsimp only at hw10
      obtain rfl := hw10
      have hP : va_P D vwCl [(q_1, .inr (3, [.ref q_9, .ref q_10, .ref q_2, .ref q_11, .ref q_12, .ref q_13])), (q_2, .inr (5, [.int x_3, .ref q_14, .ref q_15, .ref q_16, .ref q_4, .ref q_3, .ref q_17, .ref q_18, .ref q_19, .ref q_20, .ref q_21, .ref q_22, .ref q_23, .int x_4, .int x_5])), (q_3, .inl (k 0, 400, .inl (f9 0))), (q_4, .inl (k 0, 400, .inl (f9 1))), (q_0, .inr (11, [.ref q_1, .ref q_5, .ref q_6, .ref q_7, .ref q_8, .int (v10 0)]))] H := hP
      have hD : va_D A [(q_1, .inr (3, [.ref q_9, .ref q_10, .ref q_2, .ref q_11, .ref q_12, .ref q_13])), (q_2, .inr (5, [.int x_3, .ref q_14, .ref q_15, .ref q_16, .ref q_4, .ref q_3, .ref q_17, .ref q_18, .ref q_19, .ref q_20, .ref q_21, .ref q_22, .ref q_23, .int x_4, .int x_5])), (q_3, .inl (k 0, 400, .inl (f9 0))), (q_4, .inl (k 0, 400, .inl (f9 1))), (q_0, .inr (11, [.ref q_1, .ref q_5, .ref q_6, .ref q_7, .ref q_8, .int (v10 0)]))] := hD
      exact z_iret C0 hr hlk rfl hK hP hD hS (0, fun _ => 0, fun i => [(v10 0)].getD i 0, fun _ => 0, fun i => [(f9 0), (f9 1)].getD i (fun _ => 0), fun _ => (fun _ => 0), fun _ => (fun _ => none)) rfl [4, 0, 1, 2, 3] rfl rfl rfl dX11_alter_53

set_option maxHeartbeats 4000000 in
set_option maxRecDepth 100000 in
theorem s_X5_markAtPlace_1 (l : Launch) (D : va_G) (k : Nat → ClassId) (q_0 : Nat) (q_1 : Nat) (q_2 : Nat) (q_3 : Nat) (q_4 : Nat) (q_5 : Nat) (q_6 : Nat) (q_7 : Nat) (q_8 : Nat) (q_9 : Nat) (q_10 : Nat) (q_11 : Nat) (q_12 : Nat) (x_0 : Int32) (x_1 : Int32) (x_2 : Int32) (x_3 : Int32) (x_4 : Int32) (f_5 : Nat → Int32) (h_x_2 : 0 ≤ Int32.toInt x_2 ∧ Int32.toInt x_2 ≤ 400) (h_f_5 : zR f_5 0 799) : zMi l yX5_markAtPlace cX5_markAtPlace 5 (some .int) ({ frames := 0, cells := 0, slots := 0, locals := 0 }) D k [.ref q_0, .int x_0, .int x_1] [(q_0, .inr (5, [.int x_2, .ref q_2, .ref q_3, .ref q_1, .ref q_4, .ref q_5, .ref q_6, .ref q_7, .ref q_8, .ref q_9, .ref q_10, .ref q_11, .ref q_12, .int x_3, .int x_4])), (q_1, .inl (k 0, 400, .inl f_5))] (fun r u => u.1 = 0 ∧ ((-2) ≤ Int32.toInt r ∧ Int32.toInt r ≤ 399)) (fun u => [(q_0, .inr (5, [.int x_2, .ref q_2, .ref q_3, .ref q_1, .ref q_4, .ref q_5, .ref q_6, .ref q_7, .ref q_8, .ref q_9, .ref q_10, .ref q_11, .ref q_12, .int x_3, .int x_4])), (q_1, .inl (k 0, 400, .inl f_5))]) := by
  refine zMi_of (own := RX5) (by decide +kernel) rfl (Nat.le_of_ble_eq_true rfl) ?_
  intro p e s m args below meth c A ls C0 hr hlk hin hP hD hS hA hK hN hl
  have hx := C0.1
  have hb := C0.2.1
  have hml := C0.2.2.1
  have hown := C0.2.2.2.1
  have hts := C0.2.2.2.2
  have hl : lv_has ls 5 [(0, .ref q_0), (1, .int x_0), (2, .int x_1)] := hl
  have hP : va_P D vwCl [(q_0, .inr (5, [.int x_2, .ref q_2, .ref q_3, .ref q_1, .ref q_4, .ref q_5, .ref q_6, .ref q_7, .ref q_8, .ref q_9, .ref q_10, .ref q_11, .ref q_12, .int x_3, .int x_4])), (q_1, .inl (k 0, 400, .inl f_5))] s.heap := hP
  refine lv_iconst (v := 0) hx hb dX5_markAtPlace_0 (by decide) ?_
  refine lv_istore_n (lv' := [(3, .int 0), (0, .ref q_0), (1, .int x_0), (2, .int x_1)]) hx hb dX5_markAtPlace_1 rfl hl (by decide) rfl (fun ls hl => ?_)
  refine lv_iconst (v := 0) hx hb dX5_markAtPlace_2 (by decide) ?_
  refine lv_istore (lv' := [(4, .int 0), (3, .int 0), (0, .ref q_0), (1, .int x_0), (2, .int x_1)]) hx hb dX5_markAtPlace_3 hl (by decide) rfl (fun ls hl => ?_)
  have loop37 : ∀ (N38 : Nat) (y35 : Int32) (y36 : Int32) (H : Heap) (locs : List Loc) (ls : Array Slot), Int.toNat (400 - Int32.toInt y35) < N38 → 0 ≤ Int32.toInt y35 ∧ Int32.toInt y35 ≤ 400 → va_P D vwCl [(q_0, .inr (5, [.int x_2, .ref q_2, .ref q_3, .ref q_1, .ref q_4, .ref q_5, .ref q_6, .ref q_7, .ref q_8, .ref q_9, .ref q_10, .ref q_11, .ref q_12, .int x_3, .int x_4])), (q_1, .inl (k 0, 400, .inl f_5))] H → va_D A [(q_0, .inr (5, [.int x_2, .ref q_2, .ref q_3, .ref q_1, .ref q_4, .ref q_5, .ref q_6, .ref q_7, .ref q_8, .ref q_9, .ref q_10, .ref q_11, .ref q_12, .int x_3, .int x_4])), (q_1, .inl (k 0, 400, .inl f_5))] → va_S A s.heap H locs → lv_has ls 5 [(4, .int y35), (3, .int y36), (0, .ref q_0), (1, .int x_0), (2, .int x_1)] → W p l e { frames := 0, cells := 0, slots := 0, locals := 0 } s m args below meth c H locs 0 0 (MQ below (va_Qi (fun (r : Int32) (u : zS) => u.1 = 0 ∧ ((-2) ≤ Int32.toInt r ∧ Int32.toInt r ≤ 399)) (zB D k A (fun (u : zS) => [(q_0, .inr (5, [.int x_2, .ref q_2, .ref q_3, .ref q_1, .ref q_4, .ref q_5, .ref q_6, .ref q_7, .ref q_8, .ref q_9, .ref q_10, .ref q_11, .ref q_12, .int x_3, .int x_4])), (q_1, .inl (k 0, 400, .inl f_5))])) A) args s 0 0 A) (F0 m 5 ls []) := by
    intro N38
    induction N38 with
    | zero => intro y35 y36 H locs ls hm; exact absurd hm (Nat.not_lt_zero _)
    | succ N38 ihN38 =>
      intro y35 y36 H locs ls hN38 hy35 hP hD hS hl
      refine lv_iload hx hb dX5_markAtPlace_5 (lv_at hl 0 rfl) ?_
      refine lv_aload_n hx hb dX5_markAtPlace_7 rfl (lv_at hl 2 rfl) ?_
      refine va_get (D := D) (ci := 5) (v := .int x_2) (C := RX5) (T := TX5) (N := 15) hx hb hts inX5 hown hK hP 0 rfl rfl 0 (by decide) (hts _ kF_X5_54) (fun _ h9 => h9) rfl dX5_markAtPlace_8 ?_
      refine lv_icmp_ge (tgt := 44) hx hb dX5_markAtPlace_11 (by decide) (fun c39 => ?_) (fun c39 => ?_)
      · refine lv_bipush (v := (-2)) hx hb dX5_markAtPlace_44 (by decide) ?_
        exact z_iret C0 hr hlk rfl hK hP hD hS (0, fun _ => 0, fun _ => 0, fun _ => 0, fun _ => (fun _ => 0), fun _ => (fun _ => 0), fun _ => (fun _ => none)) ⟨rfl, (by decide)⟩ [0, 1] rfl rfl rfl dX5_markAtPlace_46
      · refine lv_aload_n hx hb dX5_markAtPlace_14 rfl (lv_at hl 2 rfl) ?_
        refine va_get (D := D) (ci := 5) (v := .ref q_1) (C := RX5) (T := TX5) (N := 15) hx hb hts inX5 hown hK hP 0 rfl rfl 3 (by decide) (hts _ kF_X5_18) (fun _ h9 => h9) rfl dX5_markAtPlace_15 ?_
        refine lv_iload hx hb dX5_markAtPlace_18 (lv_at hl 0 rfl) ?_
        refine va_iald hx hb hK hP 1 0 rfl rfl (by revert hN38 hy35 c39 h_x_2; first | omega | (simp only [vp_in_iff, Int32.lt_iff_toInt_lt, Int32.le_iff_toInt_le, Int64.lt_iff_toInt_lt, Int64.le_iff_toInt_le, Int32.toInt_toInt64, ← Int32.toInt_inj, ← Int64.toInt_inj, Int32.reduceToInt, Int64.reduceToInt] <;> omega)) dX5_markAtPlace_20 ?_
        refine lv_topi (fun y40 ey40 => ?_)
        have hy40 : 0 ≤ Int32.toInt y40 ∧ Int32.toInt y40 ≤ 799 := by rw [ey40]; exact h_f_5 _
        refine lv_iconst (v := 2) hx hb dX5_markAtPlace_21 (by decide) ?_
        refine lv_idiv hx hb dX5_markAtPlace_22 (by decide) ?_
        refine lv_topi (fun y41 ey41 => ?_)
        have hy41 : Int32.toInt y41 = Int32.toInt y40 / 2 := by rw [ey41]; exact zo_div 2 (show 0 ≤ Int32.toInt y40 by revert hy40; first | omega | (simp only [vp_in_iff, Int32.lt_iff_toInt_lt, Int32.le_iff_toInt_le, Int64.lt_iff_toInt_lt, Int64.le_iff_toInt_le, Int32.toInt_toInt64, ← Int32.toInt_inj, ← Int64.toInt_inj, Int32.reduceToInt, Int64.reduceToInt] <;> omega)) rfl (by decide)
        refine lv_iload_n hx hb dX5_markAtPlace_23 rfl (lv_at hl 3 rfl) ?_
        refine lv_icmp_ne (tgt := 38) hx hb dX5_markAtPlace_24 (by decide) (fun c42 => ?_) (fun c42 => ?_)
        · obtain ⟨y43, ey43⟩ : ∃ q : Int32, q = y35 + 1 := ⟨_, rfl⟩
          have hy43 : Int32.toInt y43 = Int32.toInt y35 + 1 := by rw [ey43]; exact zi_addc rfl (by decide) (by revert hN38 hy35 c39 h_x_2; first | omega | (simp only [vp_in_iff, Int32.lt_iff_toInt_lt, Int32.le_iff_toInt_le, Int64.lt_iff_toInt_lt, Int64.le_iff_toInt_le, Int32.toInt_toInt64, ← Int32.toInt_inj, ← Int64.toInt_inj, Int32.reduceToInt, Int64.reduceToInt] <;> omega))
          refine lv_iinc (v := y43) (lv' := [(4, .int y43), (3, .int y36), (0, .ref q_0), (1, .int x_0), (2, .int x_1)]) hx hb dX5_markAtPlace_38 hl (k := 0) rfl (by rw [ey43]; exact zz_inc (by decide)) (by decide) rfl (fun ls hl => ?_)
          refine lv_goto (tgt := 5) hx hb dX5_markAtPlace_41 (by decide) ?_
          exact ihN38 y43 y36 _ _ ls (by revert hN38 hy35 c39 hy43 h_x_2; first | omega | (simp only [vp_in_iff, Int32.lt_iff_toInt_lt, Int32.le_iff_toInt_le, Int64.lt_iff_toInt_lt, Int64.le_iff_toInt_le, Int32.toInt_toInt64, ← Int32.toInt_inj, ← Int64.toInt_inj, Int32.reduceToInt, Int64.reduceToInt] <;> omega)) (by revert hN38 hy35 c39 hy43 h_x_2; first | omega | (simp only [vp_in_iff, Int32.lt_iff_toInt_lt, Int32.le_iff_toInt_le, Int64.lt_iff_toInt_lt, Int64.le_iff_toInt_le, Int32.toInt_toInt64, ← Int32.toInt_inj, ← Int64.toInt_inj, Int32.reduceToInt, Int64.reduceToInt] <;> omega)) hP hD hS (lv_sub hl [0, 1, 2, 3, 4] rfl)
        · obtain ⟨y44, ey44⟩ : ∃ q : Int32, q = y36 + 1 := ⟨_, rfl⟩
          refine lv_iinc (v := y44) (lv' := [(3, .int y44), (4, .int y35), (0, .ref q_0), (1, .int x_0), (2, .int x_1)]) hx hb dX5_markAtPlace_27 hl (k := 1) rfl (by rw [ey44]; exact zz_inc (by decide)) (by decide) rfl (fun ls hl => ?_)
          refine lv_iload_n hx hb dX5_markAtPlace_30 rfl (lv_at hl 0 rfl) ?_
          refine lv_iload_n hx hb dX5_markAtPlace_31 rfl (lv_at hl 4 rfl) ?_
          refine lv_icmp_ne (tgt := 38) hx hb dX5_markAtPlace_32 (by decide) (fun c45 => ?_) (fun c45 => ?_)
          · obtain ⟨y46, ey46⟩ : ∃ q : Int32, q = y35 + 1 := ⟨_, rfl⟩
            have hy46 : Int32.toInt y46 = Int32.toInt y35 + 1 := by rw [ey46]; exact zi_addc rfl (by decide) (by revert hN38 hy35 c39 h_x_2; first | omega | (simp only [vp_in_iff, Int32.lt_iff_toInt_lt, Int32.le_iff_toInt_le, Int64.lt_iff_toInt_lt, Int64.le_iff_toInt_le, Int32.toInt_toInt64, ← Int32.toInt_inj, ← Int64.toInt_inj, Int32.reduceToInt, Int64.reduceToInt] <;> omega))
            refine lv_iinc (v := y46) (lv' := [(4, .int y46), (3, .int y44), (0, .ref q_0), (1, .int x_0), (2, .int x_1)]) hx hb dX5_markAtPlace_38 hl (k := 1) rfl (by rw [ey46]; exact zz_inc (by decide)) (by decide) rfl (fun ls hl => ?_)
            refine lv_goto (tgt := 5) hx hb dX5_markAtPlace_41 (by decide) ?_
            exact ihN38 y46 y44 _ _ ls (by revert hN38 hy35 c39 hy46 h_x_2; first | omega | (simp only [vp_in_iff, Int32.lt_iff_toInt_lt, Int32.le_iff_toInt_le, Int64.lt_iff_toInt_lt, Int64.le_iff_toInt_le, Int32.toInt_toInt64, ← Int32.toInt_inj, ← Int64.toInt_inj, Int32.reduceToInt, Int64.reduceToInt] <;> omega)) (by revert hN38 hy35 c39 hy46 h_x_2; first | omega | (simp only [vp_in_iff, Int32.lt_iff_toInt_lt, Int32.le_iff_toInt_le, Int64.lt_iff_toInt_lt, Int64.le_iff_toInt_le, Int32.toInt_toInt64, ← Int32.toInt_inj, ← Int64.toInt_inj, Int32.reduceToInt, Int64.reduceToInt] <;> omega)) hP hD hS (lv_sub hl [0, 1, 2, 3, 4] rfl)
          · refine lv_iload hx hb dX5_markAtPlace_35 (lv_at hl 1 rfl) ?_
            exact z_iret C0 hr hlk rfl hK hP hD hS (0, fun _ => 0, fun _ => 0, fun _ => 0, fun _ => (fun _ => 0), fun _ => (fun _ => 0), fun _ => (fun _ => none)) ⟨rfl, (by revert hN38 hy35 c39 h_x_2; first | omega | (simp only [vp_in_iff, Int32.lt_iff_toInt_lt, Int32.le_iff_toInt_le, Int64.lt_iff_toInt_lt, Int64.le_iff_toInt_le, Int32.toInt_toInt64, ← Int32.toInt_inj, ← Int64.toInt_inj, Int32.reduceToInt, Int64.reduceToInt] <;> omega))⟩ [0, 1] rfl rfl rfl dX5_markAtPlace_37
  exact loop37 _ 0 0 _ _ _ (Nat.lt_succ_self _) (by first | omega | (simp only [vp_in_iff, Int32.lt_iff_toInt_lt, Int32.le_iff_toInt_le, Int64.lt_iff_toInt_lt, Int64.le_iff_toInt_le, Int32.toInt_toInt64, ← Int32.toInt_inj, ← Int64.toInt_inj, Int32.reduceToInt, Int64.reduceToInt] <;> omega)) hP hD hS (lv_sub hl [0, 1, 2, 3, 4] rfl)

set_option maxHeartbeats 4000000 in
set_option maxRecDepth 100000 in
theorem s_X5_findAltered_1 (l : Launch) (D : va_G) (k : Nat → ClassId) (q_0 : Nat) (q_1 : Nat) (q_2 : Nat) (q_3 : Nat) (q_4 : Nat) (q_5 : Nat) (q_6 : Nat) (q_7 : Nat) (q_8 : Nat) (q_9 : Nat) (q_10 : Nat) (q_11 : Nat) (q_12 : Nat) (x_0 : Int32) (x_1 : Int32) (x_2 : Int32) (x_3 : Int32) (f_4 : Nat → Int32) (f_5 : Nat → Int32) (f_6 : Nat → Int32) (f_7 : Nat → Int32) (f_8 : Nat → Int32) (f_9 : Nat → Int32) (h_x_0 : 0 ≤ Int32.toInt x_0 ∧ Int32.toInt x_0 ≤ 399) (h_x_1 : 0 ≤ Int32.toInt x_1 ∧ Int32.toInt x_1 ≤ 400) (h_f_5 : zR f_5 0 799) : zMi l yX5_findAltered cX5_findAltered 5 (some .int) ({ frames := 2, cells := 0, slots := 0, locals := 44 }) D k [.ref q_0, .int x_0] [(q_0, .inr (5, [.int x_1, .ref q_7, .ref q_8, .ref q_2, .ref q_4, .ref q_3, .ref q_9, .ref q_10, .ref q_11, .ref q_12, .ref q_1, .ref q_5, .ref q_6, .int x_2, .int x_3])), (q_1, .inl (k 0, 400, .inl f_4)), (q_2, .inl (k 0, 400, .inl f_5)), (q_3, .inl (k 0, 400, .inl f_6)), (q_4, .inl (k 0, 400, .inl f_7)), (q_5, .inl (k 0, 400, .inl f_8)), (q_6, .inl (k 0, 400, .inl f_9))] (fun r u => u.1 = 0 ∧ ((-3) ≤ Int32.toInt r ∧ Int32.toInt r ≤ 399)) (fun u => [(q_0, .inr (5, [.int x_1, .ref q_7, .ref q_8, .ref q_2, .ref q_4, .ref q_3, .ref q_9, .ref q_10, .ref q_11, .ref q_12, .ref q_1, .ref q_5, .ref q_6, .int (u.2.2.1 0), .int (u.2.2.1 1)])), (q_1, .inl (k 0, 400, .inl f_4)), (q_2, .inl (k 0, 400, .inl f_5)), (q_3, .inl (k 0, 400, .inl f_6)), (q_4, .inl (k 0, 400, .inl f_7)), (q_5, .inl (k 0, 400, .inl f_8)), (q_6, .inl (k 0, 400, .inl f_9))]) := by
  refine zMi_of (own := RX5) (by decide +kernel) rfl (Nat.le_of_ble_eq_true rfl) ?_
  intro p e s m args below meth c A ls C0 hr hlk hin hP hD hS hA hK hN hl
  have hx := C0.1
  have hb := C0.2.1
  have hml := C0.2.2.1
  have hown := C0.2.2.2.1
  have hts := C0.2.2.2.2
  have hl : lv_has ls 5 [(0, .ref q_0), (1, .int x_0)] := hl
  have hP : va_P D vwCl [(q_0, .inr (5, [.int x_1, .ref q_7, .ref q_8, .ref q_2, .ref q_4, .ref q_3, .ref q_9, .ref q_10, .ref q_11, .ref q_12, .ref q_1, .ref q_5, .ref q_6, .int x_2, .int x_3])), (q_1, .inl (k 0, 400, .inl f_4)), (q_2, .inl (k 0, 400, .inl f_5)), (q_3, .inl (k 0, 400, .inl f_6)), (q_4, .inl (k 0, 400, .inl f_7)), (q_5, .inl (k 0, 400, .inl f_8)), (q_6, .inl (k 0, 400, .inl f_9))] s.heap := hP
  refine lv_aload_n hx hb dX5_findAltered_0 rfl (lv_at hl 0 rfl) ?_
  refine va_get (D := D) (ci := 5) (v := .ref q_1) (C := RX5) (T := TX5) (N := 15) hx hb hts inX5 hown hK hP 0 rfl rfl 10 (by decide) (hts _ kF_X5_39) (fun _ h9 => h9) rfl dX5_findAltered_1 ?_
  refine lv_iload_n hx hb dX5_findAltered_4 rfl (lv_at hl 1 rfl) ?_
  refine va_iald hx hb hK hP 1 0 rfl rfl (by revert h_x_0; first | omega | (simp only [vp_in_iff, Int32.lt_iff_toInt_lt, Int32.le_iff_toInt_le, Int64.lt_iff_toInt_lt, Int64.le_iff_toInt_le, Int32.toInt_toInt64, ← Int32.toInt_inj, ← Int64.toInt_inj, Int32.reduceToInt, Int64.reduceToInt] <;> omega)) dX5_findAltered_5 ?_
  refine lv_topi (fun y1 ey1 => ?_)
  refine lv_iconst (v := (-1)) hx hb dX5_findAltered_6 (by decide) ?_
  refine lv_icmp_ne (tgt := 13) hx hb dX5_findAltered_7 (by decide) (fun c2 => ?_) (fun c2 => ?_)
  · refine lv_aload_n hx hb dX5_findAltered_13 rfl (lv_at hl 0 rfl) ?_
    refine lv_iload_n hx hb dX5_findAltered_14 rfl (lv_at hl 1 rfl) ?_
    refine z_bi (wr := [(q_1, .inl (k 0, 400, .inl f_4)), (q_5, .inl (k 0, 400, .inl f_8)), (q_6, .inl (k 0, 400, .inl f_9))]) (z_runV (C := RX5) (As := [.int x_0]) (rest := []) C0 (s_X5_sumDay_1 l D k q_0 q_2 q_3 q_4 q_7 q_8 q_9 q_10 q_11 q_12 q_1 q_5 q_6 x_0 x_1 x_2 x_3 f_5 f_6 f_7 (by revert h_x_1; first | omega | (simp only [vp_in_iff, Int32.lt_iff_toInt_lt, Int32.le_iff_toInt_le, Int64.lt_iff_toInt_lt, Int64.le_iff_toInt_le, Int32.toInt_toInt64, ← Int32.toInt_inj, ← Int64.toInt_inj, Int32.reduceToInt, Int64.reduceToInt] <;> omega)) h_f_5 _) okV_X5_sumDay kM_X5_66 rfl (z_pV (q0 := 0) hK hN hP hD [0, 2, 3, 4] rfl rfl rfl rfl rfl) rfl hl.1 rfl (Nat.le_of_ble_eq_true rfl) dX5_findAltered_15 rfl) hP hD hS hA [0, 2, 3, 4] [1, 5, 6] rfl rfl rfl rfl (fun r3 u3 H locs hw3 hP hD hS => ?_)
    obtain ⟨i3, a3, v3, w3, f3, g3, o3⟩ := u3
    dsimp only at hw3
    obtain rfl := hw3
    have hP : va_P D vwCl [(q_1, .inl (k 0, 400, .inl f_4)), (q_5, .inl (k 0, 400, .inl f_8)), (q_6, .inl (k 0, 400, .inl f_9)), (q_0, .inr (5, [.int x_1, .ref q_7, .ref q_8, .ref q_2, .ref q_4, .ref q_3, .ref q_9, .ref q_10, .ref q_11, .ref q_12, .ref q_1, .ref q_5, .ref q_6, .int (v3 0), .int (v3 1)])), (q_2, .inl (k 0, 400, .inl f_5)), (q_3, .inl (k 0, 400, .inl f_6)), (q_4, .inl (k 0, 400, .inl f_7))] H := hP
    have hD : va_D A [(q_1, .inl (k 0, 400, .inl f_4)), (q_5, .inl (k 0, 400, .inl f_8)), (q_6, .inl (k 0, 400, .inl f_9)), (q_0, .inr (5, [.int x_1, .ref q_7, .ref q_8, .ref q_2, .ref q_4, .ref q_3, .ref q_9, .ref q_10, .ref q_11, .ref q_12, .ref q_1, .ref q_5, .ref q_6, .int (v3 0), .int (v3 1)])), (q_2, .inl (k 0, 400, .inl f_5)), (q_3, .inl (k 0, 400, .inl f_6)), (q_4, .inl (k 0, 400, .inl f_7))] := hD
    refine lv_istore_n (lv' := [(2, .int r3), (0, .ref q_0), (1, .int x_0)]) hx hb dX5_findAltered_18 rfl hl (by decide) rfl (fun ls hl => ?_)
    refine lv_aload_n hx hb dX5_findAltered_19 rfl (lv_at hl 1 rfl) ?_
    refine va_get (D := D) (ci := 5) (v := .int (v3 0)) (C := RX5) (T := TX5) (N := 15) hx hb hts inX5 hown hK hP 3 rfl rfl 13 (by decide) (hts _ kF_X5_69) (fun _ h9 => h9) rfl dX5_findAltered_20 ?_
    refine lv_aload_n hx hb dX5_findAltered_23 rfl (lv_at hl 1 rfl) ?_
    refine va_get (D := D) (ci := 5) (v := .ref q_5) (C := RX5) (T := TX5) (N := 15) hx hb hts inX5 hown hK hP 3 rfl rfl 11 (by decide) (hts _ kF_X5_42) (fun _ h9 => h9) rfl dX5_findAltered_24 ?_
    refine lv_iload_n hx hb dX5_findAltered_27 rfl (lv_at hl 2 rfl) ?_
    refine va_iald hx hb hK hP 1 0 rfl rfl (by revert h_x_0; first | omega | (simp only [vp_in_iff, Int32.lt_iff_toInt_lt, Int32.le_iff_toInt_le, Int64.lt_iff_toInt_lt, Int64.le_iff_toInt_le, Int32.toInt_toInt64, ← Int32.toInt_inj, ← Int64.toInt_inj, Int32.reduceToInt, Int64.reduceToInt] <;> omega)) dX5_findAltered_28 ?_
    refine lv_topi (fun y4 ey4 => ?_)
    refine lv_isub hx hb dX5_findAltered_29 ?_
    refine lv_topi (fun y5 ey5 => ?_)
    refine lv_istore_n (lv' := [(3, .int y5), (2, .int r3), (0, .ref q_0), (1, .int x_0)]) hx hb dX5_findAltered_30 rfl hl (by decide) rfl (fun ls hl => ?_)
    refine lv_aload_n hx hb dX5_findAltered_31 rfl (lv_at hl 2 rfl) ?_
    refine va_get (D := D) (ci := 5) (v := .int (v3 1)) (C := RX5) (T := TX5) (N := 15) hx hb hts inX5 hown hK hP 3 rfl rfl 14 (by decide) (hts _ kF_X5_72) (fun _ h9 => h9) rfl dX5_findAltered_32 ?_
    refine lv_aload_n hx hb dX5_findAltered_35 rfl (lv_at hl 2 rfl) ?_
    refine va_get (D := D) (ci := 5) (v := .ref q_6) (C := RX5) (T := TX5) (N := 15) hx hb hts inX5 hown hK hP 3 rfl rfl 12 (by decide) (hts _ kF_X5_45) (fun _ h9 => h9) rfl dX5_findAltered_36 ?_
    refine lv_iload_n hx hb dX5_findAltered_39 rfl (lv_at hl 3 rfl) ?_
    refine va_iald hx hb hK hP 2 0 rfl rfl (by revert h_x_0; first | omega | (simp only [vp_in_iff, Int32.lt_iff_toInt_lt, Int32.le_iff_toInt_le, Int64.lt_iff_toInt_lt, Int64.le_iff_toInt_le, Int32.toInt_toInt64, ← Int32.toInt_inj, ← Int64.toInt_inj, Int32.reduceToInt, Int64.reduceToInt] <;> omega)) dX5_findAltered_40 ?_
    refine lv_topi (fun y6 ey6 => ?_)
    refine lv_isub hx hb dX5_findAltered_41 ?_
    refine lv_topi (fun y7 ey7 => ?_)
    refine lv_istore (lv' := [(4, .int y7), (3, .int y5), (2, .int r3), (0, .ref q_0), (1, .int x_0)]) hx hb dX5_findAltered_42 hl (by decide) rfl (fun ls hl => ?_)
    refine lv_iload_n hx hb dX5_findAltered_44 rfl (lv_at hl 1 rfl) ?_
    refine lv_if_ne (tgt := 55) hx hb dX5_findAltered_45 (by decide) (fun c8 => ?_) (fun c8 => ?_)
    · refine lv_iload_n hx hb dX5_findAltered_55 rfl (lv_at hl 2 rfl) ?_
      refine lv_aload_n hx hb dX5_findAltered_56 rfl (lv_at hl 3 rfl) ?_
      refine va_get (D := D) (ci := 5) (v := .ref q_1) (C := RX5) (T := TX5) (N := 15) hx hb hts inX5 hown hK hP 3 rfl rfl 10 (by decide) (hts _ kF_X5_39) (fun _ h9 => h9) rfl dX5_findAltered_57 ?_
      refine lv_iload_n hx hb dX5_findAltered_60 rfl (lv_at hl 4 rfl) ?_
      refine va_iald hx hb hK hP 0 0 rfl rfl (by revert h_x_0; first | omega | (simp only [vp_in_iff, Int32.lt_iff_toInt_lt, Int32.le_iff_toInt_le, Int64.lt_iff_toInt_lt, Int64.le_iff_toInt_le, Int32.toInt_toInt64, ← Int32.toInt_inj, ← Int64.toInt_inj, Int32.reduceToInt, Int64.reduceToInt] <;> omega)) dX5_findAltered_61 ?_
      refine lv_toc (v := y1) ey1.symm ?_
      refine lv_icmp_gt (tgt := 76) hx hb dX5_findAltered_62 (by decide) (fun c9 => ?_) (fun c9 => ?_)
      · refine lv_bipush (v := (-2)) hx hb dX5_findAltered_76 (by decide) ?_
        exact z_iret C0 hr hlk rfl hK hP hD hS (0, fun _ => 0, fun i => [(v3 0), (v3 1)].getD i 0, fun _ => 0, fun _ => (fun _ => 0), fun _ => (fun _ => 0), fun _ => (fun _ => none)) ⟨rfl, (by decide)⟩ [3, 0, 4, 5, 6, 1, 2] rfl rfl rfl dX5_findAltered_78
      · refine lv_iload_n hx hb dX5_findAltered_65 rfl (lv_at hl 1 rfl) ?_
        refine lv_if_eq (tgt := 76) hx hb dX5_findAltered_66 (by decide) (fun c10 => ?_) (fun c10 => ?_)
        · refine lv_bipush (v := (-2)) hx hb dX5_findAltered_76 (by decide) ?_
          exact z_iret C0 hr hlk rfl hK hP hD hS (0, fun _ => 0, fun i => [(v3 0), (v3 1)].getD i 0, fun _ => 0, fun _ => (fun _ => 0), fun _ => (fun _ => 0), fun _ => (fun _ => none)) ⟨rfl, (by decide)⟩ [3, 0, 4, 5, 6, 1, 2] rfl rfl rfl dX5_findAltered_78
        · refine lv_iload hx hb dX5_findAltered_69 (lv_at hl 0 rfl) ?_
          refine lv_iload_n hx hb dX5_findAltered_71 rfl (lv_at hl 1 rfl) ?_
          refine lv_irem hx hb dX5_findAltered_72 c8 ?_
          refine lv_topi (fun y11 ey11 => ?_)
          refine lv_if_eq (tgt := 79) hx hb dX5_findAltered_73 (by decide) (fun c12 => ?_) (fun c12 => ?_)
          · refine lv_aload_n hx hb dX5_findAltered_79 rfl (lv_at hl 3 rfl) ?_
            refine lv_iload_n hx hb dX5_findAltered_80 rfl (lv_at hl 4 rfl) ?_
            refine lv_iload hx hb dX5_findAltered_81 (lv_at hl 0 rfl) ?_
            refine lv_iload_n hx hb dX5_findAltered_83 rfl (lv_at hl 1 rfl) ?_
            refine lv_idiv hx hb dX5_findAltered_84 c8 ?_
            refine lv_topi (fun y13 ey13 => ?_)
            refine z_bi (wr := [(q_1, .inl (k 0, 400, .inl f_4)), (q_5, .inl (k 0, 400, .inl f_8)), (q_6, .inl (k 0, 400, .inl f_9)), (q_3, .inl (k 0, 400, .inl f_6)), (q_4, .inl (k 0, 400, .inl f_7))]) (z_runV (C := RX5) (As := [.int x_0, .int y13]) (rest := []) C0 (s_X5_markAtPlace_1 l D k q_0 q_2 q_7 q_8 q_4 q_3 q_9 q_10 q_11 q_12 q_1 q_5 q_6 x_0 y13 x_1 (v3 0) (v3 1) f_5 (by revert h_x_1; first | omega | (simp only [vp_in_iff, Int32.lt_iff_toInt_lt, Int32.le_iff_toInt_le, Int64.lt_iff_toInt_lt, Int64.le_iff_toInt_le, Int32.toInt_toInt64, ← Int32.toInt_inj, ← Int64.toInt_inj, Int32.reduceToInt, Int64.reduceToInt] <;> omega)) h_f_5 _) okV_X5_markAtPlace kM_X5_75 rfl (z_pV (q0 := 3) hK hN hP hD [3, 4] rfl rfl rfl rfl rfl) rfl hl.1 rfl (Nat.le_of_ble_eq_true rfl) dX5_findAltered_85 rfl) hP hD hS hA [3, 4] [0, 1, 2, 5, 6] rfl rfl rfl rfl (fun r14 u14 H locs hw14 hP hD hS => ?_)
            obtain ⟨i14, a14, v14, w14, f14, g14, o14⟩ := u14
            dsimp only at hw14
            obtain ⟨rfl, hr14⟩ := hw14
            have hP : va_P D vwCl [(q_1, .inl (k 0, 400, .inl f_4)), (q_5, .inl (k 0, 400, .inl f_8)), (q_6, .inl (k 0, 400, .inl f_9)), (q_3, .inl (k 0, 400, .inl f_6)), (q_4, .inl (k 0, 400, .inl f_7)), (q_0, .inr (5, [.int x_1, .ref q_7, .ref q_8, .ref q_2, .ref q_4, .ref q_3, .ref q_9, .ref q_10, .ref q_11, .ref q_12, .ref q_1, .ref q_5, .ref q_6, .int (v3 0), .int (v3 1)])), (q_2, .inl (k 0, 400, .inl f_5))] H := hP
            have hD : va_D A [(q_1, .inl (k 0, 400, .inl f_4)), (q_5, .inl (k 0, 400, .inl f_8)), (q_6, .inl (k 0, 400, .inl f_9)), (q_3, .inl (k 0, 400, .inl f_6)), (q_4, .inl (k 0, 400, .inl f_7)), (q_0, .inr (5, [.int x_1, .ref q_7, .ref q_8, .ref q_2, .ref q_4, .ref q_3, .ref q_9, .ref q_10, .ref q_11, .ref q_12, .ref q_1, .ref q_5, .ref q_6, .int (v3 0), .int (v3 1)])), (q_2, .inl (k 0, 400, .inl f_5))] := hD
            exact z_iret C0 hr hlk rfl hK hP hD hS (0, fun _ => 0, fun i => [(v3 0), (v3 1)].getD i 0, fun _ => 0, fun _ => (fun _ => 0), fun _ => (fun _ => 0), fun _ => (fun _ => none)) ⟨rfl, (by revert hr14; first | omega | (simp only [vp_in_iff, Int32.lt_iff_toInt_lt, Int32.le_iff_toInt_le, Int64.lt_iff_toInt_lt, Int64.le_iff_toInt_le, Int32.toInt_toInt64, ← Int32.toInt_inj, ← Int64.toInt_inj, Int32.reduceToInt, Int64.reduceToInt] <;> omega))⟩ [5, 0, 6, 3, 4, 1, 2] rfl rfl rfl dX5_findAltered_88
          · refine lv_bipush (v := (-2)) hx hb dX5_findAltered_76 (by decide) ?_
            exact z_iret C0 hr hlk rfl hK hP hD hS (0, fun _ => 0, fun i => [(v3 0), (v3 1)].getD i 0, fun _ => 0, fun _ => (fun _ => 0), fun _ => (fun _ => 0), fun _ => (fun _ => none)) ⟨rfl, (by decide)⟩ [3, 0, 4, 5, 6, 1, 2] rfl rfl rfl dX5_findAltered_78
    · refine lv_iload hx hb dX5_findAltered_48 (lv_at hl 0 rfl) ?_
      refine lv_if_ne (tgt := 55) hx hb dX5_findAltered_50 (by decide) (fun c15 => ?_) (fun c15 => ?_)
      · refine lv_iload_n hx hb dX5_findAltered_55 rfl (lv_at hl 2 rfl) ?_
        refine lv_aload_n hx hb dX5_findAltered_56 rfl (lv_at hl 3 rfl) ?_
        refine va_get (D := D) (ci := 5) (v := .ref q_1) (C := RX5) (T := TX5) (N := 15) hx hb hts inX5 hown hK hP 3 rfl rfl 10 (by decide) (hts _ kF_X5_39) (fun _ h9 => h9) rfl dX5_findAltered_57 ?_
        refine lv_iload_n hx hb dX5_findAltered_60 rfl (lv_at hl 4 rfl) ?_
        refine va_iald hx hb hK hP 0 0 rfl rfl (by revert h_x_0; first | omega | (simp only [vp_in_iff, Int32.lt_iff_toInt_lt, Int32.le_iff_toInt_le, Int64.lt_iff_toInt_lt, Int64.le_iff_toInt_le, Int32.toInt_toInt64, ← Int32.toInt_inj, ← Int64.toInt_inj, Int32.reduceToInt, Int64.reduceToInt] <;> omega)) dX5_findAltered_61 ?_
        refine lv_toc (v := y1) ey1.symm ?_
        refine lv_icmp_gt (tgt := 76) hx hb dX5_findAltered_62 (by decide) (fun c16 => ?_) (fun c16 => ?_)
        · refine lv_bipush (v := (-2)) hx hb dX5_findAltered_76 (by decide) ?_
          exact z_iret C0 hr hlk rfl hK hP hD hS (0, fun _ => 0, fun i => [(v3 0), (v3 1)].getD i 0, fun _ => 0, fun _ => (fun _ => 0), fun _ => (fun _ => 0), fun _ => (fun _ => none)) ⟨rfl, (by decide)⟩ [3, 0, 4, 5, 6, 1, 2] rfl rfl rfl dX5_findAltered_78
        · refine lv_iload_n hx hb dX5_findAltered_65 rfl (lv_at hl 1 rfl) ?_
          refine lv_if_eq (tgt := 76) hx hb dX5_findAltered_66 (by decide) (fun c17 => ?_) (fun c17 => ?_)
          · refine lv_bipush (v := (-2)) hx hb dX5_findAltered_76 (by decide) ?_
            exact z_iret C0 hr hlk rfl hK hP hD hS (0, fun _ => 0, fun i => [(v3 0), (v3 1)].getD i 0, fun _ => 0, fun _ => (fun _ => 0), fun _ => (fun _ => 0), fun _ => (fun _ => none)) ⟨rfl, (by decide)⟩ [3, 0, 4, 5, 6, 1, 2] rfl rfl rfl dX5_findAltered_78
          · exact (show False by revert c8 c17; first | omega | (simp only [vp_in_iff, Int32.lt_iff_toInt_lt, Int32.le_iff_toInt_le, Int64.lt_iff_toInt_lt, Int64.le_iff_toInt_le, Int32.toInt_toInt64, ← Int32.toInt_inj, ← Int64.toInt_inj, Int32.reduceToInt, Int64.reduceToInt] <;> omega)).elim
      · refine lv_iconst (v := (-1)) hx hb dX5_findAltered_53 (by decide) ?_
        exact z_iret C0 hr hlk rfl hK hP hD hS (0, fun _ => 0, fun i => [(v3 0), (v3 1)].getD i 0, fun _ => 0, fun _ => (fun _ => 0), fun _ => (fun _ => 0), fun _ => (fun _ => none)) ⟨rfl, (by decide)⟩ [3, 0, 4, 5, 6, 1, 2] rfl rfl rfl dX5_findAltered_54
  · refine lv_bipush (v := (-3)) hx hb dX5_findAltered_10 (by decide) ?_
    exact z_iret C0 hr hlk rfl hK hP hD hS (0, fun _ => 0, fun i => [x_2, x_3].getD i 0, fun _ => 0, fun _ => (fun _ => 0), fun _ => (fun _ => 0), fun _ => (fun _ => none)) ⟨rfl, (by decide)⟩ [0, 1, 2, 3, 4, 5, 6] rfl rfl rfl dX5_findAltered_12

set_option maxHeartbeats 4000000 in
set_option maxRecDepth 100000 in
theorem s_X11_found_1 (l : Launch) (D : va_G) (k : Nat → ClassId) (q_0 : Nat) (q_1 : Nat) (q_2 : Nat) (q_3 : Nat) (q_4 : Nat) (q_5 : Nat) (q_6 : Nat) (q_7 : Nat) (q_8 : Nat) (q_9 : Nat) (q_10 : Nat) (q_11 : Nat) (q_12 : Nat) (q_13 : Nat) (q_14 : Nat) (q_15 : Nat) (q_16 : Nat) (q_17 : Nat) (q_18 : Nat) (q_19 : Nat) (q_20 : Nat) (q_21 : Nat) (q_22 : Nat) (q_23 : Nat) (x_0 : Int32) (x_1 : Int32) (x_2 : Int32) (x_3 : Int32) (x_4 : Int32) (f_5 : Nat → Int32) (f_6 : Nat → Int32) (f_7 : Nat → Int32) (f_8 : Nat → Int32) (f_9 : Nat → Int32) (f_10 : Nat → Int32) (h_x_2 : 0 ≤ Int32.toInt x_2 ∧ Int32.toInt x_2 ≤ 400) (h_f_6 : zR f_6 0 799) : zMi l yX11_found cX11_found 2 (some .int) ({ frames := 3, cells := 0, slots := 0, locals := 68 }) D k [.ref q_0, .int x_0] [(q_0, .inr (11, [.ref q_1, .ref q_9, .ref q_10, .ref q_11, .ref q_12, .int x_1])), (q_1, .inr (3, [.ref q_13, .ref q_14, .ref q_2, .ref q_15, .ref q_16, .ref q_17])), (q_2, .inr (5, [.int x_2, .ref q_18, .ref q_19, .ref q_4, .ref q_6, .ref q_5, .ref q_20, .ref q_21, .ref q_22, .ref q_23, .ref q_3, .ref q_7, .ref q_8, .int x_3, .int x_4])), (q_3, .inl (k 0, 400, .inl f_5)), (q_4, .inl (k 0, 400, .inl f_6)), (q_5, .inl (k 0, 400, .inl f_7)), (q_6, .inl (k 0, 400, .inl f_8)), (q_7, .inl (k 0, 400, .inl f_9)), (q_8, .inl (k 0, 400, .inl f_10))] (fun r u => u.1 = 0 ∧ ((-3) ≤ Int32.toInt r ∧ Int32.toInt r ≤ 399)) (fun u => [(q_0, .inr (11, [.ref q_1, .ref q_9, .ref q_10, .ref q_11, .ref q_12, .int x_1])), (q_1, .inr (3, [.ref q_13, .ref q_14, .ref q_2, .ref q_15, .ref q_16, .ref q_17])), (q_2, .inr (5, [.int x_2, .ref q_18, .ref q_19, .ref q_4, .ref q_6, .ref q_5, .ref q_20, .ref q_21, .ref q_22, .ref q_23, .ref q_3, .ref q_7, .ref q_8, .int (u.2.2.1 0), .int (u.2.2.1 1)])), (q_3, .inl (k 0, 400, .inl f_5)), (q_4, .inl (k 0, 400, .inl f_6)), (q_5, .inl (k 0, 400, .inl f_7)), (q_6, .inl (k 0, 400, .inl f_8)), (q_7, .inl (k 0, 400, .inl f_9)), (q_8, .inl (k 0, 400, .inl f_10))]) := by
  refine zMi_of (own := RX11) (by decide +kernel) rfl (Nat.le_of_ble_eq_true rfl) ?_
  intro p e s m args below meth c A ls C0 hr hlk hin hP hD hS hA hK hN hl
  have hx := C0.1
  have hb := C0.2.1
  have hml := C0.2.2.1
  have hown := C0.2.2.2.1
  have hts := C0.2.2.2.2
  have hl : lv_has ls 2 [(0, .ref q_0), (1, .int x_0)] := hl
  have hP : va_P D vwCl [(q_0, .inr (11, [.ref q_1, .ref q_9, .ref q_10, .ref q_11, .ref q_12, .int x_1])), (q_1, .inr (3, [.ref q_13, .ref q_14, .ref q_2, .ref q_15, .ref q_16, .ref q_17])), (q_2, .inr (5, [.int x_2, .ref q_18, .ref q_19, .ref q_4, .ref q_6, .ref q_5, .ref q_20, .ref q_21, .ref q_22, .ref q_23, .ref q_3, .ref q_7, .ref q_8, .int x_3, .int x_4])), (q_3, .inl (k 0, 400, .inl f_5)), (q_4, .inl (k 0, 400, .inl f_6)), (q_5, .inl (k 0, 400, .inl f_7)), (q_6, .inl (k 0, 400, .inl f_8)), (q_7, .inl (k 0, 400, .inl f_9)), (q_8, .inl (k 0, 400, .inl f_10))] s.heap := hP
  refine lv_iload_n hx hb dX11_found_0 rfl (lv_at hl 1 rfl) ?_
  refine z_bi0 (z_runS (As := [.int x_0]) (rest := []) C0 (s_X11_isNoDay_1 l D k x_0 _) okS_X11_isNoDay kM_X11_72 rfl (z_p0 hK hN) rfl hl.1 rfl (Nat.le_of_ble_eq_true rfl) dX11_found_1 rfl) hP hS hA (fun r1 u1 H locs hw1 hP hS => ?_)
  obtain ⟨i1, a1, v1, w1, f1, g1, o1⟩ := u1
  dsimp only at hw1
  rcases hw1 with ⟨rfl, rfl, c1⟩ | ⟨rfl, rfl, c1⟩
  · refine lv_if_eq (tgt := 12) hx hb dX11_found_4 (by decide) (fun c2 => absurd c2 (by decide)) (fun _ => ?_)
    refine lv_bipush (v := (-3)) hx hb dX11_found_7 (by decide) ?_
    refine lv_goto (tgt := 23) hx hb dX11_found_9 (by decide) ?_
    exact z_iret C0 hr hlk rfl hK hP hD hS (0, fun _ => 0, fun i => [x_3, x_4].getD i 0, fun _ => 0, fun _ => (fun _ => 0), fun _ => (fun _ => 0), fun _ => (fun _ => none)) ⟨rfl, (by decide)⟩ [0, 1, 2, 3, 4, 5, 6, 7, 8] rfl rfl rfl dX11_found_23
  · refine lv_if_eq (tgt := 12) hx hb dX11_found_4 (by decide) (fun _ => ?_) (fun c3 => absurd (by decide) c3)
    refine lv_aload_n hx hb dX11_found_12 rfl (lv_at hl 0 rfl) ?_
    refine va_get (D := D) (ci := 11) (v := .ref q_1) (C := RX11) (T := TX11) (N := 6) hx hb hts inX11 hown hK hP 0 rfl rfl 0 (by decide) (hts _ kF_X11_12) (fun _ h9 => h9) rfl dX11_found_13 ?_
    refine va_get (D := D) (ci := 3) (v := .ref q_2) (C := RX3) (T := TX3) (N := 6) hx hb hts inX3 hown hK hP 1 rfl rfl 2 (by decide) (hts _ kF_X11_137) (fun _ h9 => h9) rfl dX11_found_16 ?_
    refine lv_iload_n hx hb dX11_found_19 rfl (lv_at hl 1 rfl) ?_
    refine z_bi (wr := [(q_0, .inr (11, [.ref q_1, .ref q_9, .ref q_10, .ref q_11, .ref q_12, .int x_1])), (q_1, .inr (3, [.ref q_13, .ref q_14, .ref q_2, .ref q_15, .ref q_16, .ref q_17]))]) (z_runV (C := RX5) (As := [.int x_0]) (rest := []) C0 (s_X5_findAltered_1 l D k q_2 q_3 q_4 q_5 q_6 q_7 q_8 q_18 q_19 q_20 q_21 q_22 q_23 x_0 x_2 x_3 x_4 f_5 f_6 f_7 f_8 f_9 f_10 (by revert c1; first | omega | (simp only [vp_in_iff, Int32.lt_iff_toInt_lt, Int32.le_iff_toInt_le, Int64.lt_iff_toInt_lt, Int64.le_iff_toInt_le, Int32.toInt_toInt64, ← Int32.toInt_inj, ← Int64.toInt_inj, Int32.reduceToInt, Int64.reduceToInt] <;> omega)) (by revert h_x_2; first | omega | (simp only [vp_in_iff, Int32.lt_iff_toInt_lt, Int32.le_iff_toInt_le, Int64.lt_iff_toInt_lt, Int64.le_iff_toInt_le, Int32.toInt_toInt64, ← Int32.toInt_inj, ← Int64.toInt_inj, Int32.reduceToInt, Int64.reduceToInt] <;> omega)) h_f_6 _) okV_X5_findAltered kM_X11_377 rfl (z_pV (q0 := 2) hK hN hP hD [2, 3, 4, 5, 6, 7, 8] rfl rfl rfl rfl rfl) rfl hl.1 rfl (Nat.le_of_ble_eq_true rfl) dX11_found_20 rfl) hP hD hS hA [2, 3, 4, 5, 6, 7, 8] [0, 1] rfl rfl rfl rfl (fun r4 u4 H locs hw4 hP hD hS => ?_)
    obtain ⟨i4, a4, v4, w4, f4, g4, o4⟩ := u4
    dsimp only at hw4
    obtain ⟨rfl, hr4⟩ := hw4
    have hP : va_P D vwCl [(q_0, .inr (11, [.ref q_1, .ref q_9, .ref q_10, .ref q_11, .ref q_12, .int x_1])), (q_1, .inr (3, [.ref q_13, .ref q_14, .ref q_2, .ref q_15, .ref q_16, .ref q_17])), (q_2, .inr (5, [.int x_2, .ref q_18, .ref q_19, .ref q_4, .ref q_6, .ref q_5, .ref q_20, .ref q_21, .ref q_22, .ref q_23, .ref q_3, .ref q_7, .ref q_8, .int (v4 0), .int (v4 1)])), (q_3, .inl (k 0, 400, .inl f_5)), (q_4, .inl (k 0, 400, .inl f_6)), (q_5, .inl (k 0, 400, .inl f_7)), (q_6, .inl (k 0, 400, .inl f_8)), (q_7, .inl (k 0, 400, .inl f_9)), (q_8, .inl (k 0, 400, .inl f_10))] H := hP
    have hD : va_D A [(q_0, .inr (11, [.ref q_1, .ref q_9, .ref q_10, .ref q_11, .ref q_12, .int x_1])), (q_1, .inr (3, [.ref q_13, .ref q_14, .ref q_2, .ref q_15, .ref q_16, .ref q_17])), (q_2, .inr (5, [.int x_2, .ref q_18, .ref q_19, .ref q_4, .ref q_6, .ref q_5, .ref q_20, .ref q_21, .ref q_22, .ref q_23, .ref q_3, .ref q_7, .ref q_8, .int (v4 0), .int (v4 1)])), (q_3, .inl (k 0, 400, .inl f_5)), (q_4, .inl (k 0, 400, .inl f_6)), (q_5, .inl (k 0, 400, .inl f_7)), (q_6, .inl (k 0, 400, .inl f_8)), (q_7, .inl (k 0, 400, .inl f_9)), (q_8, .inl (k 0, 400, .inl f_10))] := hD
    exact z_iret C0 hr hlk rfl hK hP hD hS (0, fun _ => 0, fun i => [(v4 0), (v4 1)].getD i 0, fun _ => 0, fun _ => (fun _ => 0), fun _ => (fun _ => 0), fun _ => (fun _ => none)) ⟨rfl, (by revert hr4; first | omega | (simp only [vp_in_iff, Int32.lt_iff_toInt_lt, Int32.le_iff_toInt_le, Int64.lt_iff_toInt_lt, Int64.le_iff_toInt_le, Int32.toInt_toInt64, ← Int32.toInt_inj, ← Int64.toInt_inj, Int32.reduceToInt, Int64.reduceToInt] <;> omega))⟩ [0, 1, 2, 3, 4, 5, 6, 7, 8] rfl rfl rfl dX11_found_23

set_option maxHeartbeats 4000000 in
set_option maxRecDepth 100000 in
theorem s_X11_count_1 (l : Launch) (D : va_G) (k : Nat → ClassId) (q_0 : Nat) (q_1 : Nat) (q_2 : Nat) (q_3 : Nat) (q_4 : Nat) (q_5 : Nat) (q_6 : Nat) (q_7 : Nat) (q_8 : Nat) (q_9 : Nat) (q_10 : Nat) (q_11 : Nat) (q_12 : Nat) (q_13 : Nat) (q_14 : Nat) (q_15 : Nat) (q_16 : Nat) (q_17 : Nat) (q_18 : Nat) (q_19 : Nat) (q_20 : Nat) (q_21 : Nat) (q_22 : Nat) (q_23 : Nat) (q_24 : Nat) (q_25 : Nat) (q_26 : Nat) (q_27 : Nat) (q_28 : Nat) (q_29 : Nat) (q_30 : Nat) (q_31 : Nat) (q_32 : Nat) (q_33 : Nat) (q_34 : Nat) (q_35 : Nat) (q_36 : Nat) (q_37 : Nat) (q_38 : Nat) (q_39 : Nat) (q_40 : Nat) (q_41 : Nat) (q_42 : Nat) (q_43 : Nat) (q_44 : Nat) (q_45 : Nat) (q_46 : Nat) (q_47 : Nat) (q_48 : Nat) (q_49 : Nat) (q_50 : Nat) (q_51 : Nat) (q_52 : Nat) (q_53 : Nat) (q_54 : Nat) (q_55 : Nat) (q_56 : Nat) (x_0 : Int32) (x_1 : Int32) (x_2 : Int32) (x_3 : Int32) (x_4 : Int32) (x_5 : Int32) (x_6 : Int32) (x_7 : Int32) (x_8 : Int32) (x_9 : Int32) (x_10 : Int32) (x_11 : Int32) (x_12 : Int32) (x_13 : Int32) (x_14 : Int32) (x_15 : Int32) (x_16 : Int32) (x_17 : Int32) (x_18 : Int32) (x_19 : Int32) (x_20 : Int32) (x_21 : Int32) (x_22 : Int32) (g_23 : Int64) (x_24 : Int32) (h_x_2 : 0 ≤ Int32.toInt x_2 ∧ Int32.toInt x_2 ≤ 40) (h_x_3 : 0 ≤ Int32.toInt x_3 ∧ Int32.toInt x_3 ≤ 5) (h_x_4 : 0 ≤ Int32.toInt x_4 ∧ Int32.toInt x_4 ≤ 60) (h_x_5 : 0 ≤ Int32.toInt x_5 ∧ Int32.toInt x_5 ≤ 120) (h_x_6 : 0 ≤ Int32.toInt x_6 ∧ Int32.toInt x_6 ≤ 400) (h_x_9 : 0 ≤ Int32.toInt x_9 ∧ Int32.toInt x_9 ≤ 20) (h_x_10 : 0 ≤ Int32.toInt x_10 ∧ Int32.toInt x_10 ≤ 6) (h_x_11 : 0 ≤ Int32.toInt x_11 ∧ Int32.toInt x_11 ≤ 6) (h_x_12 : 0 ≤ Int32.toInt x_12 ∧ Int32.toInt x_12 ≤ 9) (h_x_13 : 0 ≤ Int32.toInt x_13 ∧ Int32.toInt x_13 ≤ 12) (h_x_14 : 0 ≤ Int32.toInt x_14 ∧ Int32.toInt x_14 ≤ 400) (h_x_16 : 0 ≤ Int32.toInt x_16 ∧ Int32.toInt x_16 ≤ 12) (h_x_17 : 0 ≤ Int32.toInt x_17 ∧ Int32.toInt x_17 ≤ 400) (h_x_18 : 0 ≤ Int32.toInt x_18 ∧ Int32.toInt x_18 ≤ 50) (h_x_20 : 0 ≤ Int32.toInt x_20 ∧ Int32.toInt x_20 ≤ 400) (h_x_21 : 0 ≤ Int32.toInt x_21 ∧ Int32.toInt x_21 ≤ 400) (h_x_22 : 0 ≤ Int32.toInt x_22 ∧ Int32.toInt x_22 ≤ 10001) : zMi l yX11_count cX11_count 2 (some .int) ({ frames := 0, cells := 0, slots := 0, locals := 0 }) D k [.ref q_0, .int x_0] [(q_0, .inr (11, [.ref q_1, .ref q_8, .ref q_7, .ref q_9, .ref q_10, .int x_1])), (q_1, .inr (3, [.ref q_2, .ref q_3, .ref q_4, .ref q_5, .ref q_11, .ref q_6])), (q_2, .inr (6, [.int x_2, .ref q_12, .ref q_13, .ref q_14, .ref q_15, .ref q_16, .int x_3, .ref q_17, .int x_4, .ref q_18, .ref q_19, .ref q_20, .ref q_21, .ref q_22, .ref q_23])), (q_3, .inr (8, [.int x_5, .ref q_24, .ref q_25, .ref q_26, .ref q_27, .ref q_28])), (q_4, .inr (5, [.int x_6, .ref q_29, .ref q_30, .ref q_31, .ref q_32, .ref q_33, .ref q_34, .ref q_35, .ref q_36, .ref q_37, .ref q_38, .ref q_39, .ref q_40, .int x_7, .int x_8])), (q_5, .inr (0, [.int x_9, .ref q_41, .ref q_42])), (q_6, .inr (4, [.int x_10, .ref q_43, .int x_11, .ref q_44, .ref q_45, .int x_12, .ref q_46, .ref q_47, .ref q_48, .int x_13, .ref q_49, .ref q_50, .ref q_51])), (q_7, .inr (7, [.ref q_52, .int x_14, .int x_15, .int x_16, .ref q_53, .ref q_54, .ref q_55, .ref q_56, .int x_17, .int x_18, .int x_19, .int x_20, .int x_21, .int x_22, .long g_23, .int x_24]))] (fun r u => u.1 = 0 ∧ ((-1) ≤ Int32.toInt r ∧ Int32.toInt r ≤ 400)) (fun u => [(q_0, .inr (11, [.ref q_1, .ref q_8, .ref q_7, .ref q_9, .ref q_10, .int x_1])), (q_1, .inr (3, [.ref q_2, .ref q_3, .ref q_4, .ref q_5, .ref q_11, .ref q_6])), (q_2, .inr (6, [.int x_2, .ref q_12, .ref q_13, .ref q_14, .ref q_15, .ref q_16, .int x_3, .ref q_17, .int x_4, .ref q_18, .ref q_19, .ref q_20, .ref q_21, .ref q_22, .ref q_23])), (q_3, .inr (8, [.int x_5, .ref q_24, .ref q_25, .ref q_26, .ref q_27, .ref q_28])), (q_4, .inr (5, [.int x_6, .ref q_29, .ref q_30, .ref q_31, .ref q_32, .ref q_33, .ref q_34, .ref q_35, .ref q_36, .ref q_37, .ref q_38, .ref q_39, .ref q_40, .int x_7, .int x_8])), (q_5, .inr (0, [.int x_9, .ref q_41, .ref q_42])), (q_6, .inr (4, [.int x_10, .ref q_43, .int x_11, .ref q_44, .ref q_45, .int x_12, .ref q_46, .ref q_47, .ref q_48, .int x_13, .ref q_49, .ref q_50, .ref q_51])), (q_7, .inr (7, [.ref q_52, .int x_14, .int x_15, .int x_16, .ref q_53, .ref q_54, .ref q_55, .ref q_56, .int x_17, .int x_18, .int x_19, .int x_20, .int x_21, .int x_22, .long g_23, .int x_24]))]) := by
  refine zMi_of (own := RX11) (by decide +kernel) rfl (Nat.le_of_ble_eq_true rfl) ?_
  intro p e s m args below meth c A ls C0 hr hlk hin hP hD hS hA hK hN hl
  have hx := C0.1
  have hb := C0.2.1
  have hml := C0.2.2.1
  have hown := C0.2.2.2.1
  have hts := C0.2.2.2.2
  have hl : lv_has ls 2 [(0, .ref q_0), (1, .int x_0)] := hl
  have hP : va_P D vwCl [(q_0, .inr (11, [.ref q_1, .ref q_8, .ref q_7, .ref q_9, .ref q_10, .int x_1])), (q_1, .inr (3, [.ref q_2, .ref q_3, .ref q_4, .ref q_5, .ref q_11, .ref q_6])), (q_2, .inr (6, [.int x_2, .ref q_12, .ref q_13, .ref q_14, .ref q_15, .ref q_16, .int x_3, .ref q_17, .int x_4, .ref q_18, .ref q_19, .ref q_20, .ref q_21, .ref q_22, .ref q_23])), (q_3, .inr (8, [.int x_5, .ref q_24, .ref q_25, .ref q_26, .ref q_27, .ref q_28])), (q_4, .inr (5, [.int x_6, .ref q_29, .ref q_30, .ref q_31, .ref q_32, .ref q_33, .ref q_34, .ref q_35, .ref q_36, .ref q_37, .ref q_38, .ref q_39, .ref q_40, .int x_7, .int x_8])), (q_5, .inr (0, [.int x_9, .ref q_41, .ref q_42])), (q_6, .inr (4, [.int x_10, .ref q_43, .int x_11, .ref q_44, .ref q_45, .int x_12, .ref q_46, .ref q_47, .ref q_48, .int x_13, .ref q_49, .ref q_50, .ref q_51])), (q_7, .inr (7, [.ref q_52, .int x_14, .int x_15, .int x_16, .ref q_53, .ref q_54, .ref q_55, .ref q_56, .int x_17, .int x_18, .int x_19, .int x_20, .int x_21, .int x_22, .long g_23, .int x_24]))] s.heap := hP
  refine lv_iload_n hx hb dX11_count_0 rfl (lv_at hl 1 rfl) ?_
  by_cases c1 : x_0 = 0
  · refine lv_tableIn (off := 55) (tgt := 56) hx hb dX11_count_1 (by rw [c1]; decide) (by rw [c1]; decide) (by rw [c1]; rfl) (by decide) ?_
    refine lv_aload_n hx hb dX11_count_56 rfl (lv_at hl 0 rfl) ?_
    refine va_get (D := D) (ci := 11) (v := .ref q_1) (C := RX11) (T := TX11) (N := 6) hx hb hts inX11 hown hK hP 0 rfl rfl 0 (by decide) (hts _ kF_X11_12) (fun _ h9 => h9) rfl dX11_count_57 ?_
    refine va_get (D := D) (ci := 3) (v := .ref q_2) (C := RX3) (T := TX3) (N := 6) hx hb hts inX3 hown hK hP 1 rfl rfl 0 (by decide) (hts _ kF_X11_43) (fun _ h9 => h9) rfl dX11_count_60 ?_
    refine va_get (D := D) (ci := 6) (v := .int x_2) (C := RX6) (T := TX6) (N := 15) hx hb hts inX6 hown hK hP 2 rfl rfl 0 (by decide) (hts _ kF_X11_59) (fun _ h9 => h9) rfl dX11_count_63 ?_
    exact z_iret C0 hr hlk rfl hK hP hD hS (0, fun _ => 0, fun _ => 0, fun _ => 0, fun _ => (fun _ => 0), fun _ => (fun _ => 0), fun _ => (fun _ => none)) ⟨rfl, (by revert h_x_2; first | omega | (simp only [vp_in_iff, Int32.lt_iff_toInt_lt, Int32.le_iff_toInt_le, Int64.lt_iff_toInt_lt, Int64.le_iff_toInt_le, Int32.toInt_toInt64, ← Int32.toInt_inj, ← Int64.toInt_inj, Int32.reduceToInt, Int64.reduceToInt] <;> omega))⟩ [0, 1, 2, 3, 4, 5, 6, 7] rfl rfl rfl dX11_count_66
  · by_cases c2 : x_0 = 1
    · refine lv_tableIn (off := 66) (tgt := 67) hx hb dX11_count_1 (by rw [c2]; decide) (by rw [c2]; decide) (by rw [c2]; rfl) (by decide) ?_
      refine lv_aload_n hx hb dX11_count_67 rfl (lv_at hl 0 rfl) ?_
      refine va_get (D := D) (ci := 11) (v := .ref q_1) (C := RX11) (T := TX11) (N := 6) hx hb hts inX11 hown hK hP 0 rfl rfl 0 (by decide) (hts _ kF_X11_12) (fun _ h9 => h9) rfl dX11_count_68 ?_
      refine va_get (D := D) (ci := 3) (v := .ref q_2) (C := RX3) (T := TX3) (N := 6) hx hb hts inX3 hown hK hP 1 rfl rfl 0 (by decide) (hts _ kF_X11_43) (fun _ h9 => h9) rfl dX11_count_71 ?_
      refine va_get (D := D) (ci := 6) (v := .int x_3) (C := RX6) (T := TX6) (N := 15) hx hb hts inX6 hown hK hP 2 rfl rfl 6 (by decide) (hts _ kF_X11_69) (fun _ h9 => h9) rfl dX11_count_74 ?_
      exact z_iret C0 hr hlk rfl hK hP hD hS (0, fun _ => 0, fun _ => 0, fun _ => 0, fun _ => (fun _ => 0), fun _ => (fun _ => 0), fun _ => (fun _ => none)) ⟨rfl, (by revert h_x_3; first | omega | (simp only [vp_in_iff, Int32.lt_iff_toInt_lt, Int32.le_iff_toInt_le, Int64.lt_iff_toInt_lt, Int64.le_iff_toInt_le, Int32.toInt_toInt64, ← Int32.toInt_inj, ← Int64.toInt_inj, Int32.reduceToInt, Int64.reduceToInt] <;> omega))⟩ [0, 1, 2, 3, 4, 5, 6, 7] rfl rfl rfl dX11_count_77
    · by_cases c3 : x_0 = 2
      · refine lv_tableIn (off := 77) (tgt := 78) hx hb dX11_count_1 (by rw [c3]; decide) (by rw [c3]; decide) (by rw [c3]; rfl) (by decide) ?_
        refine lv_aload_n hx hb dX11_count_78 rfl (lv_at hl 0 rfl) ?_
        refine va_get (D := D) (ci := 11) (v := .ref q_1) (C := RX11) (T := TX11) (N := 6) hx hb hts inX11 hown hK hP 0 rfl rfl 0 (by decide) (hts _ kF_X11_12) (fun _ h9 => h9) rfl dX11_count_79 ?_
        refine va_get (D := D) (ci := 3) (v := .ref q_3) (C := RX3) (T := TX3) (N := 6) hx hb hts inX3 hown hK hP 1 rfl rfl 1 (by decide) (hts _ kF_X11_86) (fun _ h9 => h9) rfl dX11_count_82 ?_
        refine va_get (D := D) (ci := 8) (v := .int x_5) (C := RX8) (T := TX8) (N := 6) hx hb hts inX8 hown hK hP 3 rfl rfl 0 (by decide) (hts _ kF_X11_105) (fun _ h9 => h9) rfl dX11_count_85 ?_
        exact z_iret C0 hr hlk rfl hK hP hD hS (0, fun _ => 0, fun _ => 0, fun _ => 0, fun _ => (fun _ => 0), fun _ => (fun _ => 0), fun _ => (fun _ => none)) ⟨rfl, (by revert h_x_5; first | omega | (simp only [vp_in_iff, Int32.lt_iff_toInt_lt, Int32.le_iff_toInt_le, Int64.lt_iff_toInt_lt, Int64.le_iff_toInt_le, Int32.toInt_toInt64, ← Int32.toInt_inj, ← Int64.toInt_inj, Int32.reduceToInt, Int64.reduceToInt] <;> omega))⟩ [0, 1, 2, 3, 4, 5, 6, 7] rfl rfl rfl dX11_count_88
      · by_cases c4 : x_0 = 3
        · refine lv_tableIn (off := 88) (tgt := 89) hx hb dX11_count_1 (by rw [c4]; decide) (by rw [c4]; decide) (by rw [c4]; rfl) (by decide) ?_
          refine lv_aload_n hx hb dX11_count_89 rfl (lv_at hl 0 rfl) ?_
          refine va_get (D := D) (ci := 11) (v := .ref q_1) (C := RX11) (T := TX11) (N := 6) hx hb hts inX11 hown hK hP 0 rfl rfl 0 (by decide) (hts _ kF_X11_12) (fun _ h9 => h9) rfl dX11_count_90 ?_
          refine va_get (D := D) (ci := 3) (v := .ref q_4) (C := RX3) (T := TX3) (N := 6) hx hb hts inX3 hown hK hP 1 rfl rfl 2 (by decide) (hts _ kF_X11_137) (fun _ h9 => h9) rfl dX11_count_93 ?_
          refine va_get (D := D) (ci := 5) (v := .int x_6) (C := RX5) (T := TX5) (N := 15) hx hb hts inX5 hown hK hP 4 rfl rfl 0 (by decide) (hts _ kF_X11_141) (fun _ h9 => h9) rfl dX11_count_96 ?_
          exact z_iret C0 hr hlk rfl hK hP hD hS (0, fun _ => 0, fun _ => 0, fun _ => 0, fun _ => (fun _ => 0), fun _ => (fun _ => 0), fun _ => (fun _ => none)) ⟨rfl, (by revert h_x_6; first | omega | (simp only [vp_in_iff, Int32.lt_iff_toInt_lt, Int32.le_iff_toInt_le, Int64.lt_iff_toInt_lt, Int64.le_iff_toInt_le, Int32.toInt_toInt64, ← Int32.toInt_inj, ← Int64.toInt_inj, Int32.reduceToInt, Int64.reduceToInt] <;> omega))⟩ [0, 1, 2, 3, 4, 5, 6, 7] rfl rfl rfl dX11_count_99
        · by_cases c5 : x_0 = 4
          · refine lv_tableIn (off := 99) (tgt := 100) hx hb dX11_count_1 (by rw [c5]; decide) (by rw [c5]; decide) (by rw [c5]; rfl) (by decide) ?_
            refine lv_aload_n hx hb dX11_count_100 rfl (lv_at hl 0 rfl) ?_
            refine va_get (D := D) (ci := 11) (v := .ref q_1) (C := RX11) (T := TX11) (N := 6) hx hb hts inX11 hown hK hP 0 rfl rfl 0 (by decide) (hts _ kF_X11_12) (fun _ h9 => h9) rfl dX11_count_101 ?_
            refine va_get (D := D) (ci := 3) (v := .ref q_5) (C := RX3) (T := TX3) (N := 6) hx hb hts inX3 hown hK hP 1 rfl rfl 3 (by decide) (hts _ kF_X11_187) (fun _ h9 => h9) rfl dX11_count_104 ?_
            refine va_get (D := D) (ci := 0) (v := .int x_9) (C := RX0) (T := TX0) (N := 3) hx hb hts inX0 hown hK hP 5 rfl rfl 0 (by decide) (hts _ kF_X11_191) (fun _ h9 => h9) rfl dX11_count_107 ?_
            exact z_iret C0 hr hlk rfl hK hP hD hS (0, fun _ => 0, fun _ => 0, fun _ => 0, fun _ => (fun _ => 0), fun _ => (fun _ => 0), fun _ => (fun _ => none)) ⟨rfl, (by revert h_x_9; first | omega | (simp only [vp_in_iff, Int32.lt_iff_toInt_lt, Int32.le_iff_toInt_le, Int64.lt_iff_toInt_lt, Int64.le_iff_toInt_le, Int32.toInt_toInt64, ← Int32.toInt_inj, ← Int64.toInt_inj, Int32.reduceToInt, Int64.reduceToInt] <;> omega))⟩ [0, 1, 2, 3, 4, 5, 6, 7] rfl rfl rfl dX11_count_110
          · by_cases c6 : x_0 = 5
            · refine lv_tableIn (off := 110) (tgt := 111) hx hb dX11_count_1 (by rw [c6]; decide) (by rw [c6]; decide) (by rw [c6]; rfl) (by decide) ?_
              refine lv_aload_n hx hb dX11_count_111 rfl (lv_at hl 0 rfl) ?_
              refine va_get (D := D) (ci := 11) (v := .ref q_1) (C := RX11) (T := TX11) (N := 6) hx hb hts inX11 hown hK hP 0 rfl rfl 0 (by decide) (hts _ kF_X11_12) (fun _ h9 => h9) rfl dX11_count_112 ?_
              refine va_get (D := D) (ci := 3) (v := .ref q_6) (C := RX3) (T := TX3) (N := 6) hx hb hts inX3 hown hK hP 1 rfl rfl 5 (by decide) (hts _ kF_X11_263) (fun _ h9 => h9) rfl dX11_count_115 ?_
              refine va_get (D := D) (ci := 4) (v := .int x_10) (C := RX4) (T := TX4) (N := 13) hx hb hts inX4 hown hK hP 6 rfl rfl 0 (by decide) (hts _ kF_X11_270) (fun _ h9 => h9) rfl dX11_count_118 ?_
              exact z_iret C0 hr hlk rfl hK hP hD hS (0, fun _ => 0, fun _ => 0, fun _ => 0, fun _ => (fun _ => 0), fun _ => (fun _ => 0), fun _ => (fun _ => none)) ⟨rfl, (by revert h_x_10; first | omega | (simp only [vp_in_iff, Int32.lt_iff_toInt_lt, Int32.le_iff_toInt_le, Int64.lt_iff_toInt_lt, Int64.le_iff_toInt_le, Int32.toInt_toInt64, ← Int32.toInt_inj, ← Int64.toInt_inj, Int32.reduceToInt, Int64.reduceToInt] <;> omega))⟩ [0, 1, 2, 3, 4, 5, 6, 7] rfl rfl rfl dX11_count_121
            · by_cases c7 : x_0 = 6
              · refine lv_tableIn (off := 121) (tgt := 122) hx hb dX11_count_1 (by rw [c7]; decide) (by rw [c7]; decide) (by rw [c7]; rfl) (by decide) ?_
                refine lv_aload_n hx hb dX11_count_122 rfl (lv_at hl 0 rfl) ?_
                refine va_get (D := D) (ci := 11) (v := .ref q_1) (C := RX11) (T := TX11) (N := 6) hx hb hts inX11 hown hK hP 0 rfl rfl 0 (by decide) (hts _ kF_X11_12) (fun _ h9 => h9) rfl dX11_count_123 ?_
                refine va_get (D := D) (ci := 3) (v := .ref q_6) (C := RX3) (T := TX3) (N := 6) hx hb hts inX3 hown hK hP 1 rfl rfl 5 (by decide) (hts _ kF_X11_263) (fun _ h9 => h9) rfl dX11_count_126 ?_
                refine va_get (D := D) (ci := 4) (v := .int x_11) (C := RX4) (T := TX4) (N := 13) hx hb hts inX4 hown hK hP 6 rfl rfl 2 (by decide) (hts _ kF_X11_281) (fun _ h9 => h9) rfl dX11_count_129 ?_
                exact z_iret C0 hr hlk rfl hK hP hD hS (0, fun _ => 0, fun _ => 0, fun _ => 0, fun _ => (fun _ => 0), fun _ => (fun _ => 0), fun _ => (fun _ => none)) ⟨rfl, (by revert h_x_11; first | omega | (simp only [vp_in_iff, Int32.lt_iff_toInt_lt, Int32.le_iff_toInt_le, Int64.lt_iff_toInt_lt, Int64.le_iff_toInt_le, Int32.toInt_toInt64, ← Int32.toInt_inj, ← Int64.toInt_inj, Int32.reduceToInt, Int64.reduceToInt] <;> omega))⟩ [0, 1, 2, 3, 4, 5, 6, 7] rfl rfl rfl dX11_count_132
              · by_cases c8 : x_0 = 7
                · refine lv_tableIn (off := 132) (tgt := 133) hx hb dX11_count_1 (by rw [c8]; decide) (by rw [c8]; decide) (by rw [c8]; rfl) (by decide) ?_
                  refine lv_aload_n hx hb dX11_count_133 rfl (lv_at hl 0 rfl) ?_
                  refine va_get (D := D) (ci := 11) (v := .ref q_1) (C := RX11) (T := TX11) (N := 6) hx hb hts inX11 hown hK hP 0 rfl rfl 0 (by decide) (hts _ kF_X11_12) (fun _ h9 => h9) rfl dX11_count_134 ?_
                  refine va_get (D := D) (ci := 3) (v := .ref q_6) (C := RX3) (T := TX3) (N := 6) hx hb hts inX3 hown hK hP 1 rfl rfl 5 (by decide) (hts _ kF_X11_263) (fun _ h9 => h9) rfl dX11_count_137 ?_
                  refine va_get (D := D) (ci := 4) (v := .int x_12) (C := RX4) (T := TX4) (N := 13) hx hb hts inX4 hown hK hP 6 rfl rfl 5 (by decide) (hts _ kF_X11_315) (fun _ h9 => h9) rfl dX11_count_140 ?_
                  exact z_iret C0 hr hlk rfl hK hP hD hS (0, fun _ => 0, fun _ => 0, fun _ => 0, fun _ => (fun _ => 0), fun _ => (fun _ => 0), fun _ => (fun _ => none)) ⟨rfl, (by revert h_x_12; first | omega | (simp only [vp_in_iff, Int32.lt_iff_toInt_lt, Int32.le_iff_toInt_le, Int64.lt_iff_toInt_lt, Int64.le_iff_toInt_le, Int32.toInt_toInt64, ← Int32.toInt_inj, ← Int64.toInt_inj, Int32.reduceToInt, Int64.reduceToInt] <;> omega))⟩ [0, 1, 2, 3, 4, 5, 6, 7] rfl rfl rfl dX11_count_143
                · by_cases c9 : x_0 = 8
                  · refine lv_tableIn (off := 143) (tgt := 144) hx hb dX11_count_1 (by rw [c9]; decide) (by rw [c9]; decide) (by rw [c9]; rfl) (by decide) ?_
                    refine lv_aload_n hx hb dX11_count_144 rfl (lv_at hl 0 rfl) ?_
                    refine va_get (D := D) (ci := 11) (v := .ref q_1) (C := RX11) (T := TX11) (N := 6) hx hb hts inX11 hown hK hP 0 rfl rfl 0 (by decide) (hts _ kF_X11_12) (fun _ h9 => h9) rfl dX11_count_145 ?_
                    refine va_get (D := D) (ci := 3) (v := .ref q_6) (C := RX3) (T := TX3) (N := 6) hx hb hts inX3 hown hK hP 1 rfl rfl 5 (by decide) (hts _ kF_X11_263) (fun _ h9 => h9) rfl dX11_count_148 ?_
                    refine va_get (D := D) (ci := 4) (v := .int x_13) (C := RX4) (T := TX4) (N := 13) hx hb hts inX4 hown hK hP 6 rfl rfl 9 (by decide) (hts _ kF_X11_352) (fun _ h9 => h9) rfl dX11_count_151 ?_
                    exact z_iret C0 hr hlk rfl hK hP hD hS (0, fun _ => 0, fun _ => 0, fun _ => 0, fun _ => (fun _ => 0), fun _ => (fun _ => 0), fun _ => (fun _ => none)) ⟨rfl, (by revert h_x_13; first | omega | (simp only [vp_in_iff, Int32.lt_iff_toInt_lt, Int32.le_iff_toInt_le, Int64.lt_iff_toInt_lt, Int64.le_iff_toInt_le, Int32.toInt_toInt64, ← Int32.toInt_inj, ← Int64.toInt_inj, Int32.reduceToInt, Int64.reduceToInt] <;> omega))⟩ [0, 1, 2, 3, 4, 5, 6, 7] rfl rfl rfl dX11_count_154
                  · by_cases c10 : x_0 = 9
                    · refine lv_tableIn (off := 154) (tgt := 155) hx hb dX11_count_1 (by rw [c10]; decide) (by rw [c10]; decide) (by rw [c10]; rfl) (by decide) ?_
                      refine lv_aload_n hx hb dX11_count_155 rfl (lv_at hl 0 rfl) ?_
                      refine va_get (D := D) (ci := 11) (v := .ref q_7) (C := RX11) (T := TX11) (N := 6) hx hb hts inX11 hown hK hP 0 rfl rfl 2 (by decide) (hts _ kF_X11_23) (fun _ h9 => h9) rfl dX11_count_156 ?_
                      refine va_get (D := D) (ci := 7) (v := .int x_14) (C := RX7) (T := TX7) (N := 16) hx hb hts inX7 hown hK hP 7 rfl rfl 1 (by decide) (hts _ kF_X11_181) (fun _ h9 => h9) rfl dX11_count_159 ?_
                      exact z_iret C0 hr hlk rfl hK hP hD hS (0, fun _ => 0, fun _ => 0, fun _ => 0, fun _ => (fun _ => 0), fun _ => (fun _ => 0), fun _ => (fun _ => none)) ⟨rfl, (by revert h_x_14; first | omega | (simp only [vp_in_iff, Int32.lt_iff_toInt_lt, Int32.le_iff_toInt_le, Int64.lt_iff_toInt_lt, Int64.le_iff_toInt_le, Int32.toInt_toInt64, ← Int32.toInt_inj, ← Int64.toInt_inj, Int32.reduceToInt, Int64.reduceToInt] <;> omega))⟩ [0, 1, 2, 3, 4, 5, 6, 7] rfl rfl rfl dX11_count_162
                    · refine lv_tableOut (tgt := 163) hx hb dX11_count_1 (by have := Int32.le_toInt x_0; have := Int32.toInt_lt x_0; revert c1 c2 c3 c4 c5 c6 c7 c8 c9 c10; first | omega | (simp only [vp_in_iff, Int32.lt_iff_toInt_lt, Int32.le_iff_toInt_le, Int64.lt_iff_toInt_lt, Int64.le_iff_toInt_le, Int32.toInt_toInt64, ← Int32.toInt_inj, ← Int64.toInt_inj, Int32.reduceToInt, Int64.reduceToInt] <;> omega)) (by decide) ?_
                      refine lv_iconst (v := (-1)) hx hb dX11_count_163 (by decide) ?_
                      exact z_iret C0 hr hlk rfl hK hP hD hS (0, fun _ => 0, fun _ => 0, fun _ => 0, fun _ => (fun _ => 0), fun _ => (fun _ => 0), fun _ => (fun _ => none)) ⟨rfl, (by decide)⟩ [0, 1, 2, 3, 4, 5, 6, 7] rfl rfl rfl dX11_count_164

set_option maxHeartbeats 4000000 in
set_option maxRecDepth 100000 in
theorem s_X11_status_1 (l : Launch) (D : va_G) (k : Nat → ClassId) (q_0 : Nat) (q_1 : Nat) (q_2 : Nat) (q_3 : Nat) (q_4 : Nat) (q_5 : Nat) (x_0 : Int32) : zMi l yX11_status cX11_status 1 (some .int) ({ frames := 0, cells := 0, slots := 0, locals := 0 }) D k [.ref q_0] [(q_0, .inr (11, [.ref q_1, .ref q_2, .ref q_3, .ref q_4, .ref q_5, .int x_0]))] (fun r u => u.1 = 0) (fun u => [(q_0, .inr (11, [.ref q_1, .ref q_2, .ref q_3, .ref q_4, .ref q_5, .int x_0]))]) := by
  refine zMi_of (own := RX11) (by decide +kernel) rfl (Nat.le_of_ble_eq_true rfl) ?_
  intro p e s m args below meth c A ls C0 hr hlk hin hP hD hS hA hK hN hl
  have hx := C0.1
  have hb := C0.2.1
  have hml := C0.2.2.1
  have hown := C0.2.2.2.1
  have hts := C0.2.2.2.2
  have hl : lv_has ls 1 [(0, .ref q_0)] := hl
  have hP : va_P D vwCl [(q_0, .inr (11, [.ref q_1, .ref q_2, .ref q_3, .ref q_4, .ref q_5, .int x_0]))] s.heap := hP
  refine lv_aload_n hx hb dX11_status_0 rfl (lv_at hl 0 rfl) ?_
  refine va_get (D := D) (ci := 11) (v := .int x_0) (C := RX11) (T := TX11) (N := 6) hx hb hts inX11 hown hK hP 0 rfl rfl 5 (by decide) (hts _ kF_X11_383) (fun _ h9 => h9) rfl dX11_status_1 ?_
  exact z_iret C0 hr hlk rfl hK hP hD hS (0, fun _ => 0, fun _ => 0, fun _ => 0, fun _ => (fun _ => 0), fun _ => (fun _ => 0), fun _ => (fun _ => none)) rfl [0] rfl rfl rfl dX11_status_4
