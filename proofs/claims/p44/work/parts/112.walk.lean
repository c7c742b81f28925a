set_option maxHeartbeats 4000000 in
set_option maxRecDepth 100000 in
theorem s_X11_round_1 (l : Launch) (D : va_G) (k : Nat → ClassId) (q_0 : Nat) (q_1 : Nat) (q_2 : Nat) (q_3 : Nat) (q_4 : Nat) (q_5 : Nat) (q_6 : Nat) (q_7 : Nat) (q_8 : Nat) (q_9 : Nat) (q_10 : Nat) (q_11 : Nat) (q_12 : Nat) (q_13 : Nat) (q_14 : Nat) (q_15 : Nat) (q_16 : Nat) (q_17 : Nat) (q_18 : Nat) (q_19 : Nat) (q_20 : Nat) (q_21 : Nat) (q_22 : Nat) (q_23 : Nat) (q_24 : Nat) (q_25 : Nat) (q_26 : Nat) (q_27 : Nat) (q_28 : Nat) (q_29 : Nat) (q_30 : Nat) (q_31 : Nat) (q_32 : Nat) (q_33 : Nat) (q_34 : Nat) (q_35 : Nat) (x_0 : Int32) (x_1 : Int32) (x_2 : Int32) (x_3 : Int32) (x_4 : Int32) (x_5 : Int32) (x_6 : Int32) (x_7 : Int32) (x_8 : Int32) (x_9 : Int32) (x_10 : Int32) (x_11 : Int32) (x_12 : Int32) (x_13 : Int32) (f_14 : Nat → Int32) (x_15 : Int32) (x_16 : Int32) (x_17 : Int32) (f_18 : Nat → Int32) (f_19 : Nat → Int32) (f_20 : Nat → Int32) (f_21 : Nat → Int32) (f_22 : Nat → Int32) (f_23 : Nat → Int32) (f_24 : Nat → Int32) (h_x_5 : 0 ≤ Int32.toInt x_5 ∧ Int32.toInt x_5 ≤ 6) (h_x_10 : 0 ≤ Int32.toInt x_10 ∧ Int32.toInt x_10 ≤ 6) (h_x_11 : 0 ≤ Int32.toInt x_11 ∧ Int32.toInt x_11 ≤ 6) (h_x_12 : 0 ≤ Int32.toInt x_12 ∧ Int32.toInt x_12 ≤ 9) (h_x_13 : 0 ≤ Int32.toInt x_13 ∧ Int32.toInt x_13 ≤ 12) (h_f_14 : zR f_14 0 39) (h_x_15 : 0 ≤ Int32.toInt x_15 ∧ Int32.toInt x_15 ≤ 40) (h_x_16 : 0 ≤ Int32.toInt x_16 ∧ Int32.toInt x_16 ≤ 5) (h_x_17 : 0 ≤ Int32.toInt x_17 ∧ Int32.toInt x_17 ≤ 60) (h_f_18 : zR f_18 0 99) (h_f_19 : zR f_19 0 99) : zMi l yX11_round cX11_round 5 (some .int) ({ frames := 4, cells := 0, slots := 0, locals := 115 }) D k [.ref q_0, .int x_0, .int x_1, .int x_2, .int x_3] [(q_0, .inr (11, [.ref q_12, .ref q_13, .ref q_14, .ref q_15, .ref q_1, .int x_4])), (q_1, .inr (2, [.ref q_4, .ref q_2, .ref q_16, .int x_5, .int x_6, .ref q_17, .ref q_18, .ref q_19, .int x_7, .int x_8, .int x_9, .ref q_8, .ref q_7, .ref q_9])), (q_2, .inr (4, [.int x_10, .ref q_20, .int x_11, .ref q_21, .ref q_22, .int x_12, .ref q_3, .ref q_10, .ref q_11, .int x_13, .ref q_23, .ref q_24, .ref q_25])), (q_3, .inl (k 0, 9, .inl f_14)), (q_4, .inr (6, [.int x_15, .ref q_26, .ref q_27, .ref q_28, .ref q_5, .ref q_6, .int x_16, .ref q_29, .int x_17, .ref q_30, .ref q_31, .ref q_32, .ref q_33, .ref q_34, .ref q_35])), (q_5, .inl (k 0, 40, .inl f_18)), (q_6, .inl (k 0, 40, .inl f_19)), (q_7, .inl (k 0, 9, .inl f_20)), (q_8, .inl (k 0, 81, .inl f_21)), (q_9, .inl (k 0, 4608, .inl f_22)), (q_10, .inl (k 0, 9, .inl f_23)), (q_11, .inl (k 0, 9, .inl f_24))] (fun r u => u.1 = 0) (fun u => [(q_0, .inr (11, [.ref q_12, .ref q_13, .ref q_14, .ref q_15, .ref q_1, .int x_4])), (q_1, .inr (2, [.ref q_4, .ref q_2, .ref q_16, .int x_5, .int x_6, .ref q_17, .ref q_18, .ref q_19, .int (u.2.2.1 0), .int (u.2.2.1 1), .int (u.2.2.1 2), .ref q_8, .ref q_7, .ref q_9])), (q_2, .inr (4, [.int x_10, .ref q_20, .int x_11, .ref q_21, .ref q_22, .int x_12, .ref q_3, .ref q_10, .ref q_11, .int x_13, .ref q_23, .ref q_24, .ref q_25])), (q_3, .inl (k 0, 9, .inl f_14)), (q_4, .inr (6, [.int x_15, .ref q_26, .ref q_27, .ref q_28, .ref q_5, .ref q_6, .int x_16, .ref q_29, .int x_17, .ref q_30, .ref q_31, .ref q_32, .ref q_33, .ref q_34, .ref q_35])), (q_5, .inl (k 0, 40, .inl f_18)), (q_6, .inl (k 0, 40, .inl f_19)), (q_7, .inl (k 0, 9, .inl (u.2.2.2.2.1 0))), (q_8, .inl (k 0, 81, .inl (u.2.2.2.2.1 1))), (q_9, .inl (k 0, 4608, .inl (u.2.2.2.2.1 2))), (q_10, .inl (k 0, 9, .inl f_23)), (q_11, .inl (k 0, 9, .inl f_24))]) := by
  refine zMi_of (own := RX11) (by decide +kernel) rfl (Nat.le_of_ble_eq_true rfl) ?_
  intro p e s m args below meth c A ls C0 hr hlk hin hP hD hS hA hK hN hl
  have hx := C0.1
  have hb := C0.2.1
  have hml := C0.2.2.1
  have hown := C0.2.2.2.1
  have hts := C0.2.2.2.2
  have hl : lv_has ls 5 [(0, .ref q_0), (1, .int x_0), (2, .int x_1), (3, .int x_2), (4, .int x_3)] := hl
  have hP : va_P D vwCl [(q_0, .inr (11, [.ref q_12, .ref q_13, .ref q_14, .ref q_15, .ref q_1, .int x_4])), (q_1, .inr (2, [.ref q_4, .ref q_2, .ref q_16, .int x_5, .int x_6, .ref q_17, .ref q_18, .ref q_19, .int x_7, .int x_8, .int x_9, .ref q_8, .ref q_7, .ref q_9])), (q_2, .inr (4, [.int x_10, .ref q_20, .int x_11, .ref q_21, .ref q_22, .int x_12, .ref q_3, .ref q_10, .ref q_11, .int x_13, .ref q_23, .ref q_24, .ref q_25])), (q_3, .inl (k 0, 9, .inl f_14)), (q_4, .inr (6, [.int x_15, .ref q_26, .ref q_27, .ref q_28, .ref q_5, .ref q_6, .int x_16, .ref q_29, .int x_17, .ref q_30, .ref q_31, .ref q_32, .ref q_33, .ref q_34, .ref q_35])), (q_5, .inl (k 0, 40, .inl f_18)), (q_6, .inl (k 0, 40, .inl f_19)), (q_7, .inl (k 0, 9, .inl f_20)), (q_8, .inl (k 0, 81, .inl f_21)), (q_9, .inl (k 0, 4608, .inl f_22)), (q_10, .inl (k 0, 9, .inl f_23)), (q_11, .inl (k 0, 9, .inl f_24))] s.heap := hP
  refine lv_iload_n hx hb dX11_round_0 rfl (lv_at hl 1 rfl) ?_
  refine lv_iload_n hx hb dX11_round_1 rfl (lv_at hl 2 rfl) ?_
  refine z_bi0 (z_runS (As := [.int x_0, .int x_1]) (rest := []) C0 (s_X11_isNoPlace_1 l D k x_0 x_1 _) okS_X11_isNoPlace kM_X11_51 rfl (z_p0 hK hN) rfl hl.1 rfl (Nat.le_of_ble_eq_true rfl) dX11_round_2 rfl) hP hS hA (fun r1 u1 H locs hw1 hP hS => ?_)
  obtain ⟨i1, a1, v1, w1, f1, g1, o1⟩ := u1
  dsimp only at hw1
  rcases hw1 with ⟨rfl, rfl, c1⟩ | ⟨rfl, rfl, c1⟩
  · refine lv_if_ne (tgt := 29) hx hb dX11_round_5 (by decide) (fun _ => ?_) (fun c2 => absurd c2 (by decide))
    refine lv_iconst (v := (-1)) hx hb dX11_round_29 (by decide) ?_
    exact z_iret C0 hr hlk rfl hK hP hD hS (0, fun _ => 0, fun i => [x_7, x_8, x_9].getD i 0, fun _ => 0, fun i => [f_20, f_21, f_22].getD i (fun _ => 0), fun _ => (fun _ => 0), fun _ => (fun _ => none)) rfl [0, 1, 2, 3, 4, 5, 6, 7, 8, 9, 10, 11] rfl rfl rfl dX11_round_30
  · refine lv_if_ne (tgt := 29) hx hb dX11_round_5 (by decide) (fun c3 => absurd (by decide) c3) (fun _ => ?_)
    refine lv_iload_n hx hb dX11_round_8 rfl (lv_at hl 3 rfl) ?_
    refine lv_iconst (v := 0) hx hb dX11_round_9 (by decide) ?_
    refine lv_sipush (v := 2000) hx hb dX11_round_10 (by decide) ?_
    refine z_bi0 (z_runS (As := [.int x_2, .int 0, .int 2000]) (rest := []) C0 (s_X11_isOutside_1 l D k x_2 0 2000 _) okS_X11_isOutside kM_X11_47 rfl (z_p0 hK hN) rfl hl.1 rfl (Nat.le_of_ble_eq_true rfl) dX11_round_13 rfl) hP hS hA (fun r4 u4 H locs hw4 hP hS => ?_)
    obtain ⟨i4, a4, v4, w4, f4, g4, o4⟩ := u4
    dsimp only at hw4
    rcases hw4 with ⟨rfl, rfl, c4⟩ | ⟨rfl, rfl, c4⟩
    · refine lv_if_ne (tgt := 29) hx hb dX11_round_16 (by decide) (fun _ => ?_) (fun c5 => absurd c5 (by decide))
      refine lv_iconst (v := (-1)) hx hb dX11_round_29 (by decide) ?_
      exact z_iret C0 hr hlk rfl hK hP hD hS (0, fun _ => 0, fun i => [x_7, x_8, x_9].getD i 0, fun _ => 0, fun i => [f_20, f_21, f_22].getD i (fun _ => 0), fun _ => (fun _ => 0), fun _ => (fun _ => none)) rfl [0, 1, 2, 3, 4, 5, 6, 7, 8, 9, 10, 11] rfl rfl rfl dX11_round_30
    · refine lv_if_ne (tgt := 29) hx hb dX11_round_16 (by decide) (fun c6 => absurd (by decide) c6) (fun _ => ?_)
      refine lv_iload hx hb dX11_round_19 (lv_at hl 4 rfl) ?_
      refine lv_iconst (v := 0) hx hb dX11_round_21 (by decide) ?_
      refine lv_iconst (v := 2) hx hb dX11_round_22 (by decide) ?_
      refine z_bi0 (z_runS (As := [.int x_3, .int 0, .int 2]) (rest := []) C0 (s_X11_isOutside_1 l D k x_3 0 2 _) okS_X11_isOutside kM_X11_47 rfl (z_p0 hK hN) rfl hl.1 rfl (Nat.le_of_ble_eq_true rfl) dX11_round_23 rfl) hP hS hA (fun r7 u7 H locs hw7 hP hS => ?_)
      obtain ⟨i7, a7, v7, w7, f7, g7, o7⟩ := u7
      dsimp only at hw7
      rcases hw7 with ⟨rfl, rfl, c7⟩ | ⟨rfl, rfl, c7⟩
      · refine lv_if_eq (tgt := 31) hx hb dX11_round_26 (by decide) (fun c8 => absurd c8 (by decide)) (fun _ => ?_)
        refine lv_iconst (v := (-1)) hx hb dX11_round_29 (by decide) ?_
        exact z_iret C0 hr hlk rfl hK hP hD hS (0, fun _ => 0, fun i => [x_7, x_8, x_9].getD i 0, fun _ => 0, fun i => [f_20, f_21, f_22].getD i (fun _ => 0), fun _ => (fun _ => 0), fun _ => (fun _ => none)) rfl [0, 1, 2, 3, 4, 5, 6, 7, 8, 9, 10, 11] rfl rfl rfl dX11_round_30
      · refine lv_if_eq (tgt := 31) hx hb dX11_round_26 (by decide) (fun _ => ?_) (fun c9 => absurd (by decide) c9)
        refine lv_aload_n hx hb dX11_round_31 rfl (lv_at hl 0 rfl) ?_
        refine va_get (D := D) (ci := 11) (v := .ref q_1) (C := RX11) (T := TX11) (N := 6) hx hb hts inX11 hown hK hP 0 rfl rfl 4 (by decide) (hts _ kF_X11_39) (fun _ h9 => h9) rfl dX11_round_32 ?_
        refine lv_iload_n hx hb dX11_round_35 rfl (lv_at hl 1 rfl) ?_
        refine lv_iload_n hx hb dX11_round_36 rfl (lv_at hl 2 rfl) ?_
        refine lv_iload_n hx hb dX11_round_37 rfl (lv_at hl 3 rfl) ?_
        refine z_bv (wr := [(q_0, .inr (11, [.ref q_12, .ref q_13, .ref q_14, .ref q_15, .ref q_1, .int x_4]))]) (z_runV (C := RX2) (As := [.int x_0, .int x_1, .int x_2]) (rest := []) C0 (s_X2_bestRound_1 l D k q_1 q_2 q_3 q_4 q_5 q_6 q_7 q_8 q_9 q_10 q_11 q_16 q_17 q_18 q_19 q_20 q_21 q_22 q_23 q_24 q_25 q_26 q_27 q_28 q_29 q_30 q_31 q_32 q_33 q_34 q_35 x_0 x_1 x_2 x_5 x_6 x_7 x_8 x_9 x_10 x_11 x_12 x_13 f_14 x_15 x_16 x_17 f_18 f_19 f_20 f_21 f_22 f_23 f_24 (by revert h_x_5; simp only [vp_in_iff, Int32.lt_iff_toInt_lt, Int32.le_iff_toInt_le, Int64.lt_iff_toInt_lt, Int64.le_iff_toInt_le, Int32.toInt_toInt64, ← Int32.toInt_inj, ← Int64.toInt_inj, Int32.reduceToInt, Int64.reduceToInt] <;> omega) (by revert h_x_10; simp only [vp_in_iff, Int32.lt_iff_toInt_lt, Int32.le_iff_toInt_le, Int64.lt_iff_toInt_lt, Int64.le_iff_toInt_le, Int32.toInt_toInt64, ← Int32.toInt_inj, ← Int64.toInt_inj, Int32.reduceToInt, Int64.reduceToInt] <;> omega) (by revert h_x_11; simp only [vp_in_iff, Int32.lt_iff_toInt_lt, Int32.le_iff_toInt_le, Int64.lt_iff_toInt_lt, Int64.le_iff_toInt_le, Int32.toInt_toInt64, ← Int32.toInt_inj, ← Int64.toInt_inj, Int32.reduceToInt, Int64.reduceToInt] <;> omega) (by revert h_x_12; simp only [vp_in_iff, Int32.lt_iff_toInt_lt, Int32.le_iff_toInt_le, Int64.lt_iff_toInt_lt, Int64.le_iff_toInt_le, Int32.toInt_toInt64, ← Int32.toInt_inj, ← Int64.toInt_inj, Int32.reduceToInt, Int64.reduceToInt] <;> omega) (by revert h_x_13; simp only [vp_in_iff, Int32.lt_iff_toInt_lt, Int32.le_iff_toInt_le, Int64.lt_iff_toInt_lt, Int64.le_iff_toInt_le, Int32.toInt_toInt64, ← Int32.toInt_inj, ← Int64.toInt_inj, Int32.reduceToInt, Int64.reduceToInt] <;> omega) h_f_14 (by revert h_x_15; simp only [vp_in_iff, Int32.lt_iff_toInt_lt, Int32.le_iff_toInt_le, Int64.lt_iff_toInt_lt, Int64.le_iff_toInt_le, Int32.toInt_toInt64, ← Int32.toInt_inj, ← Int64.toInt_inj, Int32.reduceToInt, Int64.reduceToInt] <;> omega) (by revert h_x_16; simp only [vp_in_iff, Int32.lt_iff_toInt_lt, Int32.le_iff_toInt_le, Int64.lt_iff_toInt_lt, Int64.le_iff_toInt_le, Int32.toInt_toInt64, ← Int32.toInt_inj, ← Int64.toInt_inj, Int32.reduceToInt, Int64.reduceToInt] <;> omega) (by revert h_x_17; simp only [vp_in_iff, Int32.lt_iff_toInt_lt, Int32.le_iff_toInt_le, Int64.lt_iff_toInt_lt, Int64.le_iff_toInt_le, Int32.toInt_toInt64, ← Int32.toInt_inj, ← Int64.toInt_inj, Int32.reduceToInt, Int64.reduceToInt] <;> omega) h_f_18 h_f_19 _) okV_X2_bestRound kM_X11_327 rfl (z_pV (q0 := 1) hK hN hP hD [1, 2, 3, 4, 5, 6, 7, 8, 9, 10, 11] rfl rfl rfl rfl rfl) rfl hl.1 rfl (Nat.le_of_ble_eq_true rfl) dX11_round_38 rfl) hP hD hS hA [1, 2, 3, 4, 5, 6, 7, 8, 9, 10, 11] [0] rfl rfl rfl rfl (fun u10 H locs hw10 hP hD hS => ?_)
        obtain ⟨i10, a10, v10, w10, f10, g10, o10⟩ := u10
        dsimp only at hw10
        obtain rfl := hw10
        have hP : va_P D vwCl [(q_0, .inr (11, [.ref q_12, .ref q_13, .ref q_14, .ref q_15, .ref q_1, .int x_4])), (q_1, .inr (2, [.ref q_4, .ref q_2, .ref q_16, .int x_5, .int x_6, .ref q_17, .ref q_18, .ref q_19, .int (v10 0), .int (v10 1), .int (v10 2), .ref q_8, .ref q_7, .ref q_9])), (q_2, .inr (4, [.int x_10, .ref q_20, .int x_11, .ref q_21, .ref q_22, .int x_12, .ref q_3, .ref q_10, .ref q_11, .int x_13, .ref q_23, .ref q_24, .ref q_25])), (q_3, .inl (k 0, 9, .inl f_14)), (q_4, .inr (6, [.int x_15, .ref q_26, .ref q_27, .ref q_28, .ref q_5, .ref q_6, .int x_16, .ref q_29, .int x_17, .ref q_30, .ref q_31, .ref q_32, .ref q_33, .ref q_34, .ref q_35])), (q_5, .inl (k 0, 40, .inl f_18)), (q_6, .inl (k 0, 40, .inl f_19)), (q_7, .inl (k 0, 9, .inl (f10 0))), (q_8, .inl (k 0, 81, .inl (f10 1))), (q_9, .inl (k 0, 4608, .inl (f10 2))), (q_10, .inl (k 0, 9, .inl f_23)), (q_11, .inl (k 0, 9, .inl f_24))] H := hP
        have hD : va_D A [(q_0, .inr (11, [.ref q_12, .ref q_13, .ref q_14, .ref q_15, .ref q_1, .int x_4])), (q_1, .inr (2, [.ref q_4, .ref q_2, .ref q_16, .int x_5, .int x_6, .ref q_17, .ref q_18, .ref q_19, .int (v10 0), .int (v10 1), .int (v10 2), .ref q_8, .ref q_7, .ref q_9])), (q_2, .inr (4, [.int x_10, .ref q_20, .int x_11, .ref q_21, .ref q_22, .int x_12, .ref q_3, .ref q_10, .ref q_11, .int x_13, .ref q_23, .ref q_24, .ref q_25])), (q_3, .inl (k 0, 9, .inl f_14)), (q_4, .inr (6, [.int x_15, .ref q_26, .ref q_27, .ref q_28, .ref q_5, .ref q_6, .int x_16, .ref q_29, .int x_17, .ref q_30, .ref q_31, .ref q_32, .ref q_33, .ref q_34, .ref q_35])), (q_5, .inl (k 0, 40, .inl f_18)), (q_6, .inl (k 0, 40, .inl f_19)), (q_7, .inl (k 0, 9, .inl (f10 0))), (q_8, .inl (k 0, 81, .inl (f10 1))), (q_9, .inl (k 0, 4608, .inl (f10 2))), (q_10, .inl (k 0, 9, .inl f_23)), (q_11, .inl (k 0, 9, .inl f_24))] := hD
        refine lv_iload hx hb dX11_round_41 (lv_at hl 4 rfl) ?_
        refine lv_if_ne (tgt := 56) hx hb dX11_round_43 (by decide) (fun c11 => ?_) (fun c11 => ?_)
        · refine lv_iload hx hb dX11_round_56 (lv_at hl 4 rfl) ?_
          refine lv_iconst (v := 1) hx hb dX11_round_58 (by decide) ?_
          refine lv_icmp_ne (tgt := 72) hx hb dX11_round_59 (by decide) (fun c12 => ?_) (fun c12 => ?_)
          · refine lv_aload_n hx hb dX11_round_72 rfl (lv_at hl 0 rfl) ?_
            refine va_get (D := D) (ci := 11) (v := .ref q_1) (C := RX11) (T := TX11) (N := 6) hx hb hts inX11 hown hK hP 0 rfl rfl 4 (by decide) (hts _ kF_X11_39) (fun _ h9 => h9) rfl dX11_round_73 ?_
            refine va_get (D := D) (ci := 2) (v := .int (v10 2)) (C := RX2) (T := TX2) (N := 14) hx hb hts inX2 hown hK hP 1 rfl rfl 10 (by decide) (hts _ kF_X11_337) (fun _ h9 => h9) rfl dX11_round_76 ?_
            exact z_iret C0 hr hlk rfl hK hP hD hS (0, fun _ => 0, fun i => [(v10 0), (v10 1), (v10 2)].getD i 0, fun _ => 0, fun i => [(f10 0), (f10 1), (f10 2)].getD i (fun _ => 0), fun _ => (fun _ => 0), fun _ => (fun _ => none)) rfl [0, 1, 2, 3, 4, 5, 6, 7, 8, 9, 10, 11] rfl rfl rfl dX11_round_79
          · refine lv_aload_n hx hb dX11_round_62 rfl (lv_at hl 0 rfl) ?_
            refine va_get (D := D) (ci := 11) (v := .ref q_1) (C := RX11) (T := TX11) (N := 6) hx hb hts inX11 hown hK hP 0 rfl rfl 4 (by decide) (hts _ kF_X11_39) (fun _ h9 => h9) rfl dX11_round_63 ?_
            refine va_get (D := D) (ci := 2) (v := .int (v10 1)) (C := RX2) (T := TX2) (N := 14) hx hb hts inX2 hown hK hP 1 rfl rfl 9 (by decide) (hts _ kF_X11_334) (fun _ h9 => h9) rfl dX11_round_66 ?_
            refine lv_goto (tgt := 79) hx hb dX11_round_69 (by decide) ?_
            exact z_iret C0 hr hlk rfl hK hP hD hS (0, fun _ => 0, fun i => [(v10 0), (v10 1), (v10 2)].getD i 0, fun _ => 0, fun i => [(f10 0), (f10 1), (f10 2)].getD i (fun _ => 0), fun _ => (fun _ => 0), fun _ => (fun _ => none)) rfl [0, 1, 2, 3, 4, 5, 6, 7, 8, 9, 10, 11] rfl rfl rfl dX11_round_79
        · refine lv_aload_n hx hb dX11_round_46 rfl (lv_at hl 0 rfl) ?_
          refine va_get (D := D) (ci := 11) (v := .ref q_1) (C := RX11) (T := TX11) (N := 6) hx hb hts inX11 hown hK hP 0 rfl rfl 4 (by decide) (hts _ kF_X11_39) (fun _ h9 => h9) rfl dX11_round_47 ?_
          refine va_get (D := D) (ci := 2) (v := .int (v10 0)) (C := RX2) (T := TX2) (N := 14) hx hb hts inX2 hown hK hP 1 rfl rfl 8 (by decide) (hts _ kF_X11_331) (fun _ h9 => h9) rfl dX11_round_50 ?_
          refine lv_goto (tgt := 79) hx hb dX11_round_53 (by decide) ?_
          exact z_iret C0 hr hlk rfl hK hP hD hS (0, fun _ => 0, fun i => [(v10 0), (v10 1), (v10 2)].getD i 0, fun _ => 0, fun i => [(f10 0), (f10 1), (f10 2)].getD i (fun _ => 0), fun _ => (fun _ => 0), fun _ => (fun _ => none)) rfl [0, 1, 2, 3, 4, 5, 6, 7, 8, 9, 10, 11] rfl rfl rfl dX11_round_79

set_option maxHeartbeats 4000000 in
set_option maxRecDepth 100000 in
theorem s_X11_isAmong_2 (l : Launch) (D : va_G) (k : Nat → ClassId) (q_0 : Nat) (x_0 : Int32) (x_1 : Int32) (f_2 : Nat → Int32) : zMi l yX11_isAmong cX11_isAmong 4 (some .boolean) ({ frames := 0, cells := 0, slots := 0, locals := 0 }) D k [.ref q_0, .int x_0, .int x_1] [(q_0, .inl (k 0, 12, .inl f_2))] (fun r u => (u.1 = 0 ∧ r = 0) ∨ (u.1 = 1 ∧ r = 1)) (fun u => [(q_0, .inl (k 0, 12, .inl f_2))]) := by
  refine zMi_of (own := RX11) (by decide +kernel) rfl (Nat.le_of_ble_eq_true rfl) ?_
  intro p e s m args below meth c A ls C0 hr hlk hin hP hD hS hA hK hN hl
  have hx := C0.1
  have hb := C0.2.1
  have hml := C0.2.2.1
  have hown := C0.2.2.2.1
  have hts := C0.2.2.2.2
  have hl : lv_has ls 4 [(0, .ref q_0), (1, .int x_0), (2, .int x_1)] := hl
  have hP : va_P D vwCl [(q_0, .inl (k 0, 12, .inl f_2))] s.heap := hP
  refine lv_iconst (v := 0) hx hb dX11_isAmong_0 (by decide) ?_
  refine lv_istore_n (lv' := [(3, .int 0), (0, .ref q_0), (1, .int x_0), (2, .int x_1)]) hx hb dX11_isAmong_1 rfl hl (by decide) rfl (fun ls hl => ?_)
  have loop7 : ∀ (N8 : Nat) (y6 : Int32) (H : Heap) (locs : List Loc) (ls : Array Slot), Int.toNat (12 - Int32.toInt y6) < N8 → 0 ≤ Int32.toInt y6 ∧ Int32.toInt y6 ≤ 12 → va_P D vwCl [(q_0, .inl (k 0, 12, .inl f_2))] H → va_D A [(q_0, .inl (k 0, 12, .inl f_2))] → va_S A s.heap H locs → lv_has ls 4 [(3, .int y6), (0, .ref q_0), (1, .int x_0), (2, .int x_1)] → W p l e { frames := 0, cells := 0, slots := 0, locals := 0 } s m args below meth c H locs 0 0 (MQ below (va_Qi (fun (r : Int32) (u : zS) => (u.1 = 0 ∧ r = 0) ∨ (u.1 = 1 ∧ r = 1)) (zB D k A (fun (u : zS) => [(q_0, .inl (k 0, 12, .inl f_2))])) A) args s 0 0 A) (F0 m 2 ls []) := by
    intro N8
    induction N8 with
    | zero => intro y6 H locs ls hm; exact absurd hm (Nat.not_lt_zero _)
    | succ N8 ihN8 =>
      intro y6 H locs ls hN8 hy6 hP hD hS hl
      refine lv_iload_n hx hb dX11_isAmong_2 rfl (lv_at hl 0 rfl) ?_
      refine lv_iload_n hx hb dX11_isAmong_3 rfl (lv_at hl 2 rfl) ?_
      refine lv_icmp_ge (tgt := 28) hx hb dX11_isAmong_4 (by decide) (fun c9 => ?_) (fun c9 => ?_)
      · refine lv_iconst (v := 0) hx hb dX11_isAmong_28 (by decide) ?_
        exact z_iret C0 hr hlk rfl hK hP hD hS (0, fun _ => 0, fun _ => 0, fun _ => 0, fun _ => (fun _ => 0), fun _ => (fun _ => 0), fun _ => (fun _ => none)) (Or.inl ⟨rfl, rfl⟩) [0] rfl rfl rfl dX11_isAmong_29
      · refine lv_iload_n hx hb dX11_isAmong_7 rfl (lv_at hl 0 rfl) ?_
        refine lv_aload_n hx hb dX11_isAmong_8 rfl (lv_at hl 1 rfl) ?_
        refine va_alen (v := 12) (ty := .int) hx hb hK hP 0 0 rfl rfl (by decide) dX11_isAmong_9 ?_
        refine lv_icmp_ge (tgt := 28) hx hb dX11_isAmong_10 (by decide) (fun c10 => ?_) (fun c10 => ?_)
        · refine lv_iconst (v := 0) hx hb dX11_isAmong_28 (by decide) ?_
          exact z_iret C0 hr hlk rfl hK hP hD hS (0, fun _ => 0, fun _ => 0, fun _ => 0, fun _ => (fun _ => 0), fun _ => (fun _ => 0), fun _ => (fun _ => none)) (Or.inl ⟨rfl, rfl⟩) [0] rfl rfl rfl dX11_isAmong_29
        · refine lv_aload_n hx hb dX11_isAmong_13 rfl (lv_at hl 1 rfl) ?_
          refine lv_iload_n hx hb dX11_isAmong_14 rfl (lv_at hl 0 rfl) ?_
          refine va_iald hx hb hK hP 0 0 rfl rfl (by revert hN8 hy6 c9 c10; simp only [vp_in_iff, Int32.lt_iff_toInt_lt, Int32.le_iff_toInt_le, Int64.lt_iff_toInt_lt, Int64.le_iff_toInt_le, Int32.toInt_toInt64, ← Int32.toInt_inj, ← Int64.toInt_inj, Int32.reduceToInt, Int64.reduceToInt] <;> omega) dX11_isAmong_15 ?_
          refine lv_topi (fun y11 ey11 => ?_)
          refine lv_iload_n hx hb dX11_isAmong_16 rfl (lv_at hl 3 rfl) ?_
          refine lv_icmp_ne (tgt := 22) hx hb dX11_isAmong_17 (by decide) (fun c12 => ?_) (fun c12 => ?_)
          · have e13 : Int32.toInt (y6 + 1) = Int32.toInt y6 + Int32.toInt (1 : Int32) := zi_add (by revert hN8 hy6 c9 c10; simp only [vp_in_iff, Int32.lt_iff_toInt_lt, Int32.le_iff_toInt_le, Int64.lt_iff_toInt_lt, Int64.le_iff_toInt_le, Int32.toInt_toInt64, ← Int32.toInt_inj, ← Int64.toInt_inj, Int32.reduceToInt, Int64.reduceToInt] <;> omega)
            refine lv_iinc (v := (y6 + 1)) (lv' := [(3, .int (y6 + 1)), (0, .ref q_0), (1, .int x_0), (2, .int x_1)]) hx hb dX11_isAmong_22 hl (k := 0) rfl rfl (by decide) rfl (fun ls hl => ?_)
            refine lv_goto (tgt := 2) hx hb dX11_isAmong_25 (by decide) ?_
            exact ihN8 (y6 + 1) _ _ ls (by revert hN8 hy6 c9 c10 e13; simp only [vp_in_iff, Int32.lt_iff_toInt_lt, Int32.le_iff_toInt_le, Int64.lt_iff_toInt_lt, Int64.le_iff_toInt_le, Int32.toInt_toInt64, ← Int32.toInt_inj, ← Int64.toInt_inj, Int32.reduceToInt, Int64.reduceToInt] <;> omega) (by revert hN8 hy6 c9 c10 e13; simp only [vp_in_iff, Int32.lt_iff_toInt_lt, Int32.le_iff_toInt_le, Int64.lt_iff_toInt_lt, Int64.le_iff_toInt_le, Int32.toInt_toInt64, ← Int32.toInt_inj, ← Int64.toInt_inj, Int32.reduceToInt, Int64.reduceToInt] <;> omega) hP hD hS (lv_sub hl [0, 1, 2, 3] rfl)
          · refine lv_iconst (v := 1) hx hb dX11_isAmong_20 (by decide) ?_
            exact z_iret C0 hr hlk rfl hK hP hD hS (1, fun _ => 0, fun _ => 0, fun _ => 0, fun _ => (fun _ => 0), fun _ => (fun _ => 0), fun _ => (fun _ => none)) (Or.inr (⟨rfl, rfl⟩)) [0] rfl rfl rfl dX11_isAmong_21
  exact loop7 _ 0 _ _ _ (Nat.lt_succ_self _) (by simp only [vp_in_iff, Int32.lt_iff_toInt_lt, Int32.le_iff_toInt_le, Int64.lt_iff_toInt_lt, Int64.le_iff_toInt_le, Int32.toInt_toInt64, ← Int32.toInt_inj, ← Int64.toInt_inj, Int32.reduceToInt, Int64.reduceToInt] <;> omega) hP hD hS (lv_sub hl [0, 1, 2, 3] rfl)

set_option maxHeartbeats 4000000 in
set_option maxRecDepth 100000 in
theorem s_X11_draw_1 (l : Launch) (D : va_G) (k : Nat → ClassId) (q_0 : Nat) (q_1 : Nat) (q_2 : Nat) (q_3 : Nat) (q_4 : Nat) (q_5 : Nat) (q_6 : Nat) (q_7 : Nat) (q_8 : Nat) (q_9 : Nat) (q_10 : Nat) (q_11 : Nat) (q_12 : Nat) (q_13 : Nat) (q_14 : Nat) (q_15 : Nat) (q_16 : Nat) (q_17 : Nat) (q_18 : Nat) (q_19 : Nat) (q_20 : Nat) (q_21 : Nat) (q_22 : Nat) (q_23 : Nat) (q_24 : Nat) (q_25 : Nat) (q_26 : Nat) (q_27 : Nat) (q_28 : Nat) (q_29 : Nat) (q_30 : Nat) (q_31 : Nat) (q_32 : Nat) (x_0 : Int32) (x_1 : Int32) (x_2 : Int32) (x_3 : Int32) (x_4 : Int32) (x_5 : Int32) (x_6 : Int32) (x_7 : Int32) (x_8 : Int32) (x_9 : Int32) (x_10 : Int32) (f_11 : Nat → Int32) (f_12 : Nat → Int32) (f_13 : Nat → Int32) (h_x_4 : 0 ≤ Int32.toInt x_4 ∧ Int32.toInt x_4 ≤ 40) (h_x_5 : 0 ≤ Int32.toInt x_5 ∧ Int32.toInt x_5 ≤ 5) (h_x_6 : 0 ≤ Int32.toInt x_6 ∧ Int32.toInt x_6 ≤ 60) (h_x_7 : 0 ≤ Int32.toInt x_7 ∧ Int32.toInt x_7 ≤ 6) (h_x_8 : 0 ≤ Int32.toInt x_8 ∧ Int32.toInt x_8 ≤ 6) (h_x_9 : 0 ≤ Int32.toInt x_9 ∧ Int32.toInt x_9 ≤ 9) (h_x_10 : 0 ≤ Int32.toInt x_10 ∧ Int32.toInt x_10 ≤ 12) (h_f_12 : zR f_12 0 1) : zMi l yX11_draw cX11_draw 5 (some .int) ({ frames := 1, cells := 0, slots := 0, locals := 23 }) D k [.ref q_0, .int x_0, .int x_1, .int x_2] [(q_0, .inr (11, [.ref q_1, .ref q_7, .ref q_8, .ref q_9, .ref q_10, .int x_3])), (q_1, .inr (3, [.ref q_2, .ref q_11, .ref q_12, .ref q_13, .ref q_14, .ref q_3])), (q_2, .inr (6, [.int x_4, .ref q_15, .ref q_16, .ref q_17, .ref q_18, .ref q_19, .int x_5, .ref q_20, .int x_6, .ref q_21, .ref q_22, .ref q_23, .ref q_24, .ref q_25, .ref q_26])), (q_3, .inr (4, [.int x_7, .ref q_27, .int x_8, .ref q_28, .ref q_29, .int x_9, .ref q_30, .ref q_31, .ref q_32, .int x_10, .ref q_4, .ref q_5, .ref q_6])), (q_4, .inl (k 0, 12, .inl f_11)), (q_5, .inl (k 0, 12, .inl f_12)), (q_6, .inl (k 0, 12, .inl f_13))] (fun r u => u.1 = 0 ∧ (0 ≤ Int32.toInt (u.2.2.1 1) ∧ Int32.toInt (u.2.2.1 1) ≤ 12) ∧ zR (u.2.2.2.2.1 1) 0 1) (fun u => [(q_0, .inr (11, [.ref q_1, .ref q_7, .ref q_8, .ref q_9, .ref q_10, .int (u.2.2.1 0)])), (q_1, .inr (3, [.ref q_2, .ref q_11, .ref q_12, .ref q_13, .ref q_14, .ref q_3])), (q_2, .inr (6, [.int x_4, .ref q_15, .ref q_16, .ref q_17, .ref q_18, .ref q_19, .int x_5, .ref q_20, .int x_6, .ref q_21, .ref q_22, .ref q_23, .ref q_24, .ref q_25, .ref q_26])), (q_3, .inr (4, [.int x_7, .ref q_27, .int x_8, .ref q_28, .ref q_29, .int x_9, .ref q_30, .ref q_31, .ref q_32, .int (u.2.2.1 1), .ref q_4, .ref q_5, .ref q_6])), (q_4, .inl (k 0, 12, .inl (u.2.2.2.2.1 0))), (q_5, .inl (k 0, 12, .inl (u.2.2.2.2.1 1))), (q_6, .inl (k 0, 12, .inl (u.2.2.2.2.1 2)))]) := by
  refine zMi_of (own := RX11) (by decide +kernel) rfl (Nat.le_of_ble_eq_true rfl) ?_
  intro p e s m args below meth c A ls C0 hr hlk hin hP hD hS hA hK hN hl
  have hx := C0.1
  have hb := C0.2.1
  have hml := C0.2.2.1
  have hown := C0.2.2.2.1
  have hts := C0.2.2.2.2
  have hl : lv_has ls 5 [(0, .ref q_0), (1, .int x_0), (2, .int x_1), (3, .int x_2)] := hl
  have hP : va_P D vwCl [(q_0, .inr (11, [.ref q_1, .ref q_7, .ref q_8, .ref q_9, .ref q_10, .int x_3])), (q_1, .inr (3, [.ref q_2, .ref q_11, .ref q_12, .ref q_13, .ref q_14, .ref q_3])), (q_2, .inr (6, [.int x_4, .ref q_15, .ref q_16, .ref q_17, .ref q_18, .ref q_19, .int x_5, .ref q_20, .int x_6, .ref q_21, .ref q_22, .ref q_23, .ref q_24, .ref q_25, .ref q_26])), (q_3, .inr (4, [.int x_7, .ref q_27, .int x_8, .ref q_28, .ref q_29, .int x_9, .ref q_30, .ref q_31, .ref q_32, .int x_10, .ref q_4, .ref q_5, .ref q_6])), (q_4, .inl (k 0, 12, .inl f_11)), (q_5, .inl (k 0, 12, .inl f_12)), (q_6, .inl (k 0, 12, .inl f_13))] s.heap := hP
  refine lv_aload_n hx hb dX11_draw_0 rfl (lv_at hl 0 rfl) ?_
  refine va_get (D := D) (ci := 11) (v := .ref q_1) (C := RX11) (T := TX11) (N := 6) hx hb hts inX11 hown hK hP 0 rfl rfl 0 (by decide) (hts _ kF_X11_12) (fun _ h9 => h9) rfl dX11_draw_1 ?_
  refine va_get (D := D) (ci := 3) (v := .ref q_3) (C := RX3) (T := TX3) (N := 6) hx hb hts inX3 hown hK hP 1 rfl rfl 5 (by decide) (hts _ kF_X11_263) (fun _ h9 => h9) rfl dX11_draw_4 ?_
  refine lv_astore (lv' := [(4, .ref q_3), (0, .ref q_0), (1, .int x_0), (2, .int x_1), (3, .int x_2)]) hx hb dX11_draw_7 hl (by decide) rfl (fun ls hl => ?_)
  refine lv_iload_n hx hb dX11_draw_9 rfl (lv_at hl 3 rfl) ?_
  refine lv_iconst (v := 0) hx hb dX11_draw_10 (by decide) ?_
  refine lv_iconst (v := 1) hx hb dX11_draw_11 (by decide) ?_
  refine z_bi0 (z_runS (As := [.int x_1, .int 0, .int 1]) (rest := []) C0 (s_X11_isOutside_1 l D k x_1 0 1 _) okS_X11_isOutside kM_X11_47 rfl (z_p0 hK hN) rfl hl.1 rfl (Nat.le_of_ble_eq_true rfl) dX11_draw_12 rfl) hP hS hA (fun r1 u1 H locs hw1 hP hS => ?_)
  obtain ⟨i1, a1, v1, w1, f1, g1, o1⟩ := u1
  dsimp only at hw1
  rcases hw1 with ⟨rfl, rfl, c1⟩ | ⟨rfl, rfl, c1⟩
  · refine lv_if_ne (tgt := 29) hx hb dX11_draw_15 (by decide) (fun _ => ?_) (fun c2 => absurd c2 (by decide))
    refine lv_aload_n hx hb dX11_draw_29 rfl (lv_at hl 1 rfl) ?_
    refine lv_iconst (v := (-1)) hx hb dX11_draw_30 (by decide) ?_
    refine z_bi (wr := [(q_1, .inr (3, [.ref q_2, .ref q_11, .ref q_12, .ref q_13, .ref q_14, .ref q_3])), (q_2, .inr (6, [.int x_4, .ref q_15, .ref q_16, .ref q_17, .ref q_18, .ref q_19, .int x_5, .ref q_20, .int x_6, .ref q_21, .ref q_22, .ref q_23, .ref q_24, .ref q_25, .ref q_26])), (q_3, .inr (4, [.int x_7, .ref q_27, .int x_8, .ref q_28, .ref q_29, .int x_9, .ref q_30, .ref q_31, .ref q_32, .int x_10, .ref q_4, .ref q_5, .ref q_6])), (q_4, .inl (k 0, 12, .inl f_11)), (q_5, .inl (k 0, 12, .inl f_12)), (q_6, .inl (k 0, 12, .inl f_13))]) (z_runV (C := RX11) (As := [.int (-1)]) (rest := []) C0 (s_X11_answer_1 l D k q_0 q_1 q_7 q_8 q_9 q_10 (-1) x_3 _) okV_X11_answer kM_X11_55 rfl (z_pV (q0 := 0) hK hN hP hD [0] rfl rfl rfl rfl rfl) rfl hl.1 rfl (Nat.le_of_ble_eq_true rfl) dX11_draw_31 rfl) hP hD hS hA [0] [1, 2, 3, 4, 5, 6] rfl rfl rfl rfl (fun r3 u3 H locs hw3 hP hD hS => ?_)
    obtain ⟨i3, a3, v3, w3, f3, g3, o3⟩ := u3
    dsimp only at hw3
    obtain rfl := hw3
    have hP : va_P D vwCl [(q_1, .inr (3, [.ref q_2, .ref q_11, .ref q_12, .ref q_13, .ref q_14, .ref q_3])), (q_2, .inr (6, [.int x_4, .ref q_15, .ref q_16, .ref q_17, .ref q_18, .ref q_19, .int x_5, .ref q_20, .int x_6, .ref q_21, .ref q_22, .ref q_23, .ref q_24, .ref q_25, .ref q_26])), (q_3, .inr (4, [.int x_7, .ref q_27, .int x_8, .ref q_28, .ref q_29, .int x_9, .ref q_30, .ref q_31, .ref q_32, .int x_10, .ref q_4, .ref q_5, .ref q_6])), (q_4, .inl (k 0, 12, .inl f_11)), (q_5, .inl (k 0, 12, .inl f_12)), (q_6, .inl (k 0, 12, .inl f_13)), (q_0, .inr (11, [.ref q_1, .ref q_7, .ref q_8, .ref q_9, .ref q_10, .int (v3 0)]))] H := hP
    have hD : va_D A [(q_1, .inr (3, [.ref q_2, .ref q_11, .ref q_12, .ref q_13, .ref q_14, .ref q_3])), (q_2, .inr (6, [.int x_4, .ref q_15, .ref q_16, .ref q_17, .ref q_18, .ref q_19, .int x_5, .ref q_20, .int x_6, .ref q_21, .ref q_22, .ref q_23, .ref q_24, .ref q_25, .ref q_26])), (q_3, .inr (4, [.int x_7, .ref q_27, .int x_8, .ref q_28, .ref q_29, .int x_9, .ref q_30, .ref q_31, .ref q_32, .int x_10, .ref q_4, .ref q_5, .ref q_6])), (q_4, .inl (k 0, 12, .inl f_11)), (q_5, .inl (k 0, 12, .inl f_12)), (q_6, .inl (k 0, 12, .inl f_13)), (q_0, .inr (11, [.ref q_1, .ref q_7, .ref q_8, .ref q_9, .ref q_10, .int (v3 0)]))] := hD
    exact z_iret C0 hr hlk rfl hK hP hD hS (0, fun _ => 0, fun i => [(v3 0), x_10].getD i 0, fun _ => 0, fun i => [f_11, f_12, f_13].getD i (fun _ => 0), fun _ => (fun _ => 0), fun _ => (fun _ => none)) ⟨rfl, (show 0 ≤ Int32.toInt (x_10 : Int32) ∧ Int32.toInt (x_10 : Int32) ≤ 12 from (by revert h_x_10; simp only [vp_in_iff, Int32.lt_iff_toInt_lt, Int32.le_iff_toInt_le, Int64.lt_iff_toInt_lt, Int64.le_iff_toInt_le, Int32.toInt_toInt64, ← Int32.toInt_inj, ← Int64.toInt_inj, Int32.reduceToInt, Int64.reduceToInt] <;> omega)), h_f_12⟩ [6, 0, 1, 2, 3, 4, 5] rfl rfl rfl dX11_draw_34
  · refine lv_if_ne (tgt := 29) hx hb dX11_draw_15 (by decide) (fun c4 => absurd (by decide) c4) (fun _ => ?_)
    refine lv_iload_n hx hb dX11_draw_18 rfl (lv_at hl 4 rfl) ?_
    refine lv_bipush (v := (-100)) hx hb dX11_draw_19 (by decide) ?_
    refine lv_bipush (v := 100) hx hb dX11_draw_21 (by decide) ?_
    refine z_bi0 (z_runS (As := [.int x_2, .int (-100), .int 100]) (rest := []) C0 (s_X11_isOutside_1 l D k x_2 (-100) 100 _) okS_X11_isOutside kM_X11_47 rfl (z_p0 hK hN) rfl hl.1 rfl (Nat.le_of_ble_eq_true rfl) dX11_draw_23 rfl) hP hS hA (fun r5 u5 H locs hw5 hP hS => ?_)
    obtain ⟨i5, a5, v5, w5, f5, g5, o5⟩ := u5
    dsimp only at hw5
    rcases hw5 with ⟨rfl, rfl, c5⟩ | ⟨rfl, rfl, c5⟩
    · refine lv_if_eq (tgt := 35) hx hb dX11_draw_26 (by decide) (fun c6 => absurd c6 (by decide)) (fun _ => ?_)
      refine lv_aload_n hx hb dX11_draw_29 rfl (lv_at hl 1 rfl) ?_
      refine lv_iconst (v := (-1)) hx hb dX11_draw_30 (by decide) ?_
      refine z_bi (wr := [(q_1, .inr (3, [.ref q_2, .ref q_11, .ref q_12, .ref q_13, .ref q_14, .ref q_3])), (q_2, .inr (6, [.int x_4, .ref q_15, .ref q_16, .ref q_17, .ref q_18, .ref q_19, .int x_5, .ref q_20, .int x_6, .ref q_21, .ref q_22, .ref q_23, .ref q_24, .ref q_25, .ref q_26])), (q_3, .inr (4, [.int x_7, .ref q_27, .int x_8, .ref q_28, .ref q_29, .int x_9, .ref q_30, .ref q_31, .ref q_32, .int x_10, .ref q_4, .ref q_5, .ref q_6])), (q_4, .inl (k 0, 12, .inl f_11)), (q_5, .inl (k 0, 12, .inl f_12)), (q_6, .inl (k 0, 12, .inl f_13))]) (z_runV (C := RX11) (As := [.int (-1)]) (rest := []) C0 (s_X11_answer_1 l D k q_0 q_1 q_7 q_8 q_9 q_10 (-1) x_3 _) okV_X11_answer kM_X11_55 rfl (z_pV (q0 := 0) hK hN hP hD [0] rfl rfl rfl rfl rfl) rfl hl.1 rfl (Nat.le_of_ble_eq_true rfl) dX11_draw_31 rfl) hP hD hS hA [0] [1, 2, 3, 4, 5, 6] rfl rfl rfl rfl (fun r7 u7 H locs hw7 hP hD hS => ?_)
      obtain ⟨i7, a7, v7, w7, f7, g7, o7⟩ := u7
      dsimp only at hw7
      obtain rfl := hw7
      have hP : va_P D vwCl [(q_1, .inr (3, [.ref q_2, .ref q_11, .ref q_12, .ref q_13, .ref q_14, .ref q_3])), (q_2, .inr (6, [.int x_4, .ref q_15, .ref q_16, .ref q_17, .ref q_18, .ref q_19, .int x_5, .ref q_20, .int x_6, .ref q_21, .ref q_22, .ref q_23, .ref q_24, .ref q_25, .ref q_26])), (q_3, .inr (4, [.int x_7, .ref q_27, .int x_8, .ref q_28, .ref q_29, .int x_9, .ref q_30, .ref q_31, .ref q_32, .int x_10, .ref q_4, .ref q_5, .ref q_6])), (q_4, .inl (k 0, 12, .inl f_11)), (q_5, .inl (k 0, 12, .inl f_12)), (q_6, .inl (k 0, 12, .inl f_13)), (q_0, .inr (11, [.ref q_1, .ref q_7, .ref q_8, .ref q_9, .ref q_10, .int (v7 0)]))] H := hP
      have hD : va_D A [(q_1, .inr (3, [.ref q_2, .ref q_11, .ref q_12, .ref q_13, .ref q_14, .ref q_3])), (q_2, .inr (6, [.int x_4, .ref q_15, .ref q_16, .ref q_17, .ref q_18, .ref q_19, .int x_5, .ref q_20, .int x_6, .ref q_21, .ref q_22, .ref q_23, .ref q_24, .ref q_25, .ref q_26])), (q_3, .inr (4, [.int x_7, .ref q_27, .int x_8, .ref q_28, .ref q_29, .int x_9, .ref q_30, .ref q_31, .ref q_32, .int x_10, .ref q_4, .ref q_5, .ref q_6])), (q_4, .inl (k 0, 12, .inl f_11)), (q_5, .inl (k 0, 12, .inl f_12)), (q_6, .inl (k 0, 12, .inl f_13)), (q_0, .inr (11, [.ref q_1, .ref q_7, .ref q_8, .ref q_9, .ref q_10, .int (v7 0)]))] := hD
      exact z_iret C0 hr hlk rfl hK hP hD hS (0, fun _ => 0, fun i => [(v7 0), x_10].getD i 0, fun _ => 0, fun i => [f_11, f_12, f_13].getD i (fun _ => 0), fun _ => (fun _ => 0), fun _ => (fun _ => none)) ⟨rfl, (show 0 ≤ Int32.toInt (x_10 : Int32) ∧ Int32.toInt (x_10 : Int32) ≤ 12 from (by revert h_x_10; simp only [vp_in_iff, Int32.lt_iff_toInt_lt, Int32.le_iff_toInt_le, Int64.lt_iff_toInt_lt, Int64.le_iff_toInt_le, Int32.toInt_toInt64, ← Int32.toInt_inj, ← Int64.toInt_inj, Int32.reduceToInt, Int64.reduceToInt] <;> omega)), h_f_12⟩ [6, 0, 1, 2, 3, 4, 5] rfl rfl rfl dX11_draw_34
    · refine lv_if_eq (tgt := 35) hx hb dX11_draw_26 (by decide) (fun _ => ?_) (fun c8 => absurd (by decide) c8)
      refine lv_aload_n hx hb dX11_draw_35 rfl (lv_at hl 1 rfl) ?_
      refine va_get (D := D) (ci := 11) (v := .ref q_1) (C := RX11) (T := TX11) (N := 6) hx hb hts inX11 hown hK hP 0 rfl rfl 0 (by decide) (hts _ kF_X11_12) (fun _ h9 => h9) rfl dX11_draw_36 ?_
      refine va_get (D := D) (ci := 3) (v := .ref q_2) (C := RX3) (T := TX3) (N := 6) hx hb hts inX3 hown hK hP 1 rfl rfl 0 (by decide) (hts _ kF_X11_43) (fun _ h9 => h9) rfl dX11_draw_39 ?_
      refine lv_iload_n hx hb dX11_draw_42 rfl (lv_at hl 2 rfl) ?_
      refine z_bi (wr := [(q_0, .inr (11, [.ref q_1, .ref q_7, .ref q_8, .ref q_9, .ref q_10, .int x_3])), (q_1, .inr (3, [.ref q_2, .ref q_11, .ref q_12, .ref q_13, .ref q_14, .ref q_3])), (q_3, .inr (4, [.int x_7, .ref q_27, .int x_8, .ref q_28, .ref q_29, .int x_9, .ref q_30, .ref q_31, .ref q_32, .int x_10, .ref q_4, .ref q_5, .ref q_6])), (q_4, .inl (k 0, 12, .inl f_11)), (q_5, .inl (k 0, 12, .inl f_12)), (q_6, .inl (k 0, 12, .inl f_13))]) (z_runV (C := RX6) (As := [.int x_0]) (rest := []) C0 (s_X6_isNoChild_1 l D k q_2 q_15 q_16 q_17 q_18 q_19 q_20 q_21 q_22 q_23 q_24 q_25 q_26 x_0 x_4 x_5 x_6 (by revert h_x_4; simp only [vp_in_iff, Int32.lt_iff_toInt_lt, Int32.le_iff_toInt_le, Int64.lt_iff_toInt_lt, Int64.le_iff_toInt_le, Int32.toInt_toInt64, ← Int32.toInt_inj, ← Int64.toInt_inj, Int32.reduceToInt, Int64.reduceToInt] <;> omega) (by revert h_x_5; simp only [vp_in_iff, Int32.lt_iff_toInt_lt, Int32.le_iff_toInt_le, Int64.lt_iff_toInt_lt, Int64.le_iff_toInt_le, Int32.toInt_toInt64, ← Int32.toInt_inj, ← Int64.toInt_inj, Int32.reduceToInt, Int64.reduceToInt] <;> omega) (by revert h_x_6; simp only [vp_in_iff, Int32.lt_iff_toInt_lt, Int32.le_iff_toInt_le, Int64.lt_iff_toInt_lt, Int64.le_iff_toInt_le, Int32.toInt_toInt64, ← Int32.toInt_inj, ← Int64.toInt_inj, Int32.reduceToInt, Int64.reduceToInt] <;> omega) _) okV_X6_isNoChild kM_X11_90 rfl (z_pV (q0 := 2) hK hN hP hD [2] rfl rfl rfl rfl rfl) rfl hl.1 rfl (Nat.le_of_ble_eq_true rfl) dX11_draw_43 rfl) hP hD hS hA [2] [0, 1, 3, 4, 5, 6] rfl rfl rfl rfl (fun r9 u9 H locs hw9 hP hD hS => ?_)
      obtain ⟨i9, a9, v9, w9, f9, g9, o9⟩ := u9
      dsimp only at hw9
      rcases hw9 with ⟨rfl, rfl, c9⟩ | ⟨rfl, rfl, c9⟩
      · have hP : va_P D vwCl [(q_0, .inr (11, [.ref q_1, .ref q_7, .ref q_8, .ref q_9, .ref q_10, .int x_3])), (q_1, .inr (3, [.ref q_2, .ref q_11, .ref q_12, .ref q_13, .ref q_14, .ref q_3])), (q_3, .inr (4, [.int x_7, .ref q_27, .int x_8, .ref q_28, .ref q_29, .int x_9, .ref q_30, .ref q_31, .ref q_32, .int x_10, .ref q_4, .ref q_5, .ref q_6])), (q_4, .inl (k 0, 12, .inl f_11)), (q_5, .inl (k 0, 12, .inl f_12)), (q_6, .inl (k 0, 12, .inl f_13)), (q_2, .inr (6, [.int x_4, .ref q_15, .ref q_16, .ref q_17, .ref q_18, .ref q_19, .int x_5, .ref q_20, .int x_6, .ref q_21, .ref q_22, .ref q_23, .ref q_24, .ref q_25, .ref q_26]))] H := hP
        have hD : va_D A [(q_0, .inr (11, [.ref q_1, .ref q_7, .ref q_8, .ref q_9, .ref q_10, .int x_3])), (q_1, .inr (3, [.ref q_2, .ref q_11, .ref q_12, .ref q_13, .ref q_14, .ref q_3])), (q_3, .inr (4, [.int x_7, .ref q_27, .int x_8, .ref q_28, .ref q_29, .int x_9, .ref q_30, .ref q_31, .ref q_32, .int x_10, .ref q_4, .ref q_5, .ref q_6])), (q_4, .inl (k 0, 12, .inl f_11)), (q_5, .inl (k 0, 12, .inl f_12)), (q_6, .inl (k 0, 12, .inl f_13)), (q_2, .inr (6, [.int x_4, .ref q_15, .ref q_16, .ref q_17, .ref q_18, .ref q_19, .int x_5, .ref q_20, .int x_6, .ref q_21, .ref q_22, .ref q_23, .ref q_24, .ref q_25, .ref q_26]))] := hD
        refine lv_if_eq (tgt := 56) hx hb dX11_draw_46 (by decide) (fun c10 => absurd c10 (by decide)) (fun _ => ?_)
        refine lv_aload_n hx hb dX11_draw_49 rfl (lv_at hl 1 rfl) ?_
        refine lv_bipush (v := (-2)) hx hb dX11_draw_50 (by decide) ?_
        refine z_bi (wr := [(q_1, .inr (3, [.ref q_2, .ref q_11, .ref q_12, .ref q_13, .ref q_14, .ref q_3])), (q_3, .inr (4, [.int x_7, .ref q_27, .int x_8, .ref q_28, .ref q_29, .int x_9, .ref q_30, .ref q_31, .ref q_32, .int x_10, .ref q_4, .ref q_5, .ref q_6])), (q_4, .inl (k 0, 12, .inl f_11)), (q_5, .inl (k 0, 12, .inl f_12)), (q_6, .inl (k 0, 12, .inl f_13)), (q_2, .inr (6, [.int x_4, .ref q_15, .ref q_16, .ref q_17, .ref q_18, .ref q_19, .int x_5, .ref q_20, .int x_6, .ref q_21, .ref q_22, .ref q_23, .ref q_24, .ref q_25, .ref q_26]))]) (z_runV (C := RX11) (As := [.int (-2)]) (rest := []) C0 (s_X11_answer_1 l D k q_0 q_1 q_7 q_8 q_9 q_10 (-2) x_3 _) okV_X11_answer kM_X11_55 rfl (z_pV (q0 := 0) hK hN hP hD [0] rfl rfl rfl rfl rfl) rfl hl.1 rfl (Nat.le_of_ble_eq_true rfl) dX11_draw_52 rfl) hP hD hS hA [0] [1, 2, 3, 4, 5, 6] rfl rfl rfl rfl (fun r11 u11 H locs hw11 hP hD hS => ?_)
        obtain ⟨i11, a11, v11, w11, f11, g11, o11⟩ := u11
        dsimp only at hw11
        obtain rfl := hw11
        have hP : va_P D vwCl [(q_1, .inr (3, [.ref q_2, .ref q_11, .ref q_12, .ref q_13, .ref q_14, .ref q_3])), (q_3, .inr (4, [.int x_7, .ref q_27, .int x_8, .ref q_28, .ref q_29, .int x_9, .ref q_30, .ref q_31, .ref q_32, .int x_10, .ref q_4, .ref q_5, .ref q_6])), (q_4, .inl (k 0, 12, .inl f_11)), (q_5, .inl (k 0, 12, .inl f_12)), (q_6, .inl (k 0, 12, .inl f_13)), (q_2, .inr (6, [.int x_4, .ref q_15, .ref q_16, .ref q_17, .ref q_18, .ref q_19, .int x_5, .ref q_20, .int x_6, .ref q_21, .ref q_22, .ref q_23, .ref q_24, .ref q_25, .ref q_26])), (q_0, .inr (11, [.ref q_1, .ref q_7, .ref q_8, .ref q_9, .ref q_10, .int (v11 0)]))] H := hP
        have hD : va_D A [(q_1, .inr (3, [.ref q_2, .ref q_11, .ref q_12, .ref q_13, .ref q_14, .ref q_3])), (q_3, .inr (4, [.int x_7, .ref q_27, .int x_8, .ref q_28, .ref q_29, .int x_9, .ref q_30, .ref q_31, .ref q_32, .int x_10, .ref q_4, .ref q_5, .ref q_6])), (q_4, .inl (k 0, 12, .inl f_11)), (q_5, .inl (k 0, 12, .inl f_12)), (q_6, .inl (k 0, 12, .inl f_13)), (q_2, .inr (6, [.int x_4, .ref q_15, .ref q_16, .ref q_17, .ref q_18, .ref q_19, .int x_5, .ref q_20, .int x_6, .ref q_21, .ref q_22, .ref q_23, .ref q_24, .ref q_25, .ref q_26])), (q_0, .inr (11, [.ref q_1, .ref q_7, .ref q_8, .ref q_9, .ref q_10, .int (v11 0)]))] := hD
        exact z_iret C0 hr hlk rfl hK hP hD hS (0, fun _ => 0, fun i => [(v11 0), x_10].getD i 0, fun _ => 0, fun i => [f_11, f_12, f_13].getD i (fun _ => 0), fun _ => (fun _ => 0), fun _ => (fun _ => none)) ⟨rfl, (show 0 ≤ Int32.toInt (x_10 : Int32) ∧ Int32.toInt (x_10 : Int32) ≤ 12 from (by revert h_x_10; simp only [vp_in_iff, Int32.lt_iff_toInt_lt, Int32.le_iff_toInt_le, Int64.lt_iff_toInt_lt, Int64.le_iff_toInt_le, Int32.toInt_toInt64, ← Int32.toInt_inj, ← Int64.toInt_inj, Int32.reduceToInt, Int64.reduceToInt] <;> omega)), h_f_12⟩ [6, 0, 5, 1, 2, 3, 4] rfl rfl rfl dX11_draw_55
      · have hP : va_P D vwCl [(q_0, .inr (11, [.ref q_1, .ref q_7, .ref q_8, .ref q_9, .ref q_10, .int x_3])), (q_1, .inr (3, [.ref q_2, .ref q_11, .ref q_12, .ref q_13, .ref q_14, .ref q_3])), (q_3, .inr (4, [.int x_7, .ref q_27, .int x_8, .ref q_28, .ref q_29, .int x_9, .ref q_30, .ref q_31, .ref q_32, .int x_10, .ref q_4, .ref q_5, .ref q_6])), (q_4, .inl (k 0, 12, .inl f_11)), (q_5, .inl (k 0, 12, .inl f_12)), (q_6, .inl (k 0, 12, .inl f_13)), (q_2, .inr (6, [.int x_4, .ref q_15, .ref q_16, .ref q_17, .ref q_18, .ref q_19, .int x_5, .ref q_20, .int x_6, .ref q_21, .ref q_22, .ref q_23, .ref q_24, .ref q_25, .ref q_26]))] H := hP
        have hD : va_D A [(q_0, .inr (11, [.ref q_1, .ref q_7, .ref q_8, .ref q_9, .ref q_10, .int x_3])), (q_1, .inr (3, [.ref q_2, .ref q_11, .ref q_12, .ref q_13, .ref q_14, .ref q_3])), (q_3, .inr (4, [.int x_7, .ref q_27, .int x_8, .ref q_28, .ref q_29, .int x_9, .ref q_30, .ref q_31, .ref q_32, .int x_10, .ref q_4, .ref q_5, .ref q_6])), (q_4, .inl (k 0, 12, .inl f_11)), (q_5, .inl (k 0, 12, .inl f_12)), (q_6, .inl (k 0, 12, .inl f_13)), (q_2, .inr (6, [.int x_4, .ref q_15, .ref q_16, .ref q_17, .ref q_18, .ref q_19, .int x_5, .ref q_20, .int x_6, .ref q_21, .ref q_22, .ref q_23, .ref q_24, .ref q_25, .ref q_26]))] := hD
        refine lv_if_eq (tgt := 56) hx hb dX11_draw_46 (by decide) (fun _ => ?_) (fun c12 => absurd (by decide) c12)
        refine lv_aload hx hb dX11_draw_56 (lv_at hl 0 rfl) ?_
        refine va_get (D := D) (ci := 4) (v := .ref q_4) (C := RX4) (T := TX4) (N := 13) hx hb hts inX4 hown hK hP 2 rfl rfl 10 (by decide) (hts _ kF_X11_349) (fun _ h9 => h9) rfl dX11_draw_58 ?_
        refine lv_aload hx hb dX11_draw_61 (lv_at hl 0 rfl) ?_
        refine va_get (D := D) (ci := 4) (v := .int x_10) (C := RX4) (T := TX4) (N := 13) hx hb hts inX4 hown hK hP 2 rfl rfl 9 (by decide) (hts _ kF_X11_352) (fun _ h9 => h9) rfl dX11_draw_63 ?_
        refine lv_iload_n hx hb dX11_draw_66 rfl (lv_at hl 2 rfl) ?_
        refine z_bi (wr := [(q_0, .inr (11, [.ref q_1, .ref q_7, .ref q_8, .ref q_9, .ref q_10, .int x_3])), (q_1, .inr (3, [.ref q_2, .ref q_11, .ref q_12, .ref q_13, .ref q_14, .ref q_3])), (q_3, .inr (4, [.int x_7, .ref q_27, .int x_8, .ref q_28, .ref q_29, .int x_9, .ref q_30, .ref q_31, .ref q_32, .int x_10, .ref q_4, .ref q_5, .ref q_6])), (q_5, .inl (k 0, 12, .inl f_12)), (q_6, .inl (k 0, 12, .inl f_13)), (q_2, .inr (6, [.int x_4, .ref q_15, .ref q_16, .ref q_17, .ref q_18, .ref q_19, .int x_5, .ref q_20, .int x_6, .ref q_21, .ref q_22, .ref q_23, .ref q_24, .ref q_25, .ref q_26]))]) (z_runS (As := [.ref q_4, .int x_10, .int x_0]) (rest := []) C0 (s_X11_isAmong_2 l D k q_4 x_10 x_0 f_11 _) okS_X11_isAmong kM_X11_284 rfl (z_pS hK hN hP hD [3] rfl rfl) rfl hl.1 rfl (Nat.le_of_ble_eq_true rfl) dX11_draw_67 rfl) hP hD hS hA [3] [0, 1, 2, 4, 5, 6] rfl rfl rfl rfl (fun r13 u13 H locs hw13 hP hD hS => ?_)
        obtain ⟨i13, a13, v13, w13, f13, g13, o13⟩ := u13
        dsimp only at hw13
        rcases hw13 with ⟨rfl, rfl⟩ | ⟨rfl, rfl⟩
        · have hP : va_P D vwCl [(q_0, .inr (11, [.ref q_1, .ref q_7, .ref q_8, .ref q_9, .ref q_10, .int x_3])), (q_1, .inr (3, [.ref q_2, .ref q_11, .ref q_12, .ref q_13, .ref q_14, .ref q_3])), (q_3, .inr (4, [.int x_7, .ref q_27, .int x_8, .ref q_28, .ref q_29, .int x_9, .ref q_30, .ref q_31, .ref q_32, .int x_10, .ref q_4, .ref q_5, .ref q_6])), (q_5, .inl (k 0, 12, .inl f_12)), (q_6, .inl (k 0, 12, .inl f_13)), (q_2, .inr (6, [.int x_4, .ref q_15, .ref q_16, .ref q_17, .ref q_18, .ref q_19, .int x_5, .ref q_20, .int x_6, .ref q_21, .ref q_22, .ref q_23, .ref q_24, .ref q_25, .ref q_26])), (q_4, .inl (k 0, 12, .inl f_11))] H := hP
          have hD : va_D A [(q_0, .inr (11, [.ref q_1, .ref q_7, .ref q_8, .ref q_9, .ref q_10, .int x_3])), (q_1, .inr (3, [.ref q_2, .ref q_11, .ref q_12, .ref q_13, .ref q_14, .ref q_3])), (q_3, .inr (4, [.int x_7, .ref q_27, .int x_8, .ref q_28, .ref q_29, .int x_9, .ref q_30, .ref q_31, .ref q_32, .int x_10, .ref q_4, .ref q_5, .ref q_6])), (q_5, .inl (k 0, 12, .inl f_12)), (q_6, .inl (k 0, 12, .inl f_13)), (q_2, .inr (6, [.int x_4, .ref q_15, .ref q_16, .ref q_17, .ref q_18, .ref q_19, .int x_5, .ref q_20, .int x_6, .ref q_21, .ref q_22, .ref q_23, .ref q_24, .ref q_25, .ref q_26])), (q_4, .inl (k 0, 12, .inl f_11))] := hD
          refine lv_if_eq (tgt := 80) hx hb dX11_draw_70 (by decide) (fun _ => ?_) (fun c14 => absurd (by decide) c14)
          refine lv_aload hx hb dX11_draw_80 (lv_at hl 0 rfl) ?_
          refine va_get (D := D) (ci := 4) (v := .int x_10) (C := RX4) (T := TX4) (N := 13) hx hb hts inX4 hown hK hP 2 rfl rfl 9 (by decide) (hts _ kF_X11_352) (fun _ h9 => h9) rfl dX11_draw_82 ?_
          refine lv_bipush (v := 12) hx hb dX11_draw_85 (by decide) ?_
          refine lv_icmp_lt (tgt := 97) hx hb dX11_draw_87 (by decide) (fun c15 => ?_) (fun c15 => ?_)
          · refine lv_aload hx hb dX11_draw_97 (lv_at hl 0 rfl) ?_
            refine va_get (D := D) (ci := 4) (v := .ref q_4) (C := RX4) (T := TX4) (N := 13) hx hb hts inX4 hown hK hP 2 rfl rfl 10 (by decide) (hts _ kF_X11_349) (fun _ h9 => h9) rfl dX11_draw_99 ?_
            refine lv_aload hx hb dX11_draw_102 (lv_at hl 0 rfl) ?_
            refine va_get (D := D) (ci := 4) (v := .int x_10) (C := RX4) (T := TX4) (N := 13) hx hb hts inX4 hown hK hP 2 rfl rfl 9 (by decide) (hts _ kF_X11_352) (fun _ h9 => h9) rfl dX11_draw_104 ?_
            refine lv_iload_n hx hb dX11_draw_107 rfl (lv_at hl 2 rfl) ?_
            refine va_iast hx hb hK hP hD hS 6 0 rfl rfl (by revert h_x_10 c15; simp only [vp_in_iff, Int32.lt_iff_toInt_lt, Int32.le_iff_toInt_le, Int64.lt_iff_toInt_lt, Int64.le_iff_toInt_le, Int32.toInt_toInt64, ← Int32.toInt_inj, ← Int64.toInt_inj, Int32.reduceToInt, Int64.reduceToInt] <;> omega) dX11_draw_108 (fun H locs hP hD hS => ?_)
            obtain ⟨F16, eF16⟩ : ∃ q, q = upd f_11 (Int32.toNatClampNeg x_10) x_0 := ⟨_, rfl⟩
            have hP : va_P D vwCl [(q_0, .inr (11, [.ref q_1, .ref q_7, .ref q_8, .ref q_9, .ref q_10, .int x_3])), (q_1, .inr (3, [.ref q_2, .ref q_11, .ref q_12, .ref q_13, .ref q_14, .ref q_3])), (q_3, .inr (4, [.int x_7, .ref q_27, .int x_8, .ref q_28, .ref q_29, .int x_9, .ref q_30, .ref q_31, .ref q_32, .int x_10, .ref q_4, .ref q_5, .ref q_6])), (q_5, .inl (k 0, 12, .inl f_12)), (q_6, .inl (k 0, 12, .inl f_13)), (q_2, .inr (6, [.int x_4, .ref q_15, .ref q_16, .ref q_17, .ref q_18, .ref q_19, .int x_5, .ref q_20, .int x_6, .ref q_21, .ref q_22, .ref q_23, .ref q_24, .ref q_25, .ref q_26])), (q_4, .inl (k 0, 12, .inl F16))] H := by rw [eF16]; exact hP
            have hD : va_D A [(q_0, .inr (11, [.ref q_1, .ref q_7, .ref q_8, .ref q_9, .ref q_10, .int x_3])), (q_1, .inr (3, [.ref q_2, .ref q_11, .ref q_12, .ref q_13, .ref q_14, .ref q_3])), (q_3, .inr (4, [.int x_7, .ref q_27, .int x_8, .ref q_28, .ref q_29, .int x_9, .ref q_30, .ref q_31, .ref q_32, .int x_10, .ref q_4, .ref q_5, .ref q_6])), (q_5, .inl (k 0, 12, .inl f_12)), (q_6, .inl (k 0, 12, .inl f_13)), (q_2, .inr (6, [.int x_4, .ref q_15, .ref q_16, .ref q_17, .ref q_18, .ref q_19, .int x_5, .ref q_20, .int x_6, .ref q_21, .ref q_22, .ref q_23, .ref q_24, .ref q_25, .ref q_26])), (q_4, .inl (k 0, 12, .inl F16))] := by rw [eF16]; exact hD
            refine lv_aload hx hb dX11_draw_109 (lv_at hl 0 rfl) ?_
            refine va_get (D := D) (ci := 4) (v := .ref q_5) (C := RX4) (T := TX4) (N := 13) hx hb hts inX4 hown hK hP 2 rfl rfl 11 (by decide) (hts _ kF_X11_355) (fun _ h9 => h9) rfl dX11_draw_111 ?_
            refine lv_aload hx hb dX11_draw_114 (lv_at hl 0 rfl) ?_
            refine va_get (D := D) (ci := 4) (v := .int x_10) (C := RX4) (T := TX4) (N := 13) hx hb hts inX4 hown hK hP 2 rfl rfl 9 (by decide) (hts _ kF_X11_352) (fun _ h9 => h9) rfl dX11_draw_116 ?_
            refine lv_iload_n hx hb dX11_draw_119 rfl (lv_at hl 3 rfl) ?_
            refine va_iast hx hb hK hP hD hS 3 0 rfl rfl (by revert h_x_10 c15; simp only [vp_in_iff, Int32.lt_iff_toInt_lt, Int32.le_iff_toInt_le, Int64.lt_iff_toInt_lt, Int64.le_iff_toInt_le, Int32.toInt_toInt64, ← Int32.toInt_inj, ← Int64.toInt_inj, Int32.reduceToInt, Int64.reduceToInt] <;> omega) dX11_draw_120 (fun H locs hP hD hS => ?_)
            have hF17 := zR_upd (j := Int32.toNatClampNeg x_10) (v := x_1) h_f_12 (by revert c1; simp only [vp_in_iff, Int32.lt_iff_toInt_lt, Int32.le_iff_toInt_le, Int64.lt_iff_toInt_lt, Int64.le_iff_toInt_le, Int32.toInt_toInt64, ← Int32.toInt_inj, ← Int64.toInt_inj, Int32.reduceToInt, Int64.reduceToInt] <;> omega)
            obtain ⟨F17, eF17⟩ : ∃ q, q = upd f_12 (Int32.toNatClampNeg x_10) x_1 := ⟨_, rfl⟩
            rw [← eF17] at hF17
            have hP : va_P D vwCl [(q_0, .inr (11, [.ref q_1, .ref q_7, .ref q_8, .ref q_9, .ref q_10, .int x_3])), (q_1, .inr (3, [.ref q_2, .ref q_11, .ref q_12, .ref q_13, .ref q_14, .ref q_3])), (q_3, .inr (4, [.int x_7, .ref q_27, .int x_8, .ref q_28, .ref q_29, .int x_9, .ref q_30, .ref q_31, .ref q_32, .int x_10, .ref q_4, .ref q_5, .ref q_6])), (q_5, .inl (k 0, 12, .inl F17)), (q_6, .inl (k 0, 12, .inl f_13)), (q_2, .inr (6, [.int x_4, .ref q_15, .ref q_16, .ref q_17, .ref q_18, .ref q_19, .int x_5, .ref q_20, .int x_6, .ref q_21, .ref q_22, .ref q_23, .ref q_24, .ref q_25, .ref q_26])), (q_4, .inl (k 0, 12, .inl F16))] H := by rw [eF17]; exact hP
            have hD : va_D A [(q_0, .inr (11, [.ref q_1, .ref q_7, .ref q_8, .ref q_9, .ref q_10, .int x_3])), (q_1, .inr (3, [.ref q_2, .ref q_11, .ref q_12, .ref q_13, .ref q_14, .ref q_3])), (q_3, .inr (4, [.int x_7, .ref q_27, .int x_8, .ref q_28, .ref q_29, .int x_9, .ref q_30, .ref q_31, .ref q_32, .int x_10, .ref q_4, .ref q_5, .ref q_6])), (q_5, .inl (k 0, 12, .inl F17)), (q_6, .inl (k 0, 12, .inl f_13)), (q_2, .inr (6, [.int x_4, .ref q_15, .ref q_16, .ref q_17, .ref q_18, .ref q_19, .int x_5, .ref q_20, .int x_6, .ref q_21, .ref q_22, .ref q_23, .ref q_24, .ref q_25, .ref q_26])), (q_4, .inl (k 0, 12, .inl F16))] := by rw [eF17]; exact hD
            refine lv_aload hx hb dX11_draw_121 (lv_at hl 0 rfl) ?_
            refine va_get (D := D) (ci := 4) (v := .ref q_6) (C := RX4) (T := TX4) (N := 13) hx hb hts inX4 hown hK hP 2 rfl rfl 12 (by decide) (hts _ kF_X11_358) (fun _ h9 => h9) rfl dX11_draw_123 ?_
            refine lv_aload hx hb dX11_draw_126 (lv_at hl 0 rfl) ?_
            refine va_get (D := D) (ci := 4) (v := .int x_10) (C := RX4) (T := TX4) (N := 13) hx hb hts inX4 hown hK hP 2 rfl rfl 9 (by decide) (hts _ kF_X11_352) (fun _ h9 => h9) rfl dX11_draw_128 ?_
            refine lv_iload_n hx hb dX11_draw_131 rfl (lv_at hl 4 rfl) ?_
            refine va_iast hx hb hK hP hD hS 4 0 rfl rfl (by revert h_x_10 c15; simp only [vp_in_iff, Int32.lt_iff_toInt_lt, Int32.le_iff_toInt_le, Int64.lt_iff_toInt_lt, Int64.le_iff_toInt_le, Int32.toInt_toInt64, ← Int32.toInt_inj, ← Int64.toInt_inj, Int32.reduceToInt, Int64.reduceToInt] <;> omega) dX11_draw_132 (fun H locs hP hD hS => ?_)
            obtain ⟨F18, eF18⟩ : ∃ q, q = upd f_13 (Int32.toNatClampNeg x_10) x_2 := ⟨_, rfl⟩
            have hP : va_P D vwCl [(q_0, .inr (11, [.ref q_1, .ref q_7, .ref q_8, .ref q_9, .ref q_10, .int x_3])), (q_1, .inr (3, [.ref q_2, .ref q_11, .ref q_12, .ref q_13, .ref q_14, .ref q_3])), (q_3, .inr (4, [.int x_7, .ref q_27, .int x_8, .ref q_28, .ref q_29, .int x_9, .ref q_30, .ref q_31, .ref q_32, .int x_10, .ref q_4, .ref q_5, .ref q_6])), (q_5, .inl (k 0, 12, .inl F17)), (q_6, .inl (k 0, 12, .inl F18)), (q_2, .inr (6, [.int x_4, .ref q_15, .ref q_16, .ref q_17, .ref q_18, .ref q_19, .int x_5, .ref q_20, .int x_6, .ref q_21, .ref q_22, .ref q_23, .ref q_24, .ref q_25, .ref q_26])), (q_4, .inl (k 0, 12, .inl F16))] H := by rw [eF18]; exact hP
            have hD : va_D A [(q_0, .inr (11, [.ref q_1, .ref q_7, .ref q_8, .ref q_9, .ref q_10, .int x_3])), (q_1, .inr (3, [.ref q_2, .ref q_11, .ref q_12, .ref q_13, .ref q_14, .ref q_3])), (q_3, .inr (4, [.int x_7, .ref q_27, .int x_8, .ref q_28, .ref q_29, .int x_9, .ref q_30, .ref q_31, .ref q_32, .int x_10, .ref q_4, .ref q_5, .ref q_6])), (q_5, .inl (k 0, 12, .inl F17)), (q_6, .inl (k 0, 12, .inl F18)), (q_2, .inr (6, [.int x_4, .ref q_15, .ref q_16, .ref q_17, .ref q_18, .ref q_19, .int x_5, .ref q_20, .int x_6, .ref q_21, .ref q_22, .ref q_23, .ref q_24, .ref q_25, .ref q_26])), (q_4, .inl (k 0, 12, .inl F16))] := by rw [eF18]; exact hD
            refine lv_aload hx hb dX11_draw_133 (lv_at hl 0 rfl) ?_
            refine lv_dup hx hb dX11_draw_135 rfl ?_
            refine va_get (D := D) (ci := 4) (v := .int x_10) (C := RX4) (T := TX4) (N := 13) hx hb hts inX4 hown hK hP 2 rfl rfl 9 (by decide) (hts _ kF_X11_352) (fun _ h9 => h9) rfl dX11_draw_136 ?_
            refine lv_iconst (v := 1) hx hb dX11_draw_139 (by decide) ?_
            refine lv_iadd hx hb dX11_draw_140 ?_
            have e19 : Int32.toInt (x_10 + 1) = Int32.toInt x_10 + Int32.toInt (1 : Int32) := zi_add (by revert h_x_10 c15; simp only [vp_in_iff, Int32.lt_iff_toInt_lt, Int32.le_iff_toInt_le, Int64.lt_iff_toInt_lt, Int64.le_iff_toInt_le, Int32.toInt_toInt64, ← Int32.toInt_inj, ← Int64.toInt_inj, Int32.reduceToInt, Int64.reduceToInt] <;> omega)
            refine va_put (D := D) (ci := 4) (v := .int (x_10 + 1)) (ty := .int) (C := RX4) (T := TX4) (N := 13) hx hb hts inX4 tyX4 tyX4_ok nmX4 hown hK hP hD hS 2 rfl rfl 9 (by decide) (hts _ kF_X11_352) (fun _ h9 => h9) rfl (by decide +kernel) rfl rfl (Nat.le_of_ble_eq_true rfl) dX11_draw_141 (fun H locs hP hD hS => ?_)
            have hP : va_P D vwCl [(q_0, .inr (11, [.ref q_1, .ref q_7, .ref q_8, .ref q_9, .ref q_10, .int x_3])), (q_1, .inr (3, [.ref q_2, .ref q_11, .ref q_12, .ref q_13, .ref q_14, .ref q_3])), (q_3, .inr (4, [.int x_7, .ref q_27, .int x_8, .ref q_28, .ref q_29, .int x_9, .ref q_30, .ref q_31, .ref q_32, .int (x_10 + 1), .ref q_4, .ref q_5, .ref q_6])), (q_5, .inl (k 0, 12, .inl F17)), (q_6, .inl (k 0, 12, .inl F18)), (q_2, .inr (6, [.int x_4, .ref q_15, .ref q_16, .ref q_17, .ref q_18, .ref q_19, .int x_5, .ref q_20, .int x_6, .ref q_21, .ref q_22, .ref q_23, .ref q_24, .ref q_25, .ref q_26])), (q_4, .inl (k 0, 12, .inl F16))] H := hP
            have hD : va_D A [(q_0, .inr (11, [.ref q_1, .ref q_7, .ref q_8, .ref q_9, .ref q_10, .int x_3])), (q_1, .inr (3, [.ref q_2, .ref q_11, .ref q_12, .ref q_13, .ref q_14, .ref q_3])), (q_3, .inr (4, [.int x_7, .ref q_27, .int x_8, .ref q_28, .ref q_29, .int x_9, .ref q_30, .ref q_31, .ref q_32, .int (x_10 + 1), .ref q_4, .ref q_5, .ref q_6])), (q_5, .inl (k 0, 12, .inl F17)), (q_6, .inl (k 0, 12, .inl F18)), (q_2, .inr (6, [.int x_4, .ref q_15, .ref q_16, .ref q_17, .ref q_18, .ref q_19, .int x_5, .ref q_20, .int x_6, .ref q_21, .ref q_22, .ref q_23, .ref q_24, .ref q_25, .ref q_26])), (q_4, .inl (k 0, 12, .inl F16))] := hD
            refine lv_aload_n hx hb dX11_draw_144 rfl (lv_at hl 1 rfl) ?_
            refine lv_aload hx hb dX11_draw_145 (lv_at hl 0 rfl) ?_
            refine va_get (D := D) (ci := 4) (v := .int (x_10 + 1)) (C := RX4) (T := TX4) (N := 13) hx hb hts inX4 hown hK hP 2 rfl rfl 9 (by decide) (hts _ kF_X11_352) (fun _ h9 => h9) rfl dX11_draw_147 ?_
            refine z_bi (wr := [(q_1, .inr (3, [.ref q_2, .ref q_11, .ref q_12, .ref q_13, .ref q_14, .ref q_3])), (q_3, .inr (4, [.int x_7, .ref q_27, .int x_8, .ref q_28, .ref q_29, .int x_9, .ref q_30, .ref q_31, .ref q_32, .int (x_10 + 1), .ref q_4, .ref q_5, .ref q_6])), (q_5, .inl (k 0, 12, .inl F17)), (q_6, .inl (k 0, 12, .inl F18)), (q_2, .inr (6, [.int x_4, .ref q_15, .ref q_16, .ref q_17, .ref q_18, .ref q_19, .int x_5, .ref q_20, .int x_6, .ref q_21, .ref q_22, .ref q_23, .ref q_24, .ref q_25, .ref q_26])), (q_4, .inl (k 0, 12, .inl F16))]) (z_runV (C := RX11) (As := [.int (x_10 + 1)]) (rest := []) C0 (s_X11_answer_1 l D k q_0 q_1 q_7 q_8 q_9 q_10 (x_10 + 1) x_3 _) okV_X11_answer kM_X11_55 rfl (z_pV (q0 := 0) hK hN hP hD [0] rfl rfl rfl rfl rfl) rfl hl.1 rfl (Nat.le_of_ble_eq_true rfl) dX11_draw_150 rfl) hP hD hS hA [0] [1, 2, 3, 4, 5, 6] rfl rfl rfl rfl (fun r20 u20 H locs hw20 hP hD hS => ?_)
            obtain ⟨i20, a20, v20, w20, f20, g20, o20⟩ := u20
            dsimp only at hw20
            obtain rfl := hw20
            have hP : va_P D vwCl [(q_1, .inr (3, [.ref q_2, .ref q_11, .ref q_12, .ref q_13, .ref q_14, .ref q_3])), (q_3, .inr (4, [.int x_7, .ref q_27, .int x_8, .ref q_28, .ref q_29, .int x_9, .ref q_30, .ref q_31, .ref q_32, .int (x_10 + 1), .ref q_4, .ref q_5, .ref q_6])), (q_5, .inl (k 0, 12, .inl F17)), (q_6, .inl (k 0, 12, .inl F18)), (q_2, .inr (6, [.int x_4, .ref q_15, .ref q_16, .ref q_17, .ref q_18, .ref q_19, .int x_5, .ref q_20, .int x_6, .ref q_21, .ref q_22, .ref q_23, .ref q_24, .ref q_25, .ref q_26])), (q_4, .inl (k 0, 12, .inl F16)), (q_0, .inr (11, [.ref q_1, .ref q_7, .ref q_8, .ref q_9, .ref q_10, .int (v20 0)]))] H := hP
            have hD : va_D A [(q_1, .inr (3, [.ref q_2, .ref q_11, .ref q_12, .ref q_13, .ref q_14, .ref q_3])), (q_3, .inr (4, [.int x_7, .ref q_27, .int x_8, .ref q_28, .ref q_29, .int x_9, .ref q_30, .ref q_31, .ref q_32, .int (x_10 + 1), .ref q_4, .ref q_5, .ref q_6])), (q_5, .inl (k 0, 12, .inl F17)), (q_6, .inl (k 0, 12, .inl F18)), (q_2, .inr (6, [.int x_4, .ref q_15, .ref q_16, .ref q_17, .ref q_18, .ref q_19, .int x_5, .ref q_20, .int x_6, .ref q_21, .ref q_22, .ref q_23, .ref q_24, .ref q_25, .ref q_26])), (q_4, .inl (k 0, 12, .inl F16)), (q_0, .inr (11, [.ref q_1, .ref q_7, .ref q_8, .ref q_9, .ref q_10, .int (v20 0)]))] := hD
            exact z_iret C0 hr hlk rfl hK hP hD hS (0, fun _ => 0, fun i => [(v20 0), (x_10 + 1)].getD i 0, fun _ => 0, fun i => [F16, F17, F18].getD i (fun _ => 0), fun _ => (fun _ => 0), fun _ => (fun _ => none)) ⟨rfl, (show 0 ≤ Int32.toInt ((x_10 + 1) : Int32) ∧ Int32.toInt ((x_10 + 1) : Int32) ≤ 12 from (by revert h_x_10 c15 e19; simp only [vp_in_iff, Int32.lt_iff_toInt_lt, Int32.le_iff_toInt_le, Int64.lt_iff_toInt_lt, Int64.le_iff_toInt_le, Int32.toInt_toInt64, ← Int32.toInt_inj, ← Int64.toInt_inj, Int32.reduceToInt, Int64.reduceToInt] <;> omega)), hF17⟩ [6, 0, 4, 1, 5, 2, 3] rfl rfl rfl dX11_draw_153
          · refine lv_aload_n hx hb dX11_draw_90 rfl (lv_at hl 1 rfl) ?_
            refine lv_bipush (v := (-5)) hx hb dX11_draw_91 (by decide) ?_
            refine z_bi (wr := [(q_1, .inr (3, [.ref q_2, .ref q_11, .ref q_12, .ref q_13, .ref q_14, .ref q_3])), (q_3, .inr (4, [.int x_7, .ref q_27, .int x_8, .ref q_28, .ref q_29, .int x_9, .ref q_30, .ref q_31, .ref q_32, .int x_10, .ref q_4, .ref q_5, .ref q_6])), (q_5, .inl (k 0, 12, .inl f_12)), (q_6, .inl (k 0, 12, .inl f_13)), (q_2, .inr (6, [.int x_4, .ref q_15, .ref q_16, .ref q_17, .ref q_18, .ref q_19, .int x_5, .ref q_20, .int x_6, .ref q_21, .ref q_22, .ref q_23, .ref q_24, .ref q_25, .ref q_26])), (q_4, .inl (k 0, 12, .inl f_11))]) (z_runV (C := RX11) (As := [.int (-5)]) (rest := []) C0 (s_X11_answer_1 l D k q_0 q_1 q_7 q_8 q_9 q_10 (-5) x_3 _) okV_X11_answer kM_X11_55 rfl (z_pV (q0 := 0) hK hN hP hD [0] rfl rfl rfl rfl rfl) rfl hl.1 rfl (Nat.le_of_ble_eq_true rfl) dX11_draw_93 rfl) hP hD hS hA [0] [1, 2, 3, 4, 5, 6] rfl rfl rfl rfl (fun r21 u21 H locs hw21 hP hD hS => ?_)
            obtain ⟨i21, a21, v21, w21, f21, g21, o21⟩ := u21
            dsimp only at hw21
            obtain rfl := hw21
            have hP : va_P D vwCl [(q_1, .inr (3, [.ref q_2, .ref q_11, .ref q_12, .ref q_13, .ref q_14, .ref q_3])), (q_3, .inr (4, [.int x_7, .ref q_27, .int x_8, .ref q_28, .ref q_29, .int x_9, .ref q_30, .ref q_31, .ref q_32, .int x_10, .ref q_4, .ref q_5, .ref q_6])), (q_5, .inl (k 0, 12, .inl f_12)), (q_6, .inl (k 0, 12, .inl f_13)), (q_2, .inr (6, [.int x_4, .ref q_15, .ref q_16, .ref q_17, .ref q_18, .ref q_19, .int x_5, .ref q_20, .int x_6, .ref q_21, .ref q_22, .ref q_23, .ref q_24, .ref q_25, .ref q_26])), (q_4, .inl (k 0, 12, .inl f_11)), (q_0, .inr (11, [.ref q_1, .ref q_7, .ref q_8, .ref q_9, .ref q_10, .int (v21 0)]))] H := hP
            have hD : va_D A [(q_1, .inr (3, [.ref q_2, .ref q_11, .ref q_12, .ref q_13, .ref q_14, .ref q_3])), (q_3, .inr (4, [.int x_7, .ref q_27, .int x_8, .ref q_28, .ref q_29, .int x_9, .ref q_30, .ref q_31, .ref q_32, .int x_10, .ref q_4, .ref q_5, .ref q_6])), (q_5, .inl (k 0, 12, .inl f_12)), (q_6, .inl (k 0, 12, .inl f_13)), (q_2, .inr (6, [.int x_4, .ref q_15, .ref q_16, .ref q_17, .ref q_18, .ref q_19, .int x_5, .ref q_20, .int x_6, .ref q_21, .ref q_22, .ref q_23, .ref q_24, .ref q_25, .ref q_26])), (q_4, .inl (k 0, 12, .inl f_11)), (q_0, .inr (11, [.ref q_1, .ref q_7, .ref q_8, .ref q_9, .ref q_10, .int (v21 0)]))] := hD
            exact z_iret C0 hr hlk rfl hK hP hD hS (0, fun _ => 0, fun i => [(v21 0), x_10].getD i 0, fun _ => 0, fun i => [f_11, f_12, f_13].getD i (fun _ => 0), fun _ => (fun _ => 0), fun _ => (fun _ => none)) ⟨rfl, (show 0 ≤ Int32.toInt (x_10 : Int32) ∧ Int32.toInt (x_10 : Int32) ≤ 12 from (by revert h_x_10 c15; simp only [vp_in_iff, Int32.lt_iff_toInt_lt, Int32.le_iff_toInt_le, Int64.lt_iff_toInt_lt, Int64.le_iff_toInt_le, Int32.toInt_toInt64, ← Int32.toInt_inj, ← Int64.toInt_inj, Int32.reduceToInt, Int64.reduceToInt] <;> omega)), h_f_12⟩ [6, 0, 4, 1, 5, 2, 3] rfl rfl rfl dX11_draw_96
        · have hP : va_P D vwCl [(q_0, .inr (11, [.ref q_1, .ref q_7, .ref q_8, .ref q_9, .ref q_10, .int x_3])), (q_1, .inr (3, [.ref q_2, .ref q_11, .ref q_12, .ref q_13, .ref q_14, .ref q_3])), (q_3, .inr (4, [.int x_7, .ref q_27, .int x_8, .ref q_28, .ref q_29, .int x_9, .ref q_30, .ref q_31, .ref q_32, .int x_10, .ref q_4, .ref q_5, .ref q_6])), (q_5, .inl (k 0, 12, .inl f_12)), (q_6, .inl (k 0, 12, .inl f_13)), (q_2, .inr (6, [.int x_4, .ref q_15, .ref q_16, .ref q_17, .ref q_18, .ref q_19, .int x_5, .ref q_20, .int x_6, .ref q_21, .ref q_22, .ref q_23, .ref q_24, .ref q_25, .ref q_26])), (q_4, .inl (k 0, 12, .inl f_11))] H := hP
          have hD : va_D A [(q_0, .inr (11, [.ref q_1, .ref q_7, .ref q_8, .ref q_9, .ref q_10, .int x_3])), (q_1, .inr (3, [.ref q_2, .ref q_11, .ref q_12, .ref q_13, .ref q_14, .ref q_3])), (q_3, .inr (4, [.int x_7, .ref q_27, .int x_8, .ref q_28, .ref q_29, .int x_9, .ref q_30, .ref q_31, .ref q_32, .int x_10, .ref q_4, .ref q_5, .ref q_6])), (q_5, .inl (k 0, 12, .inl f_12)), (q_6, .inl (k 0, 12, .inl f_13)), (q_2, .inr (6, [.int x_4, .ref q_15, .ref q_16, .ref q_17, .ref q_18, .ref q_19, .int x_5, .ref q_20, .int x_6, .ref q_21, .ref q_22, .ref q_23, .ref q_24, .ref q_25, .ref q_26])), (q_4, .inl (k 0, 12, .inl f_11))] := hD
          refine lv_if_eq (tgt := 80) hx hb dX11_draw_70 (by decide) (fun c22 => absurd c22 (by decide)) (fun _ => ?_)
          refine lv_aload_n hx hb dX11_draw_73 rfl (lv_at hl 1 rfl) ?_
          refine lv_bipush (v := (-4)) hx hb dX11_draw_74 (by decide) ?_
          refine z_bi (wr := [(q_1, .inr (3, [.ref q_2, .ref q_11, .ref q_12, .ref q_13, .ref q_14, .ref q_3])), (q_3, .inr (4, [.int x_7, .ref q_27, .int x_8, .ref q_28, .ref q_29, .int x_9, .ref q_30, .ref q_31, .ref q_32, .int x_10, .ref q_4, .ref q_5, .ref q_6])), (q_5, .inl (k 0, 12, .inl f_12)), (q_6, .inl (k 0, 12, .inl f_13)), (q_2, .inr (6, [.int x_4, .ref q_15, .ref q_16, .ref q_17, .ref q_18, .ref q_19, .int x_5, .ref q_20, .int x_6, .ref q_21, .ref q_22, .ref q_23, .ref q_24, .ref q_25, .ref q_26])), (q_4, .inl (k 0, 12, .inl f_11))]) (z_runV (C := RX11) (As := [.int (-4)]) (rest := []) C0 (s_X11_answer_1 l D k q_0 q_1 q_7 q_8 q_9 q_10 (-4) x_3 _) okV_X11_answer kM_X11_55 rfl (z_pV (q0 := 0) hK hN hP hD [0] rfl rfl rfl rfl rfl) rfl hl.1 rfl (Nat.le_of_ble_eq_true rfl) dX11_draw_76 rfl) hP hD hS hA [0] [1, 2, 3, 4, 5, 6] rfl rfl rfl rfl (fun r23 u23 H locs hw23 hP hD hS => ?_)
          obtain ⟨i23, a23, v23, w23, f23, g23, o23⟩ := u23
          dsimp only at hw23
          obtain rfl := hw23
          have hP : va_P D vwCl [(q_1, .inr (3, [.ref q_2, .ref q_11, .ref q_12, .ref q_13, .ref q_14, .ref q_3])), (q_3, .inr (4, [.int x_7, .ref q_27, .int x_8, .ref q_28, .ref q_29, .int x_9, .ref q_30, .ref q_31, .ref q_32, .int x_10, .ref q_4, .ref q_5, .ref q_6])), (q_5, .inl (k 0, 12, .inl f_12)), (q_6, .inl (k 0, 12, .inl f_13)), (q_2, .inr (6, [.int x_4, .ref q_15, .ref q_16, .ref q_17, .ref q_18, .ref q_19, .int x_5, .ref q_20, .int x_6, .ref q_21, .ref q_22, .ref q_23, .ref q_24, .ref q_25, .ref q_26])), (q_4, .inl (k 0, 12, .inl f_11)), (q_0, .inr (11, [.ref q_1, .ref q_7, .ref q_8, .ref q_9, .ref q_10, .int (v23 0)]))] H := hP
          have hD : va_D A [(q_1, .inr (3, [.ref q_2, .ref q_11, .ref q_12, .ref q_13, .ref q_14, .ref q_3])), (q_3, .inr (4, [.int x_7, .ref q_27, .int x_8, .ref q_28, .ref q_29, .int x_9, .ref q_30, .ref q_31, .ref q_32, .int x_10, .ref q_4, .ref q_5, .ref q_6])), (q_5, .inl (k 0, 12, .inl f_12)), (q_6, .inl (k 0, 12, .inl f_13)), (q_2, .inr (6, [.int x_4, .ref q_15, .ref q_16, .ref q_17, .ref q_18, .ref q_19, .int x_5, .ref q_20, .int x_6, .ref q_21, .ref q_22, .ref q_23, .ref q_24, .ref q_25, .ref q_26])), (q_4, .inl (k 0, 12, .inl f_11)), (q_0, .inr (11, [.ref q_1, .ref q_7, .ref q_8, .ref q_9, .ref q_10, .int (v23 0)]))] := hD
          exact z_iret C0 hr hlk rfl hK hP hD hS (0, fun _ => 0, fun i => [(v23 0), x_10].getD i 0, fun _ => 0, fun i => [f_11, f_12, f_13].getD i (fun _ => 0), fun _ => (fun _ => 0), fun _ => (fun _ => none)) ⟨rfl, (show 0 ≤ Int32.toInt (x_10 : Int32) ∧ Int32.toInt (x_10 : Int32) ≤ 12 from (by revert h_x_10; simp only [vp_in_iff, Int32.lt_iff_toInt_lt, Int32.le_iff_toInt_le, Int64.lt_iff_toInt_lt, Int64.le_iff_toInt_le, Int32.toInt_toInt64, ← Int32.toInt_inj, ← Int64.toInt_inj, Int32.reduceToInt, Int64.reduceToInt] <;> omega)), h_f_12⟩ [6, 0, 4, 1, 5, 2, 3] rfl rfl rfl dX11_draw_79

set_option maxHeartbeats 4000000 in
set_option maxRecDepth 100000 in
theorem s_J6_bitCount_0f7a4_1 (l : Launch) (D : va_G) (k : Nat → ClassId) (x_0 : Int32) : zMi l yJ6_bitCount_0f7a4 cJ6_bitCount_0f7a4 1 (some .int) ({ frames := 0, cells := 0, slots := 0, locals := 0 }) D k [.int x_0] [] (fun r u => u.1 = 0 ∧ (0 ≤ Int32.toInt r ∧ Int32.toInt r ≤ 63)) (fun u => []) := by
  refine zMi_of (own := RJ6) (by decide +kernel) rfl (Nat.le_of_ble_eq_true rfl) ?_
  intro p e s m args below meth c A ls C0 hr hlk hin hP hD hS hA hK hN hl
  have hx := C0.1
  have hb := C0.2.1
  have hml := C0.2.2.1
  have hown := C0.2.2.2.1
  have hts := C0.2.2.2.2
  have hl : lv_has ls 1 [(0, .int x_0)] := hl
  have hP : va_P D vwCl [] s.heap := hP
  refine lv_iload_n hx hb dJ6_bitCount_0f7a4_0 rfl (lv_at hl 0 rfl) ?_
  refine lv_iload_n hx hb dJ6_bitCount_0f7a4_1 rfl (lv_at hl 0 rfl) ?_
  refine lv_iconst (v := 1) hx hb dJ6_bitCount_0f7a4_2 (by decide) ?_
  refine lv_iushr hx hb dJ6_bitCount_0f7a4_3 rfl ?_
  refine lv_topi (fun y1 ey1 => ?_)
  refine lv_ldcw hx hb hown (hts _ kK_J6_265) dJ6_bitCount_0f7a4_4 ?_
  refine lv_iand hx hb dJ6_bitCount_0f7a4_7 ?_
  refine lv_topi (fun y2 ey2 => ?_)
  have hy2 : 0 ≤ Int32.toInt y2 ∧ Int32.toInt y2 ≤ 1431655765 := by rw [ey2]; exact zo_and _ (by decide)
  refine lv_isub hx hb dJ6_bitCount_0f7a4_8 ?_
  refine lv_istore_n (lv' := [(0, .int (x_0 - y2))]) hx hb dJ6_bitCount_0f7a4_9 rfl hl (by decide) rfl (fun ls hl => ?_)
  refine lv_iload_n hx hb dJ6_bitCount_0f7a4_10 rfl (lv_at hl 0 rfl) ?_
  refine lv_ldcw hx hb hown (hts _ kK_J6_266) dJ6_bitCount_0f7a4_11 ?_
  refine lv_iand hx hb dJ6_bitCount_0f7a4_14 ?_
  refine lv_topi (fun y3 ey3 => ?_)
  have hy3 : 0 ≤ Int32.toInt y3 ∧ Int32.toInt y3 ≤ 858993459 := by rw [ey3]; exact zo_and _ (by decide)
  refine lv_iload_n hx hb dJ6_bitCount_0f7a4_15 rfl (lv_at hl 0 rfl) ?_
  refine lv_iconst (v := 2) hx hb dJ6_bitCount_0f7a4_16 (by decide) ?_
  refine lv_iushr hx hb dJ6_bitCount_0f7a4_17 rfl ?_
  refine lv_topi (fun y4 ey4 => ?_)
  refine lv_ldcw hx hb hown (hts _ kK_J6_266) dJ6_bitCount_0f7a4_18 ?_
  refine lv_iand hx hb dJ6_bitCount_0f7a4_21 ?_
  refine lv_topi (fun y5 ey5 => ?_)
  have hy5 : 0 ≤ Int32.toInt y5 ∧ Int32.toInt y5 ≤ 858993459 := by rw [ey5]; exact zo_and _ (by decide)
  refine lv_iadd hx hb dJ6_bitCount_0f7a4_22 ?_
  have e6 : Int32.toInt (y3 + y5) = Int32.toInt y3 + Int32.toInt y5 := zi_add (by revert hy3 hy5; simp only [vp_in_iff, Int32.lt_iff_toInt_lt, Int32.le_iff_toInt_le, Int64.lt_iff_toInt_lt, Int64.le_iff_toInt_le, Int32.toInt_toInt64, ← Int32.toInt_inj, ← Int64.toInt_inj, Int32.reduceToInt, Int64.reduceToInt] <;> omega)
  refine lv_istore_n (lv' := [(0, .int (y3 + y5))]) hx hb dJ6_bitCount_0f7a4_23 rfl hl (by decide) rfl (fun ls hl => ?_)
  refine lv_iload_n hx hb dJ6_bitCount_0f7a4_24 rfl (lv_at hl 0 rfl) ?_
  refine lv_iload_n hx hb dJ6_bitCount_0f7a4_25 rfl (lv_at hl 0 rfl) ?_
  refine lv_iconst (v := 4) hx hb dJ6_bitCount_0f7a4_26 (by decide) ?_
  refine lv_iushr hx hb dJ6_bitCount_0f7a4_27 rfl ?_
  refine lv_topi (fun y7 ey7 => ?_)
  refine lv_iadd hx hb dJ6_bitCount_0f7a4_28 ?_
  refine lv_ldcw hx hb hown (hts _ kK_J6_267) dJ6_bitCount_0f7a4_29 ?_
  refine lv_iand hx hb dJ6_bitCount_0f7a4_32 ?_
  refine lv_topi (fun y8 ey8 => ?_)
  have hy8 : 0 ≤ Int32.toInt y8 ∧ Int32.toInt y8 ≤ 252645135 := by rw [ey8]; exact zo_and _ (by decide)
  refine lv_istore_n (lv' := [(0, .int y8)]) hx hb dJ6_bitCount_0f7a4_33 rfl hl (by decide) rfl (fun ls hl => ?_)
  refine lv_iload_n hx hb dJ6_bitCount_0f7a4_34 rfl (lv_at hl 0 rfl) ?_
  refine lv_iload_n hx hb dJ6_bitCount_0f7a4_35 rfl (lv_at hl 0 rfl) ?_
  refine lv_bipush (v := 8) hx hb dJ6_bitCount_0f7a4_36 (by decide) ?_
  refine lv_iushr hx hb dJ6_bitCount_0f7a4_38 rfl ?_
  refine lv_topi (fun y9 ey9 => ?_)
  refine lv_iadd hx hb dJ6_bitCount_0f7a4_39 ?_
  refine lv_istore_n (lv' := [(0, .int (y8 + y9))]) hx hb dJ6_bitCount_0f7a4_40 rfl hl (by decide) rfl (fun ls hl => ?_)
  refine lv_iload_n hx hb dJ6_bitCount_0f7a4_41 rfl (lv_at hl 0 rfl) ?_
  refine lv_iload_n hx hb dJ6_bitCount_0f7a4_42 rfl (lv_at hl 0 rfl) ?_
  refine lv_bipush (v := 16) hx hb dJ6_bitCount_0f7a4_43 (by decide) ?_
  refine lv_iushr hx hb dJ6_bitCount_0f7a4_45 rfl ?_
  refine lv_topi (fun y10 ey10 => ?_)
  refine lv_iadd hx hb dJ6_bitCount_0f7a4_46 ?_
  refine lv_istore_n (lv' := [(0, .int ((y8 + y9) + y10))]) hx hb dJ6_bitCount_0f7a4_47 rfl hl (by decide) rfl (fun ls hl => ?_)
  refine lv_iload_n hx hb dJ6_bitCount_0f7a4_48 rfl (lv_at hl 0 rfl) ?_
  refine lv_bipush (v := 63) hx hb dJ6_bitCount_0f7a4_49 (by decide) ?_
  refine lv_iand hx hb dJ6_bitCount_0f7a4_51 ?_
  refine lv_topi (fun y11 ey11 => ?_)
  have hy11 : 0 ≤ Int32.toInt y11 ∧ Int32.toInt y11 ≤ 63 := by rw [ey11]; exact zo_and _ (by decide)
  exact z_iret C0 hr hlk rfl hK hP hD hS (0, fun _ => 0, fun _ => 0, fun _ => 0, fun _ => (fun _ => 0), fun _ => (fun _ => 0), fun _ => (fun _ => none)) ⟨rfl, (by revert hy11; simp only [vp_in_iff, Int32.lt_iff_toInt_lt, Int32.le_iff_toInt_le, Int64.lt_iff_toInt_lt, Int64.le_iff_toInt_le, Int32.toInt_toInt64, ← Int32.toInt_inj, ← Int64.toInt_inj, Int32.reduceToInt, Int64.reduceToInt] <;> omega)⟩ [] rfl rfl rfl dJ6_bitCount_0f7a4_52

set_option maxHeartbeats 4000000 in
set_option maxRecDepth 100000 in
theorem s_X2_waysToDraw_1 (l : Launch) (D : va_G) (k : Nat → ClassId) (q_0 : Nat) (q_1 : Nat) (q_2 : Nat) (q_3 : Nat) (q_4 : Nat) (q_5 : Nat) (q_6 : Nat) (q_7 : Nat) (q_8 : Nat) (q_9 : Nat) (q_10 : Nat) (q_11 : Nat) (q_12 : Nat) (q_13 : Nat) (q_14 : Nat) (q_15 : Nat) (q_16 : Nat) (q_17 : Nat) (q_18 : Nat) (x_0 : Int32) (x_1 : Int32) (x_2 : Int32) (x_3 : Int32) (x_4 : Int32) (x_5 : Int32) (f_6 : Nat → Int32) (x_7 : Int32) (x_8 : Int32) (x_9 : Int32) (x_10 : Int32) (f_11 : Nat → Int32) (f_12 : Nat → Int32) (h_x_1 : 0 ≤ Int32.toInt x_1 ∧ Int32.toInt x_1 ≤ 6) (h_x_7 : 0 ≤ Int32.toInt x_7 ∧ Int32.toInt x_7 ≤ 6) (h_x_8 : 0 ≤ Int32.toInt x_8 ∧ Int32.toInt x_8 ≤ 6) (h_x_9 : 0 ≤ Int32.toInt x_9 ∧ Int32.toInt x_9 ≤ 9) (h_x_10 : 0 ≤ Int32.toInt x_10 ∧ Int32.toInt x_10 ≤ 12) (h_f_11 : zR f_11 0 1) : zMi l yX2_waysToDraw cX2_waysToDraw 7 (some .int) ({ frames := 1, cells := 0, slots := 0, locals := 20 }) D k [.ref q_0, .int x_0] [(q_0, .inr (2, [.ref q_5, .ref q_2, .ref q_6, .int x_1, .int x_2, .ref q_7, .ref q_8, .ref q_9, .int x_3, .int x_4, .int x_5, .ref q_10, .ref q_11, .ref q_1])), (q_1, .inl (k 0, 4608, .inl f_6)), (q_2, .inr (4, [.int x_7, .ref q_12, .int x_8, .ref q_13, .ref q_14, .int x_9, .ref q_15, .ref q_16, .ref q_17, .int x_10, .ref q_18, .ref q_3, .ref q_4])), (q_3, .inl (k 0, 12, .inl f_11)), (q_4, .inl (k 0, 12, .inl f_12))] (fun r u => u.1 = 0) (fun u => [(q_0, .inr (2, [.ref q_5, .ref q_2, .ref q_6, .int x_1, .int x_2, .ref q_7, .ref q_8, .ref q_9, .int x_3, .int x_4, .int x_5, .ref q_10, .ref q_11, .ref q_1])), (q_1, .inl (k 0, 4608, .inl (u.2.2.2.2.1 0))), (q_2, .inr (4, [.int x_7, .ref q_12, .int x_8, .ref q_13, .ref q_14, .int x_9, .ref q_15, .ref q_16, .ref q_17, .int x_10, .ref q_18, .ref q_3, .ref q_4])), (q_3, .inl (k 0, 12, .inl f_11)), (q_4, .inl (k 0, 12, .inl f_12))]) := by
  refine zMi_of (own := RX2) (by decide +kernel) rfl (Nat.le_of_ble_eq_true rfl) ?_
  intro p e s m args below meth c A ls C0 hr hlk hin hP hD hS hA hK hN hl
  have hx := C0.1
  have hb := C0.2.1
  have hml := C0.2.2.1
  have hown := C0.2.2.2.1
  have hts := C0.2.2.2.2
  have hl : lv_has ls 7 [(0, .ref q_0), (1, .int x_0)] := hl
  have hP : va_P D vwCl [(q_0, .inr (2, [.ref q_5, .ref q_2, .ref q_6, .int x_1, .int x_2, .ref q_7, .ref q_8, .ref q_9, .int x_3, .int x_4, .int x_5, .ref q_10, .ref q_11, .ref q_1])), (q_1, .inl (k 0, 4608, .inl f_6)), (q_2, .inr (4, [.int x_7, .ref q_12, .int x_8, .ref q_13, .ref q_14, .int x_9, .ref q_15, .ref q_16, .ref q_17, .int x_10, .ref q_18, .ref q_3, .ref q_4])), (q_3, .inl (k 0, 12, .inl f_11)), (q_4, .inl (k 0, 12, .inl f_12))] s.heap := hP
  refine lv_iconst (v := 0) hx hb dX2_waysToDraw_0 (by decide) ?_
  refine lv_istore_n (lv' := [(2, .int 0), (0, .ref q_0), (1, .int x_0)]) hx hb dX2_waysToDraw_1 rfl hl (by decide) rfl (fun ls hl => ?_)
  refine lv_aload_n hx hb dX2_waysToDraw_2 rfl (lv_at hl 1 rfl) ?_
  refine va_get (D := D) (ci := 2) (v := .ref q_1) (C := RX2) (T := TX2) (N := 14) hx hb hts inX2 hown hK hP 0 rfl rfl 13 (by decide) (hts _ kF_X2_34) (fun _ h9 => h9) rfl dX2_waysToDraw_3 ?_
  refine lv_iconst (v := 0) hx hb dX2_waysToDraw_6 (by decide) ?_
  refine lv_iconst (v := 0) hx hb dX2_waysToDraw_7 (by decide) ?_
  refine va_iast hx hb hK hP hD hS 1 0 rfl rfl (by unfold vp_in; decide) dX2_waysToDraw_8 (fun H locs hP hD hS => ?_)
  obtain ⟨F1, eF1⟩ : ∃ q, q = upd f_6 (Int32.toNatClampNeg (0 : Int32)) 0 := ⟨_, rfl⟩
  have hP : va_P D vwCl [(q_0, .inr (2, [.ref q_5, .ref q_2, .ref q_6, .int x_1, .int x_2, .ref q_7, .ref q_8, .ref q_9, .int x_3, .int x_4, .int x_5, .ref q_10, .ref q_11, .ref q_1])), (q_1, .inl (k 0, 4608, .inl F1)), (q_2, .inr (4, [.int x_7, .ref q_12, .int x_8, .ref q_13, .ref q_14, .int x_9, .ref q_15, .ref q_16, .ref q_17, .int x_10, .ref q_18, .ref q_3, .ref q_4])), (q_3, .inl (k 0, 12, .inl f_11)), (q_4, .inl (k 0, 12, .inl f_12))] H := by rw [eF1]; exact hP
  have hD : va_D A [(q_0, .inr (2, [.ref q_5, .ref q_2, .ref q_6, .int x_1, .int x_2, .ref q_7, .ref q_8, .ref q_9, .int x_3, .int x_4, .int x_5, .ref q_10, .ref q_11, .ref q_1])), (q_1, .inl (k 0, 4608, .inl F1)), (q_2, .inr (4, [.int x_7, .ref q_12, .int x_8, .ref q_13, .ref q_14, .int x_9, .ref q_15, .ref q_16, .ref q_17, .int x_10, .ref q_18, .ref q_3, .ref q_4])), (q_3, .inl (k 0, 12, .inl f_11)), (q_4, .inl (k 0, 12, .inl f_12))] := by rw [eF1]; exact hD
  refine lv_iconst (v := 0) hx hb dX2_waysToDraw_9 (by decide) ?_
  refine lv_istore_n (lv' := [(3, .int 0), (2, .int 0), (0, .ref q_0), (1, .int x_0)]) hx hb dX2_waysToDraw_10 rfl hl (by decide) rfl (fun ls hl => ?_)
  have loop23 : ∀ (N24 : Nat) (y20 : Int32) (y21 : Int32) (F22 : Nat → Int32) (H : Heap) (locs : List Loc) (ls : Array Slot), Int.toNat (12 - Int32.toInt y20) < N24 → 0 ≤ Int32.toInt y20 ∧ Int32.toInt y20 ≤ 12 → 0 ≤ Int32.toInt y21 ∧ Int32.toInt y21 ≤ 4095 → va_P D vwCl [(q_0, .inr (2, [.ref q_5, .ref q_2, .ref q_6, .int x_1, .int x_2, .ref q_7, .ref q_8, .ref q_9, .int x_3, .int x_4, .int x_5, .ref q_10, .ref q_11, .ref q_1])), (q_1, .inl (k 0, 4608, .inl F22)), (q_2, .inr (4, [.int x_7, .ref q_12, .int x_8, .ref q_13, .ref q_14, .int x_9, .ref q_15, .ref q_16, .ref q_17, .int x_10, .ref q_18, .ref q_3, .ref q_4])), (q_3, .inl (k 0, 12, .inl f_11)), (q_4, .inl (k 0, 12, .inl f_12))] H → va_D A [(q_0, .inr (2, [.ref q_5, .ref q_2, .ref q_6, .int x_1, .int x_2, .ref q_7, .ref q_8, .ref q_9, .int x_3, .int x_4, .int x_5, .ref q_10, .ref q_11, .ref q_1])), (q_1, .inl (k 0, 4608, .inl F22)), (q_2, .inr (4, [.int x_7, .ref q_12, .int x_8, .ref q_13, .ref q_14, .int x_9, .ref q_15, .ref q_16, .ref q_17, .int x_10, .ref q_18, .ref q_3, .ref q_4])), (q_3, .inl (k 0, 12, .inl f_11)), (q_4, .inl (k 0, 12, .inl f_12))] → va_S A s.heap H locs → lv_has ls 7 [(3, .int y20), (2, .int y21), (0, .ref q_0), (1, .int x_0)] → W p l e { frames := 1, cells := 0, slots := 0, locals := 20 } s m args below meth c H locs 0 0 (MQ below (va_Qi (fun (r : Int32) (u : zS) => u.1 = 0) (zB D k A (fun (u : zS) => [(q_0, .inr (2, [.ref q_5, .ref q_2, .ref q_6, .int x_1, .int x_2, .ref q_7, .ref q_8, .ref q_9, .int x_3, .int x_4, .int x_5, .ref q_10, .ref q_11, .ref q_1])), (q_1, .inl (k 0, 4608, .inl (u.2.2.2.2.1 0))), (q_2, .inr (4, [.int x_7, .ref q_12, .int x_8, .ref q_13, .ref q_14, .int x_9, .ref q_15, .ref q_16, .ref q_17, .int x_10, .ref q_18, .ref q_3, .ref q_4])), (q_3, .inl (k 0, 12, .inl f_11)), (q_4, .inl (k 0, 12, .inl f_12))])) A) args s 0 0 A) (F0 m 11 ls []) := by
    intro N24
    induction N24 with
    | zero => intro y20 y21 F22 H locs ls hm; exact absurd hm (Nat.not_lt_zero _)
    | succ N24 ihN24 =>
      intro y20 y21 F22 H locs ls hN24 hy20 hy21 hP hD hS hl
      refine lv_iload_n hx hb dX2_waysToDraw_11 rfl (lv_at hl 0 rfl) ?_
      refine lv_aload_n hx hb dX2_waysToDraw_12 rfl (lv_at hl 2 rfl) ?_
      refine va_get (D := D) (ci := 2) (v := .ref q_2) (C := RX2) (T := TX2) (N := 14) hx hb hts inX2 hown hK hP 0 rfl rfl 1 (by decide) (hts _ kF_X2_48) (fun _ h9 => h9) rfl dX2_waysToDraw_13 ?_
      refine va_get (D := D) (ci := 4) (v := .int x_10) (C := RX4) (T := TX4) (N := 13) hx hb hts inX4 hown hK hP 2 rfl rfl 9 (by decide) (hts _ kF_X2_136) (fun _ h9 => h9) rfl dX2_waysToDraw_16 ?_
      refine lv_icmp_ge (tgt := 87) hx hb dX2_waysToDraw_19 (by decide) (fun c25 => ?_) (fun c25 => ?_)
      · refine lv_iload_n hx hb dX2_waysToDraw_87 rfl (lv_at hl 1 rfl) ?_
        refine z_bi0 (z_runS (As := [.int y21]) (rest := []) C0 (s_J6_bitCount_0f7a4_1 l D k y21 _) okS_J6_bitCount_0f7a4 kM_X2_145 rfl (z_p0 hK hN) rfl hl.1 rfl (Nat.le_of_ble_eq_true rfl) dX2_waysToDraw_88 rfl) hP hS hA (fun r26 u26 H locs hw26 hP hS => ?_)
        obtain ⟨i26, a26, v26, w26, f26, g26, o26⟩ := u26
        dsimp only at hw26
        obtain ⟨rfl, hr26⟩ := hw26
        refine lv_istore_n (lv' := [(3, .int r26), (2, .int y21), (0, .ref q_0), (1, .int x_0)]) hx hb dX2_waysToDraw_91 rfl hl (by decide) rfl (fun ls hl => ?_)
        refine lv_aload_n hx hb dX2_waysToDraw_92 rfl (lv_at hl 2 rfl) ?_
        refine va_get (D := D) (ci := 2) (v := .ref q_1) (C := RX2) (T := TX2) (N := 14) hx hb hts inX2 hown hK hP 0 rfl rfl 13 (by decide) (hts _ kF_X2_34) (fun _ h9 => h9) rfl dX2_waysToDraw_93 ?_
        refine lv_iload_n hx hb dX2_waysToDraw_96 rfl (lv_at hl 1 rfl) ?_
        refine va_iald hx hb hK hP 1 0 rfl rfl (by revert hy21; simp only [vp_in_iff, Int32.lt_iff_toInt_lt, Int32.le_iff_toInt_le, Int64.lt_iff_toInt_lt, Int64.le_iff_toInt_le, Int32.toInt_toInt64, ← Int32.toInt_inj, ← Int64.toInt_inj, Int32.reduceToInt, Int64.reduceToInt] <;> omega) dX2_waysToDraw_97 ?_
        refine lv_topi (fun y27 ey27 => ?_)
        refine lv_istore (lv' := [(4, .int y27), (3, .int r26), (2, .int y21), (0, .ref q_0), (1, .int x_0)]) hx hb dX2_waysToDraw_98 hl (by decide) rfl (fun ls hl => ?_)
        refine lv_iconst (v := 0) hx hb dX2_waysToDraw_100 (by decide) ?_
        refine lv_istore (lv' := [(5, .int 0), (4, .int y27), (3, .int r26), (2, .int y21), (0, .ref q_0), (1, .int x_0)]) hx hb dX2_waysToDraw_101 hl (by decide) rfl (fun ls hl => ?_)
        refine lv_iconst (v := 0) hx hb dX2_waysToDraw_103 (by decide) ?_
        refine lv_istore (lv' := [(6, .int 0), (5, .int 0), (4, .int y27), (3, .int r26), (2, .int y21), (0, .ref q_0), (1, .int x_0)]) hx hb dX2_waysToDraw_104 hl (by decide) rfl (fun ls hl => ?_)
        have loop64 : ∀ (N65 : Nat) (y62 : Int32) (y63 : Int32) (H : Heap) (locs : List Loc) (ls : Array Slot), Int.toNat (4096 - Int32.toInt y62) < N65 → 0 ≤ Int32.toInt y62 ∧ Int32.toInt y62 ≤ 4096 → va_P D vwCl [(q_0, .inr (2, [.ref q_5, .ref q_2, .ref q_6, .int x_1, .int x_2, .ref q_7, .ref q_8, .ref q_9, .int x_3, .int x_4, .int x_5, .ref q_10, .ref q_11, .ref q_1])), (q_1, .inl (k 0, 4608, .inl F22)), (q_2, .inr (4, [.int x_7, .ref q_12, .int x_8, .ref q_13, .ref q_14, .int x_9, .ref q_15, .ref q_16, .ref q_17, .int x_10, .ref q_18, .ref q_3, .ref q_4])), (q_3, .inl (k 0, 12, .inl f_11)), (q_4, .inl (k 0, 12, .inl f_12))] H → va_D A [(q_0, .inr (2, [.ref q_5, .ref q_2, .ref q_6, .int x_1, .int x_2, .ref q_7, .ref q_8, .ref q_9, .int x_3, .int x_4, .int x_5, .ref q_10, .ref q_11, .ref q_1])), (q_1, .inl (k 0, 4608, .inl F22)), (q_2, .inr (4, [.int x_7, .ref q_12, .int x_8, .ref q_13, .ref q_14, .int x_9, .ref q_15, .ref q_16, .ref q_17, .int x_10, .ref q_18, .ref q_3, .ref q_4])), (q_3, .inl (k 0, 12, .inl f_11)), (q_4, .inl (k 0, 12, .inl f_12))] → va_S A s.heap H locs → lv_has ls 7 [(6, .int y62), (5, .int y63), (4, .int y27), (3, .int r26), (2, .int y21), (0, .ref q_0), (1, .int x_0)] → W p l e { frames := 1, cells := 0, slots := 0, locals := 20 } s m args below meth c H locs 0 0 (MQ below (va_Qi (fun (r : Int32) (u : zS) => u.1 = 0) (zB D k A (fun (u : zS) => [(q_0, .inr (2, [.ref q_5, .ref q_2, .ref q_6, .int x_1, .int x_2, .ref q_7, .ref q_8, .ref q_9, .int x_3, .int x_4, .int x_5, .ref q_10, .ref q_11, .ref q_1])), (q_1, .inl (k 0, 4608, .inl (u.2.2.2.2.1 0))), (q_2, .inr (4, [.int x_7, .ref q_12, .int x_8, .ref q_13, .ref q_14, .int x_9, .ref q_15, .ref q_16, .ref q_17, .int x_10, .ref q_18, .ref q_3, .ref q_4])), (q_3, .inl (k 0, 12, .inl f_11)), (q_4, .inl (k 0, 12, .inl f_12))])) A) args s 0 0 A) (F0 m 106 ls []) := by
          intro N65
          induction N65 with
          | zero => intro y62 y63 H locs ls hm; exact absurd hm (Nat.not_lt_zero _)
          | succ N65 ihN65 =>
            intro y62 y63 H locs ls hN65 hy62 hP hD hS hl
            refine lv_iload hx hb dX2_waysToDraw_106 (lv_at hl 0 rfl) ?_
            refine lv_iconst (v := 1) hx hb dX2_waysToDraw_108 (by decide) ?_
            refine lv_aload_n hx hb dX2_waysToDraw_109 rfl (lv_at hl 5 rfl) ?_
            refine va_get (D := D) (ci := 2) (v := .ref q_2) (C := RX2) (T := TX2) (N := 14) hx hb hts inX2 hown hK hP 0 rfl rfl 1 (by decide) (hts _ kF_X2_48) (fun _ h9 => h9) rfl dX2_waysToDraw_110 ?_
            refine va_get (D := D) (ci := 4) (v := .int x_10) (C := RX4) (T := TX4) (N := 13) hx hb hts inX4 hown hK hP 2 rfl rfl 9 (by decide) (hts _ kF_X2_136) (fun _ h9 => h9) rfl dX2_waysToDraw_113 ?_
            refine lv_ishl hx hb dX2_waysToDraw_116 ?_
            refine lv_topi (fun y66 ey66 => ?_)
            have hy66 : 1 ≤ Int32.toInt y66 ∧ Int32.toInt y66 ≤ 4096 := by rw [ey66]; exact zo_shl1 12 (show 0 ≤ Int32.toInt x_10 ∧ Int32.toInt x_10 ≤ 12 by revert h_x_10 c25 hN24 hy20; simp only [vp_in_iff, Int32.lt_iff_toInt_lt, Int32.le_iff_toInt_le, Int64.lt_iff_toInt_lt, Int64.le_iff_toInt_le, Int32.toInt_toInt64, ← Int32.toInt_inj, ← Int64.toInt_inj, Int32.reduceToInt, Int64.reduceToInt] <;> omega) (by decide)
            refine lv_icmp_ge (tgt := 154) hx hb dX2_waysToDraw_117 (by decide) (fun c67 => ?_) (fun c67 => ?_)
            · refine lv_iload hx hb dX2_waysToDraw_154 (lv_at hl 1 rfl) ?_
              exact z_iret C0 hr hlk rfl hK hP hD hS (0, fun _ => 0, fun _ => 0, fun _ => 0, fun i => [F22].getD i (fun _ => 0), fun _ => (fun _ => 0), fun _ => (fun _ => none)) rfl [0, 1, 2, 3, 4] rfl rfl rfl dX2_waysToDraw_156
            · refine lv_iload_n hx hb dX2_waysToDraw_120 rfl (lv_at hl 6 rfl) ?_
              refine lv_if_eq (tgt := 136) hx hb dX2_waysToDraw_121 (by decide) (fun c68 => ?_) (fun c68 => ?_)
              · refine lv_iload hx hb dX2_waysToDraw_136 (lv_at hl 0 rfl) ?_
                refine z_bi0 (z_runS (As := [.int y62]) (rest := []) C0 (s_J6_bitCount_0f7a4_1 l D k y62 _) okS_J6_bitCount_0f7a4 kM_X2_145 rfl (z_p0 hK hN) rfl hl.1 rfl (Nat.le_of_ble_eq_true rfl) dX2_waysToDraw_138 rfl) hP hS hA (fun r69 u69 H locs hw69 hP hS => ?_)
                obtain ⟨i69, a69, v69, w69, f69, g69, o69⟩ := u69
                dsimp only at hw69
                obtain ⟨rfl, hr69⟩ := hw69
                refine lv_iload_n hx hb dX2_waysToDraw_141 rfl (lv_at hl 3 rfl) ?_
                refine lv_icmp_ne (tgt := 148) hx hb dX2_waysToDraw_142 (by decide) (fun c70 => ?_) (fun c70 => ?_)
                · have e71 : Int32.toInt (y62 + 1) = Int32.toInt y62 + Int32.toInt (1 : Int32) := zi_add (by revert hN65 hy62 c67 hy66; simp only [vp_in_iff, Int32.lt_iff_toInt_lt, Int32.le_iff_toInt_le, Int64.lt_iff_toInt_lt, Int64.le_iff_toInt_le, Int32.toInt_toInt64, ← Int32.toInt_inj, ← Int64.toInt_inj, Int32.reduceToInt, Int64.reduceToInt] <;> omega)
                  refine lv_iinc (v := (y62 + 1)) (lv' := [(6, .int (y62 + 1)), (5, .int y63), (4, .int y27), (3, .int r26), (2, .int y21), (0, .ref q_0), (1, .int x_0)]) hx hb dX2_waysToDraw_148 hl (k := 0) rfl rfl (by decide) rfl (fun ls hl => ?_)
                  refine lv_goto (tgt := 106) hx hb dX2_waysToDraw_151 (by decide) ?_
                  exact ihN65 (y62 + 1) y63 _ _ ls (by revert hN65 hy62 c67 e71 hy66; simp only [vp_in_iff, Int32.lt_iff_toInt_lt, Int32.le_iff_toInt_le, Int64.lt_iff_toInt_lt, Int64.le_iff_toInt_le, Int32.toInt_toInt64, ← Int32.toInt_inj, ← Int64.toInt_inj, Int32.reduceToInt, Int64.reduceToInt] <;> omega) (by revert hN65 hy62 c67 e71 hy66; simp only [vp_in_iff, Int32.lt_iff_toInt_lt, Int32.le_iff_toInt_le, Int64.lt_iff_toInt_lt, Int64.le_iff_toInt_le, Int32.toInt_toInt64, ← Int32.toInt_inj, ← Int64.toInt_inj, Int32.reduceToInt, Int64.reduceToInt] <;> omega) hP hD hS (lv_sub hl [0, 1, 2, 3, 4, 5, 6] rfl)
                · refine lv_iinc (v := (y63 + 1)) (lv' := [(5, .int (y63 + 1)), (6, .int y62), (4, .int y27), (3, .int r26), (2, .int y21), (0, .ref q_0), (1, .int x_0)]) hx hb dX2_waysToDraw_145 hl (k := 1) rfl rfl (by decide) rfl (fun ls hl => ?_)
                  have e72 : Int32.toInt (y62 + 1) = Int32.toInt y62 + Int32.toInt (1 : Int32) := zi_add (by revert hN65 hy62 c67 hy66; simp only [vp_in_iff, Int32.lt_iff_toInt_lt, Int32.le_iff_toInt_le, Int64.lt_iff_toInt_lt, Int64.le_iff_toInt_le, Int32.toInt_toInt64, ← Int32.toInt_inj, ← Int64.toInt_inj, Int32.reduceToInt, Int64.reduceToInt] <;> omega)
                  refine lv_iinc (v := (y62 + 1)) (lv' := [(6, .int (y62 + 1)), (5, .int (y63 + 1)), (4, .int y27), (3, .int r26), (2, .int y21), (0, .ref q_0), (1, .int x_0)]) hx hb dX2_waysToDraw_148 hl (k := 1) rfl rfl (by decide) rfl (fun ls hl => ?_)
                  refine lv_goto (tgt := 106) hx hb dX2_waysToDraw_151 (by decide) ?_
                  exact ihN65 (y62 + 1) (y63 + 1) _ _ ls (by revert hN65 hy62 c67 e72 hy66; simp only [vp_in_iff, Int32.lt_iff_toInt_lt, Int32.le_iff_toInt_le, Int64.lt_iff_toInt_lt, Int64.le_iff_toInt_le, Int32.toInt_toInt64, ← Int32.toInt_inj, ← Int64.toInt_inj, Int32.reduceToInt, Int64.reduceToInt] <;> omega) (by revert hN65 hy62 c67 e72 hy66; simp only [vp_in_iff, Int32.lt_iff_toInt_lt, Int32.le_iff_toInt_le, Int64.lt_iff_toInt_lt, Int64.le_iff_toInt_le, Int32.toInt_toInt64, ← Int32.toInt_inj, ← Int64.toInt_inj, Int32.reduceToInt, Int64.reduceToInt] <;> omega) hP hD hS (lv_sub hl [0, 1, 2, 3, 4, 5, 6] rfl)
              · refine lv_aload_n hx hb dX2_waysToDraw_124 rfl (lv_at hl 5 rfl) ?_
                refine va_get (D := D) (ci := 2) (v := .ref q_1) (C := RX2) (T := TX2) (N := 14) hx hb hts inX2 hown hK hP 0 rfl rfl 13 (by decide) (hts _ kF_X2_34) (fun _ h9 => h9) rfl dX2_waysToDraw_125 ?_
                refine lv_iload hx hb dX2_waysToDraw_128 (lv_at hl 0 rfl) ?_
                refine va_iald hx hb hK hP 1 0 rfl rfl (by revert hN65 hy62 c67 hy66; simp only [vp_in_iff, Int32.lt_iff_toInt_lt, Int32.le_iff_toInt_le, Int64.lt_iff_toInt_lt, Int64.le_iff_toInt_le, Int32.toInt_toInt64, ← Int32.toInt_inj, ← Int64.toInt_inj, Int32.reduceToInt, Int64.reduceToInt] <;> omega) dX2_waysToDraw_130 ?_
                refine lv_topi (fun y73 ey73 => ?_)
                refine lv_iload hx hb dX2_waysToDraw_131 (lv_at hl 2 rfl) ?_
                refine lv_icmp_lt (tgt := 148) hx hb dX2_waysToDraw_133 (by decide) (fun c74 => ?_) (fun c74 => ?_)
                · have e75 : Int32.toInt (y62 + 1) = Int32.toInt y62 + Int32.toInt (1 : Int32) := zi_add (by revert hN65 hy62 c67 hy66; simp only [vp_in_iff, Int32.lt_iff_toInt_lt, Int32.le_iff_toInt_le, Int64.lt_iff_toInt_lt, Int64.le_iff_toInt_le, Int32.toInt_toInt64, ← Int32.toInt_inj, ← Int64.toInt_inj, Int32.reduceToInt, Int64.reduceToInt] <;> omega)
                  refine lv_iinc (v := (y62 + 1)) (lv' := [(6, .int (y62 + 1)), (5, .int y63), (4, .int y27), (3, .int r26), (2, .int y21), (0, .ref q_0), (1, .int x_0)]) hx hb dX2_waysToDraw_148 hl (k := 0) rfl rfl (by decide) rfl (fun ls hl => ?_)
                  refine lv_goto (tgt := 106) hx hb dX2_waysToDraw_151 (by decide) ?_
                  exact ihN65 (y62 + 1) y63 _ _ ls (by revert hN65 hy62 c67 e75 hy66; simp only [vp_in_iff, Int32.lt_iff_toInt_lt, Int32.le_iff_toInt_le, Int64.lt_iff_toInt_lt, Int64.le_iff_toInt_le, Int32.toInt_toInt64, ← Int32.toInt_inj, ← Int64.toInt_inj, Int32.reduceToInt, Int64.reduceToInt] <;> omega) (by revert hN65 hy62 c67 e75 hy66; simp only [vp_in_iff, Int32.lt_iff_toInt_lt, Int32.le_iff_toInt_le, Int64.lt_iff_toInt_lt, Int64.le_iff_toInt_le, Int32.toInt_toInt64, ← Int32.toInt_inj, ← Int64.toInt_inj, Int32.reduceToInt, Int64.reduceToInt] <;> omega) hP hD hS (lv_sub hl [0, 1, 2, 3, 4, 5, 6] rfl)
                · refine lv_iload hx hb dX2_waysToDraw_136 (lv_at hl 0 rfl) ?_
                  refine z_bi0 (z_runS (As := [.int y62]) (rest := []) C0 (s_J6_bitCount_0f7a4_1 l D k y62 _) okS_J6_bitCount_0f7a4 kM_X2_145 rfl (z_p0 hK hN) rfl hl.1 rfl (Nat.le_of_ble_eq_true rfl) dX2_waysToDraw_138 rfl) hP hS hA (fun r76 u76 H locs hw76 hP hS => ?_)
                  obtain ⟨i76, a76, v76, w76, f76, g76, o76⟩ := u76
                  dsimp only at hw76
                  obtain ⟨rfl, hr76⟩ := hw76
                  refine lv_iload_n hx hb dX2_waysToDraw_141 rfl (lv_at hl 3 rfl) ?_
                  refine lv_icmp_ne (tgt := 148) hx hb dX2_waysToDraw_142 (by decide) (fun c77 => ?_) (fun c77 => ?_)
                  · have e78 : Int32.toInt (y62 + 1) = Int32.toInt y62 + Int32.toInt (1 : Int32) := zi_add (by revert hN65 hy62 c67 hy66; simp only [vp_in_iff, Int32.lt_iff_toInt_lt, Int32.le_iff_toInt_le, Int64.lt_iff_toInt_lt, Int64.le_iff_toInt_le, Int32.toInt_toInt64, ← Int32.toInt_inj, ← Int64.toInt_inj, Int32.reduceToInt, Int64.reduceToInt] <;> omega)
                    refine lv_iinc (v := (y62 + 1)) (lv' := [(6, .int (y62 + 1)), (5, .int y63), (4, .int y27), (3, .int r26), (2, .int y21), (0, .ref q_0), (1, .int x_0)]) hx hb dX2_waysToDraw_148 hl (k := 0) rfl rfl (by decide) rfl (fun ls hl => ?_)
                    refine lv_goto (tgt := 106) hx hb dX2_waysToDraw_151 (by decide) ?_
                    exact ihN65 (y62 + 1) y63 _ _ ls (by revert hN65 hy62 c67 e78 hy66; simp only [vp_in_iff, Int32.lt_iff_toInt_lt, Int32.le_iff_toInt_le, Int64.lt_iff_toInt_lt, Int64.le_iff_toInt_le, Int32.toInt_toInt64, ← Int32.toInt_inj, ← Int64.toInt_inj, Int32.reduceToInt, Int64.reduceToInt] <;> omega) (by revert hN65 hy62 c67 e78 hy66; simp only [vp_in_iff, Int32.lt_iff_toInt_lt, Int32.le_iff_toInt_le, Int64.lt_iff_toInt_lt, Int64.le_iff_toInt_le, Int32.toInt_toInt64, ← Int32.toInt_inj, ← Int64.toInt_inj, Int32.reduceToInt, Int64.reduceToInt] <;> omega) hP hD hS (lv_sub hl [0, 1, 2, 3, 4, 5, 6] rfl)
                  · refine lv_iinc (v := (y63 + 1)) (lv' := [(5, .int (y63 + 1)), (6, .int y62), (4, .int y27), (3, .int r26), (2, .int y21), (0, .ref q_0), (1, .int x_0)]) hx hb dX2_waysToDraw_145 hl (k := 1) rfl rfl (by decide) rfl (fun ls hl => ?_)
                    have e79 : Int32.toInt (y62 + 1) = Int32.toInt y62 + Int32.toInt (1 : Int32) := zi_add (by revert hN65 hy62 c67 hy66; simp only [vp_in_iff, Int32.lt_iff_toInt_lt, Int32.le_iff_toInt_le, Int64.lt_iff_toInt_lt, Int64.le_iff_toInt_le, Int32.toInt_toInt64, ← Int32.toInt_inj, ← Int64.toInt_inj, Int32.reduceToInt, Int64.reduceToInt] <;> omega)
                    refine lv_iinc (v := (y62 + 1)) (lv' := [(6, .int (y62 + 1)), (5, .int (y63 + 1)), (4, .int y27), (3, .int r26), (2, .int y21), (0, .ref q_0), (1, .int x_0)]) hx hb dX2_waysToDraw_148 hl (k := 1) rfl rfl (by decide) rfl (fun ls hl => ?_)
                    refine lv_goto (tgt := 106) hx hb dX2_waysToDraw_151 (by decide) ?_
                    exact ihN65 (y62 + 1) (y63 + 1) _ _ ls (by revert hN65 hy62 c67 e79 hy66; simp only [vp_in_iff, Int32.lt_iff_toInt_lt, Int32.le_iff_toInt_le, Int64.lt_iff_toInt_lt, Int64.le_iff_toInt_le, Int32.toInt_toInt64, ← Int32.toInt_inj, ← Int64.toInt_inj, Int32.reduceToInt, Int64.reduceToInt] <;> omega) (by revert hN65 hy62 c67 e79 hy66; simp only [vp_in_iff, Int32.lt_iff_toInt_lt, Int32.le_iff_toInt_le, Int64.lt_iff_toInt_lt, Int64.le_iff_toInt_le, Int32.toInt_toInt64, ← Int32.toInt_inj, ← Int64.toInt_inj, Int32.reduceToInt, Int64.reduceToInt] <;> omega) hP hD hS (lv_sub hl [0, 1, 2, 3, 4, 5, 6] rfl)
        exact loop64 _ 0 0 _ _ _ (Nat.lt_succ_self _) (by simp only [vp_in_iff, Int32.lt_iff_toInt_lt, Int32.le_iff_toInt_le, Int64.lt_iff_toInt_lt, Int64.le_iff_toInt_le, Int32.toInt_toInt64, ← Int32.toInt_inj, ← Int64.toInt_inj, Int32.reduceToInt, Int64.reduceToInt] <;> omega) hP hD hS (lv_sub hl [0, 1, 2, 3, 4, 5, 6] rfl)
      · refine lv_iload_n hx hb dX2_waysToDraw_22 rfl (lv_at hl 1 rfl) ?_
        refine lv_aload_n hx hb dX2_waysToDraw_23 rfl (lv_at hl 2 rfl) ?_
        refine va_get (D := D) (ci := 2) (v := .ref q_2) (C := RX2) (T := TX2) (N := 14) hx hb hts inX2 hown hK hP 0 rfl rfl 1 (by decide) (hts _ kF_X2_48) (fun _ h9 => h9) rfl dX2_waysToDraw_24 ?_
        refine va_get (D := D) (ci := 4) (v := .ref q_3) (C := RX4) (T := TX4) (N := 13) hx hb hts inX4 hown hK hP 2 rfl rfl 11 (by decide) (hts _ kF_X2_139) (fun _ h9 => h9) rfl dX2_waysToDraw_27 ?_
        refine lv_iload_n hx hb dX2_waysToDraw_30 rfl (lv_at hl 0 rfl) ?_
        refine va_iald hx hb hK hP 3 0 rfl rfl (by revert hN24 hy20 c25 h_x_10; simp only [vp_in_iff, Int32.lt_iff_toInt_lt, Int32.le_iff_toInt_le, Int64.lt_iff_toInt_lt, Int64.le_iff_toInt_le, Int32.toInt_toInt64, ← Int32.toInt_inj, ← Int64.toInt_inj, Int32.reduceToInt, Int64.reduceToInt] <;> omega) dX2_waysToDraw_31 ?_
        refine lv_topi (fun y80 ey80 => ?_)
        have hy80 : 0 ≤ Int32.toInt y80 ∧ Int32.toInt y80 ≤ 1 := by rw [ey80]; exact h_f_11 _
        refine lv_iload_n hx hb dX2_waysToDraw_32 rfl (lv_at hl 0 rfl) ?_
        refine lv_ishl hx hb dX2_waysToDraw_33 ?_
        refine lv_topi (fun y81 ey81 => ?_)
        have hy81 : 0 ≤ Int32.toInt y81 ∧ Int32.toInt y81 ≤ 2048 := by rw [ey81]; exact zo_shlb 11 (show 0 ≤ Int32.toInt y80 ∧ Int32.toInt y80 ≤ 1 by revert hN24 hy20 c25 hy80 h_x_10; simp only [vp_in_iff, Int32.lt_iff_toInt_lt, Int32.le_iff_toInt_le, Int64.lt_iff_toInt_lt, Int64.le_iff_toInt_le, Int32.toInt_toInt64, ← Int32.toInt_inj, ← Int64.toInt_inj, Int32.reduceToInt, Int64.reduceToInt] <;> omega) (show 0 ≤ Int32.toInt y20 ∧ Int32.toInt y20 ≤ 11 by revert hN24 hy20 c25 hy80 h_x_10; simp only [vp_in_iff, Int32.lt_iff_toInt_lt, Int32.le_iff_toInt_le, Int64.lt_iff_toInt_lt, Int64.le_iff_toInt_le, Int32.toInt_toInt64, ← Int32.toInt_inj, ← Int64.toInt_inj, Int32.reduceToInt, Int64.reduceToInt] <;> omega) (by decide)
        refine lv_ior hx hb dX2_waysToDraw_34 ?_
        refine lv_topi (fun y82 ey82 => ?_)
        have hy82 : 0 ≤ Int32.toInt y82 ∧ Int32.toInt y82 ≤ 4095 := by rw [ey82]; exact zo_or 12 (show 0 ≤ Int32.toInt y21 ∧ Int32.toInt y21 < 2 ^ 12 by revert hy21 hy81; simp only [vp_in_iff, Int32.lt_iff_toInt_lt, Int32.le_iff_toInt_le, Int64.lt_iff_toInt_lt, Int64.le_iff_toInt_le, Int32.toInt_toInt64, ← Int32.toInt_inj, ← Int64.toInt_inj, Int32.reduceToInt, Int64.reduceToInt] <;> omega) (show 0 ≤ Int32.toInt y81 ∧ Int32.toInt y81 < 2 ^ 12 by revert hy21 hy81; simp only [vp_in_iff, Int32.lt_iff_toInt_lt, Int32.le_iff_toInt_le, Int64.lt_iff_toInt_lt, Int64.le_iff_toInt_le, Int32.toInt_toInt64, ← Int32.toInt_inj, ← Int64.toInt_inj, Int32.reduceToInt, Int64.reduceToInt] <;> omega) (by decide)
        refine lv_istore_n (lv' := [(2, .int y82), (3, .int y20), (0, .ref q_0), (1, .int x_0)]) hx hb dX2_waysToDraw_35 rfl hl (by decide) rfl (fun ls hl => ?_)
        refine lv_iconst (v := 0) hx hb dX2_waysToDraw_36 (by decide) ?_
        refine lv_istore (lv' := [(4, .int 0), (2, .int y82), (3, .int y20), (0, .ref q_0), (1, .int x_0)]) hx hb dX2_waysToDraw_37 hl (by decide) rfl (fun ls hl => ?_)
        have loop107 : ∀ (N108 : Nat) (y105 : Int32) (F106 : Nat → Int32) (H : Heap) (locs : List Loc) (ls : Array Slot), Int.toNat (2048 - Int32.toInt y105) < N108 → 0 ≤ Int32.toInt y105 ∧ Int32.toInt y105 ≤ 2048 → va_P D vwCl [(q_0, .inr (2, [.ref q_5, .ref q_2, .ref q_6, .int x_1, .int x_2, .ref q_7, .ref q_8, .ref q_9, .int x_3, .int x_4, .int x_5, .ref q_10, .ref q_11, .ref q_1])), (q_1, .inl (k 0, 4608, .inl F106)), (q_2, .inr (4, [.int x_7, .ref q_12, .int x_8, .ref q_13, .ref q_14, .int x_9, .ref q_15, .ref q_16, .ref q_17, .int x_10, .ref q_18, .ref q_3, .ref q_4])), (q_3, .inl (k 0, 12, .inl f_11)), (q_4, .inl (k 0, 12, .inl f_12))] H → va_D A [(q_0, .inr (2, [.ref q_5, .ref q_2, .ref q_6, .int x_1, .int x_2, .ref q_7, .ref q_8, .ref q_9, .int x_3, .int x_4, .int x_5, .ref q_10, .ref q_11, .ref q_1])), (q_1, .inl (k 0, 4608, .inl F106)), (q_2, .inr (4, [.int x_7, .ref q_12, .int x_8, .ref q_13, .ref q_14, .int x_9, .ref q_15, .ref q_16, .ref q_17, .int x_10, .ref q_18, .ref q_3, .ref q_4])), (q_3, .inl (k 0, 12, .inl f_11)), (q_4, .inl (k 0, 12, .inl f_12))] → va_S A s.heap H locs → lv_has ls 7 [(4, .int y105), (2, .int y82), (3, .int y20), (0, .ref q_0), (1, .int x_0)] → W p l e { frames := 1, cells := 0, slots := 0, locals := 20 } s m args below meth c H locs 0 0 (MQ below (va_Qi (fun (r : Int32) (u : zS) => u.1 = 0) (zB D k A (fun (u : zS) => [(q_0, .inr (2, [.ref q_5, .ref q_2, .ref q_6, .int x_1, .int x_2, .ref q_7, .ref q_8, .ref q_9, .int x_3, .int x_4, .int x_5, .ref q_10, .ref q_11, .ref q_1])), (q_1, .inl (k 0, 4608, .inl (u.2.2.2.2.1 0))), (q_2, .inr (4, [.int x_7, .ref q_12, .int x_8, .ref q_13, .ref q_14, .int x_9, .ref q_15, .ref q_16, .ref q_17, .int x_10, .ref q_18, .ref q_3, .ref q_4])), (q_3, .inl (k 0, 12, .inl f_11)), (q_4, .inl (k 0, 12, .inl f_12))])) A) args s 0 0 A) (F0 m 39 ls []) := by
          intro N108
          induction N108 with
          | zero => intro y105 F106 H locs ls hm; exact absurd hm (Nat.not_lt_zero _)
          | succ N108 ihN108 =>
            intro y105 F106 H locs ls hN108 hy105 hP hD hS hl
            refine lv_iload hx hb dX2_waysToDraw_39 (lv_at hl 0 rfl) ?_
            refine lv_iconst (v := 1) hx hb dX2_waysToDraw_41 (by decide) ?_
            refine lv_iload_n hx hb dX2_waysToDraw_42 rfl (lv_at hl 2 rfl) ?_
            refine lv_ishl hx hb dX2_waysToDraw_43 ?_
            refine lv_topi (fun y109 ey109 => ?_)
            have hy109 : 1 ≤ Int32.toInt y109 ∧ Int32.toInt y109 ≤ 2048 := by rw [ey109]; exact zo_shl1 11 (show 0 ≤ Int32.toInt y20 ∧ Int32.toInt y20 ≤ 11 by revert hN24 hy20 c25 h_x_10; simp only [vp_in_iff, Int32.lt_iff_toInt_lt, Int32.le_iff_toInt_le, Int64.lt_iff_toInt_lt, Int64.le_iff_toInt_le, Int32.toInt_toInt64, ← Int32.toInt_inj, ← Int64.toInt_inj, Int32.reduceToInt, Int64.reduceToInt] <;> omega) (by decide)
            refine lv_icmp_ge (tgt := 81) hx hb dX2_waysToDraw_44 (by decide) (fun c110 => ?_) (fun c110 => ?_)
            · have e111 : Int32.toInt (y20 + 1) = Int32.toInt y20 + Int32.toInt (1 : Int32) := zi_add (by revert hN24 hy20 c25 h_x_10; simp only [vp_in_iff, Int32.lt_iff_toInt_lt, Int32.le_iff_toInt_le, Int64.lt_iff_toInt_lt, Int64.le_iff_toInt_le, Int32.toInt_toInt64, ← Int32.toInt_inj, ← Int64.toInt_inj, Int32.reduceToInt, Int64.reduceToInt] <;> omega)
              refine lv_iinc (v := (y20 + 1)) (lv' := [(3, .int (y20 + 1)), (4, .int y105), (2, .int y82), (0, .ref q_0), (1, .int x_0)]) hx hb dX2_waysToDraw_81 hl (k := 2) rfl rfl (by decide) rfl (fun ls hl => ?_)
              refine lv_goto (tgt := 11) hx hb dX2_waysToDraw_84 (by decide) ?_
              exact ihN24 (y20 + 1) y82 F106 _ _ ls (by revert hN24 hy20 c25 e111 h_x_10; simp only [vp_in_iff, Int32.lt_iff_toInt_lt, Int32.le_iff_toInt_le, Int64.lt_iff_toInt_lt, Int64.le_iff_toInt_le, Int32.toInt_toInt64, ← Int32.toInt_inj, ← Int64.toInt_inj, Int32.reduceToInt, Int64.reduceToInt] <;> omega) (by revert hN24 hy20 c25 e111 h_x_10; simp only [vp_in_iff, Int32.lt_iff_toInt_lt, Int32.le_iff_toInt_le, Int64.lt_iff_toInt_lt, Int64.le_iff_toInt_le, Int32.toInt_toInt64, ← Int32.toInt_inj, ← Int64.toInt_inj, Int32.reduceToInt, Int64.reduceToInt] <;> omega) (by revert hy82; simp only [vp_in_iff, Int32.lt_iff_toInt_lt, Int32.le_iff_toInt_le, Int64.lt_iff_toInt_lt, Int64.le_iff_toInt_le, Int32.toInt_toInt64, ← Int32.toInt_inj, ← Int64.toInt_inj, Int32.reduceToInt, Int64.reduceToInt] <;> omega) hP hD hS (lv_sub hl [0, 2, 3, 4] rfl)
            · refine lv_aload_n hx hb dX2_waysToDraw_47 rfl (lv_at hl 3 rfl) ?_
              refine va_get (D := D) (ci := 2) (v := .ref q_1) (C := RX2) (T := TX2) (N := 14) hx hb hts inX2 hown hK hP 0 rfl rfl 13 (by decide) (hts _ kF_X2_34) (fun _ h9 => h9) rfl dX2_waysToDraw_48 ?_
              refine lv_iconst (v := 1) hx hb dX2_waysToDraw_51 (by decide) ?_
              refine lv_iload_n hx hb dX2_waysToDraw_52 rfl (lv_at hl 2 rfl) ?_
              refine lv_ishl hx hb dX2_waysToDraw_53 ?_
              refine lv_topi (fun y112 ey112 => ?_)
              have hy112 : 1 ≤ Int32.toInt y112 ∧ Int32.toInt y112 ≤ 2048 := by rw [ey112]; exact zo_shl1 11 (show 0 ≤ Int32.toInt y20 ∧ Int32.toInt y20 ≤ 11 by revert hN24 hy20 c25 h_x_10; simp only [vp_in_iff, Int32.lt_iff_toInt_lt, Int32.le_iff_toInt_le, Int64.lt_iff_toInt_lt, Int64.le_iff_toInt_le, Int32.toInt_toInt64, ← Int32.toInt_inj, ← Int64.toInt_inj, Int32.reduceToInt, Int64.reduceToInt] <;> omega) (by decide)
              refine lv_iload hx hb dX2_waysToDraw_54 (lv_at hl 0 rfl) ?_
              refine lv_ior hx hb dX2_waysToDraw_56 ?_
              refine lv_topi (fun y113 ey113 => ?_)
              have hy113 : 0 ≤ Int32.toInt y113 ∧ Int32.toInt y113 ≤ 4095 := by rw [ey113]; exact zo_or 12 (show 0 ≤ Int32.toInt y112 ∧ Int32.toInt y112 < 2 ^ 12 by revert hN108 hy105 c110 hy112 hy109; simp only [vp_in_iff, Int32.lt_iff_toInt_lt, Int32.le_iff_toInt_le, Int64.lt_iff_toInt_lt, Int64.le_iff_toInt_le, Int32.toInt_toInt64, ← Int32.toInt_inj, ← Int64.toInt_inj, Int32.reduceToInt, Int64.reduceToInt] <;> omega) (show 0 ≤ Int32.toInt y105 ∧ Int32.toInt y105 < 2 ^ 12 by revert hN108 hy105 c110 hy112 hy109; simp only [vp_in_iff, Int32.lt_iff_toInt_lt, Int32.le_iff_toInt_le, Int64.lt_iff_toInt_lt, Int64.le_iff_toInt_le, Int32.toInt_toInt64, ← Int32.toInt_inj, ← Int64.toInt_inj, Int32.reduceToInt, Int64.reduceToInt] <;> omega) (by decide)
              refine lv_aload_n hx hb dX2_waysToDraw_57 rfl (lv_at hl 3 rfl) ?_
              refine va_get (D := D) (ci := 2) (v := .ref q_1) (C := RX2) (T := TX2) (N := 14) hx hb hts inX2 hown hK hP 0 rfl rfl 13 (by decide) (hts _ kF_X2_34) (fun _ h9 => h9) rfl dX2_waysToDraw_58 ?_
              refine lv_iload hx hb dX2_waysToDraw_61 (lv_at hl 0 rfl) ?_
              refine va_iald hx hb hK hP 1 0 rfl rfl (by revert hN108 hy105 c110 hy109; simp only [vp_in_iff, Int32.lt_iff_toInt_lt, Int32.le_iff_toInt_le, Int64.lt_iff_toInt_lt, Int64.le_iff_toInt_le, Int32.toInt_toInt64, ← Int32.toInt_inj, ← Int64.toInt_inj, Int32.reduceToInt, Int64.reduceToInt] <;> omega) dX2_waysToDraw_63 ?_
              refine lv_topi (fun y114 ey114 => ?_)
              refine lv_aload_n hx hb dX2_waysToDraw_64 rfl (lv_at hl 3 rfl) ?_
              refine va_get (D := D) (ci := 2) (v := .ref q_2) (C := RX2) (T := TX2) (N := 14) hx hb hts inX2 hown hK hP 0 rfl rfl 1 (by decide) (hts _ kF_X2_48) (fun _ h9 => h9) rfl dX2_waysToDraw_65 ?_
              refine va_get (D := D) (ci := 4) (v := .ref q_4) (C := RX4) (T := TX4) (N := 13) hx hb hts inX4 hown hK hP 2 rfl rfl 12 (by decide) (hts _ kF_X2_142) (fun _ h9 => h9) rfl dX2_waysToDraw_68 ?_
              refine lv_iload_n hx hb dX2_waysToDraw_71 rfl (lv_at hl 2 rfl) ?_
              refine va_iald hx hb hK hP 4 0 rfl rfl (by revert hN24 hy20 c25 h_x_10; simp only [vp_in_iff, Int32.lt_iff_toInt_lt, Int32.le_iff_toInt_le, Int64.lt_iff_toInt_lt, Int64.le_iff_toInt_le, Int32.toInt_toInt64, ← Int32.toInt_inj, ← Int64.toInt_inj, Int32.reduceToInt, Int64.reduceToInt] <;> omega) dX2_waysToDraw_72 ?_
              refine lv_topi (fun y115 ey115 => ?_)
              refine lv_iadd hx hb dX2_waysToDraw_73 ?_
              refine va_iast hx hb hK hP hD hS 1 0 rfl rfl (by revert hy113; simp only [vp_in_iff, Int32.lt_iff_toInt_lt, Int32.le_iff_toInt_le, Int64.lt_iff_toInt_lt, Int64.le_iff_toInt_le, Int32.toInt_toInt64, ← Int32.toInt_inj, ← Int64.toInt_inj, Int32.reduceToInt, Int64.reduceToInt] <;> omega) dX2_waysToDraw_74 (fun H locs hP hD hS => ?_)
              obtain ⟨F116, eF116⟩ : ∃ q, q = upd F106 (Int32.toNatClampNeg y113) (y114 + y115) := ⟨_, rfl⟩
              have hP : va_P D vwCl [(q_0, .inr (2, [.ref q_5, .ref q_2, .ref q_6, .int x_1, .int x_2, .ref q_7, .ref q_8, .ref q_9, .int x_3, .int x_4, .int x_5, .ref q_10, .ref q_11, .ref q_1])), (q_1, .inl (k 0, 4608, .inl F116)), (q_2, .inr (4, [.int x_7, .ref q_12, .int x_8, .ref q_13, .ref q_14, .int x_9, .ref q_15, .ref q_16, .ref q_17, .int x_10, .ref q_18, .ref q_3, .ref q_4])), (q_3, .inl (k 0, 12, .inl f_11)), (q_4, .inl (k 0, 12, .inl f_12))] H := by rw [eF116]; exact hP
              have hD : va_D A [(q_0, .inr (2, [.ref q_5, .ref q_2, .ref q_6, .int x_1, .int x_2, .ref q_7, .ref q_8, .ref q_9, .int x_3, .int x_4, .int x_5, .ref q_10, .ref q_11, .ref q_1])), (q_1, .inl (k 0, 4608, .inl F116)), (q_2, .inr (4, [.int x_7, .ref q_12, .int x_8, .ref q_13, .ref q_14, .int x_9, .ref q_15, .ref q_16, .ref q_17, .int x_10, .ref q_18, .ref q_3, .ref q_4])), (q_3, .inl (k 0, 12, .inl f_11)), (q_4, .inl (k 0, 12, .inl f_12))] := by rw [eF116]; exact hD
              have e117 : Int32.toInt (y105 + 1) = Int32.toInt y105 + Int32.toInt (1 : Int32) := zi_add (by revert hN108 hy105 c110 hy109; simp only [vp_in_iff, Int32.lt_iff_toInt_lt, Int32.le_iff_toInt_le, Int64.lt_iff_toInt_lt, Int64.le_iff_toInt_le, Int32.toInt_toInt64, ← Int32.toInt_inj, ← Int64.toInt_inj, Int32.reduceToInt, Int64.reduceToInt] <;> omega)
              refine lv_iinc (v := (y105 + 1)) (lv' := [(4, .int (y105 + 1)), (2, .int y82), (3, .int y20), (0, .ref q_0), (1, .int x_0)]) hx hb dX2_waysToDraw_75 hl (k := 0) rfl rfl (by decide) rfl (fun ls hl => ?_)
              refine lv_goto (tgt := 39) hx hb dX2_waysToDraw_78 (by decide) ?_
              exact ihN108 (y105 + 1) F116 _ _ ls (by revert hN108 hy105 c110 e117 hy109; simp only [vp_in_iff, Int32.lt_iff_toInt_lt, Int32.le_iff_toInt_le, Int64.lt_iff_toInt_lt, Int64.le_iff_toInt_le, Int32.toInt_toInt64, ← Int32.toInt_inj, ← Int64.toInt_inj, Int32.reduceToInt, Int64.reduceToInt] <;> omega) (by revert hN108 hy105 c110 e117 hy109; simp only [vp_in_iff, Int32.lt_iff_toInt_lt, Int32.le_iff_toInt_le, Int64.lt_iff_toInt_lt, Int64.le_iff_toInt_le, Int32.toInt_toInt64, ← Int32.toInt_inj, ← Int64.toInt_inj, Int32.reduceToInt, Int64.reduceToInt] <;> omega) hP hD hS (lv_sub hl [0, 1, 2, 3, 4] rfl)
        exact loop107 _ 0 F22 _ _ _ (Nat.lt_succ_self _) (by simp only [vp_in_iff, Int32.lt_iff_toInt_lt, Int32.le_iff_toInt_le, Int64.lt_iff_toInt_lt, Int64.le_iff_toInt_le, Int32.toInt_toInt64, ← Int32.toInt_inj, ← Int64.toInt_inj, Int32.reduceToInt, Int64.reduceToInt] <;> omega) hP hD hS (lv_sub hl [0, 1, 2, 3, 4] rfl)
  exact loop23 _ 0 0 F1 _ _ _ (Nat.lt_succ_self _) (by simp only [vp_in_iff, Int32.lt_iff_toInt_lt, Int32.le_iff_toInt_le, Int64.lt_iff_toInt_lt, Int64.le_iff_toInt_le, Int32.toInt_toInt64, ← Int32.toInt_inj, ← Int64.toInt_inj, Int32.reduceToInt, Int64.reduceToInt] <;> omega) (by simp only [vp_in_iff, Int32.lt_iff_toInt_lt, Int32.le_iff_toInt_le, Int64.lt_iff_toInt_lt, Int64.le_iff_toInt_le, Int32.toInt_toInt64, ← Int32.toInt_inj, ← Int64.toInt_inj, Int32.reduceToInt, Int64.reduceToInt] <;> omega) hP hD hS (lv_sub hl [0, 1, 2, 3] rfl)

set_option maxHeartbeats 4000000 in
set_option maxRecDepth 100000 in
theorem s_X11_helped_1 (l : Launch) (D : va_G) (k : Nat → ClassId) (q_0 : Nat) (q_1 : Nat) (q_2 : Nat) (q_3 : Nat) (q_4 : Nat) (q_5 : Nat) (q_6 : Nat) (q_7 : Nat) (q_8 : Nat) (q_9 : Nat) (q_10 : Nat) (q_11 : Nat) (q_12 : Nat) (q_13 : Nat) (q_14 : Nat) (q_15 : Nat) (q_16 : Nat) (q_17 : Nat) (q_18 : Nat) (q_19 : Nat) (q_20 : Nat) (q_21 : Nat) (q_22 : Nat) (q_23 : Nat) (x_0 : Int32) (x_1 : Int32) (x_2 : Int32) (x_3 : Int32) (x_4 : Int32) (x_5 : Int32) (x_6 : Int32) (f_7 : Nat → Int32) (x_8 : Int32) (x_9 : Int32) (x_10 : Int32) (x_11 : Int32) (f_12 : Nat → Int32) (f_13 : Nat → Int32) (h_x_2 : 0 ≤ Int32.toInt x_2 ∧ Int32.toInt x_2 ≤ 6) (h_x_8 : 0 ≤ Int32.toInt x_8 ∧ Int32.toInt x_8 ≤ 6) (h_x_9 : 0 ≤ Int32.toInt x_9 ∧ Int32.toInt x_9 ≤ 6) (h_x_10 : 0 ≤ Int32.toInt x_10 ∧ Int32.toInt x_10 ≤ 9) (h_x_11 : 0 ≤ Int32.toInt x_11 ∧ Int32.toInt x_11 ≤ 12) (h_f_12 : zR f_12 0 1) : zMi l yX11_helped cX11_helped 2 (some .int) ({ frames := 2, cells := 0, slots := 0, locals := 46 }) D k [.ref q_0, .int x_0] [(q_0, .inr (11, [.ref q_6, .ref q_7, .ref q_8, .ref q_9, .ref q_1, .int x_1])), (q_1, .inr (2, [.ref q_10, .ref q_3, .ref q_11, .int x_2, .int x_3, .ref q_12, .ref q_13, .ref q_14, .int x_4, .int x_5, .int x_6, .ref q_15, .ref q_16, .ref q_2])), (q_2, .inl (k 0, 4608, .inl f_7)), (q_3, .inr (4, [.int x_8, .ref q_17, .int x_9, .ref q_18, .ref q_19, .int x_10, .ref q_20, .ref q_21, .ref q_22, .int x_11, .ref q_23, .ref q_4, .ref q_5])), (q_4, .inl (k 0, 12, .inl f_12)), (q_5, .inl (k 0, 12, .inl f_13))] (fun r u => u.1 = 0) (fun u => [(q_0, .inr (11, [.ref q_6, .ref q_7, .ref q_8, .ref q_9, .ref q_1, .int x_1])), (q_1, .inr (2, [.ref q_10, .ref q_3, .ref q_11, .int x_2, .int x_3, .ref q_12, .ref q_13, .ref q_14, .int x_4, .int x_5, .int x_6, .ref q_15, .ref q_16, .ref q_2])), (q_2, .inl (k 0, 4608, .inl (u.2.2.2.2.1 0))), (q_3, .inr (4, [.int x_8, .ref q_17, .int x_9, .ref q_18, .ref q_19, .int x_10, .ref q_20, .ref q_21, .ref q_22, .int x_11, .ref q_23, .ref q_4, .ref q_5])), (q_4, .inl (k 0, 12, .inl f_12)), (q_5, .inl (k 0, 12, .inl f_13))]) := by
  refine zMi_of (own := RX11) (by decide +kernel) rfl (Nat.le_of_ble_eq_true rfl) ?_
  intro p e s m args below meth c A ls C0 hr hlk hin hP hD hS hA hK hN hl
  have hx := C0.1
  have hb := C0.2.1
  have hml := C0.2.2.1
  have hown := C0.2.2.2.1
  have hts := C0.2.2.2.2
  have hl : lv_has ls 2 [(0, .ref q_0), (1, .int x_0)] := hl
  have hP : va_P D vwCl [(q_0, .inr (11, [.ref q_6, .ref q_7, .ref q_8, .ref q_9, .ref q_1, .int x_1])), (q_1, .inr (2, [.ref q_10, .ref q_3, .ref q_11, .int x_2, .int x_3, .ref q_12, .ref q_13, .ref q_14, .int x_4, .int x_5, .int x_6, .ref q_15, .ref q_16, .ref q_2])), (q_2, .inl (k 0, 4608, .inl f_7)), (q_3, .inr (4, [.int x_8, .ref q_17, .int x_9, .ref q_18, .ref q_19, .int x_10, .ref q_20, .ref q_21, .ref q_22, .int x_11, .ref q_23, .ref q_4, .ref q_5])), (q_4, .inl (k 0, 12, .inl f_12)), (q_5, .inl (k 0, 12, .inl f_13))] s.heap := hP
  refine lv_iload_n hx hb dX11_helped_0 rfl (lv_at hl 1 rfl) ?_
  refine lv_iconst (v := 0) hx hb dX11_helped_1 (by decide) ?_
  refine lv_iconst (v := 1) hx hb dX11_helped_2 (by decide) ?_
  refine z_bi0 (z_runS (As := [.int x_0, .int 0, .int 1]) (rest := []) C0 (s_X11_isOutside_1 l D k x_0 0 1 _) okS_X11_isOutside kM_X11_47 rfl (z_p0 hK hN) rfl hl.1 rfl (Nat.le_of_ble_eq_true rfl) dX11_helped_3 rfl) hP hS hA (fun r1 u1 H locs hw1 hP hS => ?_)
  obtain ⟨i1, a1, v1, w1, f1, g1, o1⟩ := u1
  dsimp only at hw1
  rcases hw1 with ⟨rfl, rfl, c1⟩ | ⟨rfl, rfl, c1⟩
  · refine lv_if_eq (tgt := 13) hx hb dX11_helped_6 (by decide) (fun c2 => absurd c2 (by decide)) (fun _ => ?_)
    refine lv_iconst (v := (-1)) hx hb dX11_helped_9 (by decide) ?_
    refine lv_goto (tgt := 29) hx hb dX11_helped_10 (by decide) ?_
    exact z_iret C0 hr hlk rfl hK hP hD hS (0, fun _ => 0, fun _ => 0, fun _ => 0, fun i => [f_7].getD i (fun _ => 0), fun _ => (fun _ => 0), fun _ => (fun _ => none)) rfl [0, 1, 2, 3, 4, 5] rfl rfl rfl dX11_helped_29
  · refine lv_if_eq (tgt := 13) hx hb dX11_helped_6 (by decide) (fun _ => ?_) (fun c3 => absurd (by decide) c3)
    refine lv_aload_n hx hb dX11_helped_13 rfl (lv_at hl 0 rfl) ?_
    refine va_get (D := D) (ci := 11) (v := .ref q_1) (C := RX11) (T := TX11) (N := 6) hx hb hts inX11 hown hK hP 0 rfl rfl 4 (by decide) (hts _ kF_X11_39) (fun _ h9 => h9) rfl dX11_helped_14 ?_
    refine lv_iload_n hx hb dX11_helped_17 rfl (lv_at hl 1 rfl) ?_
    refine lv_if_ne (tgt := 25) hx hb dX11_helped_18 (by decide) (fun c4 => ?_) (fun c4 => ?_)
    · refine lv_iconst (v := 0) hx hb dX11_helped_25 (by decide) ?_
      refine z_bi (wr := [(q_0, .inr (11, [.ref q_6, .ref q_7, .ref q_8, .ref q_9, .ref q_1, .int x_1]))]) (z_runV (C := RX2) (As := [.int 0]) (rest := []) C0 (s_X2_waysToDraw_1 l D k q_1 q_2 q_3 q_4 q_5 q_10 q_11 q_12 q_13 q_14 q_15 q_16 q_17 q_18 q_19 q_20 q_21 q_22 q_23 0 x_2 x_3 x_4 x_5 x_6 f_7 x_8 x_9 x_10 x_11 f_12 f_13 (by revert h_x_2; simp only [vp_in_iff, Int32.lt_iff_toInt_lt, Int32.le_iff_toInt_le, Int64.lt_iff_toInt_lt, Int64.le_iff_toInt_le, Int32.toInt_toInt64, ← Int32.toInt_inj, ← Int64.toInt_inj, Int32.reduceToInt, Int64.reduceToInt] <;> omega) (by revert h_x_8; simp only [vp_in_iff, Int32.lt_iff_toInt_lt, Int32.le_iff_toInt_le, Int64.lt_iff_toInt_lt, Int64.le_iff_toInt_le, Int32.toInt_toInt64, ← Int32.toInt_inj, ← Int64.toInt_inj, Int32.reduceToInt, Int64.reduceToInt] <;> omega) (by revert h_x_9; simp only [vp_in_iff, Int32.lt_iff_toInt_lt, Int32.le_iff_toInt_le, Int64.lt_iff_toInt_lt, Int64.le_iff_toInt_le, Int32.toInt_toInt64, ← Int32.toInt_inj, ← Int64.toInt_inj, Int32.reduceToInt, Int64.reduceToInt] <;> omega) (by revert h_x_10; simp only [vp_in_iff, Int32.lt_iff_toInt_lt, Int32.le_iff_toInt_le, Int64.lt_iff_toInt_lt, Int64.le_iff_toInt_le, Int32.toInt_toInt64, ← Int32.toInt_inj, ← Int64.toInt_inj, Int32.reduceToInt, Int64.reduceToInt] <;> omega) (by revert h_x_11; simp only [vp_in_iff, Int32.lt_iff_toInt_lt, Int32.le_iff_toInt_le, Int64.lt_iff_toInt_lt, Int64.le_iff_toInt_le, Int32.toInt_toInt64, ← Int32.toInt_inj, ← Int64.toInt_inj, Int32.reduceToInt, Int64.reduceToInt] <;> omega) h_f_12 _) okV_X2_waysToDraw kM_X11_361 rfl (z_pV (q0 := 1) hK hN hP hD [1, 2, 3, 4, 5] rfl rfl rfl rfl rfl) rfl hl.1 rfl (Nat.le_of_ble_eq_true rfl) dX11_helped_26 rfl) hP hD hS hA [1, 2, 3, 4, 5] [0] rfl rfl rfl rfl (fun r5 u5 H locs hw5 hP hD hS => ?_)
      obtain ⟨i5, a5, v5, w5, f5, g5, o5⟩ := u5
      dsimp only at hw5
      obtain rfl := hw5
      have hP : va_P D vwCl [(q_0, .inr (11, [.ref q_6, .ref q_7, .ref q_8, .ref q_9, .ref q_1, .int x_1])), (q_1, .inr (2, [.ref q_10, .ref q_3, .ref q_11, .int x_2, .int x_3, .ref q_12, .ref q_13, .ref q_14, .int x_4, .int x_5, .int x_6, .ref q_15, .ref q_16, .ref q_2])), (q_2, .inl (k 0, 4608, .inl (f5 0))), (q_3, .inr (4, [.int x_8, .ref q_17, .int x_9, .ref q_18, .ref q_19, .int x_10, .ref q_20, .ref q_21, .ref q_22, .int x_11, .ref q_23, .ref q_4, .ref q_5])), (q_4, .inl (k 0, 12, .inl f_12)), (q_5, .inl (k 0, 12, .inl f_13))] H := hP
      have hD : va_D A [(q_0, .inr (11, [.ref q_6, .ref q_7, .ref q_8, .ref q_9, .ref q_1, .int x_1])), (q_1, .inr (2, [.ref q_10, .ref q_3, .ref q_11, .int x_2, .int x_3, .ref q_12, .ref q_13, .ref q_14, .int x_4, .int x_5, .int x_6, .ref q_15, .ref q_16, .ref q_2])), (q_2, .inl (k 0, 4608, .inl (f5 0))), (q_3, .inr (4, [.int x_8, .ref q_17, .int x_9, .ref q_18, .ref q_19, .int x_10, .ref q_20, .ref q_21, .ref q_22, .int x_11, .ref q_23, .ref q_4, .ref q_5])), (q_4, .inl (k 0, 12, .inl f_12)), (q_5, .inl (k 0, 12, .inl f_13))] := hD
      exact z_iret C0 hr hlk rfl hK hP hD hS (0, fun _ => 0, fun _ => 0, fun _ => 0, fun i => [(f5 0)].getD i (fun _ => 0), fun _ => (fun _ => 0), fun _ => (fun _ => none)) rfl [0, 1, 2, 3, 4, 5] rfl rfl rfl dX11_helped_29
    · refine lv_iconst (v := 1) hx hb dX11_helped_21 (by decide) ?_
      refine lv_goto (tgt := 26) hx hb dX11_helped_22 (by decide) ?_
      refine z_bi (wr := [(q_0, .inr (11, [.ref q_6, .ref q_7, .ref q_8, .ref q_9, .ref q_1, .int x_1]))]) (z_runV (C := RX2) (As := [.int 1]) (rest := []) C0 (s_X2_waysToDraw_1 l D k q_1 q_2 q_3 q_4 q_5 q_10 q_11 q_12 q_13 q_14 q_15 q_16 q_17 q_18 q_19 q_20 q_21 q_22 q_23 1 x_2 x_3 x_4 x_5 x_6 f_7 x_8 x_9 x_10 x_11 f_12 f_13 (by revert h_x_2; simp only [vp_in_iff, Int32.lt_iff_toInt_lt, Int32.le_iff_toInt_le, Int64.lt_iff_toInt_lt, Int64.le_iff_toInt_le, Int32.toInt_toInt64, ← Int32.toInt_inj, ← Int64.toInt_inj, Int32.reduceToInt, Int64.reduceToInt] <;> omega) (by revert h_x_8; simp only [vp_in_iff, Int32.lt_iff_toInt_lt, Int32.le_iff_toInt_le, Int64.lt_iff_toInt_lt, Int64.le_iff_toInt_le, Int32.toInt_toInt64, ← Int32.toInt_inj, ← Int64.toInt_inj, Int32.reduceToInt, Int64.reduceToInt] <;> omega) (by revert h_x_9; simp only [vp_in_iff, Int32.lt_iff_toInt_lt, Int32.le_iff_toInt_le, Int64.lt_iff_toInt_lt, Int64.le_iff_toInt_le, Int32.toInt_toInt64, ← Int32.toInt_inj, ← Int64.toInt_inj, Int32.reduceToInt, Int64.reduceToInt] <;> omega) (by revert h_x_10; simp only [vp_in_iff, Int32.lt_iff_toInt_lt, Int32.le_iff_toInt_le, Int64.lt_iff_toInt_lt, Int64.le_iff_toInt_le, Int32.toInt_toInt64, ← Int32.toInt_inj, ← Int64.toInt_inj, Int32.reduceToInt, Int64.reduceToInt] <;> omega) (by revert h_x_11; simp only [vp_in_iff, Int32.lt_iff_toInt_lt, Int32.le_iff_toInt_le, Int64.lt_iff_toInt_lt, Int64.le_iff_toInt_le, Int32.toInt_toInt64, ← Int32.toInt_inj, ← Int64.toInt_inj, Int32.reduceToInt, Int64.reduceToInt] <;> omega) h_f_12 _) okV_X2_waysToDraw kM_X11_361 rfl (z_pV (q0 := 1) hK hN hP hD [1, 2, 3, 4, 5] rfl rfl rfl rfl rfl) rfl hl.1 rfl (Nat.le_of_ble_eq_true rfl) dX11_helped_26 rfl) hP hD hS hA [1, 2, 3, 4, 5] [0] rfl rfl rfl rfl (fun r6 u6 H locs hw6 hP hD hS => ?_)
      obtain ⟨i6, a6, v6, w6, f6, g6, o6⟩ := u6
      dsimp only at hw6
      obtain rfl := hw6
      have hP : va_P D vwCl [(q_0, .inr (11, [.ref q_6, .ref q_7, .ref q_8, .ref q_9, .ref q_1, .int x_1])), (q_1, .inr (2, [.ref q_10, .ref q_3, .ref q_11, .int x_2, .int x_3, .ref q_12, .ref q_13, .ref q_14, .int x_4, .int x_5, .int x_6, .ref q_15, .ref q_16, .ref q_2])), (q_2, .inl (k 0, 4608, .inl (f6 0))), (q_3, .inr (4, [.int x_8, .ref q_17, .int x_9, .ref q_18, .ref q_19, .int x_10, .ref q_20, .ref q_21, .ref q_22, .int x_11, .ref q_23, .ref q_4, .ref q_5])), (q_4, .inl (k 0, 12, .inl f_12)), (q_5, .inl (k 0, 12, .inl f_13))] H := hP
      have hD : va_D A [(q_0, .inr (11, [.ref q_6, .ref q_7, .ref q_8, .ref q_9, .ref q_1, .int x_1])), (q_1, .inr (2, [.ref q_10, .ref q_3, .ref q_11, .int x_2, .int x_3, .ref q_12, .ref q_13, .ref q_14, .int x_4, .int x_5, .int x_6, .ref q_15, .ref q_16, .ref q_2])), (q_2, .inl (k 0, 4608, .inl (f6 0))), (q_3, .inr (4, [.int x_8, .ref q_17, .int x_9, .ref q_18, .ref q_19, .int x_10, .ref q_20, .ref q_21, .ref q_22, .int x_11, .ref q_23, .ref q_4, .ref q_5])), (q_4, .inl (k 0, 12, .inl f_12)), (q_5, .inl (k 0, 12, .inl f_13))] := hD
      exact z_iret C0 hr hlk rfl hK hP hD hS (0, fun _ => 0, fun _ => 0, fun _ => 0, fun i => [(f6 0)].getD i (fun _ => 0), fun _ => (fun _ => 0), fun _ => (fun _ => none)) rfl [0, 1, 2, 3, 4, 5] rfl rfl rfl dX11_helped_29

set_option maxHeartbeats 4000000 in
set_option maxRecDepth 100000 in
theorem s_X5_numberOf_1 (l : Launch) (D : va_G) (k : Nat → ClassId) (q_0 : Nat) (q_1 : Nat) (q_2 : Nat) (q_3 : Nat) (q_4 : Nat) (q_5 : Nat) (q_6 : Nat) (q_7 : Nat) (q_8 : Nat) (q_9 : Nat) (q_10 : Nat) (q_11 : Nat) (q_12 : Nat) (x_0 : Int32) (x_1 : Int32) (x_2 : Int32) (x_3 : Int32) (f_4 : Nat → Int32) (f_5 : Nat → Int32) (h_x_0 : 0 ≤ Int32.toInt x_0 ∧ Int32.toInt x_0 ≤ 0) (h_x_1 : 1 ≤ Int32.toInt x_1 ∧ Int32.toInt x_1 ≤ 400) (h_x_2 : 0 ≤ Int32.toInt x_2 ∧ Int32.toInt x_2 ≤ 0) (h_x_3 : 0 ≤ Int32.toInt x_3 ∧ Int32.toInt x_3 ≤ 0) : zMi l yX5_numberOf cX5_numberOf 2 (some .int) ({ frames := 0, cells := 0, slots := 0, locals := 0 }) D k [.ref q_0, .int x_0] [(q_0, .inr (5, [.int x_1, .ref q_3, .ref q_4, .ref q_5, .ref q_2, .ref q_1, .ref q_6, .ref q_7, .ref q_8, .ref q_9, .ref q_10, .ref q_11, .ref q_12, .int x_2, .int x_3])), (q_1, .inl (k 0, 400, .inl f_4)), (q_2, .inl (k 0, 400, .inl f_5))] (fun r u => u.1 = 0) (fun u => [(q_0, .inr (5, [.int x_1, .ref q_3, .ref q_4, .ref q_5, .ref q_2, .ref q_1, .ref q_6, .ref q_7, .ref q_8, .ref q_9, .ref q_10, .ref q_11, .ref q_12, .int x_2, .int x_3])), (q_1, .inl (k 0, 400, .inl f_4)), (q_2, .inl (k 0, 400, .inl f_5))]) := by
  refine zMi_of (own := RX5) (by decide +kernel) rfl (Nat.le_of_ble_eq_true rfl) ?_
  intro p e s m args below meth c A ls C0 hr hlk hin hP hD hS hA hK hN hl
  have hx := C0.1
  have hb := C0.2.1
  have hml := C0.2.2.1
  have hown := C0.2.2.2.1
  have hts := C0.2.2.2.2
  have hl : lv_has ls 2 [(0, .ref q_0), (1, .int x_0)] := hl
  have hP : va_P D vwCl [(q_0, .inr (5, [.int x_1, .ref q_3, .ref q_4, .ref q_5, .ref q_2, .ref q_1, .ref q_6, .ref q_7, .ref q_8, .ref q_9, .ref q_10, .ref q_11, .ref q_12, .int x_2, .int x_3])), (q_1, .inl (k 0, 400, .inl f_4)), (q_2, .inl (k 0, 400, .inl f_5))] s.heap := hP
  refine lv_bipush (v := 26) hx hb dX5_numberOf_0 (by decide) ?_
  refine lv_aload_n hx hb dX5_numberOf_2 rfl (lv_at hl 0 rfl) ?_
  refine va_get (D := D) (ci := 5) (v := .ref q_1) (C := RX5) (T := TX5) (N := 15) hx hb hts inX5 hown hK hP 0 rfl rfl 5 (by decide) (hts _ kF_X5_24) (fun _ h9 => h9) rfl dX5_numberOf_3 ?_
  refine lv_iload_n hx hb dX5_numberOf_6 rfl (lv_at hl 1 rfl) ?_
  refine va_iald hx hb hK hP 1 0 rfl rfl (by revert h_x_0; simp only [vp_in_iff, Int32.lt_iff_toInt_lt, Int32.le_iff_toInt_le, Int64.lt_iff_toInt_lt, Int64.le_iff_toInt_le, Int32.toInt_toInt64, ← Int32.toInt_inj, ← Int64.toInt_inj, Int32.reduceToInt, Int64.reduceToInt] <;> omega) dX5_numberOf_7 ?_
  refine lv_topi (fun y1 ey1 => ?_)
  refine lv_imul hx hb dX5_numberOf_8 ?_
  refine lv_aload_n hx hb dX5_numberOf_9 rfl (lv_at hl 0 rfl) ?_
  refine va_get (D := D) (ci := 5) (v := .ref q_2) (C := RX5) (T := TX5) (N := 15) hx hb hts inX5 hown hK hP 0 rfl rfl 4 (by decide) (hts _ kF_X5_21) (fun _ h9 => h9) rfl dX5_numberOf_10 ?_
  refine lv_iload_n hx hb dX5_numberOf_13 rfl (lv_at hl 1 rfl) ?_
  refine va_iald hx hb hK hP 2 0 rfl rfl (by revert h_x_0; simp only [vp_in_iff, Int32.lt_iff_toInt_lt, Int32.le_iff_toInt_le, Int64.lt_iff_toInt_lt, Int64.le_iff_toInt_le, Int32.toInt_toInt64, ← Int32.toInt_inj, ← Int64.toInt_inj, Int32.reduceToInt, Int64.reduceToInt] <;> omega) dX5_numberOf_14 ?_
  refine lv_topi (fun y2 ey2 => ?_)
  refine lv_iadd hx hb dX5_numberOf_15 ?_
  exact z_iret C0 hr hlk rfl hK hP hD hS (0, fun _ => 0, fun _ => 0, fun _ => 0, fun _ => (fun _ => 0), fun _ => (fun _ => 0), fun _ => (fun _ => none)) rfl [0, 1, 2] rfl rfl rfl dX5_numberOf_16

set_option maxHeartbeats 4000000 in
set_option maxRecDepth 100000 in
theorem s_X5_numberOf_2 (l : Launch) (D : va_G) (k : Nat → ClassId) (q_0 : Nat) (q_1 : Nat) (q_2 : Nat) (q_3 : Nat) (q_4 : Nat) (q_5 : Nat) (q_6 : Nat) (q_7 : Nat) (q_8 : Nat) (q_9 : Nat) (q_10 : Nat) (q_11 : Nat) (q_12 : Nat) (x_0 : Int32) (x_1 : Int32) (x_2 : Int32) (x_3 : Int32) (f_4 : Nat → Int32) (f_5 : Nat → Int32) (h_x_0 : 0 ≤ Int32.toInt x_0 ∧ Int32.toInt x_0 ≤ 0) (h_x_1 : 1 ≤ Int32.toInt x_1 ∧ Int32.toInt x_1 ≤ 400) (h_x_3 : 0 ≤ Int32.toInt x_3 ∧ Int32.toInt x_3 ≤ 0) : zMi l yX5_numberOf cX5_numberOf 2 (some .int) ({ frames := 0, cells := 0, slots := 0, locals := 0 }) D k [.ref q_0, .int x_0] [(q_0, .inr (5, [.int x_1, .ref q_3, .ref q_4, .ref q_5, .ref q_2, .ref q_1, .ref q_6, .ref q_7, .ref q_8, .ref q_9, .ref q_10, .ref q_11, .ref q_12, .int x_2, .int x_3])), (q_1, .inl (k 0, 400, .inl f_4)), (q_2, .inl (k 0, 400, .inl f_5))] (fun r u => u.1 = 0) (fun u => [(q_0, .inr (5, [.int x_1, .ref q_3, .ref q_4, .ref q_5, .ref q_2, .ref q_1, .ref q_6, .ref q_7, .ref q_8, .ref q_9, .ref q_10, .ref q_11, .ref q_12, .int x_2, .int x_3])), (q_1, .inl (k 0, 400, .inl f_4)), (q_2, .inl (k 0, 400, .inl f_5))]) := by
  refine zMi_of (own := RX5) (by decide +kernel) rfl (Nat.le_of_ble_eq_true rfl) ?_
  intro p e s m args below meth c A ls C0 hr hlk hin hP hD hS hA hK hN hl
  have hx := C0.1
  have hb := C0.2.1
  have hml := C0.2.2.1
  have hown := C0.2.2.2.1
  have hts := C0.2.2.2.2
  have hl : lv_has ls 2 [(0, .ref q_0), (1, .int x_0)] := hl
  have hP : va_P D vwCl [(q_0, .inr (5, [.int x_1, .ref q_3, .ref q_4, .ref q_5, .ref q_2, .ref q_1, .ref q_6, .ref q_7, .ref q_8, .ref q_9, .ref q_10, .ref q_11, .ref q_12, .int x_2, .int x_3])), (q_1, .inl (k 0, 400, .inl f_4)), (q_2, .inl (k 0, 400, .inl f_5))] s.heap := hP
  refine lv_bipush (v := 26) hx hb dX5_numberOf_0 (by decide) ?_
  refine lv_aload_n hx hb dX5_numberOf_2 rfl (lv_at hl 0 rfl) ?_
  refine va_get (D := D) (ci := 5) (v := .ref q_1) (C := RX5) (T := TX5) (N := 15) hx hb hts inX5 hown hK hP 0 rfl rfl 5 (by decide) (hts _ kF_X5_24) (fun _ h9 => h9) rfl dX5_numberOf_3 ?_
  refine lv_iload_n hx hb dX5_numberOf_6 rfl (lv_at hl 1 rfl) ?_
  refine va_iald hx hb hK hP 1 0 rfl rfl (by revert h_x_0; simp only [vp_in_iff, Int32.lt_iff_toInt_lt, Int32.le_iff_toInt_le, Int64.lt_iff_toInt_lt, Int64.le_iff_toInt_le, Int32.toInt_toInt64, ← Int32.toInt_inj, ← Int64.toInt_inj, Int32.reduceToInt, Int64.reduceToInt] <;> omega) dX5_numberOf_7 ?_
  refine lv_topi (fun y1 ey1 => ?_)
  refine lv_imul hx hb dX5_numberOf_8 ?_
  refine lv_aload_n hx hb dX5_numberOf_9 rfl (lv_at hl 0 rfl) ?_
  refine va_get (D := D) (ci := 5) (v := .ref q_2) (C := RX5) (T := TX5) (N := 15) hx hb hts inX5 hown hK hP 0 rfl rfl 4 (by decide) (hts _ kF_X5_21) (fun _ h9 => h9) rfl dX5_numberOf_10 ?_
  refine lv_iload_n hx hb dX5_numberOf_13 rfl (lv_at hl 1 rfl) ?_
  refine va_iald hx hb hK hP 2 0 rfl rfl (by revert h_x_0; simp only [vp_in_iff, Int32.lt_iff_toInt_lt, Int32.le_iff_toInt_le, Int64.lt_iff_toInt_lt, Int64.le_iff_toInt_le, Int32.toInt_toInt64, ← Int32.toInt_inj, ← Int64.toInt_inj, Int32.reduceToInt, Int64.reduceToInt] <;> omega) dX5_numberOf_14 ?_
  refine lv_topi (fun y2 ey2 => ?_)
  refine lv_iadd hx hb dX5_numberOf_15 ?_
  exact z_iret C0 hr hlk rfl hK hP hD hS (0, fun _ => 0, fun _ => 0, fun _ => 0, fun _ => (fun _ => 0), fun _ => (fun _ => 0), fun _ => (fun _ => none)) rfl [0, 1, 2] rfl rfl rfl dX5_numberOf_16

set_option maxHeartbeats 4000000 in
set_option maxRecDepth 100000 in
theorem s_X5_numberOf_3 (l : Launch) (D : va_G) (k : Nat → ClassId) (q_0 : Nat) (q_1 : Nat) (q_2 : Nat) (q_3 : Nat) (q_4 : Nat) (q_5 : Nat) (q_6 : Nat) (q_7 : Nat) (q_8 : Nat) (q_9 : Nat) (q_10 : Nat) (q_11 : Nat) (q_12 : Nat) (x_0 : Int32) (x_1 : Int32) (x_2 : Int32) (x_3 : Int32) (f_4 : Nat → Int32) (f_5 : Nat → Int32) (h_x_0 : 0 ≤ Int32.toInt x_0 ∧ Int32.toInt x_0 ≤ 1) (h_x_1 : 1 ≤ Int32.toInt x_1 ∧ Int32.toInt x_1 ≤ 400) : zMi l yX5_numberOf cX5_numberOf 2 (some .int) ({ frames := 0, cells := 0, slots := 0, locals := 0 }) D k [.ref q_0, .int x_0] [(q_0, .inr (5, [.int x_1, .ref q_3, .ref q_4, .ref q_5, .ref q_2, .ref q_1, .ref q_6, .ref q_7, .ref q_8, .ref q_9, .ref q_10, .ref q_11, .ref q_12, .int x_2, .int x_3])), (q_1, .inl (k 0, 400, .inl f_4)), (q_2, .inl (k 0, 400, .inl f_5))] (fun r u => u.1 = 0) (fun u => [(q_0, .inr (5, [.int x_1, .ref q_3, .ref q_4, .ref q_5, .ref q_2, .ref q_1, .ref q_6, .ref q_7, .ref q_8, .ref q_9, .ref q_10, .ref q_11, .ref q_12, .int x_2, .int x_3])), (q_1, .inl (k 0, 400, .inl f_4)), (q_2, .inl (k 0, 400, .inl f_5))]) := by
  refine zMi_of (own := RX5) (by decide +kernel) rfl (Nat.le_of_ble_eq_true rfl) ?_
  intro p e s m args below meth c A ls C0 hr hlk hin hP hD hS hA hK hN hl
  have hx := C0.1
  have hb := C0.2.1
  have hml := C0.2.2.1
  have hown := C0.2.2.2.1
  have hts := C0.2.2.2.2
  have hl : lv_has ls 2 [(0, .ref q_0), (1, .int x_0)] := hl
  have hP : va_P D vwCl [(q_0, .inr (5, [.int x_1, .ref q_3, .ref q_4, .ref q_5, .ref q_2, .ref q_1, .ref q_6, .ref q_7, .ref q_8, .ref q_9, .ref q_10, .ref q_11, .ref q_12, .int x_2, .int x_3])), (q_1, .inl (k 0, 400, .inl f_4)), (q_2, .inl (k 0, 400, .inl f_5))] s.heap := hP
  refine lv_bipush (v := 26) hx hb dX5_numberOf_0 (by decide) ?_
  refine lv_aload_n hx hb dX5_numberOf_2 rfl (lv_at hl 0 rfl) ?_
  refine va_get (D := D) (ci := 5) (v := .ref q_1) (C := RX5) (T := TX5) (N := 15) hx hb hts inX5 hown hK hP 0 rfl rfl 5 (by decide) (hts _ kF_X5_24) (fun _ h9 => h9) rfl dX5_numberOf_3 ?_
  refine lv_iload_n hx hb dX5_numberOf_6 rfl (lv_at hl 1 rfl) ?_
  refine va_iald hx hb hK hP 1 0 rfl rfl (by revert h_x_0; simp only [vp_in_iff, Int32.lt_iff_toInt_lt, Int32.le_iff_toInt_le, Int64.lt_iff_toInt_lt, Int64.le_iff_toInt_le, Int32.toInt_toInt64, ← Int32.toInt_inj, ← Int64.toInt_inj, Int32.reduceToInt, Int64.reduceToInt] <;> omega) dX5_numberOf_7 ?_
  refine lv_topi (fun y1 ey1 => ?_)
  refine lv_imul hx hb dX5_numberOf_8 ?_
  refine lv_aload_n hx hb dX5_numberOf_9 rfl (lv_at hl 0 rfl) ?_
  refine va_get (D := D) (ci := 5) (v := .ref q_2) (C := RX5) (T := TX5) (N := 15) hx hb hts inX5 hown hK hP 0 rfl rfl 4 (by decide) (hts _ kF_X5_21) (fun _ h9 => h9) rfl dX5_numberOf_10 ?_
  refine lv_iload_n hx hb dX5_numberOf_13 rfl (lv_at hl 1 rfl) ?_
  refine va_iald hx hb hK hP 2 0 rfl rfl (by revert h_x_0; simp only [vp_in_iff, Int32.lt_iff_toInt_lt, Int32.le_iff_toInt_le, Int64.lt_iff_toInt_lt, Int64.le_iff_toInt_le, Int32.toInt_toInt64, ← Int32.toInt_inj, ← Int64.toInt_inj, Int32.reduceToInt, Int64.reduceToInt] <;> omega) dX5_numberOf_14 ?_
  refine lv_topi (fun y2 ey2 => ?_)
  refine lv_iadd hx hb dX5_numberOf_15 ?_
  exact z_iret C0 hr hlk rfl hK hP hD hS (0, fun _ => 0, fun _ => 0, fun _ => 0, fun _ => (fun _ => 0), fun _ => (fun _ => 0), fun _ => (fun _ => none)) rfl [0, 1, 2] rfl rfl rfl dX5_numberOf_16

set_option maxHeartbeats 4000000 in
set_option maxRecDepth 100000 in
theorem s_X5_numberOf_4 (l : Launch) (D : va_G) (k : Nat → ClassId) (q_0 : Nat) (q_1 : Nat) (q_2 : Nat) (q_3 : Nat) (q_4 : Nat) (q_5 : Nat) (q_6 : Nat) (q_7 : Nat) (q_8 : Nat) (q_9 : Nat) (q_10 : Nat) (q_11 : Nat) (q_12 : Nat) (x_0 : Int32) (x_1 : Int32) (x_2 : Int32) (x_3 : Int32) (f_4 : Nat → Int32) (f_5 : Nat → Int32) (h_x_0 : 0 ≤ Int32.toInt x_0 ∧ Int32.toInt x_0 ≤ 2) (h_x_1 : 1 ≤ Int32.toInt x_1 ∧ Int32.toInt x_1 ≤ 400) : zMi l yX5_numberOf cX5_numberOf 2 (some .int) ({ frames := 0, cells := 0, slots := 0, locals := 0 }) D k [.ref q_0, .int x_0] [(q_0, .inr (5, [.int x_1, .ref q_3, .ref q_4, .ref q_5, .ref q_2, .ref q_1, .ref q_6, .ref q_7, .ref q_8, .ref q_9, .ref q_10, .ref q_11, .ref q_12, .int x_2, .int x_3])), (q_1, .inl (k 0, 400, .inl f_4)), (q_2, .inl (k 0, 400, .inl f_5))] (fun r u => u.1 = 0) (fun u => [(q_0, .inr (5, [.int x_1, .ref q_3, .ref q_4, .ref q_5, .ref q_2, .ref q_1, .ref q_6, .ref q_7, .ref q_8, .ref q_9, .ref q_10, .ref q_11, .ref q_12, .int x_2, .int x_3])), (q_1, .inl (k 0, 400, .inl f_4)), (q_2, .inl (k 0, 400, .inl f_5))]) := by
  refine zMi_of (own := RX5) (by decide +kernel) rfl (Nat.le_of_ble_eq_true rfl) ?_
  intro p e s m args below meth c A ls C0 hr hlk hin hP hD hS hA hK hN hl
  have hx := C0.1
  have hb := C0.2.1
  have hml := C0.2.2.1
  have hown := C0.2.2.2.1
  have hts := C0.2.2.2.2
  have hl : lv_has ls 2 [(0, .ref q_0), (1, .int x_0)] := hl
  have hP : va_P D vwCl [(q_0, .inr (5, [.int x_1, .ref q_3, .ref q_4, .ref q_5, .ref q_2, .ref q_1, .ref q_6, .ref q_7, .ref q_8, .ref q_9, .ref q_10, .ref q_11, .ref q_12, .int x_2, .int x_3])), (q_1, .inl (k 0, 400, .inl f_4)), (q_2, .inl (k 0, 400, .inl f_5))] s.heap := hP
  refine lv_bipush (v := 26) hx hb dX5_numberOf_0 (by decide) ?_
  refine lv_aload_n hx hb dX5_numberOf_2 rfl (lv_at hl 0 rfl) ?_
  refine va_get (D := D) (ci := 5) (v := .ref q_1) (C := RX5) (T := TX5) (N := 15) hx hb hts inX5 hown hK hP 0 rfl rfl 5 (by decide) (hts _ kF_X5_24) (fun _ h9 => h9) rfl dX5_numberOf_3 ?_
  refine lv_iload_n hx hb dX5_numberOf_6 rfl (lv_at hl 1 rfl) ?_
  refine va_iald hx hb hK hP 1 0 rfl rfl (by revert h_x_0; simp only [vp_in_iff, Int32.lt_iff_toInt_lt, Int32.le_iff_toInt_le, Int64.lt_iff_toInt_lt, Int64.le_iff_toInt_le, Int32.toInt_toInt64, ← Int32.toInt_inj, ← Int64.toInt_inj, Int32.reduceToInt, Int64.reduceToInt] <;> omega) dX5_numberOf_7 ?_
  refine lv_topi (fun y1 ey1 => ?_)
  refine lv_imul hx hb dX5_numberOf_8 ?_
  refine lv_aload_n hx hb dX5_numberOf_9 rfl (lv_at hl 0 rfl) ?_
  refine va_get (D := D) (ci := 5) (v := .ref q_2) (C := RX5) (T := TX5) (N := 15) hx hb hts inX5 hown hK hP 0 rfl rfl 4 (by decide) (hts _ kF_X5_21) (fun _ h9 => h9) rfl dX5_numberOf_10 ?_
  refine lv_iload_n hx hb dX5_numberOf_13 rfl (lv_at hl 1 rfl) ?_
  refine va_iald hx hb hK hP 2 0 rfl rfl (by revert h_x_0; simp only [vp_in_iff, Int32.lt_iff_toInt_lt, Int32.le_iff_toInt_le, Int64.lt_iff_toInt_lt, Int64.le_iff_toInt_le, Int32.toInt_toInt64, ← Int32.toInt_inj, ← Int64.toInt_inj, Int32.reduceToInt, Int64.reduceToInt] <;> omega) dX5_numberOf_14 ?_
  refine lv_topi (fun y2 ey2 => ?_)
  refine lv_iadd hx hb dX5_numberOf_15 ?_
  exact z_iret C0 hr hlk rfl hK hP hD hS (0, fun _ => 0, fun _ => 0, fun _ => 0, fun _ => (fun _ => 0), fun _ => (fun _ => 0), fun _ => (fun _ => none)) rfl [0, 1, 2] rfl rfl rfl dX5_numberOf_16

set_option maxHeartbeats 4000000 in
set_option maxRecDepth 100000 in
theorem s_X5_numberOf_5 (l : Launch) (D : va_G) (k : Nat → ClassId) (q_0 : Nat) (q_1 : Nat) (q_2 : Nat) (q_3 : Nat) (q_4 : Nat) (q_5 : Nat) (q_6 : Nat) (q_7 : Nat) (q_8 : Nat) (q_9 : Nat) (q_10 : Nat) (q_11 : Nat) (q_12 : Nat) (x_0 : Int32) (x_1 : Int32) (x_2 : Int32) (x_3 : Int32) (f_4 : Nat → Int32) (f_5 : Nat → Int32) (h_x_0 : 0 ≤ Int32.toInt x_0 ∧ Int32.toInt x_0 ≤ 3) (h_x_1 : 1 ≤ Int32.toInt x_1 ∧ Int32.toInt x_1 ≤ 400) : zMi l yX5_numberOf cX5_numberOf 2 (some .int) ({ frames := 0, cells := 0, slots := 0, locals := 0 }) D k [.ref q_0, .int x_0] [(q_0, .inr (5, [.int x_1, .ref q_3, .ref q_4, .ref q_5, .ref q_2, .ref q_1, .ref q_6, .ref q_7, .ref q_8, .ref q_9, .ref q_10, .ref q_11, .ref q_12, .int x_2, .int x_3])), (q_1, .inl (k 0, 400, .inl f_4)), (q_2, .inl (k 0, 400, .inl f_5))] (fun r u => u.1 = 0) (fun u => [(q_0, .inr (5, [.int x_1, .ref q_3, .ref q_4, .ref q_5, .ref q_2, .ref q_1, .ref q_6, .ref q_7, .ref q_8, .ref q_9, .ref q_10, .ref q_11, .ref q_12, .int x_2, .int x_3])), (q_1, .inl (k 0, 400, .inl f_4)), (q_2, .inl (k 0, 400, .inl f_5))]) := by
  refine zMi_of (own := RX5) (by decide +kernel) rfl (Nat.le_of_ble_eq_true rfl) ?_
  intro p e s m args below meth c A ls C0 hr hlk hin hP hD hS hA hK hN hl
  have hx := C0.1
  have hb := C0.2.1
  have hml := C0.2.2.1
  have hown := C0.2.2.2.1
  have hts := C0.2.2.2.2
  have hl : lv_has ls 2 [(0, .ref q_0), (1, .int x_0)] := hl
  have hP : va_P D vwCl [(q_0, .inr (5, [.int x_1, .ref q_3, .ref q_4, .ref q_5, .ref q_2, .ref q_1, .ref q_6, .ref q_7, .ref q_8, .ref q_9, .ref q_10, .ref q_11, .ref q_12, .int x_2, .int x_3])), (q_1, .inl (k 0, 400, .inl f_4)), (q_2, .inl (k 0, 400, .inl f_5))] s.heap := hP
  refine lv_bipush (v := 26) hx hb dX5_numberOf_0 (by decide) ?_
  refine lv_aload_n hx hb dX5_numberOf_2 rfl (lv_at hl 0 rfl) ?_
  refine va_get (D := D) (ci := 5) (v := .ref q_1) (C := RX5) (T := TX5) (N := 15) hx hb hts inX5 hown hK hP 0 rfl rfl 5 (by decide) (hts _ kF_X5_24) (fun _ h9 => h9) rfl dX5_numberOf_3 ?_
  refine lv_iload_n hx hb dX5_numberOf_6 rfl (lv_at hl 1 rfl) ?_
  refine va_iald hx hb hK hP 1 0 rfl rfl (by revert h_x_0; simp only [vp_in_iff, Int32.lt_iff_toInt_lt, Int32.le_iff_toInt_le, Int64.lt_iff_toInt_lt, Int64.le_iff_toInt_le, Int32.toInt_toInt64, ← Int32.toInt_inj, ← Int64.toInt_inj, Int32.reduceToInt, Int64.reduceToInt] <;> omega) dX5_numberOf_7 ?_
  refine lv_topi (fun y1 ey1 => ?_)
  refine lv_imul hx hb dX5_numberOf_8 ?_
  refine lv_aload_n hx hb dX5_numberOf_9 rfl (lv_at hl 0 rfl) ?_
  refine va_get (D := D) (ci := 5) (v := .ref q_2) (C := RX5) (T := TX5) (N := 15) hx hb hts inX5 hown hK hP 0 rfl rfl 4 (by decide) (hts _ kF_X5_21) (fun _ h9 => h9) rfl dX5_numberOf_10 ?_
  refine lv_iload_n hx hb dX5_numberOf_13 rfl (lv_at hl 1 rfl) ?_
  refine va_iald hx hb hK hP 2 0 rfl rfl (by revert h_x_0; simp only [vp_in_iff, Int32.lt_iff_toInt_lt, Int32.le_iff_toInt_le, Int64.lt_iff_toInt_lt, Int64.le_iff_toInt_le, Int32.toInt_toInt64, ← Int32.toInt_inj, ← Int64.toInt_inj, Int32.reduceToInt, Int64.reduceToInt] <;> omega) dX5_numberOf_14 ?_
  refine lv_topi (fun y2 ey2 => ?_)
  refine lv_iadd hx hb dX5_numberOf_15 ?_
  exact z_iret C0 hr hlk rfl hK hP hD hS (0, fun _ => 0, fun _ => 0, fun _ => 0, fun _ => (fun _ => 0), fun _ => (fun _ => 0), fun _ => (fun _ => none)) rfl [0, 1, 2] rfl rfl rfl dX5_numberOf_16

set_option maxHeartbeats 4000000 in
set_option maxRecDepth 100000 in
theorem s_X5_numberOf_6 (l : Launch) (D : va_G) (k : Nat → ClassId) (q_0 : Nat) (q_1 : Nat) (q_2 : Nat) (q_3 : Nat) (q_4 : Nat) (q_5 : Nat) (q_6 : Nat) (q_7 : Nat) (q_8 : Nat) (q_9 : Nat) (q_10 : Nat) (q_11 : Nat) (q_12 : Nat) (x_0 : Int32) (x_1 : Int32) (x_2 : Int32) (x_3 : Int32) (f_4 : Nat → Int32) (f_5 : Nat → Int32) (h_x_0 : 0 ≤ Int32.toInt x_0 ∧ Int32.toInt x_0 ≤ 19) (h_x_1 : 1 ≤ Int32.toInt x_1 ∧ Int32.toInt x_1 ≤ 400) : zMi l yX5_numberOf cX5_numberOf 2 (some .int) ({ frames := 0, cells := 0, slots := 0, locals := 0 }) D k [.ref q_0, .int x_0] [(q_0, .inr (5, [.int x_1, .ref q_3, .ref q_4, .ref q_5, .ref q_2, .ref q_1, .ref q_6, .ref q_7, .ref q_8, .ref q_9, .ref q_10, .ref q_11, .ref q_12, .int x_2, .int x_3])), (q_1, .inl (k 0, 400, .inl f_4)), (q_2, .inl (k 0, 400, .inl f_5))] (fun r u => u.1 = 0) (fun u => [(q_0, .inr (5, [.int x_1, .ref q_3, .ref q_4, .ref q_5, .ref q_2, .ref q_1, .ref q_6, .ref q_7, .ref q_8, .ref q_9, .ref q_10, .ref q_11, .ref q_12, .int x_2, .int x_3])), (q_1, .inl (k 0, 400, .inl f_4)), (q_2, .inl (k 0, 400, .inl f_5))]) := by
  refine zMi_of (own := RX5) (by decide +kernel) rfl (Nat.le_of_ble_eq_true rfl) ?_
  intro p e s m args below meth c A ls C0 hr hlk hin hP hD hS hA hK hN hl
  have hx := C0.1
  have hb := C0.2.1
  have hml := C0.2.2.1
  have hown := C0.2.2.2.1
  have hts := C0.2.2.2.2
  have hl : lv_has ls 2 [(0, .ref q_0), (1, .int x_0)] := hl
  have hP : va_P D vwCl [(q_0, .inr (5, [.int x_1, .ref q_3, .ref q_4, .ref q_5, .ref q_2, .ref q_1, .ref q_6, .ref q_7, .ref q_8, .ref q_9, .ref q_10, .ref q_11, .ref q_12, .int x_2, .int x_3])), (q_1, .inl (k 0, 400, .inl f_4)), (q_2, .inl (k 0, 400, .inl f_5))] s.heap := hP
  refine lv_bipush (v := 26) hx hb dX5_numberOf_0 (by decide) ?_
  refine lv_aload_n hx hb dX5_numberOf_2 rfl (lv_at hl 0 rfl) ?_
  refine va_get (D := D) (ci := 5) (v := .ref q_1) (C := RX5) (T := TX5) (N := 15) hx hb hts inX5 hown hK hP 0 rfl rfl 5 (by decide) (hts _ kF_X5_24) (fun _ h9 => h9) rfl dX5_numberOf_3 ?_
  refine lv_iload_n hx hb dX5_numberOf_6 rfl (lv_at hl 1 rfl) ?_
  refine va_iald hx hb hK hP 1 0 rfl rfl (by revert h_x_0; simp only [vp_in_iff, Int32.lt_iff_toInt_lt, Int32.le_iff_toInt_le, Int64.lt_iff_toInt_lt, Int64.le_iff_toInt_le, Int32.toInt_toInt64, ← Int32.toInt_inj, ← Int64.toInt_inj, Int32.reduceToInt, Int64.reduceToInt] <;> omega) dX5_numberOf_7 ?_
  refine lv_topi (fun y1 ey1 => ?_)
  refine lv_imul hx hb dX5_numberOf_8 ?_
  refine lv_aload_n hx hb dX5_numberOf_9 rfl (lv_at hl 0 rfl) ?_
  refine va_get (D := D) (ci := 5) (v := .ref q_2) (C := RX5) (T := TX5) (N := 15) hx hb hts inX5 hown hK hP 0 rfl rfl 4 (by decide) (hts _ kF_X5_21) (fun _ h9 => h9) rfl dX5_numberOf_10 ?_
  refine lv_iload_n hx hb dX5_numberOf_13 rfl (lv_at hl 1 rfl) ?_
  refine va_iald hx hb hK hP 2 0 rfl rfl (by revert h_x_0; simp only [vp_in_iff, Int32.lt_iff_toInt_lt, Int32.le_iff_toInt_le, Int64.lt_iff_toInt_lt, Int64.le_iff_toInt_le, Int32.toInt_toInt64, ← Int32.toInt_inj, ← Int64.toInt_inj, Int32.reduceToInt, Int64.reduceToInt] <;> omega) dX5_numberOf_14 ?_
  refine lv_topi (fun y2 ey2 => ?_)
  refine lv_iadd hx hb dX5_numberOf_15 ?_
  exact z_iret C0 hr hlk rfl hK hP hD hS (0, fun _ => 0, fun _ => 0, fun _ => 0, fun _ => (fun _ => 0), fun _ => (fun _ => 0), fun _ => (fun _ => none)) rfl [0, 1, 2] rfl rfl rfl dX5_numberOf_16

set_option maxHeartbeats 4000000 in
set_option maxRecDepth 100000 in
theorem s_X5_numberOf_7 (l : Launch) (D : va_G) (k : Nat → ClassId) (q_0 : Nat) (q_1 : Nat) (q_2 : Nat) (q_3 : Nat) (q_4 : Nat) (q_5 : Nat) (q_6 : Nat) (q_7 : Nat) (q_8 : Nat) (q_9 : Nat) (q_10 : Nat) (q_11 : Nat) (q_12 : Nat) (x_0 : Int32) (x_1 : Int32) (x_2 : Int32) (x_3 : Int32) (f_4 : Nat → Int32) (f_5 : Nat → Int32) (h_x_0 : 0 ≤ Int32.toInt x_0 ∧ Int32.toInt x_0 ≤ 49) (h_x_1 : 1 ≤ Int32.toInt x_1 ∧ Int32.toInt x_1 ≤ 400) : zMi l yX5_numberOf cX5_numberOf 2 (some .int) ({ frames := 0, cells := 0, slots := 0, locals := 0 }) D k [.ref q_0, .int x_0] [(q_0, .inr (5, [.int x_1, .ref q_3, .ref q_4, .ref q_5, .ref q_2, .ref q_1, .ref q_6, .ref q_7, .ref q_8, .ref q_9, .ref q_10, .ref q_11, .ref q_12, .int x_2, .int x_3])), (q_1, .inl (k 0, 400, .inl f_4)), (q_2, .inl (k 0, 400, .inl f_5))] (fun r u => u.1 = 0) (fun u => [(q_0, .inr (5, [.int x_1, .ref q_3, .ref q_4, .ref q_5, .ref q_2, .ref q_1, .ref q_6, .ref q_7, .ref q_8, .ref q_9, .ref q_10, .ref q_11, .ref q_12, .int x_2, .int x_3])), (q_1, .inl (k 0, 400, .inl f_4)), (q_2, .inl (k 0, 400, .inl f_5))]) := by
  refine zMi_of (own := RX5) (by decide +kernel) rfl (Nat.le_of_ble_eq_true rfl) ?_
  intro p e s m args below meth c A ls C0 hr hlk hin hP hD hS hA hK hN hl
  have hx := C0.1
  have hb := C0.2.1
  have hml := C0.2.2.1
  have hown := C0.2.2.2.1
  have hts := C0.2.2.2.2
  have hl : lv_has ls 2 [(0, .ref q_0), (1, .int x_0)] := hl
  have hP : va_P D vwCl [(q_0, .inr (5, [.int x_1, .ref q_3, .ref q_4, .ref q_5, .ref q_2, .ref q_1, .ref q_6, .ref q_7, .ref q_8, .ref q_9, .ref q_10, .ref q_11, .ref q_12, .int x_2, .int x_3])), (q_1, .inl (k 0, 400, .inl f_4)), (q_2, .inl (k 0, 400, .inl f_5))] s.heap := hP
  refine lv_bipush (v := 26) hx hb dX5_numberOf_0 (by decide) ?_
  refine lv_aload_n hx hb dX5_numberOf_2 rfl (lv_at hl 0 rfl) ?_
  refine va_get (D := D) (ci := 5) (v := .ref q_1) (C := RX5) (T := TX5) (N := 15) hx hb hts inX5 hown hK hP 0 rfl rfl 5 (by decide) (hts _ kF_X5_24) (fun _ h9 => h9) rfl dX5_numberOf_3 ?_
  refine lv_iload_n hx hb dX5_numberOf_6 rfl (lv_at hl 1 rfl) ?_
  refine va_iald hx hb hK hP 1 0 rfl rfl (by revert h_x_0; simp only [vp_in_iff, Int32.lt_iff_toInt_lt, Int32.le_iff_toInt_le, Int64.lt_iff_toInt_lt, Int64.le_iff_toInt_le, Int32.toInt_toInt64, ← Int32.toInt_inj, ← Int64.toInt_inj, Int32.reduceToInt, Int64.reduceToInt] <;> omega) dX5_numberOf_7 ?_
  refine lv_topi (fun y1 ey1 => ?_)
  refine lv_imul hx hb dX5_numberOf_8 ?_
  refine lv_aload_n hx hb dX5_numberOf_9 rfl (lv_at hl 0 rfl) ?_
  refine va_get (D := D) (ci := 5) (v := .ref q_2) (C := RX5) (T := TX5) (N := 15) hx hb hts inX5 hown hK hP 0 rfl rfl 4 (by decide) (hts _ kF_X5_21) (fun _ h9 => h9) rfl dX5_numberOf_10 ?_
  refine lv_iload_n hx hb dX5_numberOf_13 rfl (lv_at hl 1 rfl) ?_
  refine va_iald hx hb hK hP 2 0 rfl rfl (by revert h_x_0; simp only [vp_in_iff, Int32.lt_iff_toInt_lt, Int32.le_iff_toInt_le, Int64.lt_iff_toInt_lt, Int64.le_iff_toInt_le, Int32.toInt_toInt64, ← Int32.toInt_inj, ← Int64.toInt_inj, Int32.reduceToInt, Int64.reduceToInt] <;> omega) dX5_numberOf_14 ?_
  refine lv_topi (fun y2 ey2 => ?_)
  refine lv_iadd hx hb dX5_numberOf_15 ?_
  exact z_iret C0 hr hlk rfl hK hP hD hS (0, fun _ => 0, fun _ => 0, fun _ => 0, fun _ => (fun _ => 0), fun _ => (fun _ => 0), fun _ => (fun _ => none)) rfl [0, 1, 2] rfl rfl rfl dX5_numberOf_16

set_option maxHeartbeats 4000000 in
set_option maxRecDepth 100000 in
theorem s_X5_numberOf_8 (l : Launch) (D : va_G) (k : Nat → ClassId) (q_0 : Nat) (q_1 : Nat) (q_2 : Nat) (q_3 : Nat) (q_4 : Nat) (q_5 : Nat) (q_6 : Nat) (q_7 : Nat) (q_8 : Nat) (q_9 : Nat) (q_10 : Nat) (q_11 : Nat) (q_12 : Nat) (x_0 : Int32) (x_1 : Int32) (x_2 : Int32) (x_3 : Int32) (f_4 : Nat → Int32) (f_5 : Nat → Int32) (h_x_0 : 0 ≤ Int32.toInt x_0 ∧ Int32.toInt x_0 ≤ 119) (h_x_1 : 1 ≤ Int32.toInt x_1 ∧ Int32.toInt x_1 ≤ 400) : zMi l yX5_numberOf cX5_numberOf 2 (some .int) ({ frames := 0, cells := 0, slots := 0, locals := 0 }) D k [.ref q_0, .int x_0] [(q_0, .inr (5, [.int x_1, .ref q_3, .ref q_4, .ref q_5, .ref q_2, .ref q_1, .ref q_6, .ref q_7, .ref q_8, .ref q_9, .ref q_10, .ref q_11, .ref q_12, .int x_2, .int x_3])), (q_1, .inl (k 0, 400, .inl f_4)), (q_2, .inl (k 0, 400, .inl f_5))] (fun r u => u.1 = 0) (fun u => [(q_0, .inr (5, [.int x_1, .ref q_3, .ref q_4, .ref q_5, .ref q_2, .ref q_1, .ref q_6, .ref q_7, .ref q_8, .ref q_9, .ref q_10, .ref q_11, .ref q_12, .int x_2, .int x_3])), (q_1, .inl (k 0, 400, .inl f_4)), (q_2, .inl (k 0, 400, .inl f_5))]) := by
  refine zMi_of (own := RX5) (by decide +kernel) rfl (Nat.le_of_ble_eq_true rfl) ?_
  intro p e s m args below meth c A ls C0 hr hlk hin hP hD hS hA hK hN hl
  have hx := C0.1
  have hb := C0.2.1
  have hml := C0.2.2.1
  have hown := C0.2.2.2.1
  have hts := C0.2.2.2.2
  have hl : lv_has ls 2 [(0, .ref q_0), (1, .int x_0)] := hl
  have hP : va_P D vwCl [(q_0, .inr (5, [.int x_1, .ref q_3, .ref q_4, .ref q_5, .ref q_2, .ref q_1, .ref q_6, .ref q_7, .ref q_8, .ref q_9, .ref q_10, .ref q_11, .ref q_12, .int x_2, .int x_3])), (q_1, .inl (k 0, 400, .inl f_4)), (q_2, .inl (k 0, 400, .inl f_5))] s.heap := hP
  refine lv_bipush (v := 26) hx hb dX5_numberOf_0 (by decide) ?_
  refine lv_aload_n hx hb dX5_numberOf_2 rfl (lv_at hl 0 rfl) ?_
  refine va_get (D := D) (ci := 5) (v := .ref q_1) (C := RX5) (T := TX5) (N := 15) hx hb hts inX5 hown hK hP 0 rfl rfl 5 (by decide) (hts _ kF_X5_24) (fun _ h9 => h9) rfl dX5_numberOf_3 ?_
  refine lv_iload_n hx hb dX5_numberOf_6 rfl (lv_at hl 1 rfl) ?_
  refine va_iald hx hb hK hP 1 0 rfl rfl (by revert h_x_0; simp only [vp_in_iff, Int32.lt_iff_toInt_lt, Int32.le_iff_toInt_le, Int64.lt_iff_toInt_lt, Int64.le_iff_toInt_le, Int32.toInt_toInt64, ← Int32.toInt_inj, ← Int64.toInt_inj, Int32.reduceToInt, Int64.reduceToInt] <;> omega) dX5_numberOf_7 ?_
  refine lv_topi (fun y1 ey1 => ?_)
  refine lv_imul hx hb dX5_numberOf_8 ?_
  refine lv_aload_n hx hb dX5_numberOf_9 rfl (lv_at hl 0 rfl) ?_
  refine va_get (D := D) (ci := 5) (v := .ref q_2) (C := RX5) (T := TX5) (N := 15) hx hb hts inX5 hown hK hP 0 rfl rfl 4 (by decide) (hts _ kF_X5_21) (fun _ h9 => h9) rfl dX5_numberOf_10 ?_
  refine lv_iload_n hx hb dX5_numberOf_13 rfl (lv_at hl 1 rfl) ?_
  refine va_iald hx hb hK hP 2 0 rfl rfl (by revert h_x_0; simp only [vp_in_iff, Int32.lt_iff_toInt_lt, Int32.le_iff_toInt_le, Int64.lt_iff_toInt_lt, Int64.le_iff_toInt_le, Int32.toInt_toInt64, ← Int32.toInt_inj, ← Int64.toInt_inj, Int32.reduceToInt, Int64.reduceToInt] <;> omega) dX5_numberOf_14 ?_
  refine lv_topi (fun y2 ey2 => ?_)
  refine lv_iadd hx hb dX5_numberOf_15 ?_
  exact z_iret C0 hr hlk rfl hK hP hD hS (0, fun _ => 0, fun _ => 0, fun _ => 0, fun _ => (fun _ => 0), fun _ => (fun _ => 0), fun _ => (fun _ => none)) rfl [0, 1, 2] rfl rfl rfl dX5_numberOf_16

set_option maxHeartbeats 4000000 in
set_option maxRecDepth 100000 in
theorem s_X5_numberOf_9 (l : Launch) (D : va_G) (k : Nat → ClassId) (q_0 : Nat) (q_1 : Nat) (q_2 : Nat) (q_3 : Nat) (q_4 : Nat) (q_5 : Nat) (q_6 : Nat) (q_7 : Nat) (q_8 : Nat) (q_9 : Nat) (q_10 : Nat) (q_11 : Nat) (q_12 : Nat) (x_0 : Int32) (x_1 : Int32) (x_2 : Int32) (x_3 : Int32) (f_4 : Nat → Int32) (f_5 : Nat → Int32) (h_x_0 : 0 ≤ Int32.toInt x_0 ∧ Int32.toInt x_0 ≤ 255) (h_x_1 : 1 ≤ Int32.toInt x_1 ∧ Int32.toInt x_1 ≤ 400) : zMi l yX5_numberOf cX5_numberOf 2 (some .int) ({ frames := 0, cells := 0, slots := 0, locals := 0 }) D k [.ref q_0, .int x_0] [(q_0, .inr (5, [.int x_1, .ref q_3, .ref q_4, .ref q_5, .ref q_2, .ref q_1, .ref q_6, .ref q_7, .ref q_8, .ref q_9, .ref q_10, .ref q_11, .ref q_12, .int x_2, .int x_3])), (q_1, .inl (k 0, 400, .inl f_4)), (q_2, .inl (k 0, 400, .inl f_5))] (fun r u => u.1 = 0) (fun u => [(q_0, .inr (5, [.int x_1, .ref q_3, .ref q_4, .ref q_5, .ref q_2, .ref q_1, .ref q_6, .ref q_7, .ref q_8, .ref q_9, .ref q_10, .ref q_11, .ref q_12, .int x_2, .int x_3])), (q_1, .inl (k 0, 400, .inl f_4)), (q_2, .inl (k 0, 400, .inl f_5))]) := by
  refine zMi_of (own := RX5) (by decide +kernel) rfl (Nat.le_of_ble_eq_true rfl) ?_
  intro p e s m args below meth c A ls C0 hr hlk hin hP hD hS hA hK hN hl
  have hx := C0.1
  have hb := C0.2.1
  have hml := C0.2.2.1
  have hown := C0.2.2.2.1
  have hts := C0.2.2.2.2
  have hl : lv_has ls 2 [(0, .ref q_0), (1, .int x_0)] := hl
  have hP : va_P D vwCl [(q_0, .inr (5, [.int x_1, .ref q_3, .ref q_4, .ref q_5, .ref q_2, .ref q_1, .ref q_6, .ref q_7, .ref q_8, .ref q_9, .ref q_10, .ref q_11, .ref q_12, .int x_2, .int x_3])), (q_1, .inl (k 0, 400, .inl f_4)), (q_2, .inl (k 0, 400, .inl f_5))] s.heap := hP
  refine lv_bipush (v := 26) hx hb dX5_numberOf_0 (by decide) ?_
  refine lv_aload_n hx hb dX5_numberOf_2 rfl (lv_at hl 0 rfl) ?_
  refine va_get (D := D) (ci := 5) (v := .ref q_1) (C := RX5) (T := TX5) (N := 15) hx hb hts inX5 hown hK hP 0 rfl rfl 5 (by decide) (hts _ kF_X5_24) (fun _ h9 => h9) rfl dX5_numberOf_3 ?_
  refine lv_iload_n hx hb dX5_numberOf_6 rfl (lv_at hl 1 rfl) ?_
  refine va_iald hx hb hK hP 1 0 rfl rfl (by revert h_x_0; simp only [vp_in_iff, Int32.lt_iff_toInt_lt, Int32.le_iff_toInt_le, Int64.lt_iff_toInt_lt, Int64.le_iff_toInt_le, Int32.toInt_toInt64, ← Int32.toInt_inj, ← Int64.toInt_inj, Int32.reduceToInt, Int64.reduceToInt] <;> omega) dX5_numberOf_7 ?_
  refine lv_topi (fun y1 ey1 => ?_)
  refine lv_imul hx hb dX5_numberOf_8 ?_
  refine lv_aload_n hx hb dX5_numberOf_9 rfl (lv_at hl 0 rfl) ?_
  refine va_get (D := D) (ci := 5) (v := .ref q_2) (C := RX5) (T := TX5) (N := 15) hx hb hts inX5 hown hK hP 0 rfl rfl 4 (by decide) (hts _ kF_X5_21) (fun _ h9 => h9) rfl dX5_numberOf_10 ?_
  refine lv_iload_n hx hb dX5_numberOf_13 rfl (lv_at hl 1 rfl) ?_
  refine va_iald hx hb hK hP 2 0 rfl rfl (by revert h_x_0; simp only [vp_in_iff, Int32.lt_iff_toInt_lt, Int32.le_iff_toInt_le, Int64.lt_iff_toInt_lt, Int64.le_iff_toInt_le, Int32.toInt_toInt64, ← Int32.toInt_inj, ← Int64.toInt_inj, Int32.reduceToInt, Int64.reduceToInt] <;> omega) dX5_numberOf_14 ?_
  refine lv_topi (fun y2 ey2 => ?_)
  refine lv_iadd hx hb dX5_numberOf_15 ?_
  exact z_iret C0 hr hlk rfl hK hP hD hS (0, fun _ => 0, fun _ => 0, fun _ => 0, fun _ => (fun _ => 0), fun _ => (fun _ => 0), fun _ => (fun _ => none)) rfl [0, 1, 2] rfl rfl rfl dX5_numberOf_16

set_option maxHeartbeats 4000000 in
set_option maxRecDepth 100000 in
theorem s_X5_numberOf_10 (l : Launch) (D : va_G) (k : Nat → ClassId) (q_0 : Nat) (q_1 : Nat) (q_2 : Nat) (q_3 : Nat) (q_4 : Nat) (q_5 : Nat) (q_6 : Nat) (q_7 : Nat) (q_8 : Nat) (q_9 : Nat) (q_10 : Nat) (q_11 : Nat) (q_12 : Nat) (x_0 : Int32) (x_1 : Int32) (x_2 : Int32) (x_3 : Int32) (f_4 : Nat → Int32) (f_5 : Nat → Int32) (h_x_0 : 0 ≤ Int32.toInt x_0 ∧ Int32.toInt x_0 ≤ 399) (h_x_1 : 1 ≤ Int32.toInt x_1 ∧ Int32.toInt x_1 ≤ 400) : zMi l yX5_numberOf cX5_numberOf 2 (some .int) ({ frames := 0, cells := 0, slots := 0, locals := 0 }) D k [.ref q_0, .int x_0] [(q_0, .inr (5, [.int x_1, .ref q_3, .ref q_4, .ref q_5, .ref q_2, .ref q_1, .ref q_6, .ref q_7, .ref q_8, .ref q_9, .ref q_10, .ref q_11, .ref q_12, .int x_2, .int x_3])), (q_1, .inl (k 0, 400, .inl f_4)), (q_2, .inl (k 0, 400, .inl f_5))] (fun r u => u.1 = 0) (fun u => [(q_0, .inr (5, [.int x_1, .ref q_3, .ref q_4, .ref q_5, .ref q_2, .ref q_1, .ref q_6, .ref q_7, .ref q_8, .ref q_9, .ref q_10, .ref q_11, .ref q_12, .int x_2, .int x_3])), (q_1, .inl (k 0, 400, .inl f_4)), (q_2, .inl (k 0, 400, .inl f_5))]) := by
  refine zMi_of (own := RX5) (by decide +kernel) rfl (Nat.le_of_ble_eq_true rfl) ?_
  intro p e s m args below meth c A ls C0 hr hlk hin hP hD hS hA hK hN hl
  have hx := C0.1
  have hb := C0.2.1
  have hml := C0.2.2.1
  have hown := C0.2.2.2.1
  have hts := C0.2.2.2.2
  have hl : lv_has ls 2 [(0, .ref q_0), (1, .int x_0)] := hl
  have hP : va_P D vwCl [(q_0, .inr (5, [.int x_1, .ref q_3, .ref q_4, .ref q_5, .ref q_2, .ref q_1, .ref q_6, .ref q_7, .ref q_8, .ref q_9, .ref q_10, .ref q_11, .ref q_12, .int x_2, .int x_3])), (q_1, .inl (k 0, 400, .inl f_4)), (q_2, .inl (k 0, 400, .inl f_5))] s.heap := hP
  refine lv_bipush (v := 26) hx hb dX5_numberOf_0 (by decide) ?_
  refine lv_aload_n hx hb dX5_numberOf_2 rfl (lv_at hl 0 rfl) ?_
  refine va_get (D := D) (ci := 5) (v := .ref q_1) (C := RX5) (T := TX5) (N := 15) hx hb hts inX5 hown hK hP 0 rfl rfl 5 (by decide) (hts _ kF_X5_24) (fun _ h9 => h9) rfl dX5_numberOf_3 ?_
  refine lv_iload_n hx hb dX5_numberOf_6 rfl (lv_at hl 1 rfl) ?_
  refine va_iald hx hb hK hP 1 0 rfl rfl (by revert h_x_0; simp only [vp_in_iff, Int32.lt_iff_toInt_lt, Int32.le_iff_toInt_le, Int64.lt_iff_toInt_lt, Int64.le_iff_toInt_le, Int32.toInt_toInt64, ← Int32.toInt_inj, ← Int64.toInt_inj, Int32.reduceToInt, Int64.reduceToInt] <;> omega) dX5_numberOf_7 ?_
  refine lv_topi (fun y1 ey1 => ?_)
  refine lv_imul hx hb dX5_numberOf_8 ?_
  refine lv_aload_n hx hb dX5_numberOf_9 rfl (lv_at hl 0 rfl) ?_
  refine va_get (D := D) (ci := 5) (v := .ref q_2) (C := RX5) (T := TX5) (N := 15) hx hb hts inX5 hown hK hP 0 rfl rfl 4 (by decide) (hts _ kF_X5_21) (fun _ h9 => h9) rfl dX5_numberOf_10 ?_
  refine lv_iload_n hx hb dX5_numberOf_13 rfl (lv_at hl 1 rfl) ?_
  refine va_iald hx hb hK hP 2 0 rfl rfl (by revert h_x_0; simp only [vp_in_iff, Int32.lt_iff_toInt_lt, Int32.le_iff_toInt_le, Int64.lt_iff_toInt_lt, Int64.le_iff_toInt_le, Int32.toInt_toInt64, ← Int32.toInt_inj, ← Int64.toInt_inj, Int32.reduceToInt, Int64.reduceToInt] <;> omega) dX5_numberOf_14 ?_
  refine lv_topi (fun y2 ey2 => ?_)
  refine lv_iadd hx hb dX5_numberOf_15 ?_
  exact z_iret C0 hr hlk rfl hK hP hD hS (0, fun _ => 0, fun _ => 0, fun _ => 0, fun _ => (fun _ => 0), fun _ => (fun _ => 0), fun _ => (fun _ => none)) rfl [0, 1, 2] rfl rfl rfl dX5_numberOf_16

set_option maxHeartbeats 4000000 in
set_option maxRecDepth 100000 in
theorem s_X5_sumDay_1 (l : Launch) (D : va_G) (k : Nat → ClassId) (q_0 : Nat) (q_1 : Nat) (q_2 : Nat) (q_3 : Nat) (q_4 : Nat) (q_5 : Nat) (q_6 : Nat) (q_7 : Nat) (q_8 : Nat) (q_9 : Nat) (q_10 : Nat) (q_11 : Nat) (q_12 : Nat) (x_0 : Int32) (x_1 : Int32) (x_2 : Int32) (x_3 : Int32) (f_4 : Nat → Int32) (f_5 : Nat → Int32) (f_6 : Nat → Int32) (h_x_1 : 0 ≤ Int32.toInt x_1 ∧ Int32.toInt x_1 ≤ 400) (h_f_4 : zR f_4 0 799) : zMi l yX5_sumDay cX5_sumDay 4 (some .int) ({ frames := 1, cells := 0, slots := 0, locals := 21 }) D k [.ref q_0, .int x_0] [(q_0, .inr (5, [.int x_1, .ref q_4, .ref q_5, .ref q_1, .ref q_3, .ref q_2, .ref q_6, .ref q_7, .ref q_8, .ref q_9, .ref q_10, .ref q_11, .ref q_12, .int x_2, .int x_3])), (q_1, .inl (k 0, 400, .inl f_4)), (q_2, .inl (k 0, 400, .inl f_5)), (q_3, .inl (k 0, 400, .inl f_6))] (fun r u => u.1 = 0) (fun u => [(q_0, .inr (5, [.int x_1, .ref q_4, .ref q_5, .ref q_1, .ref q_3, .ref q_2, .ref q_6, .ref q_7, .ref q_8, .ref q_9, .ref q_10, .ref q_11, .ref q_12, .int (u.2.2.1 0), .int (u.2.2.1 1)])), (q_1, .inl (k 0, 400, .inl f_4)), (q_2, .inl (k 0, 400, .inl f_5)), (q_3, .inl (k 0, 400, .inl f_6))]) := by
  refine zMi_of (own := RX5) (by decide +kernel) rfl (Nat.le_of_ble_eq_true rfl) ?_
  intro p e s m args below meth c A ls C0 hr hlk hin hP hD hS hA hK hN hl
  have hx := C0.1
  have hb := C0.2.1
  have hml := C0.2.2.1
  have hown := C0.2.2.2.1
  have hts := C0.2.2.2.2
  have hl : lv_has ls 4 [(0, .ref q_0), (1, .int x_0)] := hl
  have hP : va_P D vwCl [(q_0, .inr (5, [.int x_1, .ref q_4, .ref q_5, .ref q_1, .ref q_3, .ref q_2, .ref q_6, .ref q_7, .ref q_8, .ref q_9, .ref q_10, .ref q_11, .ref q_12, .int x_2, .int x_3])), (q_1, .inl (k 0, 400, .inl f_4)), (q_2, .inl (k 0, 400, .inl f_5)), (q_3, .inl (k 0, 400, .inl f_6))] s.heap := hP
  refine lv_iconst (v := 0) hx hb dX5_sumDay_0 (by decide) ?_
  refine lv_istore_n (lv' := [(2, .int 0), (0, .ref q_0), (1, .int x_0)]) hx hb dX5_sumDay_1 rfl hl (by decide) rfl (fun ls hl => ?_)
  refine lv_aload_n hx hb dX5_sumDay_2 rfl (lv_at hl 1 rfl) ?_
  refine lv_iconst (v := 0) hx hb dX5_sumDay_3 (by decide) ?_
  refine va_put (D := D) (ci := 5) (v := .int 0) (ty := .int) (C := RX5) (T := TX5) (N := 15) hx hb hts inX5 tyX5 tyX5_ok nmX5 hown hK hP hD hS 0 rfl rfl 13 (by decide) (hts _ kF_X5_69) (fun _ h9 => h9) rfl (by decide +kernel) rfl rfl (Nat.le_of_ble_eq_true rfl) dX5_sumDay_4 (fun H locs hP hD hS => ?_)
  have hP : va_P D vwCl [(q_0, .inr (5, [.int x_1, .ref q_4, .ref q_5, .ref q_1, .ref q_3, .ref q_2, .ref q_6, .ref q_7, .ref q_8, .ref q_9, .ref q_10, .ref q_11, .ref q_12, .int 0, .int x_3])), (q_1, .inl (k 0, 400, .inl f_4)), (q_2, .inl (k 0, 400, .inl f_5)), (q_3, .inl (k 0, 400, .inl f_6))] H := hP
  have hD : va_D A [(q_0, .inr (5, [.int x_1, .ref q_4, .ref q_5, .ref q_1, .ref q_3, .ref q_2, .ref q_6, .ref q_7, .ref q_8, .ref q_9, .ref q_10, .ref q_11, .ref q_12, .int 0, .int x_3])), (q_1, .inl (k 0, 400, .inl f_4)), (q_2, .inl (k 0, 400, .inl f_5)), (q_3, .inl (k 0, 400, .inl f_6))] := hD
  refine lv_aload_n hx hb dX5_sumDay_7 rfl (lv_at hl 1 rfl) ?_
  refine lv_iconst (v := 0) hx hb dX5_sumDay_8 (by decide) ?_
  refine va_put (D := D) (ci := 5) (v := .int 0) (ty := .int) (C := RX5) (T := TX5) (N := 15) hx hb hts inX5 tyX5 tyX5_ok nmX5 hown hK hP hD hS 0 rfl rfl 14 (by decide) (hts _ kF_X5_72) (fun _ h9 => h9) rfl (by decide +kernel) rfl rfl (Nat.le_of_ble_eq_true rfl) dX5_sumDay_9 (fun H locs hP hD hS => ?_)
  have hP : va_P D vwCl [(q_0, .inr (5, [.int x_1, .ref q_4, .ref q_5, .ref q_1, .ref q_3, .ref q_2, .ref q_6, .ref q_7, .ref q_8, .ref q_9, .ref q_10, .ref q_11, .ref q_12, .int 0, .int 0])), (q_1, .inl (k 0, 400, .inl f_4)), (q_2, .inl (k 0, 400, .inl f_5)), (q_3, .inl (k 0, 400, .inl f_6))] H := hP
  have hD : va_D A [(q_0, .inr (5, [.int x_1, .ref q_4, .ref q_5, .ref q_1, .ref q_3, .ref q_2, .ref q_6, .ref q_7, .ref q_8, .ref q_9, .ref q_10, .ref q_11, .ref q_12, .int 0, .int 0])), (q_1, .inl (k 0, 400, .inl f_4)), (q_2, .inl (k 0, 400, .inl f_5)), (q_3, .inl (k 0, 400, .inl f_6))] := hD
  refine lv_iconst (v := 0) hx hb dX5_sumDay_12 (by decide) ?_
  refine lv_istore_n (lv' := [(3, .int 0), (2, .int 0), (0, .ref q_0), (1, .int x_0)]) hx hb dX5_sumDay_13 rfl hl (by decide) rfl (fun ls hl => ?_)
  have loop73 : ∀ (N74 : Nat) (y69 : Int32) (y70 : Int32) (y71 : Int32) (y72 : Int32) (H : Heap) (locs : List Loc) (ls : Array Slot), Int.toNat (400 - Int32.toInt y69) < N74 → 0 ≤ Int32.toInt y69 ∧ Int32.toInt y69 ≤ 400 → va_P D vwCl [(q_0, .inr (5, [.int x_1, .ref q_4, .ref q_5, .ref q_1, .ref q_3, .ref q_2, .ref q_6, .ref q_7, .ref q_8, .ref q_9, .ref q_10, .ref q_11, .ref q_12, .int y71, .int y72])), (q_1, .inl (k 0, 400, .inl f_4)), (q_2, .inl (k 0, 400, .inl f_5)), (q_3, .inl (k 0, 400, .inl f_6))] H → va_D A [(q_0, .inr (5, [.int x_1, .ref q_4, .ref q_5, .ref q_1, .ref q_3, .ref q_2, .ref q_6, .ref q_7, .ref q_8, .ref q_9, .ref q_10, .ref q_11, .ref q_12, .int y71, .int y72])), (q_1, .inl (k 0, 400, .inl f_4)), (q_2, .inl (k 0, 400, .inl f_5)), (q_3, .inl (k 0, 400, .inl f_6))] → va_S A s.heap H locs → lv_has ls 4 [(3, .int y69), (2, .int y70), (0, .ref q_0), (1, .int x_0)] → W p l e { frames := 1, cells := 0, slots := 0, locals := 21 } s m args below meth c H locs 0 0 (MQ below (va_Qi (fun (r : Int32) (u : zS) => u.1 = 0) (zB D k A (fun (u : zS) => [(q_0, .inr (5, [.int x_1, .ref q_4, .ref q_5, .ref q_1, .ref q_3, .ref q_2, .ref q_6, .ref q_7, .ref q_8, .ref q_9, .ref q_10, .ref q_11, .ref q_12, .int (u.2.2.1 0), .int (u.2.2.1 1)])), (q_1, .inl (k 0, 400, .inl f_4)), (q_2, .inl (k 0, 400, .inl f_5)), (q_3, .inl (k 0, 400, .inl f_6))])) A) args s 0 0 A) (F0 m 14 ls []) := by
    intro N74
    induction N74 with
    | zero => intro y69 y70 y71 y72 H locs ls hm; exact absurd hm (Nat.not_lt_zero _)
    | succ N74 ihN74 =>
      intro y69 y70 y71 y72 H locs ls hN74 hy69 hP hD hS hl
      refine lv_iload_n hx hb dX5_sumDay_14 rfl (lv_at hl 0 rfl) ?_
      refine lv_aload_n hx hb dX5_sumDay_15 rfl (lv_at hl 2 rfl) ?_
      refine va_get (D := D) (ci := 5) (v := .int x_1) (C := RX5) (T := TX5) (N := 15) hx hb hts inX5 hown hK hP 0 rfl rfl 0 (by decide) (hts _ kF_X5_54) (fun _ h9 => h9) rfl dX5_sumDay_16 ?_
      refine lv_icmp_ge (tgt := 73) hx hb dX5_sumDay_19 (by decide) (fun c75 => ?_) (fun c75 => ?_)
      · refine lv_iload_n hx hb dX5_sumDay_73 rfl (lv_at hl 1 rfl) ?_
        exact z_iret C0 hr hlk rfl hK hP hD hS (0, fun _ => 0, fun i => [y71, y72].getD i 0, fun _ => 0, fun _ => (fun _ => 0), fun _ => (fun _ => 0), fun _ => (fun _ => none)) rfl [0, 1, 2, 3] rfl rfl rfl dX5_sumDay_74
      · refine lv_aload_n hx hb dX5_sumDay_22 rfl (lv_at hl 2 rfl) ?_
        refine va_get (D := D) (ci := 5) (v := .ref q_1) (C := RX5) (T := TX5) (N := 15) hx hb hts inX5 hown hK hP 0 rfl rfl 3 (by decide) (hts _ kF_X5_18) (fun _ h9 => h9) rfl dX5_sumDay_23 ?_
        refine lv_iload_n hx hb dX5_sumDay_26 rfl (lv_at hl 0 rfl) ?_
        refine va_iald hx hb hK hP 1 0 rfl rfl (by revert hN74 hy69 c75 h_x_1; simp only [vp_in_iff, Int32.lt_iff_toInt_lt, Int32.le_iff_toInt_le, Int64.lt_iff_toInt_lt, Int64.le_iff_toInt_le, Int32.toInt_toInt64, ← Int32.toInt_inj, ← Int64.toInt_inj, Int32.reduceToInt, Int64.reduceToInt] <;> omega) dX5_sumDay_27 ?_
        refine lv_topi (fun y76 ey76 => ?_)
        have hy76 : 0 ≤ Int32.toInt y76 ∧ Int32.toInt y76 ≤ 799 := by rw [ey76]; exact h_f_4 _
        refine lv_iconst (v := 2) hx hb dX5_sumDay_28 (by decide) ?_
        refine lv_idiv hx hb dX5_sumDay_29 (by decide) ?_
        refine lv_topi (fun y77 ey77 => ?_)
        have hy77 : Int32.toInt y77 = Int32.toInt y76 / 2 := by rw [ey77]; exact zo_div 2 (show 0 ≤ Int32.toInt y76 by revert hy76; simp only [vp_in_iff, Int32.lt_iff_toInt_lt, Int32.le_iff_toInt_le, Int64.lt_iff_toInt_lt, Int64.le_iff_toInt_le, Int32.toInt_toInt64, ← Int32.toInt_inj, ← Int64.toInt_inj, Int32.reduceToInt, Int64.reduceToInt] <;> omega) rfl (by decide)
        refine lv_iload_n hx hb dX5_sumDay_30 rfl (lv_at hl 3 rfl) ?_
        refine lv_icmp_ne (tgt := 67) hx hb dX5_sumDay_31 (by decide) (fun c78 => ?_) (fun c78 => ?_)
        · have e79 : Int32.toInt (y69 + 1) = Int32.toInt y69 + Int32.toInt (1 : Int32) := zi_add (by revert hN74 hy69 c75 h_x_1; simp only [vp_in_iff, Int32.lt_iff_toInt_lt, Int32.le_iff_toInt_le, Int64.lt_iff_toInt_lt, Int64.le_iff_toInt_le, Int32.toInt_toInt64, ← Int32.toInt_inj, ← Int64.toInt_inj, Int32.reduceToInt, Int64.reduceToInt] <;> omega)
          refine lv_iinc (v := (y69 + 1)) (lv' := [(3, .int (y69 + 1)), (2, .int y70), (0, .ref q_0), (1, .int x_0)]) hx hb dX5_sumDay_67 hl (k := 0) rfl rfl (by decide) rfl (fun ls hl => ?_)
          refine lv_goto (tgt := 14) hx hb dX5_sumDay_70 (by decide) ?_
          exact ihN74 (y69 + 1) y70 y71 y72 _ _ ls (by revert hN74 hy69 c75 e79 h_x_1; simp only [vp_in_iff, Int32.lt_iff_toInt_lt, Int32.le_iff_toInt_le, Int64.lt_iff_toInt_lt, Int64.le_iff_toInt_le, Int32.toInt_toInt64, ← Int32.toInt_inj, ← Int64.toInt_inj, Int32.reduceToInt, Int64.reduceToInt] <;> omega) (by revert hN74 hy69 c75 e79 h_x_1; simp only [vp_in_iff, Int32.lt_iff_toInt_lt, Int32.le_iff_toInt_le, Int64.lt_iff_toInt_lt, Int64.le_iff_toInt_le, Int32.toInt_toInt64, ← Int32.toInt_inj, ← Int64.toInt_inj, Int32.reduceToInt, Int64.reduceToInt] <;> omega) hP hD hS (lv_sub hl [0, 1, 2, 3] rfl)
        · refine lv_iinc (v := (y70 + 1)) (lv' := [(2, .int (y70 + 1)), (3, .int y69), (0, .ref q_0), (1, .int x_0)]) hx hb dX5_sumDay_34 hl (k := 1) rfl rfl (by decide) rfl (fun ls hl => ?_)
          refine lv_aload_n hx hb dX5_sumDay_37 rfl (lv_at hl 2 rfl) ?_
          refine lv_dup hx hb dX5_sumDay_38 rfl ?_
          refine va_get (D := D) (ci := 5) (v := .int y71) (C := RX5) (T := TX5) (N := 15) hx hb hts inX5 hown hK hP 0 rfl rfl 13 (by decide) (hts _ kF_X5_69) (fun _ h9 => h9) rfl dX5_sumDay_39 ?_
          refine lv_aload_n hx hb dX5_sumDay_42 rfl (lv_at hl 2 rfl) ?_
          refine lv_iload_n hx hb dX5_sumDay_43 rfl (lv_at hl 1 rfl) ?_
          refine z_bi (wr := [(q_1, .inl (k 0, 400, .inl f_4))]) (z_runV (C := RX5) (As := [.int y69]) (rest := [.int y71, .ref q_0]) C0 (s_X5_numberOf_10 l D k q_0 q_2 q_3 q_4 q_5 q_1 q_6 q_7 q_8 q_9 q_10 q_11 q_12 y69 x_1 y71 y72 f_5 f_6 (by revert hN74 hy69 c75 h_x_1; simp only [vp_in_iff, Int32.lt_iff_toInt_lt, Int32.le_iff_toInt_le, Int64.lt_iff_toInt_lt, Int64.le_iff_toInt_le, Int32.toInt_toInt64, ← Int32.toInt_inj, ← Int64.toInt_inj, Int32.reduceToInt, Int64.reduceToInt] <;> omega) (by revert h_x_1 c75 hN74 hy69; simp only [vp_in_iff, Int32.lt_iff_toInt_lt, Int32.le_iff_toInt_le, Int64.lt_iff_toInt_lt, Int64.le_iff_toInt_le, Int32.toInt_toInt64, ← Int32.toInt_inj, ← Int64.toInt_inj, Int32.reduceToInt, Int64.reduceToInt] <;> omega) _) okV_X5_numberOf kM_X5_62 rfl (z_pV (q0 := 0) hK hN hP hD [0, 2, 3] rfl rfl rfl rfl rfl) rfl hl.1 rfl (Nat.le_of_ble_eq_true rfl) dX5_sumDay_44 rfl) hP hD hS hA [0, 2, 3] [1] rfl rfl rfl rfl (fun r80 u80 H locs hw80 hP hD hS => ?_)
          obtain ⟨i80, a80, v80, w80, f80, g80, o80⟩ := u80
          dsimp only at hw80
          obtain rfl := hw80
          have hP : va_P D vwCl [(q_1, .inl (k 0, 400, .inl f_4)), (q_0, .inr (5, [.int x_1, .ref q_4, .ref q_5, .ref q_1, .ref q_3, .ref q_2, .ref q_6, .ref q_7, .ref q_8, .ref q_9, .ref q_10, .ref q_11, .ref q_12, .int y71, .int y72])), (q_2, .inl (k 0, 400, .inl f_5)), (q_3, .inl (k 0, 400, .inl f_6))] H := hP
          have hD : va_D A [(q_1, .inl (k 0, 400, .inl f_4)), (q_0, .inr (5, [.int x_1, .ref q_4, .ref q_5, .ref q_1, .ref q_3, .ref q_2, .ref q_6, .ref q_7, .ref q_8, .ref q_9, .ref q_10, .ref q_11, .ref q_12, .int y71, .int y72])), (q_2, .inl (k 0, 400, .inl f_5)), (q_3, .inl (k 0, 400, .inl f_6))] := hD
          refine lv_iadd hx hb dX5_sumDay_47 ?_
          refine va_put (D := D) (ci := 5) (v := .int (y71 + r80)) (ty := .int) (C := RX5) (T := TX5) (N := 15) hx hb hts inX5 tyX5 tyX5_ok nmX5 hown hK hP hD hS 1 rfl rfl 13 (by decide) (hts _ kF_X5_69) (fun _ h9 => h9) rfl (by decide +kernel) rfl rfl (Nat.le_of_ble_eq_true rfl) dX5_sumDay_48 (fun H locs hP hD hS => ?_)
          have hP : va_P D vwCl [(q_1, .inl (k 0, 400, .inl f_4)), (q_0, .inr (5, [.int x_1, .ref q_4, .ref q_5, .ref q_1, .ref q_3, .ref q_2, .ref q_6, .ref q_7, .ref q_8, .ref q_9, .ref q_10, .ref q_11, .ref q_12, .int (y71 + r80), .int y72])), (q_2, .inl (k 0, 400, .inl f_5)), (q_3, .inl (k 0, 400, .inl f_6))] H := hP
          have hD : va_D A [(q_1, .inl (k 0, 400, .inl f_4)), (q_0, .inr (5, [.int x_1, .ref q_4, .ref q_5, .ref q_1, .ref q_3, .ref q_2, .ref q_6, .ref q_7, .ref q_8, .ref q_9, .ref q_10, .ref q_11, .ref q_12, .int (y71 + r80), .int y72])), (q_2, .inl (k 0, 400, .inl f_5)), (q_3, .inl (k 0, 400, .inl f_6))] := hD
          refine lv_aload_n hx hb dX5_sumDay_51 rfl (lv_at hl 2 rfl) ?_
          refine lv_dup hx hb dX5_sumDay_52 rfl ?_
          refine va_get (D := D) (ci := 5) (v := .int y72) (C := RX5) (T := TX5) (N := 15) hx hb hts inX5 hown hK hP 1 rfl rfl 14 (by decide) (hts _ kF_X5_72) (fun _ h9 => h9) rfl dX5_sumDay_53 ?_
          refine lv_aload_n hx hb dX5_sumDay_56 rfl (lv_at hl 2 rfl) ?_
          refine lv_iload_n hx hb dX5_sumDay_57 rfl (lv_at hl 1 rfl) ?_
          refine z_bi (wr := [(q_1, .inl (k 0, 400, .inl f_4))]) (z_runV (C := RX5) (As := [.int y69]) (rest := [.int y72, .ref q_0]) C0 (s_X5_numberOf_10 l D k q_0 q_2 q_3 q_4 q_5 q_1 q_6 q_7 q_8 q_9 q_10 q_11 q_12 y69 x_1 (y71 + r80) y72 f_5 f_6 (by revert hN74 hy69 c75 h_x_1; simp only [vp_in_iff, Int32.lt_iff_toInt_lt, Int32.le_iff_toInt_le, Int64.lt_iff_toInt_lt, Int64.le_iff_toInt_le, Int32.toInt_toInt64, ← Int32.toInt_inj, ← Int64.toInt_inj, Int32.reduceToInt, Int64.reduceToInt] <;> omega) (by revert h_x_1 c75 hN74 hy69; simp only [vp_in_iff, Int32.lt_iff_toInt_lt, Int32.le_iff_toInt_le, Int64.lt_iff_toInt_lt, Int64.le_iff_toInt_le, Int32.toInt_toInt64, ← Int32.toInt_inj, ← Int64.toInt_inj, Int32.reduceToInt, Int64.reduceToInt] <;> omega) _) okV_X5_numberOf kM_X5_62 rfl (z_pV (q0 := 1) hK hN hP hD [1, 2, 3] rfl rfl rfl rfl rfl) rfl hl.1 rfl (Nat.le_of_ble_eq_true rfl) dX5_sumDay_58 rfl) hP hD hS hA [1, 2, 3] [0] rfl rfl rfl rfl (fun r81 u81 H locs hw81 hP hD hS => ?_)
          obtain ⟨i81, a81, v81, w81, f81, g81, o81⟩ := u81
          dsimp only at hw81
          obtain rfl := hw81
          have hP : va_P D vwCl [(q_1, .inl (k 0, 400, .inl f_4)), (q_0, .inr (5, [.int x_1, .ref q_4, .ref q_5, .ref q_1, .ref q_3, .ref q_2, .ref q_6, .ref q_7, .ref q_8, .ref q_9, .ref q_10, .ref q_11, .ref q_12, .int (y71 + r80), .int y72])), (q_2, .inl (k 0, 400, .inl f_5)), (q_3, .inl (k 0, 400, .inl f_6))] H := hP
          have hD : va_D A [(q_1, .inl (k 0, 400, .inl f_4)), (q_0, .inr (5, [.int x_1, .ref q_4, .ref q_5, .ref q_1, .ref q_3, .ref q_2, .ref q_6, .ref q_7, .ref q_8, .ref q_9, .ref q_10, .ref q_11, .ref q_12, .int (y71 + r80), .int y72])), (q_2, .inl (k 0, 400, .inl f_5)), (q_3, .inl (k 0, 400, .inl f_6))] := hD
          refine lv_iload_n hx hb dX5_sumDay_61 rfl (lv_at hl 0 rfl) ?_
          refine lv_imul hx hb dX5_sumDay_62 ?_
          refine lv_iadd hx hb dX5_sumDay_63 ?_
          refine va_put (D := D) (ci := 5) (v := .int (y72 + (r81 * (y70 + 1)))) (ty := .int) (C := RX5) (T := TX5) (N := 15) hx hb hts inX5 tyX5 tyX5_ok nmX5 hown hK hP hD hS 1 rfl rfl 14 (by decide) (hts _ kF_X5_72) (fun _ h9 => h9) rfl (by decide +kernel) rfl rfl (Nat.le_of_ble_eq_true rfl) dX5_sumDay_64 (fun H locs hP hD hS => ?_)
          have hP : va_P D vwCl [(q_1, .inl (k 0, 400, .inl f_4)), (q_0, .inr (5, [.int x_1, .ref q_4, .ref q_5, .ref q_1, .ref q_3, .ref q_2, .ref q_6, .ref q_7, .ref q_8, .ref q_9, .ref q_10, .ref q_11, .ref q_12, .int (y71 + r80), .int (y72 + (r81 * (y70 + 1)))])), (q_2, .inl (k 0, 400, .inl f_5)), (q_3, .inl (k 0, 400, .inl f_6))] H := hP
          have hD : va_D A [(q_1, .inl (k 0, 400, .inl f_4)), (q_0, .inr (5, [.int x_1, .ref q_4, .ref q_5, .ref q_1, .ref q_3, .ref q_2, .ref q_6, .ref q_7, .ref q_8, .ref q_9, .ref q_10, .ref q_11, .ref q_12, .int (y71 + r80), .int (y72 + (r81 * (y70 + 1)))])), (q_2, .inl (k 0, 400, .inl f_5)), (q_3, .inl (k 0, 400, .inl f_6))] := hD
          have e82 : Int32.toInt (y69 + 1) = Int32.toInt y69 + Int32.toInt (1 : Int32) := zi_add (by revert hN74 hy69 c75 h_x_1; simp only [vp_in_iff, Int32.lt_iff_toInt_lt, Int32.le_iff_toInt_le, Int64.lt_iff_toInt_lt, Int64.le_iff_toInt_le, Int32.toInt_toInt64, ← Int32.toInt_inj, ← Int64.toInt_inj, Int32.reduceToInt, Int64.reduceToInt] <;> omega)
          refine lv_iinc (v := (y69 + 1)) (lv' := [(3, .int (y69 + 1)), (2, .int (y70 + 1)), (0, .ref q_0), (1, .int x_0)]) hx hb dX5_sumDay_67 hl (k := 1) rfl rfl (by decide) rfl (fun ls hl => ?_)
          refine lv_goto (tgt := 14) hx hb dX5_sumDay_70 (by decide) ?_
          exact ihN74 (y69 + 1) (y70 + 1) (y71 + r80) (y72 + (r81 * (y70 + 1))) _ _ ls (by revert hN74 hy69 c75 e82 h_x_1; simp only [vp_in_iff, Int32.lt_iff_toInt_lt, Int32.le_iff_toInt_le, Int64.lt_iff_toInt_lt, Int64.le_iff_toInt_le, Int32.toInt_toInt64, ← Int32.toInt_inj, ← Int64.toInt_inj, Int32.reduceToInt, Int64.reduceToInt] <;> omega) (by revert hN74 hy69 c75 e82 h_x_1; simp only [vp_in_iff, Int32.lt_iff_toInt_lt, Int32.le_iff_toInt_le, Int64.lt_iff_toInt_lt, Int64.le_iff_toInt_le, Int32.toInt_toInt64, ← Int32.toInt_inj, ← Int64.toInt_inj, Int32.reduceToInt, Int64.reduceToInt] <;> omega) (z_sub hP [1, 0, 2, 3] rfl) (hD.sub [1, 0, 2, 3] rfl rfl) hS (lv_sub hl [0, 1, 2, 3] rfl)
  exact loop73 _ 0 0 0 0 _ _ _ (Nat.lt_succ_self _) (by simp only [vp_in_iff, Int32.lt_iff_toInt_lt, Int32.le_iff_toInt_le, Int64.lt_iff_toInt_lt, Int64.le_iff_toInt_le, Int32.toInt_toInt64, ← Int32.toInt_inj, ← Int64.toInt_inj, Int32.reduceToInt, Int64.reduceToInt] <;> omega) hP hD hS (lv_sub hl [0, 1, 2, 3] rfl)

set_option maxHeartbeats 4000000 in
set_option maxRecDepth 100000 in
theorem s_X5_sealDay_1 (l : Launch) (D : va_G) (k : Nat → ClassId) (q_0 : Nat) (q_1 : Nat) (q_2 : Nat) (q_3 : Nat) (q_4 : Nat) (q_5 : Nat) (q_6 : Nat) (q_7 : Nat) (q_8 : Nat) (q_9 : Nat) (q_10 : Nat) (q_11 : Nat) (q_12 : Nat) (x_0 : Int32) (x_1 : Int32) (x_2 : Int32) (x_3 : Int32) (f_4 : Nat → Int32) (f_5 : Nat → Int32) (f_6 : Nat → Int32) (f_7 : Nat → Int32) (f_8 : Nat → Int32) (f_9 : Nat → Int32) (h_x_0 : 0 ≤ Int32.toInt x_0 ∧ Int32.toInt x_0 ≤ 399) (h_x_1 : 0 ≤ Int32.toInt x_1 ∧ Int32.toInt x_1 ≤ 400) (h_f_4 : zR f_4 0 799) : zMi l yX5_sealDay cX5_sealDay 2 (some .int) ({ frames := 2, cells := 0, slots := 0, locals := 44 }) D k [.ref q_0, .int x_0] [(q_0, .inr (5, [.int x_1, .ref q_7, .ref q_8, .ref q_1, .ref q_3, .ref q_2, .ref q_9, .ref q_10, .ref q_11, .ref q_12, .ref q_4, .ref q_5, .ref q_6, .int x_2, .int x_3])), (q_1, .inl (k 0, 400, .inl f_4)), (q_2, .inl (k 0, 400, .inl f_5)), (q_3, .inl (k 0, 400, .inl f_6)), (q_4, .inl (k 0, 400, .inl f_7)), (q_5, .inl (k 0, 400, .inl f_8)), (q_6, .inl (k 0, 400, .inl f_9))] (fun r u => u.1 = 0) (fun u => [(q_0, .inr (5, [.int x_1, .ref q_7, .ref q_8, .ref q_1, .ref q_3, .ref q_2, .ref q_9, .ref q_10, .ref q_11, .ref q_12, .ref q_4, .ref q_5, .ref q_6, .int (u.2.2.1 0), .int (u.2.2.1 1)])), (q_1, .inl (k 0, 400, .inl f_4)), (q_2, .inl (k 0, 400, .inl f_5)), (q_3, .inl (k 0, 400, .inl f_6)), (q_4, .inl (k 0, 400, .inl (u.2.2.2.2.1 0))), (q_5, .inl (k 0, 400, .inl (u.2.2.2.2.1 1))), (q_6, .inl (k 0, 400, .inl (u.2.2.2.2.1 2)))]) := by
  refine zMi_of (own := RX5) (by decide +kernel) rfl (Nat.le_of_ble_eq_true rfl) ?_
  intro p e s m args below meth c A ls C0 hr hlk hin hP hD hS hA hK hN hl
  have hx := C0.1
  have hb := C0.2.1
  have hml := C0.2.2.1
  have hown := C0.2.2.2.1
  have hts := C0.2.2.2.2
  have hl : lv_has ls 2 [(0, .ref q_0), (1, .int x_0)] := hl
  have hP : va_P D vwCl [(q_0, .inr (5, [.int x_1, .ref q_7, .ref q_8, .ref q_1, .ref q_3, .ref q_2, .ref q_9, .ref q_10, .ref q_11, .ref q_12, .ref q_4, .ref q_5, .ref q_6, .int x_2, .int x_3])), (q_1, .inl (k 0, 400, .inl f_4)), (q_2, .inl (k 0, 400, .inl f_5)), (q_3, .inl (k 0, 400, .inl f_6)), (q_4, .inl (k 0, 400, .inl f_7)), (q_5, .inl (k 0, 400, .inl f_8)), (q_6, .inl (k 0, 400, .inl f_9))] s.heap := hP
  refine lv_aload_n hx hb dX5_sealDay_0 rfl (lv_at hl 0 rfl) ?_
  refine va_get (D := D) (ci := 5) (v := .ref q_4) (C := RX5) (T := TX5) (N := 15) hx hb hts inX5 hown hK hP 0 rfl rfl 10 (by decide) (hts _ kF_X5_39) (fun _ h9 => h9) rfl dX5_sealDay_1 ?_
  refine lv_iload_n hx hb dX5_sealDay_4 rfl (lv_at hl 1 rfl) ?_
  refine lv_aload_n hx hb dX5_sealDay_5 rfl (lv_at hl 0 rfl) ?_
  refine lv_iload_n hx hb dX5_sealDay_6 rfl (lv_at hl 1 rfl) ?_
  refine z_bi (wr := [(q_4, .inl (k 0, 400, .inl f_7)), (q_5, .inl (k 0, 400, .inl f_8)), (q_6, .inl (k 0, 400, .inl f_9))]) (z_runV (C := RX5) (As := [.int x_0]) (rest := [.int x_0, .ref q_4]) C0 (s_X5_sumDay_1 l D k q_0 q_1 q_2 q_3 q_7 q_8 q_9 q_10 q_11 q_12 q_4 q_5 q_6 x_0 x_1 x_2 x_3 f_4 f_5 f_6 (by revert h_x_1; simp only [vp_in_iff, Int32.lt_iff_toInt_lt, Int32.le_iff_toInt_le, Int64.lt_iff_toInt_lt, Int64.le_iff_toInt_le, Int32.toInt_toInt64, ← Int32.toInt_inj, ← Int64.toInt_inj, Int32.reduceToInt, Int64.reduceToInt] <;> omega) h_f_4 _) okV_X5_sumDay kM_X5_66 rfl (z_pV (q0 := 0) hK hN hP hD [0, 1, 2, 3] rfl rfl rfl rfl rfl) rfl hl.1 rfl (Nat.le_of_ble_eq_true rfl) dX5_sealDay_7 rfl) hP hD hS hA [0, 1, 2, 3] [4, 5, 6] rfl rfl rfl rfl (fun r1 u1 H locs hw1 hP hD hS => ?_)
  obtain ⟨i1, a1, v1, w1, f1, g1, o1⟩ := u1
  dsimp only at hw1
  obtain rfl := hw1
  have hP : va_P D vwCl [(q_4, .inl (k 0, 400, .inl f_7)), (q_5, .inl (k 0, 400, .inl f_8)), (q_6, .inl (k 0, 400, .inl f_9)), (q_0, .inr (5, [.int x_1, .ref q_7, .ref q_8, .ref q_1, .ref q_3, .ref q_2, .ref q_9, .ref q_10, .ref q_11, .ref q_12, .ref q_4, .ref q_5, .ref q_6, .int (v1 0), .int (v1 1)])), (q_1, .inl (k 0, 400, .inl f_4)), (q_2, .inl (k 0, 400, .inl f_5)), (q_3, .inl (k 0, 400, .inl f_6))] H := hP
  have hD : va_D A [(q_4, .inl (k 0, 400, .inl f_7)), (q_5, .inl (k 0, 400, .inl f_8)), (q_6, .inl (k 0, 400, .inl f_9)), (q_0, .inr (5, [.int x_1, .ref q_7, .ref q_8, .ref q_1, .ref q_3, .ref q_2, .ref q_9, .ref q_10, .ref q_11, .ref q_12, .ref q_4, .ref q_5, .ref q_6, .int (v1 0), .int (v1 1)])), (q_1, .inl (k 0, 400, .inl f_4)), (q_2, .inl (k 0, 400, .inl f_5)), (q_3, .inl (k 0, 400, .inl f_6))] := hD
  refine va_iast hx hb hK hP hD hS 0 0 rfl rfl (by revert h_x_0; simp only [vp_in_iff, Int32.lt_iff_toInt_lt, Int32.le_iff_toInt_le, Int64.lt_iff_toInt_lt, Int64.le_iff_toInt_le, Int32.toInt_toInt64, ← Int32.toInt_inj, ← Int64.toInt_inj, Int32.reduceToInt, Int64.reduceToInt] <;> omega) dX5_sealDay_10 (fun H locs hP hD hS => ?_)
  obtain ⟨F2, eF2⟩ : ∃ q, q = upd f_7 (Int32.toNatClampNeg x_0) r1 := ⟨_, rfl⟩
  have hP : va_P D vwCl [(q_4, .inl (k 0, 400, .inl F2)), (q_5, .inl (k 0, 400, .inl f_8)), (q_6, .inl (k 0, 400, .inl f_9)), (q_0, .inr (5, [.int x_1, .ref q_7, .ref q_8, .ref q_1, .ref q_3, .ref q_2, .ref q_9, .ref q_10, .ref q_11, .ref q_12, .ref q_4, .ref q_5, .ref q_6, .int (v1 0), .int (v1 1)])), (q_1, .inl (k 0, 400, .inl f_4)), (q_2, .inl (k 0, 400, .inl f_5)), (q_3, .inl (k 0, 400, .inl f_6))] H := by rw [eF2]; exact hP
  have hD : va_D A [(q_4, .inl (k 0, 400, .inl F2)), (q_5, .inl (k 0, 400, .inl f_8)), (q_6, .inl (k 0, 400, .inl f_9)), (q_0, .inr (5, [.int x_1, .ref q_7, .ref q_8, .ref q_1, .ref q_3, .ref q_2, .ref q_9, .ref q_10, .ref q_11, .ref q_12, .ref q_4, .ref q_5, .ref q_6, .int (v1 0), .int (v1 1)])), (q_1, .inl (k 0, 400, .inl f_4)), (q_2, .inl (k 0, 400, .inl f_5)), (q_3, .inl (k 0, 400, .inl f_6))] := by rw [eF2]; exact hD
  refine lv_aload_n hx hb dX5_sealDay_11 rfl (lv_at hl 0 rfl) ?_
  refine va_get (D := D) (ci := 5) (v := .ref q_5) (C := RX5) (T := TX5) (N := 15) hx hb hts inX5 hown hK hP 3 rfl rfl 11 (by decide) (hts _ kF_X5_42) (fun _ h9 => h9) rfl dX5_sealDay_12 ?_
  refine lv_iload_n hx hb dX5_sealDay_15 rfl (lv_at hl 1 rfl) ?_
  refine lv_aload_n hx hb dX5_sealDay_16 rfl (lv_at hl 0 rfl) ?_
  refine va_get (D := D) (ci := 5) (v := .int (v1 0)) (C := RX5) (T := TX5) (N := 15) hx hb hts inX5 hown hK hP 3 rfl rfl 13 (by decide) (hts _ kF_X5_69) (fun _ h9 => h9) rfl dX5_sealDay_17 ?_
  refine va_iast hx hb hK hP hD hS 1 0 rfl rfl (by revert h_x_0; simp only [vp_in_iff, Int32.lt_iff_toInt_lt, Int32.le_iff_toInt_le, Int64.lt_iff_toInt_lt, Int64.le_iff_toInt_le, Int32.toInt_toInt64, ← Int32.toInt_inj, ← Int64.toInt_inj, Int32.reduceToInt, Int64.reduceToInt] <;> omega) dX5_sealDay_20 (fun H locs hP hD hS => ?_)
  obtain ⟨F3, eF3⟩ : ∃ q, q = upd f_8 (Int32.toNatClampNeg x_0) (v1 0) := ⟨_, rfl⟩
  have hP : va_P D vwCl [(q_4, .inl (k 0, 400, .inl F2)), (q_5, .inl (k 0, 400, .inl F3)), (q_6, .inl (k 0, 400, .inl f_9)), (q_0, .inr (5, [.int x_1, .ref q_7, .ref q_8, .ref q_1, .ref q_3, .ref q_2, .ref q_9, .ref q_10, .ref q_11, .ref q_12, .ref q_4, .ref q_5, .ref q_6, .int (v1 0), .int (v1 1)])), (q_1, .inl (k 0, 400, .inl f_4)), (q_2, .inl (k 0, 400, .inl f_5)), (q_3, .inl (k 0, 400, .inl f_6))] H := by rw [eF3]; exact hP
  have hD : va_D A [(q_4, .inl (k 0, 400, .inl F2)), (q_5, .inl (k 0, 400, .inl F3)), (q_6, .inl (k 0, 400, .inl f_9)), (q_0, .inr (5, [.int x_1, .ref q_7, .ref q_8, .ref q_1, .ref q_3, .ref q_2, .ref q_9, .ref q_10, .ref q_11, .ref q_12, .ref q_4, .ref q_5, .ref q_6, .int (v1 0), .int (v1 1)])), (q_1, .inl (k 0, 400, .inl f_4)), (q_2, .inl (k 0, 400, .inl f_5)), (q_3, .inl (k 0, 400, .inl f_6))] := by rw [eF3]; exact hD
  refine lv_aload_n hx hb dX5_sealDay_21 rfl (lv_at hl 0 rfl) ?_
  refine va_get (D := D) (ci := 5) (v := .ref q_6) (C := RX5) (T := TX5) (N := 15) hx hb hts inX5 hown hK hP 3 rfl rfl 12 (by decide) (hts _ kF_X5_45) (fun _ h9 => h9) rfl dX5_sealDay_22 ?_
  refine lv_iload_n hx hb dX5_sealDay_25 rfl (lv_at hl 1 rfl) ?_
  refine lv_aload_n hx hb dX5_sealDay_26 rfl (lv_at hl 0 rfl) ?_
  refine va_get (D := D) (ci := 5) (v := .int (v1 1)) (C := RX5) (T := TX5) (N := 15) hx hb hts inX5 hown hK hP 3 rfl rfl 14 (by decide) (hts _ kF_X5_72) (fun _ h9 => h9) rfl dX5_sealDay_27 ?_
  refine va_iast hx hb hK hP hD hS 2 0 rfl rfl (by revert h_x_0; simp only [vp_in_iff, Int32.lt_iff_toInt_lt, Int32.le_iff_toInt_le, Int64.lt_iff_toInt_lt, Int64.le_iff_toInt_le, Int32.toInt_toInt64, ← Int32.toInt_inj, ← Int64.toInt_inj, Int32.reduceToInt, Int64.reduceToInt] <;> omega) dX5_sealDay_30 (fun H locs hP hD hS => ?_)
  obtain ⟨F4, eF4⟩ : ∃ q, q = upd f_9 (Int32.toNatClampNeg x_0) (v1 1) := ⟨_, rfl⟩
  have hP : va_P D vwCl [(q_4, .inl (k 0, 400, .inl F2)), (q_5, .inl (k 0, 400, .inl F3)), (q_6, .inl (k 0, 400, .inl F4)), (q_0, .inr (5, [.int x_1, .ref q_7, .ref q_8, .ref q_1, .ref q_3, .ref q_2, .ref q_9, .ref q_10, .ref q_11, .ref q_12, .ref q_4, .ref q_5, .ref q_6, .int (v1 0), .int (v1 1)])), (q_1, .inl (k 0, 400, .inl f_4)), (q_2, .inl (k 0, 400, .inl f_5)), (q_3, .inl (k 0, 400, .inl f_6))] H := by rw [eF4]; exact hP
  have hD : va_D A [(q_4, .inl (k 0, 400, .inl F2)), (q_5, .inl (k 0, 400, .inl F3)), (q_6, .inl (k 0, 400, .inl F4)), (q_0, .inr (5, [.int x_1, .ref q_7, .ref q_8, .ref q_1, .ref q_3, .ref q_2, .ref q_9, .ref q_10, .ref q_11, .ref q_12, .ref q_4, .ref q_5, .ref q_6, .int (v1 0), .int (v1 1)])), (q_1, .inl (k 0, 400, .inl f_4)), (q_2, .inl (k 0, 400, .inl f_5)), (q_3, .inl (k 0, 400, .inl f_6))] := by rw [eF4]; exact hD
  refine lv_aload_n hx hb dX5_sealDay_31 rfl (lv_at hl 0 rfl) ?_
  refine va_get (D := D) (ci := 5) (v := .ref q_4) (C := RX5) (T := TX5) (N := 15) hx hb hts inX5 hown hK hP 3 rfl rfl 10 (by decide) (hts _ kF_X5_39) (fun _ h9 => h9) rfl dX5_sealDay_32 ?_
  refine lv_iload_n hx hb dX5_sealDay_35 rfl (lv_at hl 1 rfl) ?_
  refine va_iald hx hb hK hP 0 0 rfl rfl (by revert h_x_0; simp only [vp_in_iff, Int32.lt_iff_toInt_lt, Int32.le_iff_toInt_le, Int64.lt_iff_toInt_lt, Int64.le_iff_toInt_le, Int32.toInt_toInt64, ← Int32.toInt_inj, ← Int64.toInt_inj, Int32.reduceToInt, Int64.reduceToInt] <;> omega) dX5_sealDay_36 ?_
  refine lv_topi (fun y5 ey5 => ?_)
  exact z_iret C0 hr hlk rfl hK hP hD hS (0, fun _ => 0, fun i => [(v1 0), (v1 1)].getD i 0, fun _ => 0, fun i => [F2, F3, F4].getD i (fun _ => 0), fun _ => (fun _ => 0), fun _ => (fun _ => none)) rfl [3, 4, 5, 6, 0, 1, 2] rfl rfl rfl dX5_sealDay_37

set_option maxHeartbeats 4000000 in
set_option maxRecDepth 100000 in
theorem s_X11_seal_1 (l : Launch) (D : va_G) (k : Nat → ClassId) (q_0 : Nat) (q_1 : Nat) (q_2 : Nat) (q_3 : Nat) (q_4 : Nat) (q_5 : Nat) (q_6 : Nat) (q_7 : Nat) (q_8 : Nat) (q_9 : Nat) (q_10 : Nat) (q_11 : Nat) (q_12 : Nat) (q_13 : Nat) (q_14 : Nat) (q_15 : Nat) (q_16 : Nat) (q_17 : Nat) (q_18 : Nat) (q_19 : Nat) (q_20 : Nat) (q_21 : Nat) (q_22 : Nat) (q_23 : Nat) (x_0 : Int32) (x_1 : Int32) (x_2 : Int32) (x_3 : Int32) (x_4 : Int32) (f_5 : Nat → Int32) (f_6 : Nat → Int32) (f_7 : Nat → Int32) (f_8 : Nat → Int32) (f_9 : Nat → Int32) (f_10 : Nat → Int32) (h_x_2 : 0 ≤ Int32.toInt x_2 ∧ Int32.toInt x_2 ≤ 400) (h_f_5 : zR f_5 0 799) : zMi l yX11_seal cX11_seal 2 (some .int) ({ frames := 3, cells := 0, slots := 0, locals := 65 }) D k [.ref q_0, .int x_0] [(q_0, .inr (11, [.ref q_1, .ref q_9, .ref q_10, .ref q_11, .ref q_12, .int x_1])), (q_1, .inr (3, [.ref q_13, .ref q_14, .ref q_2, .ref q_15, .ref q_16, .ref q_17])), (q_2, .inr (5, [.int x_2, .ref q_18, .ref q_19, .ref q_3, .ref q_5, .ref q_4, .ref q_20, .ref q_21, .ref q_22, .ref q_23, .ref q_6, .ref q_7, .ref q_8, .int x_3, .int x_4])), (q_3, .inl (k 0, 400, .inl f_5)), (q_4, .inl (k 0, 400, .inl f_6)), (q_5, .inl (k 0, 400, .inl f_7)), (q_6, .inl (k 0, 400, .inl f_8)), (q_7, .inl (k 0, 400, .inl f_9)), (q_8, .inl (k 0, 400, .inl f_10))] (fun r u => u.1 = 0) (fun u => [(q_0, .inr (11, [.ref q_1, .ref q_9, .ref q_10, .ref q_11, .ref q_12, .int (u.2.2.1 0)])), (q_1, .inr (3, [.ref q_13, .ref q_14, .ref q_2, .ref q_15, .ref q_16, .ref q_17])), (q_2, .inr (5, [.int x_2, .ref q_18, .ref q_19, .ref q_3, .ref q_5, .ref q_4, .ref q_20, .ref q_21, .ref q_22, .ref q_23, .ref q_6, .ref q_7, .ref q_8, .int (u.2.2.1 1), .int (u.2.2.1 2)])), (q_3, .inl (k 0, 400, .inl f_5)), (q_4, .inl (k 0, 400, .inl f_6)), (q_5, .inl (k 0, 400, .inl f_7)), (q_6, .inl (k 0, 400, .inl (u.2.2.2.2.1 0))), (q_7, .inl (k 0, 400, .inl (u.2.2.2.2.1 1))), (q_8, .inl (k 0, 400, .inl (u.2.2.2.2.1 2)))]) := by
  refine zMi_of (own := RX11) (by decide +kernel) rfl (Nat.le_of_ble_eq_true rfl) ?_
  intro p e s m args below meth c A ls C0 hr hlk hin hP hD hS hA hK hN hl
  have hx := C0.1
  have hb := C0.2.1
  have hml := C0.2.2.1
  have hown := C0.2.2.2.1
  have hts := C0.2.2.2.2
  have hl : lv_has ls 2 [(0, .ref q_0), (1, .int x_0)] := hl
  have hP : va_P D vwCl [(q_0, .inr (11, [.ref q_1, .ref q_9, .ref q_10, .ref q_11, .ref q_12, .int x_1])), (q_1, .inr (3, [.ref q_13, .ref q_14, .ref q_2, .ref q_15, .ref q_16, .ref q_17])), (q_2, .inr (5, [.int x_2, .ref q_18, .ref q_19, .ref q_3, .ref q_5, .ref q_4, .ref q_20, .ref q_21, .ref q_22, .ref q_23, .ref q_6, .ref q_7, .ref q_8, .int x_3, .int x_4])), (q_3, .inl (k 0, 400, .inl f_5)), (q_4, .inl (k 0, 400, .inl f_6)), (q_5, .inl (k 0, 400, .inl f_7)), (q_6, .inl (k 0, 400, .inl f_8)), (q_7, .inl (k 0, 400, .inl f_9)), (q_8, .inl (k 0, 400, .inl f_10))] s.heap := hP
  refine lv_iload_n hx hb dX11_seal_0 rfl (lv_at hl 1 rfl) ?_
  refine z_bi0 (z_runS (As := [.int x_0]) (rest := []) C0 (s_X11_isNoDay_1 l D k x_0 _) okS_X11_isNoDay kM_X11_72 rfl (z_p0 hK hN) rfl hl.1 rfl (Nat.le_of_ble_eq_true rfl) dX11_seal_1 rfl) hP hS hA (fun r1 u1 H locs hw1 hP hS => ?_)
  obtain ⟨i1, a1, v1, w1, f1, g1, o1⟩ := u1
  dsimp only at hw1
  rcases hw1 with ⟨rfl, rfl, c1⟩ | ⟨rfl, rfl, c1⟩
  · refine lv_if_eq (tgt := 13) hx hb dX11_seal_4 (by decide) (fun c2 => absurd c2 (by decide)) (fun _ => ?_)
    refine lv_aload_n hx hb dX11_seal_7 rfl (lv_at hl 0 rfl) ?_
    refine lv_iconst (v := (-1)) hx hb dX11_seal_8 (by decide) ?_
    refine z_bi (wr := [(q_1, .inr (3, [.ref q_13, .ref q_14, .ref q_2, .ref q_15, .ref q_16, .ref q_17])), (q_2, .inr (5, [.int x_2, .ref q_18, .ref q_19, .ref q_3, .ref q_5, .ref q_4, .ref q_20, .ref q_21, .ref q_22, .ref q_23, .ref q_6, .ref q_7, .ref q_8, .int x_3, .int x_4])), (q_3, .inl (k 0, 400, .inl f_5)), (q_4, .inl (k 0, 400, .inl f_6)), (q_5, .inl (k 0, 400, .inl f_7)), (q_6, .inl (k 0, 400, .inl f_8)), (q_7, .inl (k 0, 400, .inl f_9)), (q_8, .inl (k 0, 400, .inl f_10))]) (z_runV (C := RX11) (As := [.int (-1)]) (rest := []) C0 (s_X11_answer_1 l D k q_0 q_1 q_9 q_10 q_11 q_12 (-1) x_1 _) okV_X11_answer kM_X11_55 rfl (z_pV (q0 := 0) hK hN hP hD [0] rfl rfl rfl rfl rfl) rfl hl.1 rfl (Nat.le_of_ble_eq_true rfl) dX11_seal_9 rfl) hP hD hS hA [0] [1, 2, 3, 4, 5, 6, 7, 8] rfl rfl rfl rfl (fun r3 u3 H locs hw3 hP hD hS => ?_)
    obtain ⟨i3, a3, v3, w3, f3, g3, o3⟩ := u3
    dsimp only at hw3
    obtain rfl := hw3
    have hP : va_P D vwCl [(q_1, .inr (3, [.ref q_13, .ref q_14, .ref q_2, .ref q_15, .ref q_16, .ref q_17])), (q_2, .inr (5, [.int x_2, .ref q_18, .ref q_19, .ref q_3, .ref q_5, .ref q_4, .ref q_20, .ref q_21, .ref q_22, .ref q_23, .ref q_6, .ref q_7, .ref q_8, .int x_3, .int x_4])), (q_3, .inl (k 0, 400, .inl f_5)), (q_4, .inl (k 0, 400, .inl f_6)), (q_5, .inl (k 0, 400, .inl f_7)), (q_6, .inl (k 0, 400, .inl f_8)), (q_7, .inl (k 0, 400, .inl f_9)), (q_8, .inl (k 0, 400, .inl f_10)), (q_0, .inr (11, [.ref q_1, .ref q_9, .ref q_10, .ref q_11, .ref q_12, .int (v3 0)]))] H := hP
    have hD : va_D A [(q_1, .inr (3, [.ref q_13, .ref q_14, .ref q_2, .ref q_15, .ref q_16, .ref q_17])), (q_2, .inr (5, [.int x_2, .ref q_18, .ref q_19, .ref q_3, .ref q_5, .ref q_4, .ref q_20, .ref q_21, .ref q_22, .ref q_23, .ref q_6, .ref q_7, .ref q_8, .int x_3, .int x_4])), (q_3, .inl (k 0, 400, .inl f_5)), (q_4, .inl (k 0, 400, .inl f_6)), (q_5, .inl (k 0, 400, .inl f_7)), (q_6, .inl (k 0, 400, .inl f_8)), (q_7, .inl (k 0, 400, .inl f_9)), (q_8, .inl (k 0, 400, .inl f_10)), (q_0, .inr (11, [.ref q_1, .ref q_9, .ref q_10, .ref q_11, .ref q_12, .int (v3 0)]))] := hD
    exact z_iret C0 hr hlk rfl hK hP hD hS (0, fun _ => 0, fun i => [(v3 0), x_3, x_4].getD i 0, fun _ => 0, fun i => [f_8, f_9, f_10].getD i (fun _ => 0), fun _ => (fun _ => 0), fun _ => (fun _ => none)) rfl [8, 0, 1, 2, 3, 4, 5, 6, 7] rfl rfl rfl dX11_seal_12
  · refine lv_if_eq (tgt := 13) hx hb dX11_seal_4 (by decide) (fun _ => ?_) (fun c4 => absurd (by decide) c4)
    refine lv_aload_n hx hb dX11_seal_13 rfl (lv_at hl 0 rfl) ?_
    refine lv_aload_n hx hb dX11_seal_14 rfl (lv_at hl 0 rfl) ?_
    refine va_get (D := D) (ci := 11) (v := .ref q_1) (C := RX11) (T := TX11) (N := 6) hx hb hts inX11 hown hK hP 0 rfl rfl 0 (by decide) (hts _ kF_X11_12) (fun _ h9 => h9) rfl dX11_seal_15 ?_
    refine va_get (D := D) (ci := 3) (v := .ref q_2) (C := RX3) (T := TX3) (N := 6) hx hb hts inX3 hown hK hP 1 rfl rfl 2 (by decide) (hts _ kF_X11_137) (fun _ h9 => h9) rfl dX11_seal_18 ?_
    refine lv_iload_n hx hb dX11_seal_21 rfl (lv_at hl 1 rfl) ?_
    refine z_bi (wr := [(q_0, .inr (11, [.ref q_1, .ref q_9, .ref q_10, .ref q_11, .ref q_12, .int x_1])), (q_1, .inr (3, [.ref q_13, .ref q_14, .ref q_2, .ref q_15, .ref q_16, .ref q_17]))]) (z_runV (C := RX5) (As := [.int x_0]) (rest := [.ref q_0]) C0 (s_X5_sealDay_1 l D k q_2 q_3 q_4 q_5 q_6 q_7 q_8 q_18 q_19 q_20 q_21 q_22 q_23 x_0 x_2 x_3 x_4 f_5 f_6 f_7 f_8 f_9 f_10 (by revert c1; simp only [vp_in_iff, Int32.lt_iff_toInt_lt, Int32.le_iff_toInt_le, Int64.lt_iff_toInt_lt, Int64.le_iff_toInt_le, Int32.toInt_toInt64, ← Int32.toInt_inj, ← Int64.toInt_inj, Int32.reduceToInt, Int64.reduceToInt] <;> omega) (by revert h_x_2; simp only [vp_in_iff, Int32.lt_iff_toInt_lt, Int32.le_iff_toInt_le, Int64.lt_iff_toInt_lt, Int64.le_iff_toInt_le, Int32.toInt_toInt64, ← Int32.toInt_inj, ← Int64.toInt_inj, Int32.reduceToInt, Int64.reduceToInt] <;> omega) h_f_5 _) okV_X5_sealDay kM_X11_371 rfl (z_pV (q0 := 2) hK hN hP hD [2, 3, 4, 5, 6, 7, 8] rfl rfl rfl rfl rfl) rfl hl.1 rfl (Nat.le_of_ble_eq_true rfl) dX11_seal_22 rfl) hP hD hS hA [2, 3, 4, 5, 6, 7, 8] [0, 1] rfl rfl rfl rfl (fun r5 u5 H locs hw5 hP hD hS => ?_)
    obtain ⟨i5, a5, v5, w5, f5, g5, o5⟩ := u5
    dsimp only at hw5
    obtain rfl := hw5
    have hP : va_P D vwCl [(q_0, .inr (11, [.ref q_1, .ref q_9, .ref q_10, .ref q_11, .ref q_12, .int x_1])), (q_1, .inr (3, [.ref q_13, .ref q_14, .ref q_2, .ref q_15, .ref q_16, .ref q_17])), (q_2, .inr (5, [.int x_2, .ref q_18, .ref q_19, .ref q_3, .ref q_5, .ref q_4, .ref q_20, .ref q_21, .ref q_22, .ref q_23, .ref q_6, .ref q_7, .ref q_8, .int (v5 0), .int (v5 1)])), (q_3, .inl (k 0, 400, .inl f_5)), (q_4, .inl (k 0, 400, .inl f_6)), (q_5, .inl (k 0, 400, .inl f_7)), (q_6, .inl (k 0, 400, .inl (f5 0))), (q_7, .inl (k 0, 400, .inl (f5 1))), (q_8, .inl (k 0, 400, .inl (f5 2)))] H := hP
    have hD : va_D A [(q_0, .inr (11, [.ref q_1, .ref q_9, .ref q_10, .ref q_11, .ref q_12, .int x_1])), (q_1, .inr (3, [.ref q_13, .ref q_14, .ref q_2, .ref q_15, .ref q_16, .ref q_17])), (q_2, .inr (5, [.int x_2, .ref q_18, .ref q_19, .ref q_3, .ref q_5, .ref q_4, .ref q_20, .ref q_21, .ref q_22, .ref q_23, .ref q_6, .ref q_7, .ref q_8, .int (v5 0), .int (v5 1)])), (q_3, .inl (k 0, 400, .inl f_5)), (q_4, .inl (k 0, 400, .inl f_6)), (q_5, .inl (k 0, 400, .inl f_7)), (q_6, .inl (k 0, 400, .inl (f5 0))), (q_7, .inl (k 0, 400, .inl (f5 1))), (q_8, .inl (k 0, 400, .inl (f5 2)))] := hD
    refine z_bi (wr := [(q_1, .inr (3, [.ref q_13, .ref q_14, .ref q_2, .ref q_15, .ref q_16, .ref q_17])), (q_2, .inr (5, [.int x_2, .ref q_18, .ref q_19, .ref q_3, .ref q_5, .ref q_4, .ref q_20, .ref q_21, .ref q_22, .ref q_23, .ref q_6, .ref q_7, .ref q_8, .int (v5 0), .int (v5 1)])), (q_3, .inl (k 0, 400, .inl f_5)), (q_4, .inl (k 0, 400, .inl f_6)), (q_5, .inl (k 0, 400, .inl f_7)), (q_6, .inl (k 0, 400, .inl (f5 0))), (q_7, .inl (k 0, 400, .inl (f5 1))), (q_8, .inl (k 0, 400, .inl (f5 2)))]) (z_runV (C := RX11) (As := [.int r5]) (rest := []) C0 (s_X11_answer_1 l D k q_0 q_1 q_9 q_10 q_11 q_12 r5 x_1 _) okV_X11_answer kM_X11_55 rfl (z_pV (q0 := 0) hK hN hP hD [0] rfl rfl rfl rfl rfl) rfl hl.1 rfl (Nat.le_of_ble_eq_true rfl) dX11_seal_25 rfl) hP hD hS hA [0] [1, 2, 3, 4, 5, 6, 7, 8] rfl rfl rfl rfl (fun r6 u6 H locs hw6 hP hD hS => ?_)
    obtain ⟨i6, a6, v6, w6, f6, g6, o6⟩ := u6
    dsimp only at hw6
    obtain rfl := hw6
    have hP : va_P D vwCl [(q_1, .inr (3, [.ref q_13, .ref q_14, .ref q_2, .ref q_15, .ref q_16, .ref q_17])), (q_2, .inr (5, [.int x_2, .ref q_18, .ref q_19, .ref q_3, .ref q_5, .ref q_4, .ref q_20, .ref q_21, .ref q_22, .ref q_23, .ref q_6, .ref q_7, .ref q_8, .int (v5 0), .int (v5 1)])), (q_3, .inl (k 0, 400, .inl f_5)), (q_4, .inl (k 0, 400, .inl f_6)), (q_5, .inl (k 0, 400, .inl f_7)), (q_6, .inl (k 0, 400, .inl (f5 0))), (q_7, .inl (k 0, 400, .inl (f5 1))), (q_8, .inl (k 0, 400, .inl (f5 2))), (q_0, .inr (11, [.ref q_1, .ref q_9, .ref q_10, .ref q_11, .ref q_12, .int (v6 0)]))] H := hP
    have hD : va_D A [(q_1, .inr (3, [.ref q_13, .ref q_14, .ref q_2, .ref q_15, .ref q_16, .ref q_17])), (q_2, .inr (5, [.int x_2, .ref q_18, .ref q_19, .ref q_3, .ref q_5, .ref q_4, .ref q_20, .ref q_21, .ref q_22, .ref q_23, .ref q_6, .ref q_7, .ref q_8, .int (v5 0), .int (v5 1)])), (q_3, .inl (k 0, 400, .inl f_5)), (q_4, .inl (k 0, 400, .inl f_6)), (q_5, .inl (k 0, 400, .inl f_7)), (q_6, .inl (k 0, 400, .inl (f5 0))), (q_7, .inl (k 0, 400, .inl (f5 1))), (q_8, .inl (k 0, 400, .inl (f5 2))), (q_0, .inr (11, [.ref q_1, .ref q_9, .ref q_10, .ref q_11, .ref q_12, .int (v6 0)]))] := hD
    exact z_iret C0 hr hlk rfl hK hP hD hS (0, fun _ => 0, fun i => [(v6 0), (v5 0), (v5 1)].getD i 0, fun _ => 0, fun i => [(f5 0), (f5 1), (f5 2)].getD i (fun _ => 0), fun _ => (fun _ => 0), fun _ => (fun _ => none)) rfl [8, 0, 1, 2, 3, 4, 5, 6, 7] rfl rfl rfl dX11_seal_28

set_option maxHeartbeats 4000000 in
set_option maxRecDepth 100000 in
theorem s_X5_turnBits_1 (l : Launch) (D : va_G) (k : Nat → ClassId) (q_0 : Nat) (q_1 : Nat) (q_2 : Nat) (q_3 : Nat) (q_4 : Nat) (q_5 : Nat) (q_6 : Nat) (q_7 : Nat) (q_8 : Nat) (q_9 : Nat) (q_10 : Nat) (q_11 : Nat) (q_12 : Nat) (x_0 : Int32) (x_1 : Int32) (x_2 : Int32) (x_3 : Int32) (x_4 : Int32) (f_5 : Nat → Int32) (f_6 : Nat → Int32) (h_x_0 : 0 ≤ Int32.toInt x_0 ∧ Int32.toInt x_0 ≤ 399) (h_x_1 : 1 ≤ Int32.toInt x_1 ∧ Int32.toInt x_1 ≤ 7) (h_x_2 : 1 ≤ Int32.toInt x_2 ∧ Int32.toInt x_2 ≤ 400) : zMi l yX5_turnBits cX5_turnBits 4 (some .int) ({ frames := 1, cells := 0, slots := 0, locals := 21 }) D k [.ref q_0, .int x_0, .int x_1] [(q_0, .inr (5, [.int x_2, .ref q_3, .ref q_4, .ref q_5, .ref q_2, .ref q_1, .ref q_6, .ref q_7, .ref q_8, .ref q_9, .ref q_10, .ref q_11, .ref q_12, .int x_3, .int x_4])), (q_1, .inl (k 0, 400, .inl f_5)), (q_2, .inl (k 0, 400, .inl f_6))] (fun r u => u.1 = 0) (fun u => [(q_0, .inr (5, [.int x_2, .ref q_3, .ref q_4, .ref q_5, .ref q_2, .ref q_1, .ref q_6, .ref q_7, .ref q_8, .ref q_9, .ref q_10, .ref q_11, .ref q_12, .int x_3, .int x_4])), (q_1, .inl (k 0, 400, .inl (u.2.2.2.2.1 0))), (q_2, .inl (k 0, 400, .inl (u.2.2.2.2.1 1)))]) := by
  refine zMi_of (own := RX5) (by decide +kernel) rfl (Nat.le_of_ble_eq_true rfl) ?_
  intro p e s m args below meth c A ls C0 hr hlk hin hP hD hS hA hK hN hl
  have hx := C0.1
  have hb := C0.2.1
  have hml := C0.2.2.1
  have hown := C0.2.2.2.1
  have hts := C0.2.2.2.2
  have hl : lv_has ls 4 [(0, .ref q_0), (1, .int x_0), (2, .int x_1)] := hl
  have hP : va_P D vwCl [(q_0, .inr (5, [.int x_2, .ref q_3, .ref q_4, .ref q_5, .ref q_2, .ref q_1, .ref q_6, .ref q_7, .ref q_8, .ref q_9, .ref q_10, .ref q_11, .ref q_12, .int x_3, .int x_4])), (q_1, .inl (k 0, 400, .inl f_5)), (q_2, .inl (k 0, 400, .inl f_6))] s.heap := hP
  refine lv_aload_n hx hb dX5_turnBits_0 rfl (lv_at hl 0 rfl) ?_
  refine lv_iload_n hx hb dX5_turnBits_1 rfl (lv_at hl 1 rfl) ?_
  refine z_bi (wr := []) (z_runV (C := RX5) (As := [.int x_0]) (rest := []) C0 (s_X5_numberOf_10 l D k q_0 q_1 q_2 q_3 q_4 q_5 q_6 q_7 q_8 q_9 q_10 q_11 q_12 x_0 x_2 x_3 x_4 f_5 f_6 (by revert h_x_0; simp only [vp_in_iff, Int32.lt_iff_toInt_lt, Int32.le_iff_toInt_le, Int64.lt_iff_toInt_lt, Int64.le_iff_toInt_le, Int32.toInt_toInt64, ← Int32.toInt_inj, ← Int64.toInt_inj, Int32.reduceToInt, Int64.reduceToInt] <;> omega) (by revert h_x_2; simp only [vp_in_iff, Int32.lt_iff_toInt_lt, Int32.le_iff_toInt_le, Int64.lt_iff_toInt_lt, Int64.le_iff_toInt_le, Int32.toInt_toInt64, ← Int32.toInt_inj, ← Int64.toInt_inj, Int32.reduceToInt, Int64.reduceToInt] <;> omega) _) okV_X5_numberOf kM_X5_62 rfl (z_pV (q0 := 0) hK hN hP hD [0, 1, 2] rfl rfl rfl rfl rfl) rfl hl.1 rfl (Nat.le_of_ble_eq_true rfl) dX5_turnBits_2 rfl) hP hD hS hA [0, 1, 2] [] rfl rfl rfl rfl (fun r1 u1 H locs hw1 hP hD hS => ?_)
  obtain ⟨i1, a1, v1, w1, f1, g1, o1⟩ := u1
  dsimp only at hw1
  obtain rfl := hw1
  have hP : va_P D vwCl [(q_0, .inr (5, [.int x_2, .ref q_3, .ref q_4, .ref q_5, .ref q_2, .ref q_1, .ref q_6, .ref q_7, .ref q_8, .ref q_9, .ref q_10, .ref q_11, .ref q_12, .int x_3, .int x_4])), (q_1, .inl (k 0, 400, .inl f_5)), (q_2, .inl (k 0, 400, .inl f_6))] H := hP
  have hD : va_D A [(q_0, .inr (5, [.int x_2, .ref q_3, .ref q_4, .ref q_5, .ref q_2, .ref q_1, .ref q_6, .ref q_7, .ref q_8, .ref q_9, .ref q_10, .ref q_11, .ref q_12, .int x_3, .int x_4])), (q_1, .inl (k 0, 400, .inl f_5)), (q_2, .inl (k 0, 400, .inl f_6))] := hD
  refine lv_iload_n hx hb dX5_turnBits_5 rfl (lv_at hl 2 rfl) ?_
  refine lv_ixor hx hb dX5_turnBits_6 ?_
  refine lv_topi (fun y2 ey2 => ?_)
  refine lv_istore_n (lv' := [(3, .int y2), (0, .ref q_0), (1, .int x_0), (2, .int x_1)]) hx hb dX5_turnBits_7 rfl hl (by decide) rfl (fun ls hl => ?_)
  refine lv_aload_n hx hb dX5_turnBits_8 rfl (lv_at hl 1 rfl) ?_
  refine va_get (D := D) (ci := 5) (v := .ref q_2) (C := RX5) (T := TX5) (N := 15) hx hb hts inX5 hown hK hP 0 rfl rfl 4 (by decide) (hts _ kF_X5_21) (fun _ h9 => h9) rfl dX5_turnBits_9 ?_
  refine lv_iload_n hx hb dX5_turnBits_12 rfl (lv_at hl 2 rfl) ?_
  refine lv_iload_n hx hb dX5_turnBits_13 rfl (lv_at hl 0 rfl) ?_
  refine lv_bipush (v := 26) hx hb dX5_turnBits_14 (by decide) ?_
  refine lv_irem hx hb dX5_turnBits_16 (by decide) ?_
  refine lv_topi (fun y3 ey3 => ?_)
  have hy3 : (-25) ≤ Int32.toInt y3 ∧ Int32.toInt y3 ≤ 25 := by rw [ey3]; exact zo_remr 26 rfl (by decide)
  refine va_iast hx hb hK hP hD hS 2 0 rfl rfl (by revert h_x_0; simp only [vp_in_iff, Int32.lt_iff_toInt_lt, Int32.le_iff_toInt_le, Int64.lt_iff_toInt_lt, Int64.le_iff_toInt_le, Int32.toInt_toInt64, ← Int32.toInt_inj, ← Int64.toInt_inj, Int32.reduceToInt, Int64.reduceToInt] <;> omega) dX5_turnBits_17 (fun H locs hP hD hS => ?_)
  obtain ⟨F4, eF4⟩ : ∃ q, q = upd f_6 (Int32.toNatClampNeg x_0) y3 := ⟨_, rfl⟩
  have hP : va_P D vwCl [(q_0, .inr (5, [.int x_2, .ref q_3, .ref q_4, .ref q_5, .ref q_2, .ref q_1, .ref q_6, .ref q_7, .ref q_8, .ref q_9, .ref q_10, .ref q_11, .ref q_12, .int x_3, .int x_4])), (q_1, .inl (k 0, 400, .inl f_5)), (q_2, .inl (k 0, 400, .inl F4))] H := by rw [eF4]; exact hP
  have hD : va_D A [(q_0, .inr (5, [.int x_2, .ref q_3, .ref q_4, .ref q_5, .ref q_2, .ref q_1, .ref q_6, .ref q_7, .ref q_8, .ref q_9, .ref q_10, .ref q_11, .ref q_12, .int x_3, .int x_4])), (q_1, .inl (k 0, 400, .inl f_5)), (q_2, .inl (k 0, 400, .inl F4))] := by rw [eF4]; exact hD
  refine lv_aload_n hx hb dX5_turnBits_18 rfl (lv_at hl 1 rfl) ?_
  refine va_get (D := D) (ci := 5) (v := .ref q_1) (C := RX5) (T := TX5) (N := 15) hx hb hts inX5 hown hK hP 0 rfl rfl 5 (by decide) (hts _ kF_X5_24) (fun _ h9 => h9) rfl dX5_turnBits_19 ?_
  refine lv_iload_n hx hb dX5_turnBits_22 rfl (lv_at hl 2 rfl) ?_
  refine lv_iload_n hx hb dX5_turnBits_23 rfl (lv_at hl 0 rfl) ?_
  refine lv_bipush (v := 26) hx hb dX5_turnBits_24 (by decide) ?_
  refine lv_idiv hx hb dX5_turnBits_26 (by decide) ?_
  refine lv_topi (fun y5 ey5 => ?_)
  refine va_iast hx hb hK hP hD hS 1 0 rfl rfl (by revert h_x_0; simp only [vp_in_iff, Int32.lt_iff_toInt_lt, Int32.le_iff_toInt_le, Int64.lt_iff_toInt_lt, Int64.le_iff_toInt_le, Int32.toInt_toInt64, ← Int32.toInt_inj, ← Int64.toInt_inj, Int32.reduceToInt, Int64.reduceToInt] <;> omega) dX5_turnBits_27 (fun H locs hP hD hS => ?_)
  obtain ⟨F6, eF6⟩ : ∃ q, q = upd f_5 (Int32.toNatClampNeg x_0) y5 := ⟨_, rfl⟩
  have hP : va_P D vwCl [(q_0, .inr (5, [.int x_2, .ref q_3, .ref q_4, .ref q_5, .ref q_2, .ref q_1, .ref q_6, .ref q_7, .ref q_8, .ref q_9, .ref q_10, .ref q_11, .ref q_12, .int x_3, .int x_4])), (q_1, .inl (k 0, 400, .inl F6)), (q_2, .inl (k 0, 400, .inl F4))] H := by rw [eF6]; exact hP
  have hD : va_D A [(q_0, .inr (5, [.int x_2, .ref q_3, .ref q_4, .ref q_5, .ref q_2, .ref q_1, .ref q_6, .ref q_7, .ref q_8, .ref q_9, .ref q_10, .ref q_11, .ref q_12, .int x_3, .int x_4])), (q_1, .inl (k 0, 400, .inl F6)), (q_2, .inl (k 0, 400, .inl F4))] := by rw [eF6]; exact hD
  refine lv_iload_n hx hb dX5_turnBits_28 rfl (lv_at hl 0 rfl) ?_
  exact z_iret C0 hr hlk rfl hK hP hD hS (0, fun _ => 0, fun _ => 0, fun _ => 0, fun i => [F6, F4].getD i (fun _ => 0), fun _ => (fun _ => 0), fun _ => (fun _ => none)) rfl [0, 1, 2] rfl rfl rfl dX5_turnBits_29

set_option maxHeartbeats 4000000 in
set_option maxRecDepth 100000 in
theorem s_X11_alter_1 (l : Launch) (D : va_G) (k : Nat → ClassId) (q_0 : Nat) (q_1 : Nat) (q_2 : Nat) (q_3 : Nat) (q_4 : Nat) (q_5 : Nat) (q_6 : Nat) (q_7 : Nat) (q_8 : Nat) (q_9 : Nat) (q_10 : Nat) (q_11 : Nat) (q_12 : Nat) (q_13 : Nat) (q_14 : Nat) (q_15 : Nat) (q_16 : Nat) (q_17 : Nat) (q_18 : Nat) (q_19 : Nat) (q_20 : Nat) (q_21 : Nat) (q_22 : Nat) (q_23 : Nat) (x_0 : Int32) (x_1 : Int32) (x_2 : Int32) (x_3 : Int32) (x_4 : Int32) (x_5 : Int32) (f_6 : Nat → Int32) (f_7 : Nat → Int32) (h_x_3 : 0 ≤ Int32.toInt x_3 ∧ Int32.toInt x_3 ≤ 400) : zMi l yX11_alter cX11_alter 3 (some .int) ({ frames := 2, cells := 0, slots := 0, locals := 44 }) D k [.ref q_0, .int x_0, .int x_1] [(q_0, .inr (11, [.ref q_1, .ref q_5, .ref q_6, .ref q_7, .ref q_8, .int x_2])), (q_1, .inr (3, [.ref q_9, .ref q_10, .ref q_2, .ref q_11, .ref q_12, .ref q_13])), (q_2, .inr (5, [.int x_3, .ref q_14, .ref q_15, .ref q_16, .ref q_4, .ref q_3, .ref q_17, .ref q_18, .ref q_19, .ref q_20, .ref q_21, .ref q_22, .ref q_23, .int x_4, .int x_5])), (q_3, .inl (k 0, 400, .inl f_6)), (q_4, .inl (k 0, 400, .inl f_7))] (fun r u => u.1 = 0) (fun u => [(q_0, .inr (11, [.ref q_1, .ref q_5, .ref q_6, .ref q_7, .ref q_8, .int (u.2.2.1 0)])), (q_1, .inr (3, [.ref q_9, .ref q_10, .ref q_2, .ref q_11, .ref q_12, .ref q_13])), (q_2, .inr (5, [.int x_3, .ref q_14, .ref q_15, .ref q_16, .ref q_4, .ref q_3, .ref q_17, .ref q_18, .ref q_19, .ref q_20, .ref q_21, .ref q_22, .ref q_23, .int x_4, .int x_5])), (q_3, .inl (k 0, 400, .inl (u.2.2.2.2.1 0))), (q_4, .inl (k 0, 400, .inl (u.2.2.2.2.1 1)))]) := by
  refine zMi_of (own := RX11) (by decide +kernel) rfl (Nat.le_of_ble_eq_true rfl) ?_
  intro p e s m args below meth c A ls C0 hr hlk hin hP hD hS hA hK hN hl
  have hx := C0.1
  have hb := C0.2.1
  have hml := C0.2.2.1
  have hown := C0.2.2.2.1
  have hts := C0.2.2.2.2
  have hl : lv_has ls 3 [(0, .ref q_0), (1, .int x_0), (2, .int x_1)] := hl
  have hP : va_P D vwCl [(q_0, .inr (11, [.ref q_1, .ref q_5, .ref q_6, .ref q_7, .ref q_8, .int x_2])), (q_1, .inr (3, [.ref q_9, .ref q_10, .ref q_2, .ref q_11, .ref q_12, .ref q_13])), (q_2, .inr (5, [.int x_3, .ref q_14, .ref q_15, .ref q_16, .ref q_4, .ref q_3, .ref q_17, .ref q_18, .ref q_19, .ref q_20, .ref q_21, .ref q_22, .ref q_23, .int x_4, .int x_5])), (q_3, .inl (k 0, 400, .inl f_6)), (q_4, .inl (k 0, 400, .inl f_7))] s.heap := hP
  refine lv_iload_n hx hb dX11_alter_0 rfl (lv_at hl 2 rfl) ?_
  refine lv_iconst (v := 1) hx hb dX11_alter_1 (by decide) ?_
  refine lv_bipush (v := 7) hx hb dX11_alter_2 (by decide) ?_
  refine z_bi0 (z_runS (As := [.int x_1, .int 1, .int 7]) (rest := []) C0 (s_X11_isOutside_1 l D k x_1 1 7 _) okS_X11_isOutside kM_X11_47 rfl (z_p0 hK hN) rfl hl.1 rfl (Nat.le_of_ble_eq_true rfl) dX11_alter_4 rfl) hP hS hA (fun r1 u1 H locs hw1 hP hS => ?_)
  obtain ⟨i1, a1, v1, w1, f1, g1, o1⟩ := u1
  dsimp only at hw1
  rcases hw1 with ⟨rfl, rfl, c1⟩ | ⟨rfl, rfl, c1⟩
  · refine lv_if_eq (tgt := 16) hx hb dX11_alter_7 (by decide) (fun c2 => absurd c2 (by decide)) (fun _ => ?_)
    refine lv_aload_n hx hb dX11_alter_10 rfl (lv_at hl 0 rfl) ?_
    refine lv_iconst (v := (-1)) hx hb dX11_alter_11 (by decide) ?_
    refine z_bi (wr := [(q_1, .inr (3, [.ref q_9, .ref q_10, .ref q_2, .ref q_11, .ref q_12, .ref q_13])), (q_2, .inr (5, [.int x_3, .ref q_14, .ref q_15, .ref q_16, .ref q_4, .ref q_3, .ref q_17, .ref q_18, .ref q_19, .ref q_20, .ref q_21, .ref q_22, .ref q_23, .int x_4, .int x_5])), (q_3, .inl (k 0, 400, .inl f_6)), (q_4, .inl (k 0, 400, .inl f_7))]) (z_runV (C := RX11) (As := [.int (-1)]) (rest := []) C0 (s_X11_answer_1 l D k q_0 q_1 q_5 q_6 q_7 q_8 (-1) x_2 _) okV_X11_answer kM_X11_55 rfl (z_pV (q0 := 0) hK hN hP hD [0] rfl rfl rfl rfl rfl) rfl hl.1 rfl (Nat.le_of_ble_eq_true rfl) dX11_alter_12 rfl) hP hD hS hA [0] [1, 2, 3, 4] rfl rfl rfl rfl (fun r3 u3 H locs hw3 hP hD hS => ?_)
    obtain ⟨i3, a3, v3, w3, f3, g3, o3⟩ := u3
    dsimp only at hw3
    obtain rfl := hw3
    have hP : va_P D vwCl [(q_1, .inr (3, [.ref q_9, .ref q_10, .ref q_2, .ref q_11, .ref q_12, .ref q_13])), (q_2, .inr (5, [.int x_3, .ref q_14, .ref q_15, .ref q_16, .ref q_4, .ref q_3, .ref q_17, .ref q_18, .ref q_19, .ref q_20, .ref q_21, .ref q_22, .ref q_23, .int x_4, .int x_5])), (q_3, .inl (k 0, 400, .inl f_6)), (q_4, .inl (k 0, 400, .inl f_7)), (q_0, .inr (11, [.ref q_1, .ref q_5, .ref q_6, .ref q_7, .ref q_8, .int (v3 0)]))] H := hP
    have hD : va_D A [(q_1, .inr (3, [.ref q_9, .ref q_10, .ref q_2, .ref q_11, .ref q_12, .ref q_13])), (q_2, .inr (5, [.int x_3, .ref q_14, .ref q_15, .ref q_16, .ref q_4, .ref q_3, .ref q_17, .ref q_18, .ref q_19, .ref q_20, .ref q_21, .ref q_22, .ref q_23, .int x_4, .int x_5])), (q_3, .inl (k 0, 400, .inl f_6)), (q_4, .inl (k 0, 400, .inl f_7)), (q_0, .inr (11, [.ref q_1, .ref q_5, .ref q_6, .ref q_7, .ref q_8, .int (v3 0)]))] := hD
    exact z_iret C0 hr hlk rfl hK hP hD hS (0, fun _ => 0, fun i => [(v3 0)].getD i 0, fun _ => 0, fun i => [f_6, f_7].getD i (fun _ => 0), fun _ => (fun _ => 0), fun _ => (fun _ => none)) rfl [4, 0, 1, 2, 3] rfl rfl rfl dX11_alter_15
  · refine lv_if_eq (tgt := 16) hx hb dX11_alter_7 (by decide) (fun _ => ?_) (fun c4 => absurd (by decide) c4)
    refine lv_aload_n hx hb dX11_alter_16 rfl (lv_at hl 0 rfl) ?_
    refine va_get (D := D) (ci := 11) (v := .ref q_1) (C := RX11) (T := TX11) (N := 6) hx hb hts inX11 hown hK hP 0 rfl rfl 0 (by decide) (hts _ kF_X11_12) (fun _ h9 => h9) rfl dX11_alter_17 ?_
    refine va_get (D := D) (ci := 3) (v := .ref q_2) (C := RX3) (T := TX3) (N := 6) hx hb hts inX3 hown hK hP 1 rfl rfl 2 (by decide) (hts _ kF_X11_137) (fun _ h9 => h9) rfl dX11_alter_20 ?_
    refine lv_iload_n hx hb dX11_alter_23 rfl (lv_at hl 1 rfl) ?_
    refine z_bi (wr := [(q_0, .inr (11, [.ref q_1, .ref q_5, .ref q_6, .ref q_7, .ref q_8, .int x_2])), (q_1, .inr (3, [.ref q_9, .ref q_10, .ref q_2, .ref q_11, .ref q_12, .ref q_13])), (q_3, .inl (k 0, 400, .inl f_6)), (q_4, .inl (k 0, 400, .inl f_7))]) (z_runV (C := RX5) (As := [.int x_0]) (rest := []) C0 (s_X5_isNoMark_1 l D k q_2 q_14 q_15 q_16 q_4 q_3 q_17 q_18 q_19 q_20 q_21 q_22 q_23 x_0 x_3 x_4 x_5 (by revert h_x_3; simp only [vp_in_iff, Int32.lt_iff_toInt_lt, Int32.le_iff_toInt_le, Int64.lt_iff_toInt_lt, Int64.le_iff_toInt_le, Int32.toInt_toInt64, ← Int32.toInt_inj, ← Int64.toInt_inj, Int32.reduceToInt, Int64.reduceToInt] <;> omega) _) okV_X5_isNoMark kM_X11_149 rfl (z_pV (q0 := 2) hK hN hP hD [2] rfl rfl rfl rfl rfl) rfl hl.1 rfl (Nat.le_of_ble_eq_true rfl) dX11_alter_24 rfl) hP hD hS hA [2] [0, 1, 3, 4] rfl rfl rfl rfl (fun r5 u5 H locs hw5 hP hD hS => ?_)
    obtain ⟨i5, a5, v5, w5, f5, g5, o5⟩ := u5
    dsimp only at hw5
    rcases hw5 with ⟨rfl, rfl, c5⟩ | ⟨rfl, rfl, c5⟩
    · have hP : va_P D vwCl [(q_0, .inr (11, [.ref q_1, .ref q_5, .ref q_6, .ref q_7, .ref q_8, .int x_2])), (q_1, .inr (3, [.ref q_9, .ref q_10, .ref q_2, .ref q_11, .ref q_12, .ref q_13])), (q_3, .inl (k 0, 400, .inl f_6)), (q_4, .inl (k 0, 400, .inl f_7)), (q_2, .inr (5, [.int x_3, .ref q_14, .ref q_15, .ref q_16, .ref q_4, .ref q_3, .ref q_17, .ref q_18, .ref q_19, .ref q_20, .ref q_21, .ref q_22, .ref q_23, .int x_4, .int x_5]))] H := hP
      have hD : va_D A [(q_0, .inr (11, [.ref q_1, .ref q_5, .ref q_6, .ref q_7, .ref q_8, .int x_2])), (q_1, .inr (3, [.ref q_9, .ref q_10, .ref q_2, .ref q_11, .ref q_12, .ref q_13])), (q_3, .inl (k 0, 400, .inl f_6)), (q_4, .inl (k 0, 400, .inl f_7)), (q_2, .inr (5, [.int x_3, .ref q_14, .ref q_15, .ref q_16, .ref q_4, .ref q_3, .ref q_17, .ref q_18, .ref q_19, .ref q_20, .ref q_21, .ref q_22, .ref q_23, .int x_4, .int x_5]))] := hD
      refine lv_if_eq (tgt := 37) hx hb dX11_alter_27 (by decide) (fun c6 => absurd c6 (by decide)) (fun _ => ?_)
      refine lv_aload_n hx hb dX11_alter_30 rfl (lv_at hl 0 rfl) ?_
      refine lv_bipush (v := (-2)) hx hb dX11_alter_31 (by decide) ?_
      refine z_bi (wr := [(q_1, .inr (3, [.ref q_9, .ref q_10, .ref q_2, .ref q_11, .ref q_12, .ref q_13])), (q_3, .inl (k 0, 400, .inl f_6)), (q_4, .inl (k 0, 400, .inl f_7)), (q_2, .inr (5, [.int x_3, .ref q_14, .ref q_15, .ref q_16, .ref q_4, .ref q_3, .ref q_17, .ref q_18, .ref q_19, .ref q_20, .ref q_21, .ref q_22, .ref q_23, .int x_4, .int x_5]))]) (z_runV (C := RX11) (As := [.int (-2)]) (rest := []) C0 (s_X11_answer_1 l D k q_0 q_1 q_5 q_6 q_7 q_8 (-2) x_2 _) okV_X11_answer kM_X11_55 rfl (z_pV (q0 := 0) hK hN hP hD [0] rfl rfl rfl rfl rfl) rfl hl.1 rfl (Nat.le_of_ble_eq_true rfl) dX11_alter_33 rfl) hP hD hS hA [0] [1, 2, 3, 4] rfl rfl rfl rfl (fun r7 u7 H locs hw7 hP hD hS => ?_)
      obtain ⟨i7, a7, v7, w7, f7, g7, o7⟩ := u7
      dsimp only at hw7
      obtain rfl := hw7
      have hP : va_P D vwCl [(q_1, .inr (3, [.ref q_9, .ref q_10, .ref q_2, .ref q_11, .ref q_12, .ref q_13])), (q_3, .inl (k 0, 400, .inl f_6)), (q_4, .inl (k 0, 400, .inl f_7)), (q_2, .inr (5, [.int x_3, .ref q_14, .ref q_15, .ref q_16, .ref q_4, .ref q_3, .ref q_17, .ref q_18, .ref q_19, .ref q_20, .ref q_21, .ref q_22, .ref q_23, .int x_4, .int x_5])), (q_0, .inr (11, [.ref q_1, .ref q_5, .ref q_6, .ref q_7, .ref q_8, .int (v7 0)]))] H := hP
      have hD : va_D A [(q_1, .inr (3, [.ref q_9, .ref q_10, .ref q_2, .ref q_11, .ref q_12, .ref q_13])), (q_3, .inl (k 0, 400, .inl f_6)), (q_4, .inl (k 0, 400, .inl f_7)), (q_2, .inr (5, [.int x_3, .ref q_14, .ref q_15, .ref q_16, .ref q_4, .ref q_3, .ref q_17, .ref q_18, .ref q_19, .ref q_20, .ref q_21, .ref q_22, .ref q_23, .int x_4, .int x_5])), (q_0, .inr (11, [.ref q_1, .ref q_5, .ref q_6, .ref q_7, .ref q_8, .int (v7 0)]))] := hD
      exact z_iret C0 hr hlk rfl hK hP hD hS (0, fun _ => 0, fun i => [(v7 0)].getD i 0, fun _ => 0, fun i => [f_6, f_7].getD i (fun _ => 0), fun _ => (fun _ => 0), fun _ => (fun _ => none)) rfl [4, 0, 3, 1, 2] rfl rfl rfl dX11_alter_36
    · have hP : va_P D vwCl [(q_0, .inr (11, [.ref q_1, .ref q_5, .ref q_6, .ref q_7, .ref q_8, .int x_2])), (q_1, .inr (3, [.ref q_9, .ref q_10, .ref q_2, .ref q_11, .ref q_12, .ref q_13])), (q_3, .inl (k 0, 400, .inl f_6)), (q_4, .inl (k 0, 400, .inl f_7)), (q_2, .inr (5, [.int x_3, .ref q_14, .ref q_15, .ref q_16, .ref q_4, .ref q_3, .ref q_17, .ref q_18, .ref q_19, .ref q_20, .ref q_21, .ref q_22, .ref q_23, .int x_4, .int x_5]))] H := hP
      have hD : va_D A [(q_0, .inr (11, [.ref q_1, .ref q_5, .ref q_6, .ref q_7, .ref q_8, .int x_2])), (q_1, .inr (3, [.ref q_9, .ref q_10, .ref q_2, .ref q_11, .ref q_12, .ref q_13])), (q_3, .inl (k 0, 400, .inl f_6)), (q_4, .inl (k 0, 400, .inl f_7)), (q_2, .inr (5, [.int x_3, .ref q_14, .ref q_15, .ref q_16, .ref q_4, .ref q_3, .ref q_17, .ref q_18, .ref q_19, .ref q_20, .ref q_21, .ref q_22, .ref q_23, .int x_4, .int x_5]))] := hD
      refine lv_if_eq (tgt := 37) hx hb dX11_alter_27 (by decide) (fun _ => ?_) (fun c8 => absurd (by decide) c8)
      refine lv_aload_n hx hb dX11_alter_37 rfl (lv_at hl 0 rfl) ?_
      refine lv_aload_n hx hb dX11_alter_38 rfl (lv_at hl 0 rfl) ?_
      refine va_get (D := D) (ci := 11) (v := .ref q_1) (C := RX11) (T := TX11) (N := 6) hx hb hts inX11 hown hK hP 0 rfl rfl 0 (by decide) (hts _ kF_X11_12) (fun _ h9 => h9) rfl dX11_alter_39 ?_
      refine va_get (D := D) (ci := 3) (v := .ref q_2) (C := RX3) (T := TX3) (N := 6) hx hb hts inX3 hown hK hP 1 rfl rfl 2 (by decide) (hts _ kF_X11_137) (fun _ h9 => h9) rfl dX11_alter_42 ?_
      refine lv_iload_n hx hb dX11_alter_45 rfl (lv_at hl 1 rfl) ?_
      refine lv_iload_n hx hb dX11_alter_46 rfl (lv_at hl 2 rfl) ?_
      refine z_bi (wr := [(q_0, .inr (11, [.ref q_1, .ref q_5, .ref q_6, .ref q_7, .ref q_8, .int x_2])), (q_1, .inr (3, [.ref q_9, .ref q_10, .ref q_2, .ref q_11, .ref q_12, .ref q_13]))]) (z_runV (C := RX5) (As := [.int x_0, .int x_1]) (rest := [.ref q_0]) C0 (s_X5_turnBits_1 l D k q_2 q_3 q_4 q_14 q_15 q_16 q_17 q_18 q_19 q_20 q_21 q_22 q_23 x_0 x_1 x_3 x_4 x_5 f_6 f_7 (by revert c5 h_x_3; simp only [vp_in_iff, Int32.lt_iff_toInt_lt, Int32.le_iff_toInt_le, Int64.lt_iff_toInt_lt, Int64.le_iff_toInt_le, Int32.toInt_toInt64, ← Int32.toInt_inj, ← Int64.toInt_inj, Int32.reduceToInt, Int64.reduceToInt] <;> omega) (by revert c1; simp only [vp_in_iff, Int32.lt_iff_toInt_lt, Int32.le_iff_toInt_le, Int64.lt_iff_toInt_lt, Int64.le_iff_toInt_le, Int32.toInt_toInt64, ← Int32.toInt_inj, ← Int64.toInt_inj, Int32.reduceToInt, Int64.reduceToInt] <;> omega) (by revert h_x_3 c5; simp only [vp_in_iff, Int32.lt_iff_toInt_lt, Int32.le_iff_toInt_le, Int64.lt_iff_toInt_lt, Int64.le_iff_toInt_le, Int32.toInt_toInt64, ← Int32.toInt_inj, ← Int64.toInt_inj, Int32.reduceToInt, Int64.reduceToInt] <;> omega) _) okV_X5_turnBits kM_X11_374 rfl (z_pV (q0 := 4) hK hN hP hD [4, 2, 3] rfl rfl rfl rfl rfl) rfl hl.1 rfl (Nat.le_of_ble_eq_true rfl) dX11_alter_47 rfl) hP hD hS hA [4, 2, 3] [0, 1] rfl rfl rfl rfl (fun r9 u9 H locs hw9 hP hD hS => ?_)
      obtain ⟨i9, a9, v9, w9, f9, g9, o9⟩ := u9
      dsimp only at hw9
      obtain rfl := hw9
      have hP : va_P D vwCl [(q_0, .inr (11, [.ref q_1, .ref q_5, .ref q_6, .ref q_7, .ref q_8, .int x_2])), (q_1, .inr (3, [.ref q_9, .ref q_10, .ref q_2, .ref q_11, .ref q_12, .ref q_13])), (q_2, .inr (5, [.int x_3, .ref q_14, .ref q_15, .ref q_16, .ref q_4, .ref q_3, .ref q_17, .ref q_18, .ref q_19, .ref q_20, .ref q_21, .ref q_22, .ref q_23, .int x_4, .int x_5])), (q_3, .inl (k 0, 400, .inl (f9 0))), (q_4, .inl (k 0, 400, .inl (f9 1)))] H := hP
      have hD : va_D A [(q_0, .inr (11, [.ref q_1, .ref q_5, .ref q_6, .ref q_7, .ref q_8, .int x_2])), (q_1, .inr (3, [.ref q_9, .ref q_10, .ref q_2, .ref q_11, .ref q_12, .ref q_13])), (q_2, .inr (5, [.int x_3, .ref q_14, .ref q_15, .ref q_16, .ref q_4, .ref q_3, .ref q_17, .ref q_18, .ref q_19, .ref q_20, .ref q_21, .ref q_22, .ref q_23, .int x_4, .int x_5])), (q_3, .inl (k 0, 400, .inl (f9 0))), (q_4, .inl (k 0, 400, .inl (f9 1)))] := hD
      refine z_bi (wr := [(q_1, .inr (3, [.ref q_9, .ref q_10, .ref q_2, .ref q_11, .ref q_12, .ref q_13])), (q_2, .inr (5, [.int x_3, .ref q_14, .ref q_15, .ref q_16, .ref q_4, .ref q_3, .ref q_17, .ref q_18, .ref q_19, .ref q_20, .ref q_21, .ref q_22, .ref q_23, .int x_4, .int x_5])), (q_3, .inl (k 0, 400, .inl (f9 0))), (q_4, .inl (k 0, 400, .inl (f9 1)))]) (z_runV (C := RX11) (As := [.int r9]) (rest := []) C0 (s_X11_answer_1 l D k q_0 q_1 q_5 q_6 q_7 q_8 r9 x_2 _) okV_X11_answer kM_X11_55 rfl (z_pV (q0 := 0) hK hN hP hD [0] rfl rfl rfl rfl rfl) rfl hl.1 rfl (Nat.le_of_ble_eq_true rfl) dX11_alter_50 rfl) hP hD hS hA [0] [1, 2, 3, 4] rfl rfl rfl rfl (fun r10 u10 H locs hw10 hP hD hS => ?_)
      obtain ⟨i10, a10, v10, w10, f10, g10, o10⟩ := u10
      dsimp only at hw10
      obtain rfl := hw10
      have hP : va_P D vwCl [(q_1, .inr (3, [.ref q_9, .ref q_10, .ref q_2, .ref q_11, .ref q_12, .ref q_13])), (q_2, .inr (5, [.int x_3, .ref q_14, .ref q_15, .ref q_16, .ref q_4, .ref q_3, .ref q_17, .ref q_18, .ref q_19, .ref q_20, .ref q_21, .ref q_22, .ref q_23, .int x_4, .int x_5])), (q_3, .inl (k 0, 400, .inl (f9 0))), (q_4, .inl (k 0, 400, .inl (f9 1))), (q_0, .inr (11, [.ref q_1, .ref q_5, .ref q_6, .ref q_7, .ref q_8, .int (v10 0)]))] H := hP
      have hD : va_D A [(q_1, .inr (3, [.ref q_9, .ref q_10, .ref q_2, .ref q_11, .ref q_12, .ref q_13])), (q_2, .inr (5, [.int x_3, .ref q_14, .ref q_15, .ref q_16, .ref q_4, .ref q_3, .ref q_17, .ref q_18, .ref q_19, .ref q_20, .ref q_21, .ref q_22, .ref q_23, .int x_4, .int x_5])), (q_3, .inl (k 0, 400, .inl (f9 0))), (q_4, .inl (k 0, 400, .inl (f9 1))), (q_0, .inr (11, [.ref q_1, .ref q_5, .ref q_6, .ref q_7, .ref q_8, .int (v10 0)]))] := hD
      exact z_iret C0 hr hlk rfl hK hP hD hS (0, fun _ => 0, fun i => [(v10 0)].getD i 0, fun _ => 0, fun i => [(f9 0), (f9 1)].getD i (fun _ => 0), fun _ => (fun _ => 0), fun _ => (fun _ => none)) rfl [4, 0, 1, 2, 3] rfl rfl rfl dX11_alter_53

set_option maxHeartbeats 4000000 in
set_option maxRecDepth 100000 in
theorem s_X5_markAtPlace_1 (l : Launch) (D : va_G) (k : Nat → ClassId) (q_0 : Nat) (q_1 : Nat) (q_2 : Nat) (q_3 : Nat) (q_4 : Nat) (q_5 : Nat) (q_6 : Nat) (q_7 : Nat) (q_8 : Nat) (q_9 : Nat) (q_10 : Nat) (q_11 : Nat) (q_12 : Nat) (x_0 : Int32) (x_1 : Int32) (x_2 : Int32) (x_3 : Int32) (x_4 : Int32) (f_5 : Nat → Int32) (h_x_2 : 0 ≤ Int32.toInt x_2 ∧ Int32.toInt x_2 ≤ 400) (h_f_5 : zR f_5 0 799) : zMi l yX5_markAtPlace cX5_markAtPlace 5 (some .int) ({ frames := 0, cells := 0, slots := 0, locals := 0 }) D k [.ref q_0, .int x_0, .int x_1] [(q_0, .inr (5, [.int x_2, .ref q_2, .ref q_3, .ref q_1, .ref q_4, .ref q_5, .ref q_6, .ref q_7, .ref q_8, .ref q_9, .ref q_10, .ref q_11, .ref q_12, .int x_3, .int x_4])), (q_1, .inl (k 0, 400, .inl f_5))] (fun r u => u.1 = 0 ∧ ((-2) ≤ Int32.toInt r ∧ Int32.toInt r ≤ 399)) (fun u => [(q_0, .inr (5, [.int x_2, .ref q_2, .ref q_3, .ref q_1, .ref q_4, .ref q_5, .ref q_6, .ref q_7, .ref q_8, .ref q_9, .ref q_10, .ref q_11, .ref q_12, .int x_3, .int x_4])), (q_1, .inl (k 0, 400, .inl f_5))]) := by
  refine zMi_of (own := RX5) (by decide +kernel) rfl (Nat.le_of_ble_eq_true rfl) ?_
  intro p e s m args below meth c A ls C0 hr hlk hin hP hD hS hA hK hN hl
  have hx := C0.1
  have hb := C0.2.1
  have hml := C0.2.2.1
  have hown := C0.2.2.2.1
  have hts := C0.2.2.2.2
  have hl : lv_has ls 5 [(0, .ref q_0), (1, .int x_0), (2, .int x_1)] := hl
  have hP : va_P D vwCl [(q_0, .inr (5, [.int x_2, .ref q_2, .ref q_3, .ref q_1, .ref q_4, .ref q_5, .ref q_6, .ref q_7, .ref q_8, .ref q_9, .ref q_10, .ref q_11, .ref q_12, .int x_3, .int x_4])), (q_1, .inl (k 0, 400, .inl f_5))] s.heap := hP
  refine lv_iconst (v := 0) hx hb dX5_markAtPlace_0 (by decide) ?_
  refine lv_istore_n (lv' := [(3, .int 0), (0, .ref q_0), (1, .int x_0), (2, .int x_1)]) hx hb dX5_markAtPlace_1 rfl hl (by decide) rfl (fun ls hl => ?_)
  refine lv_iconst (v := 0) hx hb dX5_markAtPlace_2 (by decide) ?_
  refine lv_istore (lv' := [(4, .int 0), (3, .int 0), (0, .ref q_0), (1, .int x_0), (2, .int x_1)]) hx hb dX5_markAtPlace_3 hl (by decide) rfl (fun ls hl => ?_)
  have loop37 : ∀ (N38 : Nat) (y35 : Int32) (y36 : Int32) (H : Heap) (locs : List Loc) (ls : Array Slot), Int.toNat (400 - Int32.toInt y35) < N38 → 0 ≤ Int32.toInt y35 ∧ Int32.toInt y35 ≤ 400 → va_P D vwCl [(q_0, .inr (5, [.int x_2, .ref q_2, .ref q_3, .ref q_1, .ref q_4, .ref q_5, .ref q_6, .ref q_7, .ref q_8, .ref q_9, .ref q_10, .ref q_11, .ref q_12, .int x_3, .int x_4])), (q_1, .inl (k 0, 400, .inl f_5))] H → va_D A [(q_0, .inr (5, [.int x_2, .ref q_2, .ref q_3, .ref q_1, .ref q_4, .ref q_5, .ref q_6, .ref q_7, .ref q_8, .ref q_9, .ref q_10, .ref q_11, .ref q_12, .int x_3, .int x_4])), (q_1, .inl (k 0, 400, .inl f_5))] → va_S A s.heap H locs → lv_has ls 5 [(4, .int y35), (3, .int y36), (0, .ref q_0), (1, .int x_0), (2, .int x_1)] → W p l e { frames := 0, cells := 0, slots := 0, locals := 0 } s m args below meth c H locs 0 0 (MQ below (va_Qi (fun (r : Int32) (u : zS) => u.1 = 0 ∧ ((-2) ≤ Int32.toInt r ∧ Int32.toInt r ≤ 399)) (zB D k A (fun (u : zS) => [(q_0, .inr (5, [.int x_2, .ref q_2, .ref q_3, .ref q_1, .ref q_4, .ref q_5, .ref q_6, .ref q_7, .ref q_8, .ref q_9, .ref q_10, .ref q_11, .ref q_12, .int x_3, .int x_4])), (q_1, .inl (k 0, 400, .inl f_5))])) A) args s 0 0 A) (F0 m 5 ls []) := by
    intro N38
    induction N38 with
    | zero => intro y35 y36 H locs ls hm; exact absurd hm (Nat.not_lt_zero _)
    | succ N38 ihN38 =>
      intro y35 y36 H locs ls hN38 hy35 hP hD hS hl
      refine lv_iload hx hb dX5_markAtPlace_5 (lv_at hl 0 rfl) ?_
      refine lv_aload_n hx hb dX5_markAtPlace_7 rfl (lv_at hl 2 rfl) ?_
      refine va_get (D := D) (ci := 5) (v := .int x_2) (C := RX5) (T := TX5) (N := 15) hx hb hts inX5 hown hK hP 0 rfl rfl 0 (by decide) (hts _ kF_X5_54) (fun _ h9 => h9) rfl dX5_markAtPlace_8 ?_
      refine lv_icmp_ge (tgt := 44) hx hb dX5_markAtPlace_11 (by decide) (fun c39 => ?_) (fun c39 => ?_)
      · refine lv_bipush (v := (-2)) hx hb dX5_markAtPlace_44 (by decide) ?_
        exact z_iret C0 hr hlk rfl hK hP hD hS (0, fun _ => 0, fun _ => 0, fun _ => 0, fun _ => (fun _ => 0), fun _ => (fun _ => 0), fun _ => (fun _ => none)) ⟨rfl, (by decide)⟩ [0, 1] rfl rfl rfl dX5_markAtPlace_46
      · refine lv_aload_n hx hb dX5_markAtPlace_14 rfl (lv_at hl 2 rfl) ?_
        refine va_get (D := D) (ci := 5) (v := .ref q_1) (C := RX5) (T := TX5) (N := 15) hx hb hts inX5 hown hK hP 0 rfl rfl 3 (by decide) (hts _ kF_X5_18) (fun _ h9 => h9) rfl dX5_markAtPlace_15 ?_
        refine lv_iload hx hb dX5_markAtPlace_18 (lv_at hl 0 rfl) ?_
        refine va_iald hx hb hK hP 1 0 rfl rfl (by revert hN38 hy35 c39 h_x_2; simp only [vp_in_iff, Int32.lt_iff_toInt_lt, Int32.le_iff_toInt_le, Int64.lt_iff_toInt_lt, Int64.le_iff_toInt_le, Int32.toInt_toInt64, ← Int32.toInt_inj, ← Int64.toInt_inj, Int32.reduceToInt, Int64.reduceToInt] <;> omega) dX5_markAtPlace_20 ?_
        refine lv_topi (fun y40 ey40 => ?_)
        have hy40 : 0 ≤ Int32.toInt y40 ∧ Int32.toInt y40 ≤ 799 := by rw [ey40]; exact h_f_5 _
        refine lv_iconst (v := 2) hx hb dX5_markAtPlace_21 (by decide) ?_
        refine lv_idiv hx hb dX5_markAtPlace_22 (by decide) ?_
        refine lv_topi (fun y41 ey41 => ?_)
        have hy41 : Int32.toInt y41 = Int32.toInt y40 / 2 := by rw [ey41]; exact zo_div 2 (show 0 ≤ Int32.toInt y40 by revert hy40; simp only [vp_in_iff, Int32.lt_iff_toInt_lt, Int32.le_iff_toInt_le, Int64.lt_iff_toInt_lt, Int64.le_iff_toInt_le, Int32.toInt_toInt64, ← Int32.toInt_inj, ← Int64.toInt_inj, Int32.reduceToInt, Int64.reduceToInt] <;> omega) rfl (by decide)
        refine lv_iload_n hx hb dX5_markAtPlace_23 rfl (lv_at hl 3 rfl) ?_
        refine lv_icmp_ne (tgt := 38) hx hb dX5_markAtPlace_24 (by decide) (fun c42 => ?_) (fun c42 => ?_)
        · have e43 : Int32.toInt (y35 + 1) = Int32.toInt y35 + Int32.toInt (1 : Int32) := zi_add (by revert hN38 hy35 c39 h_x_2; simp only [vp_in_iff, Int32.lt_iff_toInt_lt, Int32.le_iff_toInt_le, Int64.lt_iff_toInt_lt, Int64.le_iff_toInt_le, Int32.toInt_toInt64, ← Int32.toInt_inj, ← Int64.toInt_inj, Int32.reduceToInt, Int64.reduceToInt] <;> omega)
          refine lv_iinc (v := (y35 + 1)) (lv' := [(4, .int (y35 + 1)), (3, .int y36), (0, .ref q_0), (1, .int x_0), (2, .int x_1)]) hx hb dX5_markAtPlace_38 hl (k := 0) rfl rfl (by decide) rfl (fun ls hl => ?_)
          refine lv_goto (tgt := 5) hx hb dX5_markAtPlace_41 (by decide) ?_
          exact ihN38 (y35 + 1) y36 _ _ ls (by revert hN38 hy35 c39 e43 h_x_2; simp only [vp_in_iff, Int32.lt_iff_toInt_lt, Int32.le_iff_toInt_le, Int64.lt_iff_toInt_lt, Int64.le_iff_toInt_le, Int32.toInt_toInt64, ← Int32.toInt_inj, ← Int64.toInt_inj, Int32.reduceToInt, Int64.reduceToInt] <;> omega) (by revert hN38 hy35 c39 e43 h_x_2; simp only [vp_in_iff, Int32.lt_iff_toInt_lt, Int32.le_iff_toInt_le, Int64.lt_iff_toInt_lt, Int64.le_iff_toInt_le, Int32.toInt_toInt64, ← Int32.toInt_inj, ← Int64.toInt_inj, Int32.reduceToInt, Int64.reduceToInt] <;> omega) hP hD hS (lv_sub hl [0, 1, 2, 3, 4] rfl)
        · refine lv_iinc (v := (y36 + 1)) (lv' := [(3, .int (y36 + 1)), (4, .int y35), (0, .ref q_0), (1, .int x_0), (2, .int x_1)]) hx hb dX5_markAtPlace_27 hl (k := 1) rfl rfl (by decide) rfl (fun ls hl => ?_)
          refine lv_iload_n hx hb dX5_markAtPlace_30 rfl (lv_at hl 0 rfl) ?_
          refine lv_iload_n hx hb dX5_markAtPlace_31 rfl (lv_at hl 4 rfl) ?_
          refine lv_icmp_ne (tgt := 38) hx hb dX5_markAtPlace_32 (by decide) (fun c44 => ?_) (fun c44 => ?_)
          · have e45 : Int32.toInt (y35 + 1) = Int32.toInt y35 + Int32.toInt (1 : Int32) := zi_add (by revert hN38 hy35 c39 h_x_2; simp only [vp_in_iff, Int32.lt_iff_toInt_lt, Int32.le_iff_toInt_le, Int64.lt_iff_toInt_lt, Int64.le_iff_toInt_le, Int32.toInt_toInt64, ← Int32.toInt_inj, ← Int64.toInt_inj, Int32.reduceToInt, Int64.reduceToInt] <;> omega)
            refine lv_iinc (v := (y35 + 1)) (lv' := [(4, .int (y35 + 1)), (3, .int (y36 + 1)), (0, .ref q_0), (1, .int x_0), (2, .int x_1)]) hx hb dX5_markAtPlace_38 hl (k := 1) rfl rfl (by decide) rfl (fun ls hl => ?_)
            refine lv_goto (tgt := 5) hx hb dX5_markAtPlace_41 (by decide) ?_
            exact ihN38 (y35 + 1) (y36 + 1) _ _ ls (by revert hN38 hy35 c39 e45 h_x_2; simp only [vp_in_iff, Int32.lt_iff_toInt_lt, Int32.le_iff_toInt_le, Int64.lt_iff_toInt_lt, Int64.le_iff_toInt_le, Int32.toInt_toInt64, ← Int32.toInt_inj, ← Int64.toInt_inj, Int32.reduceToInt, Int64.reduceToInt] <;> omega) (by revert hN38 hy35 c39 e45 h_x_2; simp only [vp_in_iff, Int32.lt_iff_toInt_lt, Int32.le_iff_toInt_le, Int64.lt_iff_toInt_lt, Int64.le_iff_toInt_le, Int32.toInt_toInt64, ← Int32.toInt_inj, ← Int64.toInt_inj, Int32.reduceToInt, Int64.reduceToInt] <;> omega) hP hD hS (lv_sub hl [0, 1, 2, 3, 4] rfl)
          · refine lv_iload hx hb dX5_markAtPlace_35 (lv_at hl 1 rfl) ?_
            exact z_iret C0 hr hlk rfl hK hP hD hS (0, fun _ => 0, fun _ => 0, fun _ => 0, fun _ => (fun _ => 0), fun _ => (fun _ => 0), fun _ => (fun _ => none)) ⟨rfl, (by revert hN38 hy35 c39 h_x_2; simp only [vp_in_iff, Int32.lt_iff_toInt_lt, Int32.le_iff_toInt_le, Int64.lt_iff_toInt_lt, Int64.le_iff_toInt_le, Int32.toInt_toInt64, ← Int32.toInt_inj, ← Int64.toInt_inj, Int32.reduceToInt, Int64.reduceToInt] <;> omega)⟩ [0, 1] rfl rfl rfl dX5_markAtPlace_37
  exact loop37 _ 0 0 _ _ _ (Nat.lt_succ_self _) (by simp only [vp_in_iff, Int32.lt_iff_toInt_lt, Int32.le_iff_toInt_le, Int64.lt_iff_toInt_lt, Int64.le_iff_toInt_le, Int32.toInt_toInt64, ← Int32.toInt_inj, ← Int64.toInt_inj, Int32.reduceToInt, Int64.reduceToInt] <;> omega) hP hD hS (lv_sub hl [0, 1, 2, 3, 4] rfl)

set_option maxHeartbeats 4000000 in
set_option maxRecDepth 100000 in
theorem s_X5_findAltered_1 (l : Launch) (D : va_G) (k : Nat → ClassId) (q_0 : Nat) (q_1 : Nat) (q_2 : Nat) (q_3 : Nat) (q_4 : Nat) (q_5 : Nat) (q_6 : Nat) (q_7 : Nat) (q_8 : Nat) (q_9 : Nat) (q_10 : Nat) (q_11 : Nat) (q_12 : Nat) (x_0 : Int32) (x_1 : Int32) (x_2 : Int32) (x_3 : Int32) (f_4 : Nat → Int32) (f_5 : Nat → Int32) (f_6 : Nat → Int32) (f_7 : Nat → Int32) (f_8 : Nat → Int32) (f_9 : Nat → Int32) (h_x_0 : 0 ≤ Int32.toInt x_0 ∧ Int32.toInt x_0 ≤ 399) (h_x_1 : 0 ≤ Int32.toInt x_1 ∧ Int32.toInt x_1 ≤ 400) (h_f_5 : zR f_5 0 799) : zMi l yX5_findAltered cX5_findAltered 5 (some .int) ({ frames := 2, cells := 0, slots := 0, locals := 44 }) D k [.ref q_0, .int x_0] [(q_0, .inr (5, [.int x_1, .ref q_7, .ref q_8, .ref q_2, .ref q_4, .ref q_3, .ref q_9, .ref q_10, .ref q_11, .ref q_12, .ref q_1, .ref q_5, .ref q_6, .int x_2, .int x_3])), (q_1, .inl (k 0, 400, .inl f_4)), (q_2, .inl (k 0, 400, .inl f_5)), (q_3, .inl (k 0, 400, .inl f_6)), (q_4, .inl (k 0, 400, .inl f_7)), (q_5, .inl (k 0, 400, .inl f_8)), (q_6, .inl (k 0, 400, .inl f_9))] (fun r u => u.1 = 0 ∧ ((-3) ≤ Int32.toInt r ∧ Int32.toInt r ≤ 399)) (fun u => [(q_0, .inr (5, [.int x_1, .ref q_7, .ref q_8, .ref q_2, .ref q_4, .ref q_3, .ref q_9, .ref q_10, .ref q_11, .ref q_12, .ref q_1, .ref q_5, .ref q_6, .int (u.2.2.1 0), .int (u.2.2.1 1)])), (q_1, .inl (k 0, 400, .inl f_4)), (q_2, .inl (k 0, 400, .inl f_5)), (q_3, .inl (k 0, 400, .inl f_6)), (q_4, .inl (k 0, 400, .inl f_7)), (q_5, .inl (k 0, 400, .inl f_8)), (q_6, .inl (k 0, 400, .inl f_9))]) := by
  refine zMi_of (own := RX5) (by decide +kernel) rfl (Nat.le_of_ble_eq_true rfl) ?_
  intro p e s m args below meth c A ls C0 hr hlk hin hP hD hS hA hK hN hl
  have hx := C0.1
  have hb := C0.2.1
  have hml := C0.2.2.1
  have hown := C0.2.2.2.1
  have hts := C0.2.2.2.2
  have hl : lv_has ls 5 [(0, .ref q_0), (1, .int x_0)] := hl
  have hP : va_P D vwCl [(q_0, .inr (5, [.int x_1, .ref q_7, .ref q_8, .ref q_2, .ref q_4, .ref q_3, .ref q_9, .ref q_10, .ref q_11, .ref q_12, .ref q_1, .ref q_5, .ref q_6, .int x_2, .int x_3])), (q_1, .inl (k 0, 400, .inl f_4)), (q_2, .inl (k 0, 400, .inl f_5)), (q_3, .inl (k 0, 400, .inl f_6)), (q_4, .inl (k 0, 400, .inl f_7)), (q_5, .inl (k 0, 400, .inl f_8)), (q_6, .inl (k 0, 400, .inl f_9))] s.heap := hP
  refine lv_aload_n hx hb dX5_findAltered_0 rfl (lv_at hl 0 rfl) ?_
  refine va_get (D := D) (ci := 5) (v := .ref q_1) (C := RX5) (T := TX5) (N := 15) hx hb hts inX5 hown hK hP 0 rfl rfl 10 (by decide) (hts _ kF_X5_39) (fun _ h9 => h9) rfl dX5_findAltered_1 ?_
  refine lv_iload_n hx hb dX5_findAltered_4 rfl (lv_at hl 1 rfl) ?_
  refine va_iald hx hb hK hP 1 0 rfl rfl (by revert h_x_0; simp only [vp_in_iff, Int32.lt_iff_toInt_lt, Int32.le_iff_toInt_le, Int64.lt_iff_toInt_lt, Int64.le_iff_toInt_le, Int32.toInt_toInt64, ← Int32.toInt_inj, ← Int64.toInt_inj, Int32.reduceToInt, Int64.reduceToInt] <;> omega) dX5_findAltered_5 ?_
  refine lv_topi (fun y1 ey1 => ?_)
  refine lv_iconst (v := (-1)) hx hb dX5_findAltered_6 (by decide) ?_
  refine lv_icmp_ne (tgt := 13) hx hb dX5_findAltered_7 (by decide) (fun c2 => ?_) (fun c2 => ?_)
  · refine lv_aload_n hx hb dX5_findAltered_13 rfl (lv_at hl 0 rfl) ?_
    refine lv_iload_n hx hb dX5_findAltered_14 rfl (lv_at hl 1 rfl) ?_
    refine z_bi (wr := [(q_1, .inl (k 0, 400, .inl f_4)), (q_5, .inl (k 0, 400, .inl f_8)), (q_6, .inl (k 0, 400, .inl f_9))]) (z_runV (C := RX5) (As := [.int x_0]) (rest := []) C0 (s_X5_sumDay_1 l D k q_0 q_2 q_3 q_4 q_7 q_8 q_9 q_10 q_11 q_12 q_1 q_5 q_6 x_0 x_1 x_2 x_3 f_5 f_6 f_7 (by revert h_x_1; simp only [vp_in_iff, Int32.lt_iff_toInt_lt, Int32.le_iff_toInt_le, Int64.lt_iff_toInt_lt, Int64.le_iff_toInt_le, Int32.toInt_toInt64, ← Int32.toInt_inj, ← Int64.toInt_inj, Int32.reduceToInt, Int64.reduceToInt] <;> omega) h_f_5 _) okV_X5_sumDay kM_X5_66 rfl (z_pV (q0 := 0) hK hN hP hD [0, 2, 3, 4] rfl rfl rfl rfl rfl) rfl hl.1 rfl (Nat.le_of_ble_eq_true rfl) dX5_findAltered_15 rfl) hP hD hS hA [0, 2, 3, 4] [1, 5, 6] rfl rfl rfl rfl (fun r3 u3 H locs hw3 hP hD hS => ?_)
    obtain ⟨i3, a3, v3, w3, f3, g3, o3⟩ := u3
    dsimp only at hw3
    obtain rfl := hw3
    have hP : va_P D vwCl [(q_1, .inl (k 0, 400, .inl f_4)), (q_5, .inl (k 0, 400, .inl f_8)), (q_6, .inl (k 0, 400, .inl f_9)), (q_0, .inr (5, [.int x_1, .ref q_7, .ref q_8, .ref q_2, .ref q_4, .ref q_3, .ref q_9, .ref q_10, .ref q_11, .ref q_12, .ref q_1, .ref q_5, .ref q_6, .int (v3 0), .int (v3 1)])), (q_2, .inl (k 0, 400, .inl f_5)), (q_3, .inl (k 0, 400, .inl f_6)), (q_4, .inl (k 0, 400, .inl f_7))] H := hP
    have hD : va_D A [(q_1, .inl (k 0, 400, .inl f_4)), (q_5, .inl (k 0, 400, .inl f_8)), (q_6, .inl (k 0, 400, .inl f_9)), (q_0, .inr (5, [.int x_1, .ref q_7, .ref q_8, .ref q_2, .ref q_4, .ref q_3, .ref q_9, .ref q_10, .ref q_11, .ref q_12, .ref q_1, .ref q_5, .ref q_6, .int (v3 0), .int (v3 1)])), (q_2, .inl (k 0, 400, .inl f_5)), (q_3, .inl (k 0, 400, .inl f_6)), (q_4, .inl (k 0, 400, .inl f_7))] := hD
    refine lv_istore_n (lv' := [(2, .int r3), (0, .ref q_0), (1, .int x_0)]) hx hb dX5_findAltered_18 rfl hl (by decide) rfl (fun ls hl => ?_)
    refine lv_aload_n hx hb dX5_findAltered_19 rfl (lv_at hl 1 rfl) ?_
    refine va_get (D := D) (ci := 5) (v := .int (v3 0)) (C := RX5) (T := TX5) (N := 15) hx hb hts inX5 hown hK hP 3 rfl rfl 13 (by decide) (hts _ kF_X5_69) (fun _ h9 => h9) rfl dX5_findAltered_20 ?_
    refine lv_aload_n hx hb dX5_findAltered_23 rfl (lv_at hl 1 rfl) ?_
    refine va_get (D := D) (ci := 5) (v := .ref q_5) (C := RX5) (T := TX5) (N := 15) hx hb hts inX5 hown hK hP 3 rfl rfl 11 (by decide) (hts _ kF_X5_42) (fun _ h9 => h9) rfl dX5_findAltered_24 ?_
    refine lv_iload_n hx hb dX5_findAltered_27 rfl (lv_at hl 2 rfl) ?_
    refine va_iald hx hb hK hP 1 0 rfl rfl (by revert h_x_0; simp only [vp_in_iff, Int32.lt_iff_toInt_lt, Int32.le_iff_toInt_le, Int64.lt_iff_toInt_lt, Int64.le_iff_toInt_le, Int32.toInt_toInt64, ← Int32.toInt_inj, ← Int64.toInt_inj, Int32.reduceToInt, Int64.reduceToInt] <;> omega) dX5_findAltered_28 ?_
    refine lv_topi (fun y4 ey4 => ?_)
    refine lv_isub hx hb dX5_findAltered_29 ?_
    refine lv_istore_n (lv' := [(3, .int ((v3 0) - y4)), (2, .int r3), (0, .ref q_0), (1, .int x_0)]) hx hb dX5_findAltered_30 rfl hl (by decide) rfl (fun ls hl => ?_)
    refine lv_aload_n hx hb dX5_findAltered_31 rfl (lv_at hl 2 rfl) ?_
    refine va_get (D := D) (ci := 5) (v := .int (v3 1)) (C := RX5) (T := TX5) (N := 15) hx hb hts inX5 hown hK hP 3 rfl rfl 14 (by decide) (hts _ kF_X5_72) (fun _ h9 => h9) rfl dX5_findAltered_32 ?_
    refine lv_aload_n hx hb dX5_findAltered_35 rfl (lv_at hl 2 rfl) ?_
    refine va_get (D := D) (ci := 5) (v := .ref q_6) (C := RX5) (T := TX5) (N := 15) hx hb hts inX5 hown hK hP 3 rfl rfl 12 (by decide) (hts _ kF_X5_45) (fun _ h9 => h9) rfl dX5_findAltered_36 ?_
    refine lv_iload_n hx hb dX5_findAltered_39 rfl (lv_at hl 3 rfl) ?_
    refine va_iald hx hb hK hP 2 0 rfl rfl (by revert h_x_0; simp only [vp_in_iff, Int32.lt_iff_toInt_lt, Int32.le_iff_toInt_le, Int64.lt_iff_toInt_lt, Int64.le_iff_toInt_le, Int32.toInt_toInt64, ← Int32.toInt_inj, ← Int64.toInt_inj, Int32.reduceToInt, Int64.reduceToInt] <;> omega) dX5_findAltered_40 ?_
    refine lv_topi (fun y5 ey5 => ?_)
    refine lv_isub hx hb dX5_findAltered_41 ?_
    refine lv_istore (lv' := [(4, .int ((v3 1) - y5)), (3, .int ((v3 0) - y4)), (2, .int r3), (0, .ref q_0), (1, .int x_0)]) hx hb dX5_findAltered_42 hl (by decide) rfl (fun ls hl => ?_)
    refine lv_iload_n hx hb dX5_findAltered_44 rfl (lv_at hl 1 rfl) ?_
    refine lv_if_ne (tgt := 55) hx hb dX5_findAltered_45 (by decide) (fun c6 => ?_) (fun c6 => ?_)
    · refine lv_iload_n hx hb dX5_findAltered_55 rfl (lv_at hl 2 rfl) ?_
      refine lv_aload_n hx hb dX5_findAltered_56 rfl (lv_at hl 3 rfl) ?_
      refine va_get (D := D) (ci := 5) (v := .ref q_1) (C := RX5) (T := TX5) (N := 15) hx hb hts inX5 hown hK hP 3 rfl rfl 10 (by decide) (hts _ kF_X5_39) (fun _ h9 => h9) rfl dX5_findAltered_57 ?_
      refine lv_iload_n hx hb dX5_findAltered_60 rfl (lv_at hl 4 rfl) ?_
      refine va_iald hx hb hK hP 0 0 rfl rfl (by revert h_x_0; simp only [vp_in_iff, Int32.lt_iff_toInt_lt, Int32.le_iff_toInt_le, Int64.lt_iff_toInt_lt, Int64.le_iff_toInt_le, Int32.toInt_toInt64, ← Int32.toInt_inj, ← Int64.toInt_inj, Int32.reduceToInt, Int64.reduceToInt] <;> omega) dX5_findAltered_61 ?_
      refine lv_toc (v := y1) ey1.symm ?_
      refine lv_icmp_gt (tgt := 76) hx hb dX5_findAltered_62 (by decide) (fun c7 => ?_) (fun c7 => ?_)
      · refine lv_bipush (v := (-2)) hx hb dX5_findAltered_76 (by decide) ?_
        exact z_iret C0 hr hlk rfl hK hP hD hS (0, fun _ => 0, fun i => [(v3 0), (v3 1)].getD i 0, fun _ => 0, fun _ => (fun _ => 0), fun _ => (fun _ => 0), fun _ => (fun _ => none)) ⟨rfl, (by decide)⟩ [3, 0, 4, 5, 6, 1, 2] rfl rfl rfl dX5_findAltered_78
      · refine lv_iload_n hx hb dX5_findAltered_65 rfl (lv_at hl 1 rfl) ?_
        refine lv_if_eq (tgt := 76) hx hb dX5_findAltered_66 (by decide) (fun c8 => ?_) (fun c8 => ?_)
        · refine lv_bipush (v := (-2)) hx hb dX5_findAltered_76 (by decide) ?_
          exact z_iret C0 hr hlk rfl hK hP hD hS (0, fun _ => 0, fun i => [(v3 0), (v3 1)].getD i 0, fun _ => 0, fun _ => (fun _ => 0), fun _ => (fun _ => 0), fun _ => (fun _ => none)) ⟨rfl, (by decide)⟩ [3, 0, 4, 5, 6, 1, 2] rfl rfl rfl dX5_findAltered_78
        · refine lv_iload hx hb dX5_findAltered_69 (lv_at hl 0 rfl) ?_
          refine lv_iload_n hx hb dX5_findAltered_71 rfl (lv_at hl 1 rfl) ?_
          refine lv_irem hx hb dX5_findAltered_72 c6 ?_
          refine lv_topi (fun y9 ey9 => ?_)
          refine lv_if_eq (tgt := 79) hx hb dX5_findAltered_73 (by decide) (fun c10 => ?_) (fun c10 => ?_)
          · refine lv_aload_n hx hb dX5_findAltered_79 rfl (lv_at hl 3 rfl) ?_
            refine lv_iload_n hx hb dX5_findAltered_80 rfl (lv_at hl 4 rfl) ?_
            refine lv_iload hx hb dX5_findAltered_81 (lv_at hl 0 rfl) ?_
            refine lv_iload_n hx hb dX5_findAltered_83 rfl (lv_at hl 1 rfl) ?_
            refine lv_idiv hx hb dX5_findAltered_84 c6 ?_
            refine lv_topi (fun y11 ey11 => ?_)
            refine z_bi (wr := [(q_1, .inl (k 0, 400, .inl f_4)), (q_5, .inl (k 0, 400, .inl f_8)), (q_6, .inl (k 0, 400, .inl f_9)), (q_3, .inl (k 0, 400, .inl f_6)), (q_4, .inl (k 0, 400, .inl f_7))]) (z_runV (C := RX5) (As := [.int x_0, .int y11]) (rest := []) C0 (s_X5_markAtPlace_1 l D k q_0 q_2 q_7 q_8 q_4 q_3 q_9 q_10 q_11 q_12 q_1 q_5 q_6 x_0 y11 x_1 (v3 0) (v3 1) f_5 (by revert h_x_1; simp only [vp_in_iff, Int32.lt_iff_toInt_lt, Int32.le_iff_toInt_le, Int64.lt_iff_toInt_lt, Int64.le_iff_toInt_le, Int32.toInt_toInt64, ← Int32.toInt_inj, ← Int64.toInt_inj, Int32.reduceToInt, Int64.reduceToInt] <;> omega) h_f_5 _) okV_X5_markAtPlace kM_X5_75 rfl (z_pV (q0 := 3) hK hN hP hD [3, 4] rfl rfl rfl rfl rfl) rfl hl.1 rfl (Nat.le_of_ble_eq_true rfl) dX5_findAltered_85 rfl) hP hD hS hA [3, 4] [0, 1, 2, 5, 6] rfl rfl rfl rfl (fun r12 u12 H locs hw12 hP hD hS => ?_)
            obtain ⟨i12, a12, v12, w12, f12, g12, o12⟩ := u12
            dsimp only at hw12
            obtain ⟨rfl, hr12⟩ := hw12
            have hP : va_P D vwCl [(q_1, .inl (k 0, 400, .inl f_4)), (q_5, .inl (k 0, 400, .inl f_8)), (q_6, .inl (k 0, 400, .inl f_9)), (q_3, .inl (k 0, 400, .inl f_6)), (q_4, .inl (k 0, 400, .inl f_7)), (q_0, .inr (5, [.int x_1, .ref q_7, .ref q_8, .ref q_2, .ref q_4, .ref q_3, .ref q_9, .ref q_10, .ref q_11, .ref q_12, .ref q_1, .ref q_5, .ref q_6, .int (v3 0), .int (v3 1)])), (q_2, .inl (k 0, 400, .inl f_5))] H := hP
            have hD : va_D A [(q_1, .inl (k 0, 400, .inl f_4)), (q_5, .inl (k 0, 400, .inl f_8)), (q_6, .inl (k 0, 400, .inl f_9)), (q_3, .inl (k 0, 400, .inl f_6)), (q_4, .inl (k 0, 400, .inl f_7)), (q_0, .inr (5, [.int x_1, .ref q_7, .ref q_8, .ref q_2, .ref q_4, .ref q_3, .ref q_9, .ref q_10, .ref q_11, .ref q_12, .ref q_1, .ref q_5, .ref q_6, .int (v3 0), .int (v3 1)])), (q_2, .inl (k 0, 400, .inl f_5))] := hD
            exact z_iret C0 hr hlk rfl hK hP hD hS (0, fun _ => 0, fun i => [(v3 0), (v3 1)].getD i 0, fun _ => 0, fun _ => (fun _ => 0), fun _ => (fun _ => 0), fun _ => (fun _ => none)) ⟨rfl, (by revert hr12; simp only [vp_in_iff, Int32.lt_iff_toInt_lt, Int32.le_iff_toInt_le, Int64.lt_iff_toInt_lt, Int64.le_iff_toInt_le, Int32.toInt_toInt64, ← Int32.toInt_inj, ← Int64.toInt_inj, Int32.reduceToInt, Int64.reduceToInt] <;> omega)⟩ [5, 0, 6, 3, 4, 1, 2] rfl rfl rfl dX5_findAltered_88
          · refine lv_bipush (v := (-2)) hx hb dX5_findAltered_76 (by decide) ?_
            exact z_iret C0 hr hlk rfl hK hP hD hS (0, fun _ => 0, fun i => [(v3 0), (v3 1)].getD i 0, fun _ => 0, fun _ => (fun _ => 0), fun _ => (fun _ => 0), fun _ => (fun _ => none)) ⟨rfl, (by decide)⟩ [3, 0, 4, 5, 6, 1, 2] rfl rfl rfl dX5_findAltered_78
    · refine lv_iload hx hb dX5_findAltered_48 (lv_at hl 0 rfl) ?_
      refine lv_if_ne (tgt := 55) hx hb dX5_findAltered_50 (by decide) (fun c13 => ?_) (fun c13 => ?_)
      · refine lv_iload_n hx hb dX5_findAltered_55 rfl (lv_at hl 2 rfl) ?_
        refine lv_aload_n hx hb dX5_findAltered_56 rfl (lv_at hl 3 rfl) ?_
        refine va_get (D := D) (ci := 5) (v := .ref q_1) (C := RX5) (T := TX5) (N := 15) hx hb hts inX5 hown hK hP 3 rfl rfl 10 (by decide) (hts _ kF_X5_39) (fun _ h9 => h9) rfl dX5_findAltered_57 ?_
        refine lv_iload_n hx hb dX5_findAltered_60 rfl (lv_at hl 4 rfl) ?_
        refine va_iald hx hb hK hP 0 0 rfl rfl (by revert h_x_0; simp only [vp_in_iff, Int32.lt_iff_toInt_lt, Int32.le_iff_toInt_le, Int64.lt_iff_toInt_lt, Int64.le_iff_toInt_le, Int32.toInt_toInt64, ← Int32.toInt_inj, ← Int64.toInt_inj, Int32.reduceToInt, Int64.reduceToInt] <;> omega) dX5_findAltered_61 ?_
        refine lv_toc (v := y1) ey1.symm ?_
        refine lv_icmp_gt (tgt := 76) hx hb dX5_findAltered_62 (by decide) (fun c14 => ?_) (fun c14 => ?_)
        · refine lv_bipush (v := (-2)) hx hb dX5_findAltered_76 (by decide) ?_
          exact z_iret C0 hr hlk rfl hK hP hD hS (0, fun _ => 0, fun i => [(v3 0), (v3 1)].getD i 0, fun _ => 0, fun _ => (fun _ => 0), fun _ => (fun _ => 0), fun _ => (fun _ => none)) ⟨rfl, (by decide)⟩ [3, 0, 4, 5, 6, 1, 2] rfl rfl rfl dX5_findAltered_78
        · refine lv_iload_n hx hb dX5_findAltered_65 rfl (lv_at hl 1 rfl) ?_
          refine lv_if_eq (tgt := 76) hx hb dX5_findAltered_66 (by decide) (fun c15 => ?_) (fun c15 => ?_)
          · refine lv_bipush (v := (-2)) hx hb dX5_findAltered_76 (by decide) ?_
            exact z_iret C0 hr hlk rfl hK hP hD hS (0, fun _ => 0, fun i => [(v3 0), (v3 1)].getD i 0, fun _ => 0, fun _ => (fun _ => 0), fun _ => (fun _ => 0), fun _ => (fun _ => none)) ⟨rfl, (by decide)⟩ [3, 0, 4, 5, 6, 1, 2] rfl rfl rfl dX5_findAltered_78
          · refine lv_iload hx hb dX5_findAltered_69 (lv_at hl 0 rfl) ?_
            refine lv_iload_n hx hb dX5_findAltered_71 rfl (lv_at hl 1 rfl) ?_
            refine lv_irem hx hb dX5_findAltered_72 c15 ?_
            refine lv_topi (fun y16 ey16 => ?_)
            refine lv_if_eq (tgt := 79) hx hb dX5_findAltered_73 (by decide) (fun c17 => ?_) (fun c17 => ?_)
            · refine lv_aload_n hx hb dX5_findAltered_79 rfl (lv_at hl 3 rfl) ?_
              refine lv_iload_n hx hb dX5_findAltered_80 rfl (lv_at hl 4 rfl) ?_
              refine lv_iload hx hb dX5_findAltered_81 (lv_at hl 0 rfl) ?_
              refine lv_iload_n hx hb dX5_findAltered_83 rfl (lv_at hl 1 rfl) ?_
              refine lv_idiv hx hb dX5_findAltered_84 c15 ?_
              refine lv_topi (fun y18 ey18 => ?_)
              refine z_bi (wr := [(q_1, .inl (k 0, 400, .inl f_4)), (q_5, .inl (k 0, 400, .inl f_8)), (q_6, .inl (k 0, 400, .inl f_9)), (q_3, .inl (k 0, 400, .inl f_6)), (q_4, .inl (k 0, 400, .inl f_7))]) (z_runV (C := RX5) (As := [.int x_0, .int y18]) (rest := []) C0 (s_X5_markAtPlace_1 l D k q_0 q_2 q_7 q_8 q_4 q_3 q_9 q_10 q_11 q_12 q_1 q_5 q_6 x_0 y18 x_1 (v3 0) (v3 1) f_5 (by revert h_x_1; simp only [vp_in_iff, Int32.lt_iff_toInt_lt, Int32.le_iff_toInt_le, Int64.lt_iff_toInt_lt, Int64.le_iff_toInt_le, Int32.toInt_toInt64, ← Int32.toInt_inj, ← Int64.toInt_inj, Int32.reduceToInt, Int64.reduceToInt] <;> omega) h_f_5 _) okV_X5_markAtPlace kM_X5_75 rfl (z_pV (q0 := 3) hK hN hP hD [3, 4] rfl rfl rfl rfl rfl) rfl hl.1 rfl (Nat.le_of_ble_eq_true rfl) dX5_findAltered_85 rfl) hP hD hS hA [3, 4] [0, 1, 2, 5, 6] rfl rfl rfl rfl (fun r19 u19 H locs hw19 hP hD hS => ?_)
              obtain ⟨i19, a19, v19, w19, f19, g19, o19⟩ := u19
              dsimp only at hw19
              obtain ⟨rfl, hr19⟩ := hw19
              have hP : va_P D vwCl [(q_1, .inl (k 0, 400, .inl f_4)), (q_5, .inl (k 0, 400, .inl f_8)), (q_6, .inl (k 0, 400, .inl f_9)), (q_3, .inl (k 0, 400, .inl f_6)), (q_4, .inl (k 0, 400, .inl f_7)), (q_0, .inr (5, [.int x_1, .ref q_7, .ref q_8, .ref q_2, .ref q_4, .ref q_3, .ref q_9, .ref q_10, .ref q_11, .ref q_12, .ref q_1, .ref q_5, .ref q_6, .int (v3 0), .int (v3 1)])), (q_2, .inl (k 0, 400, .inl f_5))] H := hP
              have hD : va_D A [(q_1, .inl (k 0, 400, .inl f_4)), (q_5, .inl (k 0, 400, .inl f_8)), (q_6, .inl (k 0, 400, .inl f_9)), (q_3, .inl (k 0, 400, .inl f_6)), (q_4, .inl (k 0, 400, .inl f_7)), (q_0, .inr (5, [.int x_1, .ref q_7, .ref q_8, .ref q_2, .ref q_4, .ref q_3, .ref q_9, .ref q_10, .ref q_11, .ref q_12, .ref q_1, .ref q_5, .ref q_6, .int (v3 0), .int (v3 1)])), (q_2, .inl (k 0, 400, .inl f_5))] := hD
              exact z_iret C0 hr hlk rfl hK hP hD hS (0, fun _ => 0, fun i => [(v3 0), (v3 1)].getD i 0, fun _ => 0, fun _ => (fun _ => 0), fun _ => (fun _ => 0), fun _ => (fun _ => none)) ⟨rfl, (by revert hr19; simp only [vp_in_iff, Int32.lt_iff_toInt_lt, Int32.le_iff_toInt_le, Int64.lt_iff_toInt_lt, Int64.le_iff_toInt_le, Int32.toInt_toInt64, ← Int32.toInt_inj, ← Int64.toInt_inj, Int32.reduceToInt, Int64.reduceToInt] <;> omega)⟩ [5, 0, 6, 3, 4, 1, 2] rfl rfl rfl dX5_findAltered_88
            · refine lv_bipush (v := (-2)) hx hb dX5_findAltered_76 (by decide) ?_
              exact z_iret C0 hr hlk rfl hK hP hD hS (0, fun _ => 0, fun i => [(v3 0), (v3 1)].getD i 0, fun _ => 0, fun _ => (fun _ => 0), fun _ => (fun _ => 0), fun _ => (fun _ => none)) ⟨rfl, (by decide)⟩ [3, 0, 4, 5, 6, 1, 2] rfl rfl rfl dX5_findAltered_78
      · refine lv_iconst (v := (-1)) hx hb dX5_findAltered_53 (by decide) ?_
        exact z_iret C0 hr hlk rfl hK hP hD hS (0, fun _ => 0, fun i => [(v3 0), (v3 1)].getD i 0, fun _ => 0, fun _ => (fun _ => 0), fun _ => (fun _ => 0), fun _ => (fun _ => none)) ⟨rfl, (by decide)⟩ [3, 0, 4, 5, 6, 1, 2] rfl rfl rfl dX5_findAltered_54
  · refine lv_bipush (v := (-3)) hx hb dX5_findAltered_10 (by decide) ?_
    exact z_iret C0 hr hlk rfl hK hP hD hS (0, fun _ => 0, fun i => [x_2, x_3].getD i 0, fun _ => 0, fun _ => (fun _ => 0), fun _ => (fun _ => 0), fun _ => (fun _ => none)) ⟨rfl, (by decide)⟩ [0, 1, 2, 3, 4, 5, 6] rfl rfl rfl dX5_findAltered_12

set_option maxHeartbeats 4000000 in
set_option maxRecDepth 100000 in
theorem s_X11_found_1 (l : Launch) (D : va_G) (k : Nat → ClassId) (q_0 : Nat) (q_1 : Nat) (q_2 : Nat) (q_3 : Nat) (q_4 : Nat) (q_5 : Nat) (q_6 : Nat) (q_7 : Nat) (q_8 : Nat) (q_9 : Nat) (q_10 : Nat) (q_11 : Nat) (q_12 : Nat) (q_13 : Nat) (q_14 : Nat) (q_15 : Nat) (q_16 : Nat) (q_17 : Nat) (q_18 : Nat) (q_19 : Nat) (q_20 : Nat) (q_21 : Nat) (q_22 : Nat) (q_23 : Nat) (x_0 : Int32) (x_1 : Int32) (x_2 : Int32) (x_3 : Int32) (x_4 : Int32) (f_5 : Nat → Int32) (f_6 : Nat → Int32) (f_7 : Nat → Int32) (f_8 : Nat → Int32) (f_9 : Nat → Int32) (f_10 : Nat → Int32) (h_x_2 : 0 ≤ Int32.toInt x_2 ∧ Int32.toInt x_2 ≤ 400) (h_f_6 : zR f_6 0 799) : zMi l yX11_found cX11_found 2 (some .int) ({ frames := 3, cells := 0, slots := 0, locals := 68 }) D k [.ref q_0, .int x_0] [(q_0, .inr (11, [.ref q_1, .ref q_9, .ref q_10, .ref q_11, .ref q_12, .int x_1])), (q_1, .inr (3, [.ref q_13, .ref q_14, .ref q_2, .ref q_15, .ref q_16, .ref q_17])), (q_2, .inr (5, [.int x_2, .ref q_18, .ref q_19, .ref q_4, .ref q_6, .ref q_5, .ref q_20, .ref q_21, .ref q_22, .ref q_23, .ref q_3, .ref q_7, .ref q_8, .int x_3, .int x_4])), (q_3, .inl (k 0, 400, .inl f_5)), (q_4, .inl (k 0, 400, .inl f_6)), (q_5, .inl (k 0, 400, .inl f_7)), (q_6, .inl (k 0, 400, .inl f_8)), (q_7, .inl (k 0, 400, .inl f_9)), (q_8, .inl (k 0, 400, .inl f_10))] (fun r u => u.1 = 0 ∧ ((-3) ≤ Int32.toInt r ∧ Int32.toInt r ≤ 399)) (fun u => [(q_0, .inr (11, [.ref q_1, .ref q_9, .ref q_10, .ref q_11, .ref q_12, .int x_1])), (q_1, .inr (3, [.ref q_13, .ref q_14, .ref q_2, .ref q_15, .ref q_16, .ref q_17])), (q_2, .inr (5, [.int x_2, .ref q_18, .ref q_19, .ref q_4, .ref q_6, .ref q_5, .ref q_20, .ref q_21, .ref q_22, .ref q_23, .ref q_3, .ref q_7, .ref q_8, .int (u.2.2.1 0), .int (u.2.2.1 1)])), (q_3, .inl (k 0, 400, .inl f_5)), (q_4, .inl (k 0, 400, .inl f_6)), (q_5, .inl (k 0, 400, .inl f_7)), (q_6, .inl (k 0, 400, .inl f_8)), (q_7, .inl (k 0, 400, .inl f_9)), (q_8, .inl (k 0, 400, .inl f_10))]) := by
  refine zMi_of (own := RX11) (by decide +kernel) rfl (Nat.le_of_ble_eq_true rfl) ?_
  intro p e s m args below meth c A ls C0 hr hlk hin hP hD hS hA hK hN hl
  have hx := C0.1
  have hb := C0.2.1
  have hml := C0.2.2.1
  have hown := C0.2.2.2.1
  have hts := C0.2.2.2.2
  have hl : lv_has ls 2 [(0, .ref q_0), (1, .int x_0)] := hl
  have hP : va_P D vwCl [(q_0, .inr (11, [.ref q_1, .ref q_9, .ref q_10, .ref q_11, .ref q_12, .int x_1])), (q_1, .inr (3, [.ref q_13, .ref q_14, .ref q_2, .ref q_15, .ref q_16, .ref q_17])), (q_2, .inr (5, [.int x_2, .ref q_18, .ref q_19, .ref q_4, .ref q_6, .ref q_5, .ref q_20, .ref q_21, .ref q_22, .ref q_23, .ref q_3, .ref q_7, .ref q_8, .int x_3, .int x_4])), (q_3, .inl (k 0, 400, .inl f_5)), (q_4, .inl (k 0, 400, .inl f_6)), (q_5, .inl (k 0, 400, .inl f_7)), (q_6, .inl (k 0, 400, .inl f_8)), (q_7, .inl (k 0, 400, .inl f_9)), (q_8, .inl (k 0, 400, .inl f_10))] s.heap := hP
  refine lv_iload_n hx hb dX11_found_0 rfl (lv_at hl 1 rfl) ?_
  refine z_bi0 (z_runS (As := [.int x_0]) (rest := []) C0 (s_X11_isNoDay_1 l D k x_0 _) okS_X11_isNoDay kM_X11_72 rfl (z_p0 hK hN) rfl hl.1 rfl (Nat.le_of_ble_eq_true rfl) dX11_found_1 rfl) hP hS hA (fun r1 u1 H locs hw1 hP hS => ?_)
  obtain ⟨i1, a1, v1, w1, f1, g1, o1⟩ := u1
  dsimp only at hw1
  rcases hw1 with ⟨rfl, rfl, c1⟩ | ⟨rfl, rfl, c1⟩
  · refine lv_if_eq (tgt := 12) hx hb dX11_found_4 (by decide) (fun c2 => absurd c2 (by decide)) (fun _ => ?_)
    refine lv_bipush (v := (-3)) hx hb dX11_found_7 (by decide) ?_
    refine lv_goto (tgt := 23) hx hb dX11_found_9 (by decide) ?_
    exact z_iret C0 hr hlk rfl hK hP hD hS (0, fun _ => 0, fun i => [x_3, x_4].getD i 0, fun _ => 0, fun _ => (fun _ => 0), fun _ => (fun _ => 0), fun _ => (fun _ => none)) ⟨rfl, (by decide)⟩ [0, 1, 2, 3, 4, 5, 6, 7, 8] rfl rfl rfl dX11_found_23
  · refine lv_if_eq (tgt := 12) hx hb dX11_found_4 (by decide) (fun _ => ?_) (fun c3 => absurd (by decide) c3)
    refine lv_aload_n hx hb dX11_found_12 rfl (lv_at hl 0 rfl) ?_
    refine va_get (D := D) (ci := 11) (v := .ref q_1) (C := RX11) (T := TX11) (N := 6) hx hb hts inX11 hown hK hP 0 rfl rfl 0 (by decide) (hts _ kF_X11_12) (fun _ h9 => h9) rfl dX11_found_13 ?_
    refine va_get (D := D) (ci := 3) (v := .ref q_2) (C := RX3) (T := TX3) (N := 6) hx hb hts inX3 hown hK hP 1 rfl rfl 2 (by decide) (hts _ kF_X11_137) (fun _ h9 => h9) rfl dX11_found_16 ?_
    refine lv_iload_n hx hb dX11_found_19 rfl (lv_at hl 1 rfl) ?_
    refine z_bi (wr := [(q_0, .inr (11, [.ref q_1, .ref q_9, .ref q_10, .ref q_11, .ref q_12, .int x_1])), (q_1, .inr (3, [.ref q_13, .ref q_14, .ref q_2, .ref q_15, .ref q_16, .ref q_17]))]) (z_runV (C := RX5) (As := [.int x_0]) (rest := []) C0 (s_X5_findAltered_1 l D k q_2 q_3 q_4 q_5 q_6 q_7 q_8 q_18 q_19 q_20 q_21 q_22 q_23 x_0 x_2 x_3 x_4 f_5 f_6 f_7 f_8 f_9 f_10 (by revert c1; simp only [vp_in_iff, Int32.lt_iff_toInt_lt, Int32.le_iff_toInt_le, Int64.lt_iff_toInt_lt, Int64.le_iff_toInt_le, Int32.toInt_toInt64, ← Int32.toInt_inj, ← Int64.toInt_inj, Int32.reduceToInt, Int64.reduceToInt] <;> omega) (by revert h_x_2; simp only [vp_in_iff, Int32.lt_iff_toInt_lt, Int32.le_iff_toInt_le, Int64.lt_iff_toInt_lt, Int64.le_iff_toInt_le, Int32.toInt_toInt64, ← Int32.toInt_inj, ← Int64.toInt_inj, Int32.reduceToInt, Int64.reduceToInt] <;> omega) h_f_6 _) okV_X5_findAltered kM_X11_377 rfl (z_pV (q0 := 2) hK hN hP hD [2, 3, 4, 5, 6, 7, 8] rfl rfl rfl rfl rfl) rfl hl.1 rfl (Nat.le_of_ble_eq_true rfl) dX11_found_20 rfl) hP hD hS hA [2, 3, 4, 5, 6, 7, 8] [0, 1] rfl rfl rfl rfl (fun r4 u4 H locs hw4 hP hD hS => ?_)
    obtain ⟨i4, a4, v4, w4, f4, g4, o4⟩ := u4
    dsimp only at hw4
    obtain ⟨rfl, hr4⟩ := hw4
    have hP : va_P D vwCl [(q_0, .inr (11, [.ref q_1, .ref q_9, .ref q_10, .ref q_11, .ref q_12, .int x_1])), (q_1, .inr (3, [.ref q_13, .ref q_14, .ref q_2, .ref q_15, .ref q_16, .ref q_17])), (q_2, .inr (5, [.int x_2, .ref q_18, .ref q_19, .ref q_4, .ref q_6, .ref q_5, .ref q_20, .ref q_21, .ref q_22, .ref q_23, .ref q_3, .ref q_7, .ref q_8, .int (v4 0), .int (v4 1)])), (q_3, .inl (k 0, 400, .inl f_5)), (q_4, .inl (k 0, 400, .inl f_6)), (q_5, .inl (k 0, 400, .inl f_7)), (q_6, .inl (k 0, 400, .inl f_8)), (q_7, .inl (k 0, 400, .inl f_9)), (q_8, .inl (k 0, 400, .inl f_10))] H := hP
    have hD : va_D A [(q_0, .inr (11, [.ref q_1, .ref q_9, .ref q_10, .ref q_11, .ref q_12, .int x_1])), (q_1, .inr (3, [.ref q_13, .ref q_14, .ref q_2, .ref q_15, .ref q_16, .ref q_17])), (q_2, .inr (5, [.int x_2, .ref q_18, .ref q_19, .ref q_4, .ref q_6, .ref q_5, .ref q_20, .ref q_21, .ref q_22, .ref q_23, .ref q_3, .ref q_7, .ref q_8, .int (v4 0), .int (v4 1)])), (q_3, .inl (k 0, 400, .inl f_5)), (q_4, .inl (k 0, 400, .inl f_6)), (q_5, .inl (k 0, 400, .inl f_7)), (q_6, .inl (k 0, 400, .inl f_8)), (q_7, .inl (k 0, 400, .inl f_9)), (q_8, .inl (k 0, 400, .inl f_10))] := hD
    exact z_iret C0 hr hlk rfl hK hP hD hS (0, fun _ => 0, fun i => [(v4 0), (v4 1)].getD i 0, fun _ => 0, fun _ => (fun _ => 0), fun _ => (fun _ => 0), fun _ => (fun _ => none)) ⟨rfl, (by revert hr4; simp only [vp_in_iff, Int32.lt_iff_toInt_lt, Int32.le_iff_toInt_le, Int64.lt_iff_toInt_lt, Int64.le_iff_toInt_le, Int32.toInt_toInt64, ← Int32.toInt_inj, ← Int64.toInt_inj, Int32.reduceToInt, Int64.reduceToInt] <;> omega)⟩ [0, 1, 2, 3, 4, 5, 6, 7, 8] rfl rfl rfl dX11_found_23
