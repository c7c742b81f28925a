set_option maxHeartbeats 4000000 in
set_option maxRecDepth 100000 in
theorem c_X11_areNoHalves_1 (l : Launch) (D : va_G) (k : Nat → ClassId) (x_0 : Int32) (x_1 : Int32) : zMi l yX11_areNoHalves cX11_areNoHalves 2 (some .boolean) ({ frames := 0, cells := 0, slots := 0, locals := 0 }) D k [.int x_0, .int x_1] [] (fun r u => (u.1 = 0 ∧ r = 1 ∧ ((x_0 < 0) ∨ (¬ x_0 < 0 ∧ (800 : Int32) ≤ x_1) ∨ (¬ x_0 < 0 ∧ ¬ (800 : Int32) ≤ x_1 ∧ ¬ x_0 ≤ x_1))) ∨ (u.1 = 1 ∧ r = 0 ∧ ((¬ x_0 < 0 ∧ ¬ (800 : Int32) ≤ x_1 ∧ x_0 ≤ x_1)))) (fun u => []) := by
  refine zMi_of (own := RX11) (by decide +kernel) rfl (Nat.le_of_ble_eq_true rfl) ?_
  intro p e s m args below meth c A ls C0 hr hlk hin hP hD hS hA hK hN hl
  have hx := C0.1
  have hb := C0.2.1
  have hml := C0.2.2.1
  have hown := C0.2.2.2.1
  have hts := C0.2.2.2.2
  have hl : lv_has ls 2 [(0, .int x_0), (1, .int x_1)] := hl
  have hP : va_P D vwCl [] s.heap := hP
  refine lv_iload_n hx hb dX11_areNoHalves_0 rfl (lv_at hl 0 rfl) ?_
  refine lv_if_lt (tgt := 16) hx hb dX11_areNoHalves_1 (by decide) (fun c1 => ?_) (fun c1 => ?_)
  · refine lv_iconst (v := 1) hx hb dX11_areNoHalves_16 (by decide) ?_
    refine lv_goto (tgt := 21) hx hb dX11_areNoHalves_17 (by decide) ?_
    exact z_iret C0 hr hlk rfl hK hP hD hS (0, fun _ => 0) (Or.inl ⟨rfl, rfl, (Or.inl c1)⟩) [] rfl rfl rfl dX11_areNoHalves_21
  · refine lv_iload_n hx hb dX11_areNoHalves_4 rfl (lv_at hl 1 rfl) ?_
    refine lv_sipush (v := 800) hx hb dX11_areNoHalves_5 (by decide) ?_
    refine lv_icmp_ge (tgt := 16) hx hb dX11_areNoHalves_8 (by decide) (fun c2 => ?_) (fun c2 => ?_)
    · refine lv_iconst (v := 1) hx hb dX11_areNoHalves_16 (by decide) ?_
      refine lv_goto (tgt := 21) hx hb dX11_areNoHalves_17 (by decide) ?_
      exact z_iret C0 hr hlk rfl hK hP hD hS (0, fun _ => 0) (Or.inl ⟨rfl, rfl, (Or.inr (Or.inl (⟨c1, c2⟩)))⟩) [] rfl rfl rfl dX11_areNoHalves_21
    · refine lv_iload_n hx hb dX11_areNoHalves_11 rfl (lv_at hl 0 rfl) ?_
      refine lv_iload_n hx hb dX11_areNoHalves_12 rfl (lv_at hl 1 rfl) ?_
      refine lv_icmp_le (tgt := 20) hx hb dX11_areNoHalves_13 (by decide) (fun c3 => ?_) (fun c3 => ?_)
      · refine lv_iconst (v := 0) hx hb dX11_areNoHalves_20 (by decide) ?_
        exact z_iret C0 hr hlk rfl hK hP hD hS (1, fun _ => 0) (Or.inr (⟨rfl, rfl, ⟨c1, c2, c3⟩⟩)) [] rfl rfl rfl dX11_areNoHalves_21
      · refine lv_iconst (v := 1) hx hb dX11_areNoHalves_16 (by decide) ?_
        refine lv_goto (tgt := 21) hx hb dX11_areNoHalves_17 (by decide) ?_
        exact z_iret C0 hr hlk rfl hK hP hD hS (0, fun _ => 0) (Or.inl ⟨rfl, rfl, (Or.inr (Or.inr (⟨c1, c2, c3⟩)))⟩) [] rfl rfl rfl dX11_areNoHalves_21

set_option maxHeartbeats 4000000 in
set_option maxRecDepth 100000 in
theorem c_X11_rate_1 (l : Launch) (D : va_G) (k : Nat → ClassId) (q_0 : Nat) (q_1 : Nat) (q_2 : Nat) (q_3 : Nat) (q_4 : Nat) (q_5 : Nat) (q_6 : Nat) (q_7 : Nat) (q_8 : Nat) (q_9 : Nat) (q_10 : Nat) (q_11 : Nat) (q_12 : Nat) (q_13 : Nat) (q_14 : Nat) (q_15 : Nat) (q_16 : Nat) (q_17 : Nat) (q_18 : Nat) (q_19 : Nat) (q_20 : Nat) (q_21 : Nat) (q_22 : Nat) (q_23 : Nat) (x_0 : Int32) (x_1 : Int32) (x_2 : Int32) (x_3 : Int32) (x_4 : Int32) (x_5 : Int32) (x_6 : Int32) (x_7 : Int32) : zMi l yX11_rate cX11_rate 6 (some .int) ({ frames := 1, cells := 0, slots := 0, locals := 21 }) D k [.ref q_0, .int x_0, .int x_1, .int x_2, .int x_3, .int x_4] [(q_0, .inr (11, [.ref q_1, .ref q_3, .ref q_4, .ref q_5, .ref q_6, .int x_5])), (q_1, .inr (3, [.ref q_2, .ref q_7, .ref q_8, .ref q_9, .ref q_10, .ref q_11])), (q_2, .inr (6, [.int 0, .ref q_12, .ref q_13, .ref q_14, .ref q_15, .ref q_16, .int x_6, .ref q_17, .int x_7, .ref q_18, .ref q_19, .ref q_20, .ref q_21, .ref q_22, .ref q_23]))] (fun r u => u.1 = 0 ∧ r = (-1)) (fun u => []) := by
  refine zMi_of (own := RX11) (by decide +kernel) rfl (Nat.le_of_ble_eq_true rfl) ?_
  intro p e s m args below meth c A ls C0 hr hlk hin hP hD hS hA hK hN hl
  have hx := C0.1
  have hb := C0.2.1
  have hml := C0.2.2.1
  have hown := C0.2.2.2.1
  have hts := C0.2.2.2.2
  have hl : lv_has ls 6 [(0, .ref q_0), (1, .int x_0), (2, .int x_1), (3, .int x_2), (4, .int x_3), (5, .int x_4)] := hl
  have hP : va_P D vwCl [(q_0, .inr (11, [.ref q_1, .ref q_3, .ref q_4, .ref q_5, .ref q_6, .int x_5])), (q_1, .inr (3, [.ref q_2, .ref q_7, .ref q_8, .ref q_9, .ref q_10, .ref q_11])), (q_2, .inr (6, [.int 0, .ref q_12, .ref q_13, .ref q_14, .ref q_15, .ref q_16, .int x_6, .ref q_17, .int x_7, .ref q_18, .ref q_19, .ref q_20, .ref q_21, .ref q_22, .ref q_23]))] s.heap := hP
  refine lv_iload_n hx hb dX11_rate_0 rfl (lv_at hl 2 rfl) ?_
  refine lv_iload_n hx hb dX11_rate_1 rfl (lv_at hl 3 rfl) ?_
  refine z_bi0 (z_runS (As := [.int x_1, .int x_2]) (rest := []) C0 (c_X11_areNoHalves_1 l D k x_1 x_2 _) okS_X11_areNoHalves kM_X11_210 rfl (z_p0 hK hN) rfl hl.1 rfl (Nat.le_of_ble_eq_true rfl) dX11_rate_2 rfl) hP hS hA (fun r1 u1 H locs hw1 hP hS => ?_)
  obtain ⟨i1, a1⟩ := u1
  dsimp only at hw1
  rcases hw1 with ⟨rfl, rfl, c1⟩ | ⟨rfl, rfl, c1⟩
  · refine lv_if_ne (tgt := 30) hx hb dX11_rate_5 (by decide) (fun _ => ?_) (fun c2 => absurd c2 (by decide))
    refine lv_iconst (v := (-1)) hx hb dX11_rate_30 (by decide) ?_
    exact z_iret C0 hr hlk rfl hK hP hD hS (0, fun _ => 0) ⟨rfl, rfl⟩ [] rfl rfl rfl dX11_rate_31
  · refine lv_if_ne (tgt := 30) hx hb dX11_rate_5 (by decide) (fun c3 => absurd (by decide) c3) (fun _ => ?_)
    refine lv_iload hx hb dX11_rate_8 (lv_at hl 4 rfl) ?_
    refine z_bi0 (z_runS (As := [.int x_3]) (rest := []) C0 (c_X11_isNoDay_1 l D k x_3 _) okS_X11_isNoDay kM_X11_72 rfl (z_p0 hK hN) rfl hl.1 rfl (Nat.le_of_ble_eq_true rfl) dX11_rate_10 rfl) hP hS hA (fun r4 u4 H locs hw4 hP hS => ?_)
    obtain ⟨i4, a4⟩ := u4
    dsimp only at hw4
    rcases hw4 with ⟨rfl, rfl, c4⟩ | ⟨rfl, rfl, c4⟩
    · refine lv_if_ne (tgt := 30) hx hb dX11_rate_13 (by decide) (fun _ => ?_) (fun c5 => absurd c5 (by decide))
      refine lv_iconst (v := (-1)) hx hb dX11_rate_30 (by decide) ?_
      exact z_iret C0 hr hlk rfl hK hP hD hS (0, fun _ => 0) ⟨rfl, rfl⟩ [] rfl rfl rfl dX11_rate_31
    · refine lv_if_ne (tgt := 30) hx hb dX11_rate_13 (by decide) (fun c6 => absurd (by decide) c6) (fun _ => ?_)
      refine lv_aload_n hx hb dX11_rate_16 rfl (lv_at hl 0 rfl) ?_
      refine va_get (D := D) (ci := 11) (v := .ref q_1) (C := RX11) (T := TX11) (N := 6) hx hb hts inX11 hown hK hP 0 rfl rfl 0 (by decide) (hts _ kF_X11_12) (fun _ h9 => h9) rfl dX11_rate_17 ?_
      refine va_get (D := D) (ci := 3) (v := .ref q_2) (C := RX3) (T := TX3) (N := 6) hx hb hts inX3 hown hK hP 1 rfl rfl 0 (by decide) (hts _ kF_X11_43) (fun _ h9 => h9) rfl dX11_rate_20 ?_
      refine lv_iload_n hx hb dX11_rate_23 rfl (lv_at hl 1 rfl) ?_
      refine z_bi (wr := [(q_0, .inr (11, [.ref q_1, .ref q_3, .ref q_4, .ref q_5, .ref q_6, .int x_5])), (q_1, .inr (3, [.ref q_2, .ref q_7, .ref q_8, .ref q_9, .ref q_10, .ref q_11]))]) (z_runV (C := RX6) (As := [.int x_0]) (rest := []) C0 (c_X6_isNoChild_1 l D k q_2 q_12 q_13 q_14 q_15 q_16 q_17 q_18 q_19 q_20 q_21 q_22 q_23 x_0 x_6 x_7 _) okV_X6_isNoChild kM_X11_90 rfl (z_pV (q0 := 2) hK hN hP hD [2] rfl rfl rfl rfl rfl) rfl hl.1 rfl (Nat.le_of_ble_eq_true rfl) dX11_rate_24 rfl) hP hD hS hA [2] [0, 1] rfl rfl rfl rfl (fun r7 u7 H locs hw7 hP hD hS => ?_)
      obtain ⟨i7, a7⟩ := u7
      dsimp only at hw7
      obtain ⟨rfl, rfl⟩ := hw7
      have hP : va_P D vwCl [(q_0, .inr (11, [.ref q_1, .ref q_3, .ref q_4, .ref q_5, .ref q_6, .int x_5])), (q_1, .inr (3, [.ref q_2, .ref q_7, .ref q_8, .ref q_9, .ref q_10, .ref q_11])), (q_2, .inr (6, [.int 0, .ref q_12, .ref q_13, .ref q_14, .ref q_15, .ref q_16, .int x_6, .ref q_17, .int x_7, .ref q_18, .ref q_19, .ref q_20, .ref q_21, .ref q_22, .ref q_23]))] H := hP
      have hD : va_D A [(q_0, .inr (11, [.ref q_1, .ref q_3, .ref q_4, .ref q_5, .ref q_6, .int x_5])), (q_1, .inr (3, [.ref q_2, .ref q_7, .ref q_8, .ref q_9, .ref q_10, .ref q_11])), (q_2, .inr (6, [.int 0, .ref q_12, .ref q_13, .ref q_14, .ref q_15, .ref q_16, .int x_6, .ref q_17, .int x_7, .ref q_18, .ref q_19, .ref q_20, .ref q_21, .ref q_22, .ref q_23]))] := hD
      refine lv_if_eq (tgt := 32) hx hb dX11_rate_27 (by decide) (fun c8 => absurd c8 (by decide)) (fun _ => ?_)
      refine lv_iconst (v := (-1)) hx hb dX11_rate_30 (by decide) ?_
      exact z_iret C0 hr hlk rfl hK hP hD hS (0, fun _ => 0) ⟨rfl, rfl⟩ [] rfl rfl rfl dX11_rate_31

set_option maxHeartbeats 4000000 in
set_option maxRecDepth 100000 in
theorem c_X12_rate_1 (l : Launch) (D : va_G) (k : Nat → ClassId) (q_0 : Nat) (q_1 : Nat) (q_2 : Nat) (q_3 : Nat) (q_4 : Nat) (q_5 : Nat) (q_6 : Nat) (q_7 : Nat) (q_8 : Nat) (q_9 : Nat) (q_10 : Nat) (q_11 : Nat) (q_12 : Nat) (q_13 : Nat) (q_14 : Nat) (q_15 : Nat) (q_16 : Nat) (q_17 : Nat) (q_18 : Nat) (q_19 : Nat) (q_20 : Nat) (q_21 : Nat) (q_22 : Nat) (q_23 : Nat) (q_24 : Nat) (q_25 : Nat) (x_0 : Int32) (x_1 : Int32) (x_2 : Int32) (x_3 : Int32) (x_4 : Int32) (x_5 : Int32) (x_6 : Int32) (x_7 : Int32) (x_8 : Int32) (x_9 : Int32) (x_10 : Int32) (x_11 : Int32) (g_12 : Int64) (x_13 : Int32) (x_14 : Int32) (x_15 : Int32) (x_16 : Int32) (x_17 : Int32) (x_18 : Int32) (x_19 : Int32) (x_20 : Int32) (g_21 : Int64) (g_22 : Int64) (x_23 : Int32) (x_24 : Int32) (x_25 : Int32) (x_26 : Int32) (x_27 : Int32) (x_28 : Int32) (x_29 : Int32) (x_30 : Int32) (x_31 : Int32) (x_32 : Int32) (x_33 : Int32) (x_34 : Int32) (x_35 : Int32) : zMi l yX12_rate cX12_rate 6 (some .int) ({ frames := 2, cells := 0, slots := 0, locals := 46 }) D k [.ref q_0, .int x_0, .int x_1, .int x_2, .int x_3, .int x_4] [(q_0, .inr (12, [.int x_5, .int x_6, .ref q_1, .ref q_2, .ref q_3, .int x_7, .ref q_4, .ref q_5, .ref q_6, .ref q_7, .ref q_8, .int x_8, .int x_9, .int x_10, .int x_11, .long g_12, .int x_13, .int x_14, .int x_15, .ref q_9, .int x_16, .ref q_10, .ref q_11, .int x_17, .ref q_12, .ref q_13, .int x_18, .int x_19, .ref q_14, .ref q_15, .ref q_16, .ref q_17, .int x_20, .long g_21, .long g_22, .int x_23, .int x_24, .int x_25, .int x_26, .ref q_18, .ref q_19, .int x_27, .int x_28, .int x_29, .int x_30, .ref q_20, .ref q_21, .int x_31, .int x_32, .ref q_22, .ref q_23, .ref q_24, .ref q_25, .int x_33, .int x_34, .int x_35])), (q_1, .inl (k 0, 27101, .inl (fun _ => 0)))] (fun r u => u.1 = 0 ∧ r = (-1)) (fun u => []) := by
  refine zMi_of (own := RX12) (by decide +kernel) rfl (Nat.le_of_ble_eq_true rfl) ?_
  intro p e s m args below meth c A ls C0 hr hlk hin hP hD hS hA hK hN hl
  have hx := C0.1
  have hb := C0.2.1
  have hml := C0.2.2.1
  have hown := C0.2.2.2.1
  have hts := C0.2.2.2.2
  have hl : lv_has ls 6 [(0, .ref q_0), (1, .int x_0), (2, .int x_1), (3, .int x_2), (4, .int x_3), (5, .int x_4)] := hl
  have hP : va_P D vwCl [(q_0, .inr (12, [.int x_5, .int x_6, .ref q_1, .ref q_2, .ref q_3, .int x_7, .ref q_4, .ref q_5, .ref q_6, .ref q_7, .ref q_8, .int x_8, .int x_9, .int x_10, .int x_11, .long g_12, .int x_13, .int x_14, .int x_15, .ref q_9, .int x_16, .ref q_10, .ref q_11, .int x_17, .ref q_12, .ref q_13, .int x_18, .int x_19, .ref q_14, .ref q_15, .ref q_16, .ref q_17, .int x_20, .long g_21, .long g_22, .int x_23, .int x_24, .int x_25, .int x_26, .ref q_18, .ref q_19, .int x_27, .int x_28, .int x_29, .int x_30, .ref q_20, .ref q_21, .int x_31, .int x_32, .ref q_22, .ref q_23, .ref q_24, .ref q_25, .int x_33, .int x_34, .int x_35])), (q_1, .inl (k 0, 27101, .inl (fun _ => 0)))] s.heap := hP
  refine lv_aload_n hx hb dX12_rate_0 rfl (lv_at hl 0 rfl) ?_
  refine lv_iconst (v := 0) hx hb dX12_rate_1 (by decide) ?_
  refine va_put (D := D) (ci := 12) (v := .int 0) (ty := .int) (C := RX12) (T := TX12) (N := 56) hx hb hts inX12 tyX12 tyX12_ok nmX12 hown hK hP hD hS 0 rfl rfl 0 (by decide) (hts _ kF_X12_92) (fun _ h9 => h9) rfl (by decide +kernel) rfl rfl (Nat.le_of_ble_eq_true rfl) dX12_rate_2 (fun H locs hP hD hS => ?_)
  have hP : va_P D vwCl [(q_0, .inr (12, [.int 0, .int x_6, .ref q_1, .ref q_2, .ref q_3, .int x_7, .ref q_4, .ref q_5, .ref q_6, .ref q_7, .ref q_8, .int x_8, .int x_9, .int x_10, .int x_11, .long g_12, .int x_13, .int x_14, .int x_15, .ref q_9, .int x_16, .ref q_10, .ref q_11, .int x_17, .ref q_12, .ref q_13, .int x_18, .int x_19, .ref q_14, .ref q_15, .ref q_16, .ref q_17, .int x_20, .long g_21, .long g_22, .int x_23, .int x_24, .int x_25, .int x_26, .ref q_18, .ref q_19, .int x_27, .int x_28, .int x_29, .int x_30, .ref q_20, .ref q_21, .int x_31, .int x_32, .ref q_22, .ref q_23, .ref q_24, .ref q_25, .int x_33, .int x_34, .int x_35])), (q_1, .inl (k 0, 27101, .inl (fun _ => 0)))] H := hP
  have hD : va_D A [(q_0, .inr (12, [.int 0, .int x_6, .ref q_1, .ref q_2, .ref q_3, .int x_7, .ref q_4, .ref q_5, .ref q_6, .ref q_7, .ref q_8, .int x_8, .int x_9, .int x_10, .int x_11, .long g_12, .int x_13, .int x_14, .int x_15, .ref q_9, .int x_16, .ref q_10, .ref q_11, .int x_17, .ref q_12, .ref q_13, .int x_18, .int x_19, .ref q_14, .ref q_15, .ref q_16, .ref q_17, .int x_20, .long g_21, .long g_22, .int x_23, .int x_24, .int x_25, .int x_26, .ref q_18, .ref q_19, .int x_27, .int x_28, .int x_29, .int x_30, .ref q_20, .ref q_21, .int x_31, .int x_32, .ref q_22, .ref q_23, .ref q_24, .ref q_25, .int x_33, .int x_34, .int x_35])), (q_1, .inl (k 0, 27101, .inl (fun _ => 0)))] := hD
  refine lv_aload_n hx hb dX12_rate_5 rfl (lv_at hl 0 rfl) ?_
  refine lv_iload_n hx hb dX12_rate_6 rfl (lv_at hl 1 rfl) ?_
  refine z_bi (wr := []) (z_runV (C := RX12) (As := [.int x_0]) (rest := []) C0 (c_X12_isChild_1 l D k q_0 q_1 q_2 q_3 q_4 q_5 q_6 q_7 q_8 q_9 q_10 q_11 q_12 q_13 q_14 q_15 q_16 q_17 q_18 q_19 q_20 q_21 q_22 q_23 q_24 q_25 x_0 0 x_6 x_7 x_8 x_9 x_10 x_11 g_12 x_13 x_14 x_15 x_16 x_17 x_18 x_19 x_20 g_21 g_22 x_23 x_24 x_25 x_26 x_27 x_28 x_29 x_30 x_31 x_32 x_33 x_34 x_35 _) okV_X12_isChild kM_X12_138 rfl (z_pV (q0 := 0) hK hN hP hD [0, 1] rfl rfl rfl rfl rfl) rfl hl.1 rfl (Nat.le_of_ble_eq_true rfl) dX12_rate_7 rfl) hP hD hS hA [0, 1] [] rfl rfl rfl rfl (fun r1 u1 H locs hw1 hP hD hS => ?_)
  obtain ⟨i1, a1⟩ := u1
  dsimp only at hw1
  obtain ⟨rfl, rfl⟩ := hw1
  have hP : va_P D vwCl [(q_0, .inr (12, [.int 0, .int x_6, .ref q_1, .ref q_2, .ref q_3, .int x_7, .ref q_4, .ref q_5, .ref q_6, .ref q_7, .ref q_8, .int x_8, .int x_9, .int x_10, .int x_11, .long g_12, .int x_13, .int x_14, .int x_15, .ref q_9, .int x_16, .ref q_10, .ref q_11, .int x_17, .ref q_12, .ref q_13, .int x_18, .int x_19, .ref q_14, .ref q_15, .ref q_16, .ref q_17, .int x_20, .long g_21, .long g_22, .int x_23, .int x_24, .int x_25, .int x_26, .ref q_18, .ref q_19, .int x_27, .int x_28, .int x_29, .int x_30, .ref q_20, .ref q_21, .int x_31, .int x_32, .ref q_22, .ref q_23, .ref q_24, .ref q_25, .int x_33, .int x_34, .int x_35])), (q_1, .inl (k 0, 27101, .inl (fun _ => 0)))] H := hP
  have hD : va_D A [(q_0, .inr (12, [.int 0, .int x_6, .ref q_1, .ref q_2, .ref q_3, .int x_7, .ref q_4, .ref q_5, .ref q_6, .ref q_7, .ref q_8, .int x_8, .int x_9, .int x_10, .int x_11, .long g_12, .int x_13, .int x_14, .int x_15, .ref q_9, .int x_16, .ref q_10, .ref q_11, .int x_17, .ref q_12, .ref q_13, .int x_18, .int x_19, .ref q_14, .ref q_15, .ref q_16, .ref q_17, .int x_20, .long g_21, .long g_22, .int x_23, .int x_24, .int x_25, .int x_26, .ref q_18, .ref q_19, .int x_27, .int x_28, .int x_29, .int x_30, .ref q_20, .ref q_21, .int x_31, .int x_32, .ref q_22, .ref q_23, .ref q_24, .ref q_25, .int x_33, .int x_34, .int x_35])), (q_1, .inl (k 0, 27101, .inl (fun _ => 0)))] := hD
  refine lv_if_eq (tgt := 52) hx hb dX12_rate_10 (by decide) (fun _ => ?_) (fun c2 => absurd (by decide) c2)
  refine lv_iconst (v := (-1)) hx hb dX12_rate_52 (by decide) ?_
  exact z_iret C0 hr hlk rfl hK hP hD hS (0, fun _ => 0) ⟨rfl, rfl⟩ [] rfl rfl rfl dX12_rate_53

set_option maxHeartbeats 4000000 in
set_option maxRecDepth 100000 in
theorem c_X11_dip_1 (l : Launch) (D : va_G) (k : Nat → ClassId) (q_0 : Nat) (q_1 : Nat) (q_2 : Nat) (q_3 : Nat) (q_4 : Nat) (q_5 : Nat) (q_6 : Nat) (q_7 : Nat) (q_8 : Nat) (q_9 : Nat) (q_10 : Nat) (q_11 : Nat) (q_12 : Nat) (q_13 : Nat) (q_14 : Nat) (q_15 : Nat) (q_16 : Nat) (q_17 : Nat) (q_18 : Nat) (q_19 : Nat) (q_20 : Nat) (q_21 : Nat) (q_22 : Nat) (q_23 : Nat) (x_0 : Int32) (x_1 : Int32) (x_2 : Int32) (x_3 : Int32) (x_4 : Int32) (x_5 : Int32) (x_6 : Int32) (x_7 : Int32) : zMi l yX11_dip cX11_dip 6 (some .int) ({ frames := 1, cells := 0, slots := 0, locals := 21 }) D k [.ref q_0, .int x_0, .int x_1, .int x_2, .int x_3, .int x_4] [(q_0, .inr (11, [.ref q_1, .ref q_3, .ref q_4, .ref q_5, .ref q_6, .int x_5])), (q_1, .inr (3, [.ref q_2, .ref q_7, .ref q_8, .ref q_9, .ref q_10, .ref q_11])), (q_2, .inr (6, [.int x_6, .ref q_12, .ref q_13, .ref q_14, .ref q_15, .ref q_16, .int 0, .ref q_17, .int x_7, .ref q_18, .ref q_19, .ref q_20, .ref q_21, .ref q_22, .ref q_23]))] (fun r u => u.1 = 0 ∧ r = (-1)) (fun u => []) := by
  refine zMi_of (own := RX11) (by decide +kernel) rfl (Nat.le_of_ble_eq_true rfl) ?_
  intro p e s m args below meth c A ls C0 hr hlk hin hP hD hS hA hK hN hl
  have hx := C0.1
  have hb := C0.2.1
  have hml := C0.2.2.1
  have hown := C0.2.2.2.1
  have hts := C0.2.2.2.2
  have hl : lv_has ls 6 [(0, .ref q_0), (1, .int x_0), (2, .int x_1), (3, .int x_2), (4, .int x_3), (5, .int x_4)] := hl
  have hP : va_P D vwCl [(q_0, .inr (11, [.ref q_1, .ref q_3, .ref q_4, .ref q_5, .ref q_6, .int x_5])), (q_1, .inr (3, [.ref q_2, .ref q_7, .ref q_8, .ref q_9, .ref q_10, .ref q_11])), (q_2, .inr (6, [.int x_6, .ref q_12, .ref q_13, .ref q_14, .ref q_15, .ref q_16, .int 0, .ref q_17, .int x_7, .ref q_18, .ref q_19, .ref q_20, .ref q_21, .ref q_22, .ref q_23]))] s.heap := hP
  refine lv_iload_n hx hb dX11_dip_0 rfl (lv_at hl 2 rfl) ?_
  refine lv_iload_n hx hb dX11_dip_1 rfl (lv_at hl 3 rfl) ?_
  refine z_bi0 (z_runS (As := [.int x_1, .int x_2]) (rest := []) C0 (c_X11_areNoHalves_1 l D k x_1 x_2 _) okS_X11_areNoHalves kM_X11_210 rfl (z_p0 hK hN) rfl hl.1 rfl (Nat.le_of_ble_eq_true rfl) dX11_dip_2 rfl) hP hS hA (fun r1 u1 H locs hw1 hP hS => ?_)
  obtain ⟨i1, a1⟩ := u1
  dsimp only at hw1
  rcases hw1 with ⟨rfl, rfl, c1⟩ | ⟨rfl, rfl, c1⟩
  · refine lv_if_ne (tgt := 30) hx hb dX11_dip_5 (by decide) (fun _ => ?_) (fun c2 => absurd c2 (by decide))
    refine lv_iconst (v := (-1)) hx hb dX11_dip_30 (by decide) ?_
    exact z_iret C0 hr hlk rfl hK hP hD hS (0, fun _ => 0) ⟨rfl, rfl⟩ [] rfl rfl rfl dX11_dip_31
  · refine lv_if_ne (tgt := 30) hx hb dX11_dip_5 (by decide) (fun c3 => absurd (by decide) c3) (fun _ => ?_)
    refine lv_iload hx hb dX11_dip_8 (lv_at hl 4 rfl) ?_
    refine z_bi0 (z_runS (As := [.int x_3]) (rest := []) C0 (c_X11_isNoDay_1 l D k x_3 _) okS_X11_isNoDay kM_X11_72 rfl (z_p0 hK hN) rfl hl.1 rfl (Nat.le_of_ble_eq_true rfl) dX11_dip_10 rfl) hP hS hA (fun r4 u4 H locs hw4 hP hS => ?_)
    obtain ⟨i4, a4⟩ := u4
    dsimp only at hw4
    rcases hw4 with ⟨rfl, rfl, c4⟩ | ⟨rfl, rfl, c4⟩
    · refine lv_if_ne (tgt := 30) hx hb dX11_dip_13 (by decide) (fun _ => ?_) (fun c5 => absurd c5 (by decide))
      refine lv_iconst (v := (-1)) hx hb dX11_dip_30 (by decide) ?_
      exact z_iret C0 hr hlk rfl hK hP hD hS (0, fun _ => 0) ⟨rfl, rfl⟩ [] rfl rfl rfl dX11_dip_31
    · refine lv_if_ne (tgt := 30) hx hb dX11_dip_13 (by decide) (fun c6 => absurd (by decide) c6) (fun _ => ?_)
      refine lv_aload_n hx hb dX11_dip_16 rfl (lv_at hl 0 rfl) ?_
      refine va_get (D := D) (ci := 11) (v := .ref q_1) (C := RX11) (T := TX11) (N := 6) hx hb hts inX11 hown hK hP 0 rfl rfl 0 (by decide) (hts _ kF_X11_12) (fun _ h9 => h9) rfl dX11_dip_17 ?_
      refine va_get (D := D) (ci := 3) (v := .ref q_2) (C := RX3) (T := TX3) (N := 6) hx hb hts inX3 hown hK hP 1 rfl rfl 0 (by decide) (hts _ kF_X11_43) (fun _ h9 => h9) rfl dX11_dip_20 ?_
      refine lv_iload_n hx hb dX11_dip_23 rfl (lv_at hl 1 rfl) ?_
      refine z_bi (wr := [(q_0, .inr (11, [.ref q_1, .ref q_3, .ref q_4, .ref q_5, .ref q_6, .int x_5])), (q_1, .inr (3, [.ref q_2, .ref q_7, .ref q_8, .ref q_9, .ref q_10, .ref q_11]))]) (z_runV (C := RX6) (As := [.int x_0]) (rest := []) C0 (c_X6_isNoSchool_1 l D k q_2 q_12 q_13 q_14 q_15 q_16 q_17 q_18 q_19 q_20 q_21 q_22 q_23 x_0 x_6 x_7 _) okV_X6_isNoSchool kM_X11_76 rfl (z_pV (q0 := 2) hK hN hP hD [2] rfl rfl rfl rfl rfl) rfl hl.1 rfl (Nat.le_of_ble_eq_true rfl) dX11_dip_24 rfl) hP hD hS hA [2] [0, 1] rfl rfl rfl rfl (fun r7 u7 H locs hw7 hP hD hS => ?_)
      obtain ⟨i7, a7⟩ := u7
      dsimp only at hw7
      obtain ⟨rfl, rfl⟩ := hw7
      have hP : va_P D vwCl [(q_0, .inr (11, [.ref q_1, .ref q_3, .ref q_4, .ref q_5, .ref q_6, .int x_5])), (q_1, .inr (3, [.ref q_2, .ref q_7, .ref q_8, .ref q_9, .ref q_10, .ref q_11])), (q_2, .inr (6, [.int x_6, .ref q_12, .ref q_13, .ref q_14, .ref q_15, .ref q_16, .int 0, .ref q_17, .int x_7, .ref q_18, .ref q_19, .ref q_20, .ref q_21, .ref q_22, .ref q_23]))] H := hP
      have hD : va_D A [(q_0, .inr (11, [.ref q_1, .ref q_3, .ref q_4, .ref q_5, .ref q_6, .int x_5])), (q_1, .inr (3, [.ref q_2, .ref q_7, .ref q_8, .ref q_9, .ref q_10, .ref q_11])), (q_2, .inr (6, [.int x_6, .ref q_12, .ref q_13, .ref q_14, .ref q_15, .ref q_16, .int 0, .ref q_17, .int x_7, .ref q_18, .ref q_19, .ref q_20, .ref q_21, .ref q_22, .ref q_23]))] := hD
      refine lv_if_eq (tgt := 32) hx hb dX11_dip_27 (by decide) (fun c8 => absurd c8 (by decide)) (fun _ => ?_)
      refine lv_iconst (v := (-1)) hx hb dX11_dip_30 (by decide) ?_
      exact z_iret C0 hr hlk rfl hK hP hD hS (0, fun _ => 0) ⟨rfl, rfl⟩ [] rfl rfl rfl dX11_dip_31

set_option maxHeartbeats 4000000 in
set_option maxRecDepth 100000 in
theorem c_X12_dip_1 (l : Launch) (D : va_G) (k : Nat → ClassId) (q_0 : Nat) (q_1 : Nat) (q_2 : Nat) (q_3 : Nat) (q_4 : Nat) (q_5 : Nat) (q_6 : Nat) (q_7 : Nat) (q_8 : Nat) (q_9 : Nat) (q_10 : Nat) (q_11 : Nat) (q_12 : Nat) (q_13 : Nat) (q_14 : Nat) (q_15 : Nat) (q_16 : Nat) (q_17 : Nat) (q_18 : Nat) (q_19 : Nat) (q_20 : Nat) (q_21 : Nat) (q_22 : Nat) (q_23 : Nat) (q_24 : Nat) (q_25 : Nat) (x_0 : Int32) (x_1 : Int32) (x_2 : Int32) (x_3 : Int32) (x_4 : Int32) (x_5 : Int32) (x_6 : Int32) (x_7 : Int32) (x_8 : Int32) (x_9 : Int32) (x_10 : Int32) (x_11 : Int32) (g_12 : Int64) (x_13 : Int32) (x_14 : Int32) (x_15 : Int32) (x_16 : Int32) (x_17 : Int32) (x_18 : Int32) (x_19 : Int32) (x_20 : Int32) (g_21 : Int64) (g_22 : Int64) (x_23 : Int32) (x_24 : Int32) (x_25 : Int32) (x_26 : Int32) (x_27 : Int32) (x_28 : Int32) (x_29 : Int32) (x_30 : Int32) (x_31 : Int32) (x_32 : Int32) (x_33 : Int32) (x_34 : Int32) (x_35 : Int32) : zMi l yX12_dip cX12_dip 6 (some .int) ({ frames := 2, cells := 0, slots := 0, locals := 46 }) D k [.ref q_0, .int x_0, .int x_1, .int x_2, .int x_3, .int x_4] [(q_0, .inr (12, [.int x_5, .int x_6, .ref q_1, .ref q_2, .ref q_3, .int x_7, .ref q_4, .ref q_5, .ref q_6, .ref q_7, .ref q_8, .int x_8, .int x_9, .int x_10, .int x_11, .long g_12, .int x_13, .int x_14, .int x_15, .ref q_9, .int x_16, .ref q_10, .ref q_11, .int x_17, .ref q_12, .ref q_13, .int x_18, .int x_19, .ref q_14, .ref q_15, .ref q_16, .ref q_17, .int x_20, .long g_21, .long g_22, .int x_23, .int x_24, .int x_25, .int x_26, .ref q_18, .ref q_19, .int x_27, .int x_28, .int x_29, .int x_30, .ref q_20, .ref q_21, .int x_31, .int x_32, .ref q_22, .ref q_23, .ref q_24, .ref q_25, .int x_33, .int x_34, .int x_35])), (q_1, .inl (k 0, 27101, .inl (fun _ => 0)))] (fun r u => u.1 = 0 ∧ r = (-1)) (fun u => []) := by
  refine zMi_of (own := RX12) (by decide +kernel) rfl (Nat.le_of_ble_eq_true rfl) ?_
  intro p e s m args below meth c A ls C0 hr hlk hin hP hD hS hA hK hN hl
  have hx := C0.1
  have hb := C0.2.1
  have hml := C0.2.2.1
  have hown := C0.2.2.2.1
  have hts := C0.2.2.2.2
  have hl : lv_has ls 6 [(0, .ref q_0), (1, .int x_0), (2, .int x_1), (3, .int x_2), (4, .int x_3), (5, .int x_4)] := hl
  have hP : va_P D vwCl [(q_0, .inr (12, [.int x_5, .int x_6, .ref q_1, .ref q_2, .ref q_3, .int x_7, .ref q_4, .ref q_5, .ref q_6, .ref q_7, .ref q_8, .int x_8, .int x_9, .int x_10, .int x_11, .long g_12, .int x_13, .int x_14, .int x_15, .ref q_9, .int x_16, .ref q_10, .ref q_11, .int x_17, .ref q_12, .ref q_13, .int x_18, .int x_19, .ref q_14, .ref q_15, .ref q_16, .ref q_17, .int x_20, .long g_21, .long g_22, .int x_23, .int x_24, .int x_25, .int x_26, .ref q_18, .ref q_19, .int x_27, .int x_28, .int x_29, .int x_30, .ref q_20, .ref q_21, .int x_31, .int x_32, .ref q_22, .ref q_23, .ref q_24, .ref q_25, .int x_33, .int x_34, .int x_35])), (q_1, .inl (k 0, 27101, .inl (fun _ => 0)))] s.heap := hP
  refine lv_aload_n hx hb dX12_dip_0 rfl (lv_at hl 0 rfl) ?_
  refine lv_iconst (v := 0) hx hb dX12_dip_1 (by decide) ?_
  refine va_put (D := D) (ci := 12) (v := .int 0) (ty := .int) (C := RX12) (T := TX12) (N := 56) hx hb hts inX12 tyX12 tyX12_ok nmX12 hown hK hP hD hS 0 rfl rfl 0 (by decide) (hts _ kF_X12_92) (fun _ h9 => h9) rfl (by decide +kernel) rfl rfl (Nat.le_of_ble_eq_true rfl) dX12_dip_2 (fun H locs hP hD hS => ?_)
  have hP : va_P D vwCl [(q_0, .inr (12, [.int 0, .int x_6, .ref q_1, .ref q_2, .ref q_3, .int x_7, .ref q_4, .ref q_5, .ref q_6, .ref q_7, .ref q_8, .int x_8, .int x_9, .int x_10, .int x_11, .long g_12, .int x_13, .int x_14, .int x_15, .ref q_9, .int x_16, .ref q_10, .ref q_11, .int x_17, .ref q_12, .ref q_13, .int x_18, .int x_19, .ref q_14, .ref q_15, .ref q_16, .ref q_17, .int x_20, .long g_21, .long g_22, .int x_23, .int x_24, .int x_25, .int x_26, .ref q_18, .ref q_19, .int x_27, .int x_28, .int x_29, .int x_30, .ref q_20, .ref q_21, .int x_31, .int x_32, .ref q_22, .ref q_23, .ref q_24, .ref q_25, .int x_33, .int x_34, .int x_35])), (q_1, .inl (k 0, 27101, .inl (fun _ => 0)))] H := hP
  have hD : va_D A [(q_0, .inr (12, [.int 0, .int x_6, .ref q_1, .ref q_2, .ref q_3, .int x_7, .ref q_4, .ref q_5, .ref q_6, .ref q_7, .ref q_8, .int x_8, .int x_9, .int x_10, .int x_11, .long g_12, .int x_13, .int x_14, .int x_15, .ref q_9, .int x_16, .ref q_10, .ref q_11, .int x_17, .ref q_12, .ref q_13, .int x_18, .int x_19, .ref q_14, .ref q_15, .ref q_16, .ref q_17, .int x_20, .long g_21, .long g_22, .int x_23, .int x_24, .int x_25, .int x_26, .ref q_18, .ref q_19, .int x_27, .int x_28, .int x_29, .int x_30, .ref q_20, .ref q_21, .int x_31, .int x_32, .ref q_22, .ref q_23, .ref q_24, .ref q_25, .int x_33, .int x_34, .int x_35])), (q_1, .inl (k 0, 27101, .inl (fun _ => 0)))] := hD
  refine lv_aload_n hx hb dX12_dip_5 rfl (lv_at hl 0 rfl) ?_
  refine lv_iload_n hx hb dX12_dip_6 rfl (lv_at hl 1 rfl) ?_
  refine z_bi (wr := []) (z_runV (C := RX12) (As := [.int x_0]) (rest := []) C0 (c_X12_isSchool_1 l D k q_0 q_1 q_2 q_3 q_4 q_5 q_6 q_7 q_8 q_9 q_10 q_11 q_12 q_13 q_14 q_15 q_16 q_17 q_18 q_19 q_20 q_21 q_22 q_23 q_24 q_25 x_0 0 x_6 x_7 x_8 x_9 x_10 x_11 g_12 x_13 x_14 x_15 x_16 x_17 x_18 x_19 x_20 g_21 g_22 x_23 x_24 x_25 x_26 x_27 x_28 x_29 x_30 x_31 x_32 x_33 x_34 x_35 _) okV_X12_isSchool kM_X12_131 rfl (z_pV (q0 := 0) hK hN hP hD [0, 1] rfl rfl rfl rfl rfl) rfl hl.1 rfl (Nat.le_of_ble_eq_true rfl) dX12_dip_7 rfl) hP hD hS hA [0, 1] [] rfl rfl rfl rfl (fun r1 u1 H locs hw1 hP hD hS => ?_)
  obtain ⟨i1, a1⟩ := u1
  dsimp only at hw1
  obtain ⟨rfl, rfl⟩ := hw1
  have hP : va_P D vwCl [(q_0, .inr (12, [.int 0, .int x_6, .ref q_1, .ref q_2, .ref q_3, .int x_7, .ref q_4, .ref q_5, .ref q_6, .ref q_7, .ref q_8, .int x_8, .int x_9, .int x_10, .int x_11, .long g_12, .int x_13, .int x_14, .int x_15, .ref q_9, .int x_16, .ref q_10, .ref q_11, .int x_17, .ref q_12, .ref q_13, .int x_18, .int x_19, .ref q_14, .ref q_15, .ref q_16, .ref q_17, .int x_20, .long g_21, .long g_22, .int x_23, .int x_24, .int x_25, .int x_26, .ref q_18, .ref q_19, .int x_27, .int x_28, .int x_29, .int x_30, .ref q_20, .ref q_21, .int x_31, .int x_32, .ref q_22, .ref q_23, .ref q_24, .ref q_25, .int x_33, .int x_34, .int x_35])), (q_1, .inl (k 0, 27101, .inl (fun _ => 0)))] H := hP
  have hD : va_D A [(q_0, .inr (12, [.int 0, .int x_6, .ref q_1, .ref q_2, .ref q_3, .int x_7, .ref q_4, .ref q_5, .ref q_6, .ref q_7, .ref q_8, .int x_8, .int x_9, .int x_10, .int x_11, .long g_12, .int x_13, .int x_14, .int x_15, .ref q_9, .int x_16, .ref q_10, .ref q_11, .int x_17, .ref q_12, .ref q_13, .int x_18, .int x_19, .ref q_14, .ref q_15, .ref q_16, .ref q_17, .int x_20, .long g_21, .long g_22, .int x_23, .int x_24, .int x_25, .int x_26, .ref q_18, .ref q_19, .int x_27, .int x_28, .int x_29, .int x_30, .ref q_20, .ref q_21, .int x_31, .int x_32, .ref q_22, .ref q_23, .ref q_24, .ref q_25, .int x_33, .int x_34, .int x_35])), (q_1, .inl (k 0, 27101, .inl (fun _ => 0)))] := hD
  refine lv_if_eq (tgt := 52) hx hb dX12_dip_10 (by decide) (fun _ => ?_) (fun c2 => absurd (by decide) c2)
  refine lv_iconst (v := (-1)) hx hb dX12_dip_52 (by decide) ?_
  exact z_iret C0 hr hlk rfl hK hP hD hS (0, fun _ => 0) ⟨rfl, rfl⟩ [] rfl rfl rfl dX12_dip_53

set_option maxHeartbeats 4000000 in
set_option maxRecDepth 100000 in
theorem c_X11_isNoStep_1 (l : Launch) (D : va_G) (k : Nat → ClassId) (x_0 : Int32) : zMi l yX11_isNoStep cX11_isNoStep 1 (some .boolean) ({ frames := 0, cells := 0, slots := 0, locals := 0 }) D k [.int x_0] [] (fun r u => (u.1 = 0 ∧ r = 1 ∧ ((x_0 < 0) ∨ (¬ x_0 < 0 ∧ ¬ x_0 < 4))) ∨ (u.1 = 1 ∧ r = 0 ∧ ((¬ x_0 < 0 ∧ x_0 < 4)))) (fun u => []) := by
  refine zMi_of (own := RX11) (by decide +kernel) rfl (Nat.le_of_ble_eq_true rfl) ?_
  intro p e s m args below meth c A ls C0 hr hlk hin hP hD hS hA hK hN hl
  have hx := C0.1
  have hb := C0.2.1
  have hml := C0.2.2.1
  have hown := C0.2.2.2.1
  have hts := C0.2.2.2.2
  have hl : lv_has ls 1 [(0, .int x_0)] := hl
  have hP : va_P D vwCl [] s.heap := hP
  refine lv_iload_n hx hb dX11_isNoStep_0 rfl (lv_at hl 0 rfl) ?_
  refine lv_if_lt (tgt := 9) hx hb dX11_isNoStep_1 (by decide) (fun c1 => ?_) (fun c1 => ?_)
  · refine lv_iconst (v := 1) hx hb dX11_isNoStep_9 (by decide) ?_
    refine lv_goto (tgt := 14) hx hb dX11_isNoStep_10 (by decide) ?_
    exact z_iret C0 hr hlk rfl hK hP hD hS (0, fun _ => 0) (Or.inl ⟨rfl, rfl, (Or.inl c1)⟩) [] rfl rfl rfl dX11_isNoStep_14
  · refine lv_iload_n hx hb dX11_isNoStep_4 rfl (lv_at hl 0 rfl) ?_
    refine lv_iconst (v := 4) hx hb dX11_isNoStep_5 (by decide) ?_
    refine lv_icmp_lt (tgt := 13) hx hb dX11_isNoStep_6 (by decide) (fun c2 => ?_) (fun c2 => ?_)
    · refine lv_iconst (v := 0) hx hb dX11_isNoStep_13 (by decide) ?_
      exact z_iret C0 hr hlk rfl hK hP hD hS (1, fun _ => 0) (Or.inr (⟨rfl, rfl, ⟨c1, c2⟩⟩)) [] rfl rfl rfl dX11_isNoStep_14
    · refine lv_iconst (v := 1) hx hb dX11_isNoStep_9 (by decide) ?_
      refine lv_goto (tgt := 14) hx hb dX11_isNoStep_10 (by decide) ?_
      exact z_iret C0 hr hlk rfl hK hP hD hS (0, fun _ => 0) (Or.inl ⟨rfl, rfl, (Or.inr (⟨c1, c2⟩))⟩) [] rfl rfl rfl dX11_isNoStep_14

set_option maxHeartbeats 4000000 in
set_option maxRecDepth 100000 in
theorem c_X11_due_1 (l : Launch) (D : va_G) (k : Nat → ClassId) (q_0 : Nat) (q_1 : Nat) (q_2 : Nat) (q_3 : Nat) (q_4 : Nat) (q_5 : Nat) (q_6 : Nat) (q_7 : Nat) (q_8 : Nat) (q_9 : Nat) (q_10 : Nat) (q_11 : Nat) (q_12 : Nat) (q_13 : Nat) (q_14 : Nat) (q_15 : Nat) (q_16 : Nat) (q_17 : Nat) (q_18 : Nat) (q_19 : Nat) (q_20 : Nat) (q_21 : Nat) (q_22 : Nat) (q_23 : Nat) (x_0 : Int32) (x_1 : Int32) (x_2 : Int32) (x_3 : Int32) (x_4 : Int32) (x_5 : Int32) (x_6 : Int32) : zMi l yX11_due cX11_due 5 (some .int) ({ frames := 1, cells := 0, slots := 0, locals := 21 }) D k [.ref q_0, .int x_0, .int x_1, .int x_2, .int x_3] [(q_0, .inr (11, [.ref q_1, .ref q_3, .ref q_4, .ref q_5, .ref q_6, .int x_4])), (q_1, .inr (3, [.ref q_2, .ref q_7, .ref q_8, .ref q_9, .ref q_10, .ref q_11])), (q_2, .inr (6, [.int 0, .ref q_12, .ref q_13, .ref q_14, .ref q_15, .ref q_16, .int x_5, .ref q_17, .int x_6, .ref q_18, .ref q_19, .ref q_20, .ref q_21, .ref q_22, .ref q_23]))] (fun r u => u.1 = 0 ∧ r = (-1)) (fun u => []) := by
  refine zMi_of (own := RX11) (by decide +kernel) rfl (Nat.le_of_ble_eq_true rfl) ?_
  intro p e s m args below meth c A ls C0 hr hlk hin hP hD hS hA hK hN hl
  have hx := C0.1
  have hb := C0.2.1
  have hml := C0.2.2.1
  have hown := C0.2.2.2.1
  have hts := C0.2.2.2.2
  have hl : lv_has ls 5 [(0, .ref q_0), (1, .int x_0), (2, .int x_1), (3, .int x_2), (4, .int x_3)] := hl
  have hP : va_P D vwCl [(q_0, .inr (11, [.ref q_1, .ref q_3, .ref q_4, .ref q_5, .ref q_6, .int x_4])), (q_1, .inr (3, [.ref q_2, .ref q_7, .ref q_8, .ref q_9, .ref q_10, .ref q_11])), (q_2, .inr (6, [.int 0, .ref q_12, .ref q_13, .ref q_14, .ref q_15, .ref q_16, .int x_5, .ref q_17, .int x_6, .ref q_18, .ref q_19, .ref q_20, .ref q_21, .ref q_22, .ref q_23]))] s.heap := hP
  refine lv_iload_n hx hb dX11_due_0 rfl (lv_at hl 2 rfl) ?_
  refine z_bi0 (z_runS (As := [.int x_1]) (rest := []) C0 (c_X11_isNoStep_1 l D k x_1 _) okS_X11_isNoStep kM_X11_220 rfl (z_p0 hK hN) rfl hl.1 rfl (Nat.le_of_ble_eq_true rfl) dX11_due_1 rfl) hP hS hA (fun r1 u1 H locs hw1 hP hS => ?_)
  obtain ⟨i1, a1⟩ := u1
  dsimp only at hw1
  rcases hw1 with ⟨rfl, rfl, c1⟩ | ⟨rfl, rfl, c1⟩
  · refine lv_if_ne (tgt := 36) hx hb dX11_due_4 (by decide) (fun _ => ?_) (fun c2 => absurd c2 (by decide))
    refine lv_iconst (v := (-1)) hx hb dX11_due_36 (by decide) ?_
    exact z_iret C0 hr hlk rfl hK hP hD hS (0, fun _ => 0) ⟨rfl, rfl⟩ [] rfl rfl rfl dX11_due_37
  · refine lv_if_ne (tgt := 36) hx hb dX11_due_4 (by decide) (fun c3 => absurd (by decide) c3) (fun _ => ?_)
    refine lv_iload_n hx hb dX11_due_7 rfl (lv_at hl 3 rfl) ?_
    refine z_bi0 (z_runS (As := [.int x_2]) (rest := []) C0 (c_X11_isNoDay_1 l D k x_2 _) okS_X11_isNoDay kM_X11_72 rfl (z_p0 hK hN) rfl hl.1 rfl (Nat.le_of_ble_eq_true rfl) dX11_due_8 rfl) hP hS hA (fun r4 u4 H locs hw4 hP hS => ?_)
    obtain ⟨i4, a4⟩ := u4
    dsimp only at hw4
    rcases hw4 with ⟨rfl, rfl, c4⟩ | ⟨rfl, rfl, c4⟩
    · refine lv_if_ne (tgt := 36) hx hb dX11_due_11 (by decide) (fun _ => ?_) (fun c5 => absurd c5 (by decide))
      refine lv_iconst (v := (-1)) hx hb dX11_due_36 (by decide) ?_
      exact z_iret C0 hr hlk rfl hK hP hD hS (0, fun _ => 0) ⟨rfl, rfl⟩ [] rfl rfl rfl dX11_due_37
    · refine lv_if_ne (tgt := 36) hx hb dX11_due_11 (by decide) (fun c6 => absurd (by decide) c6) (fun _ => ?_)
      refine lv_iload hx hb dX11_due_14 (lv_at hl 4 rfl) ?_
      refine z_bi0 (z_runS (As := [.int x_3]) (rest := []) C0 (c_X11_isNoDay_1 l D k x_3 _) okS_X11_isNoDay kM_X11_72 rfl (z_p0 hK hN) rfl hl.1 rfl (Nat.le_of_ble_eq_true rfl) dX11_due_16 rfl) hP hS hA (fun r7 u7 H locs hw7 hP hS => ?_)
      obtain ⟨i7, a7⟩ := u7
      dsimp only at hw7
      rcases hw7 with ⟨rfl, rfl, c7⟩ | ⟨rfl, rfl, c7⟩
      · refine lv_if_ne (tgt := 36) hx hb dX11_due_19 (by decide) (fun _ => ?_) (fun c8 => absurd c8 (by decide))
        refine lv_iconst (v := (-1)) hx hb dX11_due_36 (by decide) ?_
        exact z_iret C0 hr hlk rfl hK hP hD hS (0, fun _ => 0) ⟨rfl, rfl⟩ [] rfl rfl rfl dX11_due_37
      · refine lv_if_ne (tgt := 36) hx hb dX11_due_19 (by decide) (fun c9 => absurd (by decide) c9) (fun _ => ?_)
        refine lv_aload_n hx hb dX11_due_22 rfl (lv_at hl 0 rfl) ?_
        refine va_get (D := D) (ci := 11) (v := .ref q_1) (C := RX11) (T := TX11) (N := 6) hx hb hts inX11 hown hK hP 0 rfl rfl 0 (by decide) (hts _ kF_X11_12) (fun _ h9 => h9) rfl dX11_due_23 ?_
        refine va_get (D := D) (ci := 3) (v := .ref q_2) (C := RX3) (T := TX3) (N := 6) hx hb hts inX3 hown hK hP 1 rfl rfl 0 (by decide) (hts _ kF_X11_43) (fun _ h9 => h9) rfl dX11_due_26 ?_
        refine lv_iload_n hx hb dX11_due_29 rfl (lv_at hl 1 rfl) ?_
        refine z_bi (wr := [(q_0, .inr (11, [.ref q_1, .ref q_3, .ref q_4, .ref q_5, .ref q_6, .int x_4])), (q_1, .inr (3, [.ref q_2, .ref q_7, .ref q_8, .ref q_9, .ref q_10, .ref q_11]))]) (z_runV (C := RX6) (As := [.int x_0]) (rest := []) C0 (c_X6_isNoChild_1 l D k q_2 q_12 q_13 q_14 q_15 q_16 q_17 q_18 q_19 q_20 q_21 q_22 q_23 x_0 x_5 x_6 _) okV_X6_isNoChild kM_X11_90 rfl (z_pV (q0 := 2) hK hN hP hD [2] rfl rfl rfl rfl rfl) rfl hl.1 rfl (Nat.le_of_ble_eq_true rfl) dX11_due_30 rfl) hP hD hS hA [2] [0, 1] rfl rfl rfl rfl (fun r10 u10 H locs hw10 hP hD hS => ?_)
        obtain ⟨i10, a10⟩ := u10
        dsimp only at hw10
        obtain ⟨rfl, rfl⟩ := hw10
        have hP : va_P D vwCl [(q_0, .inr (11, [.ref q_1, .ref q_3, .ref q_4, .ref q_5, .ref q_6, .int x_4])), (q_1, .inr (3, [.ref q_2, .ref q_7, .ref q_8, .ref q_9, .ref q_10, .ref q_11])), (q_2, .inr (6, [.int 0, .ref q_12, .ref q_13, .ref q_14, .ref q_15, .ref q_16, .int x_5, .ref q_17, .int x_6, .ref q_18, .ref q_19, .ref q_20, .ref q_21, .ref q_22, .ref q_23]))] H := hP
        have hD : va_D A [(q_0, .inr (11, [.ref q_1, .ref q_3, .ref q_4, .ref q_5, .ref q_6, .int x_4])), (q_1, .inr (3, [.ref q_2, .ref q_7, .ref q_8, .ref q_9, .ref q_10, .ref q_11])), (q_2, .inr (6, [.int 0, .ref q_12, .ref q_13, .ref q_14, .ref q_15, .ref q_16, .int x_5, .ref q_17, .int x_6, .ref q_18, .ref q_19, .ref q_20, .ref q_21, .ref q_22, .ref q_23]))] := hD
        refine lv_if_eq (tgt := 38) hx hb dX11_due_33 (by decide) (fun c11 => absurd c11 (by decide)) (fun _ => ?_)
        refine lv_iconst (v := (-1)) hx hb dX11_due_36 (by decide) ?_
        exact z_iret C0 hr hlk rfl hK hP hD hS (0, fun _ => 0) ⟨rfl, rfl⟩ [] rfl rfl rfl dX11_due_37

set_option maxHeartbeats 4000000 in
set_option maxRecDepth 100000 in
theorem c_X12_due_1 (l : Launch) (D : va_G) (k : Nat → ClassId) (q_0 : Nat) (q_1 : Nat) (q_2 : Nat) (q_3 : Nat) (q_4 : Nat) (q_5 : Nat) (q_6 : Nat) (q_7 : Nat) (q_8 : Nat) (q_9 : Nat) (q_10 : Nat) (q_11 : Nat) (q_12 : Nat) (q_13 : Nat) (q_14 : Nat) (q_15 : Nat) (q_16 : Nat) (q_17 : Nat) (q_18 : Nat) (q_19 : Nat) (q_20 : Nat) (q_21 : Nat) (q_22 : Nat) (q_23 : Nat) (q_24 : Nat) (q_25 : Nat) (x_0 : Int32) (x_1 : Int32) (x_2 : Int32) (x_3 : Int32) (x_4 : Int32) (x_5 : Int32) (x_6 : Int32) (x_7 : Int32) (x_8 : Int32) (x_9 : Int32) (x_10 : Int32) (g_11 : Int64) (x_12 : Int32) (x_13 : Int32) (x_14 : Int32) (x_15 : Int32) (x_16 : Int32) (x_17 : Int32) (x_18 : Int32) (x_19 : Int32) (g_20 : Int64) (g_21 : Int64) (x_22 : Int32) (x_23 : Int32) (x_24 : Int32) (x_25 : Int32) (x_26 : Int32) (x_27 : Int32) (x_28 : Int32) (x_29 : Int32) (x_30 : Int32) (x_31 : Int32) (x_32 : Int32) (x_33 : Int32) (x_34 : Int32) : zMi l yX12_due cX12_due 6 (some .int) ({ frames := 2, cells := 0, slots := 0, locals := 46 }) D k [.ref q_0, .int x_0, .int x_1, .int x_2, .int x_3] [(q_0, .inr (12, [.int x_4, .int x_5, .ref q_1, .ref q_2, .ref q_3, .int x_6, .ref q_4, .ref q_5, .ref q_6, .ref q_7, .ref q_8, .int x_7, .int x_8, .int x_9, .int x_10, .long g_11, .int x_12, .int x_13, .int x_14, .ref q_9, .int x_15, .ref q_10, .ref q_11, .int x_16, .ref q_12, .ref q_13, .int x_17, .int x_18, .ref q_14, .ref q_15, .ref q_16, .ref q_17, .int x_19, .long g_20, .long g_21, .int x_22, .int x_23, .int x_24, .int x_25, .ref q_18, .ref q_19, .int x_26, .int x_27, .int x_28, .int x_29, .ref q_20, .ref q_21, .int x_30, .int x_31, .ref q_22, .ref q_23, .ref q_24, .ref q_25, .int x_32, .int x_33, .int x_34])), (q_1, .inl (k 0, 27101, .inl (fun _ => 0)))] (fun r u => u.1 = 0 ∧ r = (-1)) (fun u => []) := by
  refine zMi_of (own := RX12) (by decide +kernel) rfl (Nat.le_of_ble_eq_true rfl) ?_
  intro p e s m args below meth c A ls C0 hr hlk hin hP hD hS hA hK hN hl
  have hx := C0.1
  have hb := C0.2.1
  have hml := C0.2.2.1
  have hown := C0.2.2.2.1
  have hts := C0.2.2.2.2
  have hl : lv_has ls 6 [(0, .ref q_0), (1, .int x_0), (2, .int x_1), (3, .int x_2), (4, .int x_3)] := hl
  have hP : va_P D vwCl [(q_0, .inr (12, [.int x_4, .int x_5, .ref q_1, .ref q_2, .ref q_3, .int x_6, .ref q_4, .ref q_5, .ref q_6, .ref q_7, .ref q_8, .int x_7, .int x_8, .int x_9, .int x_10, .long g_11, .int x_12, .int x_13, .int x_14, .ref q_9, .int x_15, .ref q_10, .ref q_11, .int x_16, .ref q_12, .ref q_13, .int x_17, .int x_18, .ref q_14, .ref q_15, .ref q_16, .ref q_17, .int x_19, .long g_20, .long g_21, .int x_22, .int x_23, .int x_24, .int x_25, .ref q_18, .ref q_19, .int x_26, .int x_27, .int x_28, .int x_29, .ref q_20, .ref q_21, .int x_30, .int x_31, .ref q_22, .ref q_23, .ref q_24, .ref q_25, .int x_32, .int x_33, .int x_34])), (q_1, .inl (k 0, 27101, .inl (fun _ => 0)))] s.heap := hP
  refine lv_aload_n hx hb dX12_due_0 rfl (lv_at hl 0 rfl) ?_
  refine lv_iconst (v := 0) hx hb dX12_due_1 (by decide) ?_
  refine va_put (D := D) (ci := 12) (v := .int 0) (ty := .int) (C := RX12) (T := TX12) (N := 56) hx hb hts inX12 tyX12 tyX12_ok nmX12 hown hK hP hD hS 0 rfl rfl 0 (by decide) (hts _ kF_X12_92) (fun _ h9 => h9) rfl (by decide +kernel) rfl rfl (Nat.le_of_ble_eq_true rfl) dX12_due_2 (fun H locs hP hD hS => ?_)
  have hP : va_P D vwCl [(q_0, .inr (12, [.int 0, .int x_5, .ref q_1, .ref q_2, .ref q_3, .int x_6, .ref q_4, .ref q_5, .ref q_6, .ref q_7, .ref q_8, .int x_7, .int x_8, .int x_9, .int x_10, .long g_11, .int x_12, .int x_13, .int x_14, .ref q_9, .int x_15, .ref q_10, .ref q_11, .int x_16, .ref q_12, .ref q_13, .int x_17, .int x_18, .ref q_14, .ref q_15, .ref q_16, .ref q_17, .int x_19, .long g_20, .long g_21, .int x_22, .int x_23, .int x_24, .int x_25, .ref q_18, .ref q_19, .int x_26, .int x_27, .int x_28, .int x_29, .ref q_20, .ref q_21, .int x_30, .int x_31, .ref q_22, .ref q_23, .ref q_24, .ref q_25, .int x_32, .int x_33, .int x_34])), (q_1, .inl (k 0, 27101, .inl (fun _ => 0)))] H := hP
  have hD : va_D A [(q_0, .inr (12, [.int 0, .int x_5, .ref q_1, .ref q_2, .ref q_3, .int x_6, .ref q_4, .ref q_5, .ref q_6, .ref q_7, .ref q_8, .int x_7, .int x_8, .int x_9, .int x_10, .long g_11, .int x_12, .int x_13, .int x_14, .ref q_9, .int x_15, .ref q_10, .ref q_11, .int x_16, .ref q_12, .ref q_13, .int x_17, .int x_18, .ref q_14, .ref q_15, .ref q_16, .ref q_17, .int x_19, .long g_20, .long g_21, .int x_22, .int x_23, .int x_24, .int x_25, .ref q_18, .ref q_19, .int x_26, .int x_27, .int x_28, .int x_29, .ref q_20, .ref q_21, .int x_30, .int x_31, .ref q_22, .ref q_23, .ref q_24, .ref q_25, .int x_32, .int x_33, .int x_34])), (q_1, .inl (k 0, 27101, .inl (fun _ => 0)))] := hD
  refine lv_aload_n hx hb dX12_due_5 rfl (lv_at hl 0 rfl) ?_
  refine lv_iload_n hx hb dX12_due_6 rfl (lv_at hl 1 rfl) ?_
  refine z_bi (wr := []) (z_runV (C := RX12) (As := [.int x_0]) (rest := []) C0 (c_X12_isChild_1 l D k q_0 q_1 q_2 q_3 q_4 q_5 q_6 q_7 q_8 q_9 q_10 q_11 q_12 q_13 q_14 q_15 q_16 q_17 q_18 q_19 q_20 q_21 q_22 q_23 q_24 q_25 x_0 0 x_5 x_6 x_7 x_8 x_9 x_10 g_11 x_12 x_13 x_14 x_15 x_16 x_17 x_18 x_19 g_20 g_21 x_22 x_23 x_24 x_25 x_26 x_27 x_28 x_29 x_30 x_31 x_32 x_33 x_34 _) okV_X12_isChild kM_X12_138 rfl (z_pV (q0 := 0) hK hN hP hD [0, 1] rfl rfl rfl rfl rfl) rfl hl.1 rfl (Nat.le_of_ble_eq_true rfl) dX12_due_7 rfl) hP hD hS hA [0, 1] [] rfl rfl rfl rfl (fun r1 u1 H locs hw1 hP hD hS => ?_)
  obtain ⟨i1, a1⟩ := u1
  dsimp only at hw1
  obtain ⟨rfl, rfl⟩ := hw1
  have hP : va_P D vwCl [(q_0, .inr (12, [.int 0, .int x_5, .ref q_1, .ref q_2, .ref q_3, .int x_6, .ref q_4, .ref q_5, .ref q_6, .ref q_7, .ref q_8, .int x_7, .int x_8, .int x_9, .int x_10, .long g_11, .int x_12, .int x_13, .int x_14, .ref q_9, .int x_15, .ref q_10, .ref q_11, .int x_16, .ref q_12, .ref q_13, .int x_17, .int x_18, .ref q_14, .ref q_15, .ref q_16, .ref q_17, .int x_19, .long g_20, .long g_21, .int x_22, .int x_23, .int x_24, .int x_25, .ref q_18, .ref q_19, .int x_26, .int x_27, .int x_28, .int x_29, .ref q_20, .ref q_21, .int x_30, .int x_31, .ref q_22, .ref q_23, .ref q_24, .ref q_25, .int x_32, .int x_33, .int x_34])), (q_1, .inl (k 0, 27101, .inl (fun _ => 0)))] H := hP
  have hD : va_D A [(q_0, .inr (12, [.int 0, .int x_5, .ref q_1, .ref q_2, .ref q_3, .int x_6, .ref q_4, .ref q_5, .ref q_6, .ref q_7, .ref q_8, .int x_7, .int x_8, .int x_9, .int x_10, .long g_11, .int x_12, .int x_13, .int x_14, .ref q_9, .int x_15, .ref q_10, .ref q_11, .int x_16, .ref q_12, .ref q_13, .int x_17, .int x_18, .ref q_14, .ref q_15, .ref q_16, .ref q_17, .int x_19, .long g_20, .long g_21, .int x_22, .int x_23, .int x_24, .int x_25, .ref q_18, .ref q_19, .int x_26, .int x_27, .int x_28, .int x_29, .ref q_20, .ref q_21, .int x_30, .int x_31, .ref q_22, .ref q_23, .ref q_24, .ref q_25, .int x_32, .int x_33, .int x_34])), (q_1, .inl (k 0, 27101, .inl (fun _ => 0)))] := hD
  refine lv_if_eq (tgt := 35) hx hb dX12_due_10 (by decide) (fun _ => ?_) (fun c2 => absurd (by decide) c2)
  refine lv_iconst (v := (-1)) hx hb dX12_due_35 (by decide) ?_
  exact z_iret C0 hr hlk rfl hK hP hD hS (0, fun _ => 0) ⟨rfl, rfl⟩ [] rfl rfl rfl dX12_due_36

set_option maxHeartbeats 4000000 in
set_option maxRecDepth 100000 in
theorem c_X11_take_1 (l : Launch) (D : va_G) (k : Nat → ClassId) (q_0 : Nat) (q_1 : Nat) (q_2 : Nat) (q_3 : Nat) (q_4 : Nat) (q_5 : Nat) (q_6 : Nat) (q_7 : Nat) (q_8 : Nat) (q_9 : Nat) (q_10 : Nat) (q_11 : Nat) (q_12 : Nat) (q_13 : Nat) (q_14 : Nat) (q_15 : Nat) (q_16 : Nat) (q_17 : Nat) (q_18 : Nat) (q_19 : Nat) (q_20 : Nat) (q_21 : Nat) (q_22 : Nat) (q_23 : Nat) (x_0 : Int32) (x_1 : Int32) (x_2 : Int32) (x_3 : Int32) (x_4 : Int32) (x_5 : Int32) : zMi l yX11_take cX11_take 7 (some .int) ({ frames := 1, cells := 0, slots := 0, locals := 21 }) D k [.ref q_0, .int x_0, .int x_1, .int x_2] [(q_0, .inr (11, [.ref q_1, .ref q_3, .ref q_4, .ref q_5, .ref q_6, .int x_3])), (q_1, .inr (3, [.ref q_2, .ref q_7, .ref q_8, .ref q_9, .ref q_10, .ref q_11])), (q_2, .inr (6, [.int 0, .ref q_12, .ref q_13, .ref q_14, .ref q_15, .ref q_16, .int x_4, .ref q_17, .int x_5, .ref q_18, .ref q_19, .ref q_20, .ref q_21, .ref q_22, .ref q_23]))] (fun r u => (u.1 = 0 ∧ r = (-1) ∧ ((((x_1 < 0) ∨ (¬ x_1 < 0 ∧ ¬ x_1 < 4))) ∨ (((¬ x_1 < 0 ∧ x_1 < 4)) ∧ ((x_2 < 0) ∨ (¬ x_2 < 0 ∧ ¬ x_2 < 400))))) ∨ (u.1 = 1 ∧ r = (-2) ∧ ((((¬ x_1 < 0 ∧ x_1 < 4)) ∧ ((¬ x_2 < 0 ∧ x_2 < 400)))))) (fun u => []) := by
  refine zMi_of (own := RX11) (by decide +kernel) rfl (Nat.le_of_ble_eq_true rfl) ?_
  intro p e s m args below meth c A ls C0 hr hlk hin hP hD hS hA hK hN hl
  have hx := C0.1
  have hb := C0.2.1
  have hml := C0.2.2.1
  have hown := C0.2.2.2.1
  have hts := C0.2.2.2.2
  have hl : lv_has ls 7 [(0, .ref q_0), (1, .int x_0), (2, .int x_1), (3, .int x_2)] := hl
  have hP : va_P D vwCl [(q_0, .inr (11, [.ref q_1, .ref q_3, .ref q_4, .ref q_5, .ref q_6, .int x_3])), (q_1, .inr (3, [.ref q_2, .ref q_7, .ref q_8, .ref q_9, .ref q_10, .ref q_11])), (q_2, .inr (6, [.int 0, .ref q_12, .ref q_13, .ref q_14, .ref q_15, .ref q_16, .int x_4, .ref q_17, .int x_5, .ref q_18, .ref q_19, .ref q_20, .ref q_21, .ref q_22, .ref q_23]))] s.heap := hP
  refine lv_aload_n hx hb dX11_take_0 rfl (lv_at hl 0 rfl) ?_
  refine va_get (D := D) (ci := 11) (v := .ref q_1) (C := RX11) (T := TX11) (N := 6) hx hb hts inX11 hown hK hP 0 rfl rfl 0 (by decide) (hts _ kF_X11_12) (fun _ h9 => h9) rfl dX11_take_1 ?_
  refine va_get (D := D) (ci := 3) (v := .ref q_10) (C := RX3) (T := TX3) (N := 6) hx hb hts inX3 hown hK hP 1 rfl rfl 4 (by decide) (hts _ kF_X11_230) (fun _ h9 => h9) rfl dX11_take_4 ?_
  refine lv_astore (lv' := [(4, .ref q_10), (0, .ref q_0), (1, .int x_0), (2, .int x_1), (3, .int x_2)]) hx hb dX11_take_7 hl (by decide) rfl (fun ls hl => ?_)
  refine lv_iload_n hx hb dX11_take_9 rfl (lv_at hl 3 rfl) ?_
  refine z_bi0 (z_runS (As := [.int x_1]) (rest := []) C0 (c_X11_isNoStep_1 l D k x_1 _) okS_X11_isNoStep kM_X11_220 rfl (z_p0 hK hN) rfl hl.1 rfl (Nat.le_of_ble_eq_true rfl) dX11_take_10 rfl) hP hS hA (fun r1 u1 H locs hw1 hP hS => ?_)
  obtain ⟨i1, a1⟩ := u1
  dsimp only at hw1
  rcases hw1 with ⟨rfl, rfl, c1⟩ | ⟨rfl, rfl, c1⟩
  · refine lv_if_ne (tgt := 23) hx hb dX11_take_13 (by decide) (fun _ => ?_) (fun c2 => absurd c2 (by decide))
    refine lv_aload_n hx hb dX11_take_23 rfl (lv_at hl 1 rfl) ?_
    refine lv_iconst (v := (-1)) hx hb dX11_take_24 (by decide) ?_
    refine z_bi (wr := [(q_1, .inr (3, [.ref q_2, .ref q_7, .ref q_8, .ref q_9, .ref q_10, .ref q_11])), (q_2, .inr (6, [.int 0, .ref q_12, .ref q_13, .ref q_14, .ref q_15, .ref q_16, .int x_4, .ref q_17, .int x_5, .ref q_18, .ref q_19, .ref q_20, .ref q_21, .ref q_22, .ref q_23]))]) (z_runV (C := RX11) (As := [.int (-1)]) (rest := []) C0 (c_X11_answer_1 l D k q_0 q_1 q_3 q_4 q_5 q_6 x_3 _) okV_X11_answer kM_X11_55 rfl (z_pV (q0 := 0) hK hN hP hD [0] rfl rfl rfl rfl rfl) rfl hl.1 rfl (Nat.le_of_ble_eq_true rfl) dX11_take_25 rfl) hP hD hS hA [0] [1, 2] rfl rfl rfl rfl (fun r3 u3 H locs hw3 hP hD hS => ?_)
    obtain ⟨i3, a3⟩ := u3
    dsimp only at hw3
    obtain ⟨rfl, rfl⟩ := hw3
    have hP : va_P D vwCl [(q_1, .inr (3, [.ref q_2, .ref q_7, .ref q_8, .ref q_9, .ref q_10, .ref q_11])), (q_2, .inr (6, [.int 0, .ref q_12, .ref q_13, .ref q_14, .ref q_15, .ref q_16, .int x_4, .ref q_17, .int x_5, .ref q_18, .ref q_19, .ref q_20, .ref q_21, .ref q_22, .ref q_23])), (q_0, .inr (11, [.ref q_1, .ref q_3, .ref q_4, .ref q_5, .ref q_6, .int (-1)]))] H := hP
    have hD : va_D A [(q_1, .inr (3, [.ref q_2, .ref q_7, .ref q_8, .ref q_9, .ref q_10, .ref q_11])), (q_2, .inr (6, [.int 0, .ref q_12, .ref q_13, .ref q_14, .ref q_15, .ref q_16, .int x_4, .ref q_17, .int x_5, .ref q_18, .ref q_19, .ref q_20, .ref q_21, .ref q_22, .ref q_23])), (q_0, .inr (11, [.ref q_1, .ref q_3, .ref q_4, .ref q_5, .ref q_6, .int (-1)]))] := hD
    exact z_iret C0 hr hlk rfl hK hP hD hS (0, fun _ => 0) (Or.inl ⟨rfl, rfl, (Or.inl c1)⟩) [] rfl rfl rfl dX11_take_28
  · refine lv_if_ne (tgt := 23) hx hb dX11_take_13 (by decide) (fun c4 => absurd (by decide) c4) (fun _ => ?_)
    refine lv_iload_n hx hb dX11_take_16 rfl (lv_at hl 4 rfl) ?_
    refine z_bi0 (z_runS (As := [.int x_2]) (rest := []) C0 (c_X11_isNoDay_1 l D k x_2 _) okS_X11_isNoDay kM_X11_72 rfl (z_p0 hK hN) rfl hl.1 rfl (Nat.le_of_ble_eq_true rfl) dX11_take_17 rfl) hP hS hA (fun r5 u5 H locs hw5 hP hS => ?_)
    obtain ⟨i5, a5⟩ := u5
    dsimp only at hw5
    rcases hw5 with ⟨rfl, rfl, c5⟩ | ⟨rfl, rfl, c5⟩
    · refine lv_if_eq (tgt := 29) hx hb dX11_take_20 (by decide) (fun c6 => absurd c6 (by decide)) (fun _ => ?_)
      refine lv_aload_n hx hb dX11_take_23 rfl (lv_at hl 1 rfl) ?_
      refine lv_iconst (v := (-1)) hx hb dX11_take_24 (by decide) ?_
      refine z_bi (wr := [(q_1, .inr (3, [.ref q_2, .ref q_7, .ref q_8, .ref q_9, .ref q_10, .ref q_11])), (q_2, .inr (6, [.int 0, .ref q_12, .ref q_13, .ref q_14, .ref q_15, .ref q_16, .int x_4, .ref q_17, .int x_5, .ref q_18, .ref q_19, .ref q_20, .ref q_21, .ref q_22, .ref q_23]))]) (z_runV (C := RX11) (As := [.int (-1)]) (rest := []) C0 (c_X11_answer_1 l D k q_0 q_1 q_3 q_4 q_5 q_6 x_3 _) okV_X11_answer kM_X11_55 rfl (z_pV (q0 := 0) hK hN hP hD [0] rfl rfl rfl rfl rfl) rfl hl.1 rfl (Nat.le_of_ble_eq_true rfl) dX11_take_25 rfl) hP hD hS hA [0] [1, 2] rfl rfl rfl rfl (fun r7 u7 H locs hw7 hP hD hS => ?_)
      obtain ⟨i7, a7⟩ := u7
      dsimp only at hw7
      obtain ⟨rfl, rfl⟩ := hw7
      have hP : va_P D vwCl [(q_1, .inr (3, [.ref q_2, .ref q_7, .ref q_8, .ref q_9, .ref q_10, .ref q_11])), (q_2, .inr (6, [.int 0, .ref q_12, .ref q_13, .ref q_14, .ref q_15, .ref q_16, .int x_4, .ref q_17, .int x_5, .ref q_18, .ref q_19, .ref q_20, .ref q_21, .ref q_22, .ref q_23])), (q_0, .inr (11, [.ref q_1, .ref q_3, .ref q_4, .ref q_5, .ref q_6, .int (-1)]))] H := hP
      have hD : va_D A [(q_1, .inr (3, [.ref q_2, .ref q_7, .ref q_8, .ref q_9, .ref q_10, .ref q_11])), (q_2, .inr (6, [.int 0, .ref q_12, .ref q_13, .ref q_14, .ref q_15, .ref q_16, .int x_4, .ref q_17, .int x_5, .ref q_18, .ref q_19, .ref q_20, .ref q_21, .ref q_22, .ref q_23])), (q_0, .inr (11, [.ref q_1, .ref q_3, .ref q_4, .ref q_5, .ref q_6, .int (-1)]))] := hD
      exact z_iret C0 hr hlk rfl hK hP hD hS (0, fun _ => 0) (Or.inl ⟨rfl, rfl, (Or.inr (⟨c1, c5⟩))⟩) [] rfl rfl rfl dX11_take_28
    · refine lv_if_eq (tgt := 29) hx hb dX11_take_20 (by decide) (fun _ => ?_) (fun c8 => absurd (by decide) c8)
      refine lv_aload_n hx hb dX11_take_29 rfl (lv_at hl 1 rfl) ?_
      refine va_get (D := D) (ci := 11) (v := .ref q_1) (C := RX11) (T := TX11) (N := 6) hx hb hts inX11 hown hK hP 0 rfl rfl 0 (by decide) (hts _ kF_X11_12) (fun _ h9 => h9) rfl dX11_take_30 ?_
      refine va_get (D := D) (ci := 3) (v := .ref q_2) (C := RX3) (T := TX3) (N := 6) hx hb hts inX3 hown hK hP 1 rfl rfl 0 (by decide) (hts _ kF_X11_43) (fun _ h9 => h9) rfl dX11_take_33 ?_
      refine lv_iload_n hx hb dX11_take_36 rfl (lv_at hl 2 rfl) ?_
      refine z_bi (wr := [(q_0, .inr (11, [.ref q_1, .ref q_3, .ref q_4, .ref q_5, .ref q_6, .int x_3])), (q_1, .inr (3, [.ref q_2, .ref q_7, .ref q_8, .ref q_9, .ref q_10, .ref q_11]))]) (z_runV (C := RX6) (As := [.int x_0]) (rest := []) C0 (c_X6_isNoChild_1 l D k q_2 q_12 q_13 q_14 q_15 q_16 q_17 q_18 q_19 q_20 q_21 q_22 q_23 x_0 x_4 x_5 _) okV_X6_isNoChild kM_X11_90 rfl (z_pV (q0 := 2) hK hN hP hD [2] rfl rfl rfl rfl rfl) rfl hl.1 rfl (Nat.le_of_ble_eq_true rfl) dX11_take_37 rfl) hP hD hS hA [2] [0, 1] rfl rfl rfl rfl (fun r9 u9 H locs hw9 hP hD hS => ?_)
      obtain ⟨i9, a9⟩ := u9
      dsimp only at hw9
      obtain ⟨rfl, rfl⟩ := hw9
      have hP : va_P D vwCl [(q_0, .inr (11, [.ref q_1, .ref q_3, .ref q_4, .ref q_5, .ref q_6, .int x_3])), (q_1, .inr (3, [.ref q_2, .ref q_7, .ref q_8, .ref q_9, .ref q_10, .ref q_11])), (q_2, .inr (6, [.int 0, .ref q_12, .ref q_13, .ref q_14, .ref q_15, .ref q_16, .int x_4, .ref q_17, .int x_5, .ref q_18, .ref q_19, .ref q_20, .ref q_21, .ref q_22, .ref q_23]))] H := hP
      have hD : va_D A [(q_0, .inr (11, [.ref q_1, .ref q_3, .ref q_4, .ref q_5, .ref q_6, .int x_3])), (q_1, .inr (3, [.ref q_2, .ref q_7, .ref q_8, .ref q_9, .ref q_10, .ref q_11])), (q_2, .inr (6, [.int 0, .ref q_12, .ref q_13, .ref q_14, .ref q_15, .ref q_16, .int x_4, .ref q_17, .int x_5, .ref q_18, .ref q_19, .ref q_20, .ref q_21, .ref q_22, .ref q_23]))] := hD
      refine lv_if_eq (tgt := 50) hx hb dX11_take_40 (by decide) (fun c10 => absurd c10 (by decide)) (fun _ => ?_)
      refine lv_aload_n hx hb dX11_take_43 rfl (lv_at hl 1 rfl) ?_
      refine lv_bipush (v := (-2)) hx hb dX11_take_44 (by decide) ?_
      refine z_bi (wr := [(q_1, .inr (3, [.ref q_2, .ref q_7, .ref q_8, .ref q_9, .ref q_10, .ref q_11])), (q_2, .inr (6, [.int 0, .ref q_12, .ref q_13, .ref q_14, .ref q_15, .ref q_16, .int x_4, .ref q_17, .int x_5, .ref q_18, .ref q_19, .ref q_20, .ref q_21, .ref q_22, .ref q_23]))]) (z_runV (C := RX11) (As := [.int (-2)]) (rest := []) C0 (c_X11_answer_3 l D k q_0 q_1 q_3 q_4 q_5 q_6 x_3 _) okV_X11_answer kM_X11_55 rfl (z_pV (q0 := 0) hK hN hP hD [0] rfl rfl rfl rfl rfl) rfl hl.1 rfl (Nat.le_of_ble_eq_true rfl) dX11_take_46 rfl) hP hD hS hA [0] [1, 2] rfl rfl rfl rfl (fun r11 u11 H locs hw11 hP hD hS => ?_)
      obtain ⟨i11, a11⟩ := u11
      dsimp only at hw11
      obtain ⟨rfl, rfl⟩ := hw11
      have hP : va_P D vwCl [(q_1, .inr (3, [.ref q_2, .ref q_7, .ref q_8, .ref q_9, .ref q_10, .ref q_11])), (q_2, .inr (6, [.int 0, .ref q_12, .ref q_13, .ref q_14, .ref q_15, .ref q_16, .int x_4, .ref q_17, .int x_5, .ref q_18, .ref q_19, .ref q_20, .ref q_21, .ref q_22, .ref q_23])), (q_0, .inr (11, [.ref q_1, .ref q_3, .ref q_4, .ref q_5, .ref q_6, .int (-2)]))] H := hP
      have hD : va_D A [(q_1, .inr (3, [.ref q_2, .ref q_7, .ref q_8, .ref q_9, .ref q_10, .ref q_11])), (q_2, .inr (6, [.int 0, .ref q_12, .ref q_13, .ref q_14, .ref q_15, .ref q_16, .int x_4, .ref q_17, .int x_5, .ref q_18, .ref q_19, .ref q_20, .ref q_21, .ref q_22, .ref q_23])), (q_0, .inr (11, [.ref q_1, .ref q_3, .ref q_4, .ref q_5, .ref q_6, .int (-2)]))] := hD
      exact z_iret C0 hr hlk rfl hK hP hD hS (1, fun _ => 0) (Or.inr (⟨rfl, rfl, ⟨c1, c5⟩⟩)) [] rfl rfl rfl dX11_take_49

set_option maxHeartbeats 4000000 in
set_option maxRecDepth 100000 in
theorem c_X12_isStep_1 (l : Launch) (D : va_G) (k : Nat → ClassId) (x_0 : Int32) : zMi l yX12_isStep cX12_isStep 1 (some .boolean) ({ frames := 1, cells := 0, slots := 0, locals := 25 }) D k [.int x_0] [] (fun r u => (u.1 = 0 ∧ r = 0 ∧ (((((Int32.toInt64 x_0) < 0) ∨ (¬ (Int32.toInt64 x_0) < 0 ∧ (3 : Int64) < (Int32.toInt64 x_0)))))) ∨ (u.1 = 1 ∧ r = 1 ∧ ((((¬ (Int32.toInt64 x_0) < 0 ∧ ¬ (3 : Int64) < (Int32.toInt64 x_0))))))) (fun u => []) := by
  refine zMi_of (own := RX12) (by decide +kernel) rfl (Nat.le_of_ble_eq_true rfl) ?_
  intro p e s m args below meth c A ls C0 hr hlk hin hP hD hS hA hK hN hl
  have hx := C0.1
  have hb := C0.2.1
  have hml := C0.2.2.1
  have hown := C0.2.2.2.1
  have hts := C0.2.2.2.2
  have hl : lv_has ls 1 [(0, .int x_0)] := hl
  have hP : va_P D vwCl [] s.heap := hP
  refine lv_iload_n hx hb dX12_isStep_0 rfl (lv_at hl 0 rfl) ?_
  refine lv_i2l (v := (Int32.toInt64 x_0)) hx hb dX12_isStep_1 rfl ?_
  refine lv_lconst (v := 0) hx hb dX12_isStep_2 (by decide) ?_
  refine lv_ldc2 hx hb hown (hts _ kL_X12_110) dX12_isStep_3 ?_
  refine z_bi0 (z_runS (As := [.long (Int32.toInt64 x_0), .long 0, .long 3]) (rest := []) C0 (c_X12_in_1 l D k (Int32.toInt64 x_0) 0 3 _) okS_X12_in kM_X12_100 rfl (z_p0 hK hN) rfl hl.1 rfl (Nat.le_of_ble_eq_true rfl) dX12_isStep_6 rfl) hP hS hA (fun r1 u1 H locs hw1 hP hS => ?_)
  obtain ⟨i1, a1⟩ := u1
  dsimp only at hw1
  rcases hw1 with ⟨rfl, rfl, c1⟩ | ⟨rfl, rfl, c1⟩
  · exact z_iret C0 hr hlk rfl hK hP hD hS (0, fun _ => 0) (Or.inl ⟨rfl, rfl, c1⟩) [] rfl rfl rfl dX12_isStep_9
  · exact z_iret C0 hr hlk rfl hK hP hD hS (1, fun _ => 0) (Or.inr (⟨rfl, rfl, c1⟩)) [] rfl rfl rfl dX12_isStep_9

set_option maxHeartbeats 4000000 in
set_option maxRecDepth 100000 in
theorem c_X12_take_1 (l : Launch) (D : va_G) (k : Nat → ClassId) (q_0 : Nat) (q_1 : Nat) (q_2 : Nat) (q_3 : Nat) (q_4 : Nat) (q_5 : Nat) (q_6 : Nat) (q_7 : Nat) (q_8 : Nat) (q_9 : Nat) (q_10 : Nat) (q_11 : Nat) (q_12 : Nat) (q_13 : Nat) (q_14 : Nat) (q_15 : Nat) (q_16 : Nat) (q_17 : Nat) (q_18 : Nat) (q_19 : Nat) (q_20 : Nat) (q_21 : Nat) (q_22 : Nat) (q_23 : Nat) (q_24 : Nat) (q_25 : Nat) (x_0 : Int32) (x_1 : Int32) (x_2 : Int32) (x_3 : Int32) (x_4 : Int32) (x_5 : Int32) (x_6 : Int32) (x_7 : Int32) (x_8 : Int32) (x_9 : Int32) (g_10 : Int64) (x_11 : Int32) (x_12 : Int32) (x_13 : Int32) (x_14 : Int32) (x_15 : Int32) (x_16 : Int32) (x_17 : Int32) (x_18 : Int32) (g_19 : Int64) (g_20 : Int64) (x_21 : Int32) (x_22 : Int32) (x_23 : Int32) (x_24 : Int32) (x_25 : Int32) (x_26 : Int32) (x_27 : Int32) (x_28 : Int32) (x_29 : Int32) (x_30 : Int32) (x_31 : Int32) (x_32 : Int32) (x_33 : Int32) : zMi l yX12_take cX12_take 4 (some .int) ({ frames := 2, cells := 0, slots := 0, locals := 46 }) D k [.ref q_0, .int x_0, .int x_1, .int x_2] [(q_0, .inr (12, [.int x_3, .int x_4, .ref q_1, .ref q_2, .ref q_3, .int x_5, .ref q_4, .ref q_5, .ref q_6, .ref q_7, .ref q_8, .int x_6, .int x_7, .int x_8, .int x_9, .long g_10, .int x_11, .int x_12, .int x_13, .ref q_9, .int x_14, .ref q_10, .ref q_11, .int x_15, .ref q_12, .ref q_13, .int x_16, .int x_17, .ref q_14, .ref q_15, .ref q_16, .ref q_17, .int x_18, .long g_19, .long g_20, .int x_21, .int x_22, .int x_23, .int x_24, .ref q_18, .ref q_19, .int x_25, .int x_26, .int x_27, .int x_28, .ref q_20, .ref q_21, .int x_29, .int x_30, .ref q_22, .ref q_23, .ref q_24, .ref q_25, .int x_31, .int x_32, .int x_33])), (q_1, .inl (k 0, 27101, .inl (fun _ => 0)))] (fun r u => (u.1 = 0 ∧ r = (-1) ∧ (((((Int32.toInt64 x_1) < 0) ∨ (¬ (Int32.toInt64 x_1) < 0 ∧ (3 : Int64) < (Int32.toInt64 x_1)))) ∨ (((¬ (Int32.toInt64 x_1) < 0 ∧ ¬ (3 : Int64) < (Int32.toInt64 x_1))) ∧ (((Int32.toInt64 x_2) < 0) ∨ (¬ (Int32.toInt64 x_2) < 0 ∧ (399 : Int64) < (Int32.toInt64 x_2)))))) ∨ (u.1 = 1 ∧ r = (-2) ∧ ((((¬ (Int32.toInt64 x_1) < 0 ∧ ¬ (3 : Int64) < (Int32.toInt64 x_1))) ∧ ((¬ (Int32.toInt64 x_2) < 0 ∧ ¬ (399 : Int64) < (Int32.toInt64 x_2))))))) (fun u => []) := by
  refine zMi_of (own := RX12) (by decide +kernel) rfl (Nat.le_of_ble_eq_true rfl) ?_
  intro p e s m args below meth c A ls C0 hr hlk hin hP hD hS hA hK hN hl
  have hx := C0.1
  have hb := C0.2.1
  have hml := C0.2.2.1
  have hown := C0.2.2.2.1
  have hts := C0.2.2.2.2
  have hl : lv_has ls 4 [(0, .ref q_0), (1, .int x_0), (2, .int x_1), (3, .int x_2)] := hl
  have hP : va_P D vwCl [(q_0, .inr (12, [.int x_3, .int x_4, .ref q_1, .ref q_2, .ref q_3, .int x_5, .ref q_4, .ref q_5, .ref q_6, .ref q_7, .ref q_8, .int x_6, .int x_7, .int x_8, .int x_9, .long g_10, .int x_11, .int x_12, .int x_13, .ref q_9, .int x_14, .ref q_10, .ref q_11, .int x_15, .ref q_12, .ref q_13, .int x_16, .int x_17, .ref q_14, .ref q_15, .ref q_16, .ref q_17, .int x_18, .long g_19, .long g_20, .int x_21, .int x_22, .int x_23, .int x_24, .ref q_18, .ref q_19, .int x_25, .int x_26, .int x_27, .int x_28, .ref q_20, .ref q_21, .int x_29, .int x_30, .ref q_22, .ref q_23, .ref q_24, .ref q_25, .int x_31, .int x_32, .int x_33])), (q_1, .inl (k 0, 27101, .inl (fun _ => 0)))] s.heap := hP
  refine lv_aload_n hx hb dX12_take_0 rfl (lv_at hl 0 rfl) ?_
  refine lv_iconst (v := 0) hx hb dX12_take_1 (by decide) ?_
  refine va_put (D := D) (ci := 12) (v := .int 0) (ty := .int) (C := RX12) (T := TX12) (N := 56) hx hb hts inX12 tyX12 tyX12_ok nmX12 hown hK hP hD hS 0 rfl rfl 0 (by decide) (hts _ kF_X12_92) (fun _ h9 => h9) rfl (by decide +kernel) rfl rfl (Nat.le_of_ble_eq_true rfl) dX12_take_2 (fun H locs hP hD hS => ?_)
  have hP : va_P D vwCl [(q_0, .inr (12, [.int 0, .int x_4, .ref q_1, .ref q_2, .ref q_3, .int x_5, .ref q_4, .ref q_5, .ref q_6, .ref q_7, .ref q_8, .int x_6, .int x_7, .int x_8, .int x_9, .long g_10, .int x_11, .int x_12, .int x_13, .ref q_9, .int x_14, .ref q_10, .ref q_11, .int x_15, .ref q_12, .ref q_13, .int x_16, .int x_17, .ref q_14, .ref q_15, .ref q_16, .ref q_17, .int x_18, .long g_19, .long g_20, .int x_21, .int x_22, .int x_23, .int x_24, .ref q_18, .ref q_19, .int x_25, .int x_26, .int x_27, .int x_28, .ref q_20, .ref q_21, .int x_29, .int x_30, .ref q_22, .ref q_23, .ref q_24, .ref q_25, .int x_31, .int x_32, .int x_33])), (q_1, .inl (k 0, 27101, .inl (fun _ => 0)))] H := hP
  have hD : va_D A [(q_0, .inr (12, [.int 0, .int x_4, .ref q_1, .ref q_2, .ref q_3, .int x_5, .ref q_4, .ref q_5, .ref q_6, .ref q_7, .ref q_8, .int x_6, .int x_7, .int x_8, .int x_9, .long g_10, .int x_11, .int x_12, .int x_13, .ref q_9, .int x_14, .ref q_10, .ref q_11, .int x_15, .ref q_12, .ref q_13, .int x_16, .int x_17, .ref q_14, .ref q_15, .ref q_16, .ref q_17, .int x_18, .long g_19, .long g_20, .int x_21, .int x_22, .int x_23, .int x_24, .ref q_18, .ref q_19, .int x_25, .int x_26, .int x_27, .int x_28, .ref q_20, .ref q_21, .int x_29, .int x_30, .ref q_22, .ref q_23, .ref q_24, .ref q_25, .int x_31, .int x_32, .int x_33])), (q_1, .inl (k 0, 27101, .inl (fun _ => 0)))] := hD
  refine lv_iload_n hx hb dX12_take_5 rfl (lv_at hl 2 rfl) ?_
  refine z_bi0 (z_runS (As := [.int x_1]) (rest := []) C0 (c_X12_isStep_1 l D k x_1 _) okS_X12_isStep kM_X12_460 rfl (z_p0 hK hN) rfl hl.1 rfl (Nat.le_of_ble_eq_true rfl) dX12_take_6 rfl) hP hS hA (fun r1 u1 H locs hw1 hP hS => ?_)
  obtain ⟨i1, a1⟩ := u1
  dsimp only at hw1
  rcases hw1 with ⟨rfl, rfl, c1⟩ | ⟨rfl, rfl, c1⟩
  · refine lv_if_eq (tgt := 19) hx hb dX12_take_9 (by decide) (fun _ => ?_) (fun c2 => absurd (by decide) c2)
    refine lv_aload_n hx hb dX12_take_19 rfl (lv_at hl 0 rfl) ?_
    refine lv_iconst (v := (-1)) hx hb dX12_take_20 (by decide) ?_
    refine z_bi (wr := [(q_1, .inl (k 0, 27101, .inl (fun _ => 0)))]) (z_runV (C := RX12) (As := [.int (-1)]) (rest := []) C0 (c_X12_told_1 l D k q_0 q_1 q_2 q_3 q_4 q_5 q_6 q_7 q_8 q_9 q_10 q_11 q_12 q_13 q_14 q_15 q_16 q_17 q_18 q_19 q_20 q_21 q_22 q_23 q_24 q_25 0 x_4 x_5 x_6 x_7 x_8 x_9 g_10 x_11 x_12 x_13 x_14 x_15 x_16 x_17 x_18 g_19 g_20 x_21 x_22 x_23 x_24 x_25 x_26 x_27 x_28 x_29 x_30 x_31 x_32 x_33 _) okV_X12_told kM_X12_106 rfl (z_pV (q0 := 0) hK hN hP hD [0] rfl rfl rfl rfl rfl) rfl hl.1 rfl (Nat.le_of_ble_eq_true rfl) dX12_take_21 rfl) hP hD hS hA [0] [1] rfl rfl rfl rfl (fun r3 u3 H locs hw3 hP hD hS => ?_)
    obtain ⟨i3, a3⟩ := u3
    dsimp only at hw3
    obtain ⟨rfl, rfl⟩ := hw3
    have hP : va_P D vwCl [(q_1, .inl (k 0, 27101, .inl (fun _ => 0))), (q_0, .inr (12, [.int 0, .int (-1), .ref q_1, .ref q_2, .ref q_3, .int x_5, .ref q_4, .ref q_5, .ref q_6, .ref q_7, .ref q_8, .int x_6, .int x_7, .int x_8, .int x_9, .long g_10, .int x_11, .int x_12, .int x_13, .ref q_9, .int x_14, .ref q_10, .ref q_11, .int x_15, .ref q_12, .ref q_13, .int x_16, .int x_17, .ref q_14, .ref q_15, .ref q_16, .ref q_17, .int x_18, .long g_19, .long g_20, .int x_21, .int x_22, .int x_23, .int x_24, .ref q_18, .ref q_19, .int x_25, .int x_26, .int x_27, .int x_28, .ref q_20, .ref q_21, .int x_29, .int x_30, .ref q_22, .ref q_23, .ref q_24, .ref q_25, .int x_31, .int x_32, .int x_33]))] H := hP
    have hD : va_D A [(q_1, .inl (k 0, 27101, .inl (fun _ => 0))), (q_0, .inr (12, [.int 0, .int (-1), .ref q_1, .ref q_2, .ref q_3, .int x_5, .ref q_4, .ref q_5, .ref q_6, .ref q_7, .ref q_8, .int x_6, .int x_7, .int x_8, .int x_9, .long g_10, .int x_11, .int x_12, .int x_13, .ref q_9, .int x_14, .ref q_10, .ref q_11, .int x_15, .ref q_12, .ref q_13, .int x_16, .int x_17, .ref q_14, .ref q_15, .ref q_16, .ref q_17, .int x_18, .long g_19, .long g_20, .int x_21, .int x_22, .int x_23, .int x_24, .ref q_18, .ref q_19, .int x_25, .int x_26, .int x_27, .int x_28, .ref q_20, .ref q_21, .int x_29, .int x_30, .ref q_22, .ref q_23, .ref q_24, .ref q_25, .int x_31, .int x_32, .int x_33]))] := hD
    exact z_iret C0 hr hlk rfl hK hP hD hS (0, fun _ => 0) (Or.inl ⟨rfl, rfl, (Or.inl c1)⟩) [] rfl rfl rfl dX12_take_24
  · refine lv_if_eq (tgt := 19) hx hb dX12_take_9 (by decide) (fun c4 => absurd c4 (by decide)) (fun _ => ?_)
    refine lv_iload_n hx hb dX12_take_12 rfl (lv_at hl 3 rfl) ?_
    refine z_bi0 (z_runS (As := [.int x_2]) (rest := []) C0 (c_X12_isDay_1 l D k x_2 _) okS_X12_isDay kM_X12_127 rfl (z_p0 hK hN) rfl hl.1 rfl (Nat.le_of_ble_eq_true rfl) dX12_take_13 rfl) hP hS hA (fun r5 u5 H locs hw5 hP hS => ?_)
    obtain ⟨i5, a5⟩ := u5
    dsimp only at hw5
    rcases hw5 with ⟨rfl, rfl, c5⟩ | ⟨rfl, rfl, c5⟩
    · refine lv_if_ne (tgt := 25) hx hb dX12_take_16 (by decide) (fun c6 => absurd (by decide) c6) (fun _ => ?_)
      refine lv_aload_n hx hb dX12_take_19 rfl (lv_at hl 0 rfl) ?_
      refine lv_iconst (v := (-1)) hx hb dX12_take_20 (by decide) ?_
      refine z_bi (wr := [(q_1, .inl (k 0, 27101, .inl (fun _ => 0)))]) (z_runV (C := RX12) (As := [.int (-1)]) (rest := []) C0 (c_X12_told_1 l D k q_0 q_1 q_2 q_3 q_4 q_5 q_6 q_7 q_8 q_9 q_10 q_11 q_12 q_13 q_14 q_15 q_16 q_17 q_18 q_19 q_20 q_21 q_22 q_23 q_24 q_25 0 x_4 x_5 x_6 x_7 x_8 x_9 g_10 x_11 x_12 x_13 x_14 x_15 x_16 x_17 x_18 g_19 g_20 x_21 x_22 x_23 x_24 x_25 x_26 x_27 x_28 x_29 x_30 x_31 x_32 x_33 _) okV_X12_told kM_X12_106 rfl (z_pV (q0 := 0) hK hN hP hD [0] rfl rfl rfl rfl rfl) rfl hl.1 rfl (Nat.le_of_ble_eq_true rfl) dX12_take_21 rfl) hP hD hS hA [0] [1] rfl rfl rfl rfl (fun r7 u7 H locs hw7 hP hD hS => ?_)
      obtain ⟨i7, a7⟩ := u7
      dsimp only at hw7
      obtain ⟨rfl, rfl⟩ := hw7
      have hP : va_P D vwCl [(q_1, .inl (k 0, 27101, .inl (fun _ => 0))), (q_0, .inr (12, [.int 0, .int (-1), .ref q_1, .ref q_2, .ref q_3, .int x_5, .ref q_4, .ref q_5, .ref q_6, .ref q_7, .ref q_8, .int x_6, .int x_7, .int x_8, .int x_9, .long g_10, .int x_11, .int x_12, .int x_13, .ref q_9, .int x_14, .ref q_10, .ref q_11, .int x_15, .ref q_12, .ref q_13, .int x_16, .int x_17, .ref q_14, .ref q_15, .ref q_16, .ref q_17, .int x_18, .long g_19, .long g_20, .int x_21, .int x_22, .int x_23, .int x_24, .ref q_18, .ref q_19, .int x_25, .int x_26, .int x_27, .int x_28, .ref q_20, .ref q_21, .int x_29, .int x_30, .ref q_22, .ref q_23, .ref q_24, .ref q_25, .int x_31, .int x_32, .int x_33]))] H := hP
      have hD : va_D A [(q_1, .inl (k 0, 27101, .inl (fun _ => 0))), (q_0, .inr (12, [.int 0, .int (-1), .ref q_1, .ref q_2, .ref q_3, .int x_5, .ref q_4, .ref q_5, .ref q_6, .ref q_7, .ref q_8, .int x_6, .int x_7, .int x_8, .int x_9, .long g_10, .int x_11, .int x_12, .int x_13, .ref q_9, .int x_14, .ref q_10, .ref q_11, .int x_15, .ref q_12, .ref q_13, .int x_16, .int x_17, .ref q_14, .ref q_15, .ref q_16, .ref q_17, .int x_18, .long g_19, .long g_20, .int x_21, .int x_22, .int x_23, .int x_24, .ref q_18, .ref q_19, .int x_25, .int x_26, .int x_27, .int x_28, .ref q_20, .ref q_21, .int x_29, .int x_30, .ref q_22, .ref q_23, .ref q_24, .ref q_25, .int x_31, .int x_32, .int x_33]))] := hD
      exact z_iret C0 hr hlk rfl hK hP hD hS (0, fun _ => 0) (Or.inl ⟨rfl, rfl, (Or.inr (⟨c1, c5⟩))⟩) [] rfl rfl rfl dX12_take_24
    · refine lv_if_ne (tgt := 25) hx hb dX12_take_16 (by decide) (fun _ => ?_) (fun c8 => absurd c8 (by decide))
      refine lv_aload_n hx hb dX12_take_25 rfl (lv_at hl 0 rfl) ?_
      refine lv_iload_n hx hb dX12_take_26 rfl (lv_at hl 1 rfl) ?_
      refine z_bi (wr := []) (z_runV (C := RX12) (As := [.int x_0]) (rest := []) C0 (c_X12_isChild_1 l D k q_0 q_1 q_2 q_3 q_4 q_5 q_6 q_7 q_8 q_9 q_10 q_11 q_12 q_13 q_14 q_15 q_16 q_17 q_18 q_19 q_20 q_21 q_22 q_23 q_24 q_25 x_0 0 x_4 x_5 x_6 x_7 x_8 x_9 g_10 x_11 x_12 x_13 x_14 x_15 x_16 x_17 x_18 g_19 g_20 x_21 x_22 x_23 x_24 x_25 x_26 x_27 x_28 x_29 x_30 x_31 x_32 x_33 _) okV_X12_isChild kM_X12_138 rfl (z_pV (q0 := 0) hK hN hP hD [0, 1] rfl rfl rfl rfl rfl) rfl hl.1 rfl (Nat.le_of_ble_eq_true rfl) dX12_take_27 rfl) hP hD hS hA [0, 1] [] rfl rfl rfl rfl (fun r9 u9 H locs hw9 hP hD hS => ?_)
      obtain ⟨i9, a9⟩ := u9
      dsimp only at hw9
      obtain ⟨rfl, rfl⟩ := hw9
      have hP : va_P D vwCl [(q_0, .inr (12, [.int 0, .int x_4, .ref q_1, .ref q_2, .ref q_3, .int x_5, .ref q_4, .ref q_5, .ref q_6, .ref q_7, .ref q_8, .int x_6, .int x_7, .int x_8, .int x_9, .long g_10, .int x_11, .int x_12, .int x_13, .ref q_9, .int x_14, .ref q_10, .ref q_11, .int x_15, .ref q_12, .ref q_13, .int x_16, .int x_17, .ref q_14, .ref q_15, .ref q_16, .ref q_17, .int x_18, .long g_19, .long g_20, .int x_21, .int x_22, .int x_23, .int x_24, .ref q_18, .ref q_19, .int x_25, .int x_26, .int x_27, .int x_28, .ref q_20, .ref q_21, .int x_29, .int x_30, .ref q_22, .ref q_23, .ref q_24, .ref q_25, .int x_31, .int x_32, .int x_33])), (q_1, .inl (k 0, 27101, .inl (fun _ => 0)))] H := hP
      have hD : va_D A [(q_0, .inr (12, [.int 0, .int x_4, .ref q_1, .ref q_2, .ref q_3, .int x_5, .ref q_4, .ref q_5, .ref q_6, .ref q_7, .ref q_8, .int x_6, .int x_7, .int x_8, .int x_9, .long g_10, .int x_11, .int x_12, .int x_13, .ref q_9, .int x_14, .ref q_10, .ref q_11, .int x_15, .ref q_12, .ref q_13, .int x_16, .int x_17, .ref q_14, .ref q_15, .ref q_16, .ref q_17, .int x_18, .long g_19, .long g_20, .int x_21, .int x_22, .int x_23, .int x_24, .ref q_18, .ref q_19, .int x_25, .int x_26, .int x_27, .int x_28, .ref q_20, .ref q_21, .int x_29, .int x_30, .ref q_22, .ref q_23, .ref q_24, .ref q_25, .int x_31, .int x_32, .int x_33])), (q_1, .inl (k 0, 27101, .inl (fun _ => 0)))] := hD
      refine lv_if_ne (tgt := 40) hx hb dX12_take_30 (by decide) (fun c10 => absurd (by decide) c10) (fun _ => ?_)
      refine lv_aload_n hx hb dX12_take_33 rfl (lv_at hl 0 rfl) ?_
      refine lv_bipush (v := (-2)) hx hb dX12_take_34 (by decide) ?_
      refine z_bi (wr := [(q_1, .inl (k 0, 27101, .inl (fun _ => 0)))]) (z_runV (C := RX12) (As := [.int (-2)]) (rest := []) C0 (c_X12_told_3 l D k q_0 q_1 q_2 q_3 q_4 q_5 q_6 q_7 q_8 q_9 q_10 q_11 q_12 q_13 q_14 q_15 q_16 q_17 q_18 q_19 q_20 q_21 q_22 q_23 q_24 q_25 0 x_4 x_5 x_6 x_7 x_8 x_9 g_10 x_11 x_12 x_13 x_14 x_15 x_16 x_17 x_18 g_19 g_20 x_21 x_22 x_23 x_24 x_25 x_26 x_27 x_28 x_29 x_30 x_31 x_32 x_33 _) okV_X12_told kM_X12_106 rfl (z_pV (q0 := 0) hK hN hP hD [0] rfl rfl rfl rfl rfl) rfl hl.1 rfl (Nat.le_of_ble_eq_true rfl) dX12_take_36 rfl) hP hD hS hA [0] [1] rfl rfl rfl rfl (fun r11 u11 H locs hw11 hP hD hS => ?_)
      obtain ⟨i11, a11⟩ := u11
      dsimp only at hw11
      obtain ⟨rfl, rfl⟩ := hw11
      have hP : va_P D vwCl [(q_1, .inl (k 0, 27101, .inl (fun _ => 0))), (q_0, .inr (12, [.int 0, .int (-2), .ref q_1, .ref q_2, .ref q_3, .int x_5, .ref q_4, .ref q_5, .ref q_6, .ref q_7, .ref q_8, .int x_6, .int x_7, .int x_8, .int x_9, .long g_10, .int x_11, .int x_12, .int x_13, .ref q_9, .int x_14, .ref q_10, .ref q_11, .int x_15, .ref q_12, .ref q_13, .int x_16, .int x_17, .ref q_14, .ref q_15, .ref q_16, .ref q_17, .int x_18, .long g_19, .long g_20, .int x_21, .int x_22, .int x_23, .int x_24, .ref q_18, .ref q_19, .int x_25, .int x_26, .int x_27, .int x_28, .ref q_20, .ref q_21, .int x_29, .int x_30, .ref q_22, .ref q_23, .ref q_24, .ref q_25, .int x_31, .int x_32, .int x_33]))] H := hP
      have hD : va_D A [(q_1, .inl (k 0, 27101, .inl (fun _ => 0))), (q_0, .inr (12, [.int 0, .int (-2), .ref q_1, .ref q_2, .ref q_3, .int x_5, .ref q_4, .ref q_5, .ref q_6, .ref q_7, .ref q_8, .int x_6, .int x_7, .int x_8, .int x_9, .long g_10, .int x_11, .int x_12, .int x_13, .ref q_9, .int x_14, .ref q_10, .ref q_11, .int x_15, .ref q_12, .ref q_13, .int x_16, .int x_17, .ref q_14, .ref q_15, .ref q_16, .ref q_17, .int x_18, .long g_19, .long g_20, .int x_21, .int x_22, .int x_23, .int x_24, .ref q_18, .ref q_19, .int x_25, .int x_26, .int x_27, .int x_28, .ref q_20, .ref q_21, .int x_29, .int x_30, .ref q_22, .ref q_23, .ref q_24, .ref q_25, .int x_31, .int x_32, .int x_33]))] := hD
      exact z_iret C0 hr hlk rfl hK hP hD hS (1, fun _ => 0) (Or.inr (⟨rfl, rfl, ⟨c1, c5⟩⟩)) [] rfl rfl rfl dX12_take_39

set_option maxHeartbeats 4000000 in
set_option maxRecDepth 100000 in
theorem c_X11_stands_1 (l : Launch) (D : va_G) (k : Nat → ClassId) (q_0 : Nat) (q_1 : Nat) (q_2 : Nat) (q_3 : Nat) (q_4 : Nat) (q_5 : Nat) (q_6 : Nat) (q_7 : Nat) (q_8 : Nat) (q_9 : Nat) (q_10 : Nat) (q_11 : Nat) (q_12 : Nat) (q_13 : Nat) (q_14 : Nat) (q_15 : Nat) (q_16 : Nat) (q_17 : Nat) (q_18 : Nat) (q_19 : Nat) (q_20 : Nat) (q_21 : Nat) (q_22 : Nat) (q_23 : Nat) (x_0 : Int32) (x_1 : Int32) (x_2 : Int32) (x_3 : Int32) (x_4 : Int32) (x_5 : Int32) : zMi l yX11_stands cX11_stands 4 (some .int) ({ frames := 1, cells := 0, slots := 0, locals := 21 }) D k [.ref q_0, .int x_0, .int x_1, .int x_2] [(q_0, .inr (11, [.ref q_1, .ref q_3, .ref q_4, .ref q_5, .ref q_6, .int x_3])), (q_1, .inr (3, [.ref q_2, .ref q_7, .ref q_8, .ref q_9, .ref q_10, .ref q_11])), (q_2, .inr (6, [.int 0, .ref q_12, .ref q_13, .ref q_14, .ref q_15, .ref q_16, .int x_4, .ref q_17, .int x_5, .ref q_18, .ref q_19, .ref q_20, .ref q_21, .ref q_22, .ref q_23]))] (fun r u => u.1 = 0 ∧ r = (-1)) (fun u => []) := by
  refine zMi_of (own := RX11) (by decide +kernel) rfl (Nat.le_of_ble_eq_true rfl) ?_
  intro p e s m args below meth c A ls C0 hr hlk hin hP hD hS hA hK hN hl
  have hx := C0.1
  have hb := C0.2.1
  have hml := C0.2.2.1
  have hown := C0.2.2.2.1
  have hts := C0.2.2.2.2
  have hl : lv_has ls 4 [(0, .ref q_0), (1, .int x_0), (2, .int x_1), (3, .int x_2)] := hl
  have hP : va_P D vwCl [(q_0, .inr (11, [.ref q_1, .ref q_3, .ref q_4, .ref q_5, .ref q_6, .int x_3])), (q_1, .inr (3, [.ref q_2, .ref q_7, .ref q_8, .ref q_9, .ref q_10, .ref q_11])), (q_2, .inr (6, [.int 0, .ref q_12, .ref q_13, .ref q_14, .ref q_15, .ref q_16, .int x_4, .ref q_17, .int x_5, .ref q_18, .ref q_19, .ref q_20, .ref q_21, .ref q_22, .ref q_23]))] s.heap := hP
  refine lv_iload_n hx hb dX11_stands_0 rfl (lv_at hl 2 rfl) ?_
  refine z_bi0 (z_runS (As := [.int x_1]) (rest := []) C0 (c_X11_isNoStep_1 l D k x_1 _) okS_X11_isNoStep kM_X11_220 rfl (z_p0 hK hN) rfl hl.1 rfl (Nat.le_of_ble_eq_true rfl) dX11_stands_1 rfl) hP hS hA (fun r1 u1 H locs hw1 hP hS => ?_)
  obtain ⟨i1, a1⟩ := u1
  dsimp only at hw1
  rcases hw1 with ⟨rfl, rfl, c1⟩ | ⟨rfl, rfl, c1⟩
  · refine lv_if_ne (tgt := 28) hx hb dX11_stands_4 (by decide) (fun _ => ?_) (fun c2 => absurd c2 (by decide))
    refine lv_iconst (v := (-1)) hx hb dX11_stands_28 (by decide) ?_
    exact z_iret C0 hr hlk rfl hK hP hD hS (0, fun _ => 0) ⟨rfl, rfl⟩ [] rfl rfl rfl dX11_stands_29
  · refine lv_if_ne (tgt := 28) hx hb dX11_stands_4 (by decide) (fun c3 => absurd (by decide) c3) (fun _ => ?_)
    refine lv_iload_n hx hb dX11_stands_7 rfl (lv_at hl 3 rfl) ?_
    refine z_bi0 (z_runS (As := [.int x_2]) (rest := []) C0 (c_X11_isNoDay_1 l D k x_2 _) okS_X11_isNoDay kM_X11_72 rfl (z_p0 hK hN) rfl hl.1 rfl (Nat.le_of_ble_eq_true rfl) dX11_stands_8 rfl) hP hS hA (fun r4 u4 H locs hw4 hP hS => ?_)
    obtain ⟨i4, a4⟩ := u4
    dsimp only at hw4
    rcases hw4 with ⟨rfl, rfl, c4⟩ | ⟨rfl, rfl, c4⟩
    · refine lv_if_ne (tgt := 28) hx hb dX11_stands_11 (by decide) (fun _ => ?_) (fun c5 => absurd c5 (by decide))
      refine lv_iconst (v := (-1)) hx hb dX11_stands_28 (by decide) ?_
      exact z_iret C0 hr hlk rfl hK hP hD hS (0, fun _ => 0) ⟨rfl, rfl⟩ [] rfl rfl rfl dX11_stands_29
    · refine lv_if_ne (tgt := 28) hx hb dX11_stands_11 (by decide) (fun c6 => absurd (by decide) c6) (fun _ => ?_)
      refine lv_aload_n hx hb dX11_stands_14 rfl (lv_at hl 0 rfl) ?_
      refine va_get (D := D) (ci := 11) (v := .ref q_1) (C := RX11) (T := TX11) (N := 6) hx hb hts inX11 hown hK hP 0 rfl rfl 0 (by decide) (hts _ kF_X11_12) (fun _ h9 => h9) rfl dX11_stands_15 ?_
      refine va_get (D := D) (ci := 3) (v := .ref q_2) (C := RX3) (T := TX3) (N := 6) hx hb hts inX3 hown hK hP 1 rfl rfl 0 (by decide) (hts _ kF_X11_43) (fun _ h9 => h9) rfl dX11_stands_18 ?_
      refine lv_iload_n hx hb dX11_stands_21 rfl (lv_at hl 1 rfl) ?_
      refine z_bi (wr := [(q_0, .inr (11, [.ref q_1, .ref q_3, .ref q_4, .ref q_5, .ref q_6, .int x_3])), (q_1, .inr (3, [.ref q_2, .ref q_7, .ref q_8, .ref q_9, .ref q_10, .ref q_11]))]) (z_runV (C := RX6) (As := [.int x_0]) (rest := []) C0 (c_X6_isNoChild_1 l D k q_2 q_12 q_13 q_14 q_15 q_16 q_17 q_18 q_19 q_20 q_21 q_22 q_23 x_0 x_4 x_5 _) okV_X6_isNoChild kM_X11_90 rfl (z_pV (q0 := 2) hK hN hP hD [2] rfl rfl rfl rfl rfl) rfl hl.1 rfl (Nat.le_of_ble_eq_true rfl) dX11_stands_22 rfl) hP hD hS hA [2] [0, 1] rfl rfl rfl rfl (fun r7 u7 H locs hw7 hP hD hS => ?_)
      obtain ⟨i7, a7⟩ := u7
      dsimp only at hw7
      obtain ⟨rfl, rfl⟩ := hw7
      have hP : va_P D vwCl [(q_0, .inr (11, [.ref q_1, .ref q_3, .ref q_4, .ref q_5, .ref q_6, .int x_3])), (q_1, .inr (3, [.ref q_2, .ref q_7, .ref q_8, .ref q_9, .ref q_10, .ref q_11])), (q_2, .inr (6, [.int 0, .ref q_12, .ref q_13, .ref q_14, .ref q_15, .ref q_16, .int x_4, .ref q_17, .int x_5, .ref q_18, .ref q_19, .ref q_20, .ref q_21, .ref q_22, .ref q_23]))] H := hP
      have hD : va_D A [(q_0, .inr (11, [.ref q_1, .ref q_3, .ref q_4, .ref q_5, .ref q_6, .int x_3])), (q_1, .inr (3, [.ref q_2, .ref q_7, .ref q_8, .ref q_9, .ref q_10, .ref q_11])), (q_2, .inr (6, [.int 0, .ref q_12, .ref q_13, .ref q_14, .ref q_15, .ref q_16, .int x_4, .ref q_17, .int x_5, .ref q_18, .ref q_19, .ref q_20, .ref q_21, .ref q_22, .ref q_23]))] := hD
      refine lv_if_eq (tgt := 30) hx hb dX11_stands_25 (by decide) (fun c8 => absurd c8 (by decide)) (fun _ => ?_)
      refine lv_iconst (v := (-1)) hx hb dX11_stands_28 (by decide) ?_
      exact z_iret C0 hr hlk rfl hK hP hD hS (0, fun _ => 0) ⟨rfl, rfl⟩ [] rfl rfl rfl dX11_stands_29

set_option maxHeartbeats 4000000 in
set_option maxRecDepth 100000 in
theorem c_X12_stands_1 (l : Launch) (D : va_G) (k : Nat → ClassId) (q_0 : Nat) (q_1 : Nat) (q_2 : Nat) (q_3 : Nat) (q_4 : Nat) (q_5 : Nat) (q_6 : Nat) (q_7 : Nat) (q_8 : Nat) (q_9 : Nat) (q_10 : Nat) (q_11 : Nat) (q_12 : Nat) (q_13 : Nat) (q_14 : Nat) (q_15 : Nat) (q_16 : Nat) (q_17 : Nat) (q_18 : Nat) (q_19 : Nat) (q_20 : Nat) (q_21 : Nat) (q_22 : Nat) (q_23 : Nat) (q_24 : Nat) (q_25 : Nat) (x_0 : Int32) (x_1 : Int32) (x_2 : Int32) (x_3 : Int32) (x_4 : Int32) (x_5 : Int32) (x_6 : Int32) (x_7 : Int32) (x_8 : Int32) (x_9 : Int32) (g_10 : Int64) (x_11 : Int32) (x_12 : Int32) (x_13 : Int32) (x_14 : Int32) (x_15 : Int32) (x_16 : Int32) (x_17 : Int32) (x_18 : Int32) (g_19 : Int64) (g_20 : Int64) (x_21 : Int32) (x_22 : Int32) (x_23 : Int32) (x_24 : Int32) (x_25 : Int32) (x_26 : Int32) (x_27 : Int32) (x_28 : Int32) (x_29 : Int32) (x_30 : Int32) (x_31 : Int32) (x_32 : Int32) (x_33 : Int32) : zMi l yX12_stands cX12_stands 4 (some .int) ({ frames := 2, cells := 0, slots := 0, locals := 46 }) D k [.ref q_0, .int x_0, .int x_1, .int x_2] [(q_0, .inr (12, [.int x_3, .int x_4, .ref q_1, .ref q_2, .ref q_3, .int x_5, .ref q_4, .ref q_5, .ref q_6, .ref q_7, .ref q_8, .int x_6, .int x_7, .int x_8, .int x_9, .long g_10, .int x_11, .int x_12, .int x_13, .ref q_9, .int x_14, .ref q_10, .ref q_11, .int x_15, .ref q_12, .ref q_13, .int x_16, .int x_17, .ref q_14, .ref q_15, .ref q_16, .ref q_17, .int x_18, .long g_19, .long g_20, .int x_21, .int x_22, .int x_23, .int x_24, .ref q_18, .ref q_19, .int x_25, .int x_26, .int x_27, .int x_28, .ref q_20, .ref q_21, .int x_29, .int x_30, .ref q_22, .ref q_23, .ref q_24, .ref q_25, .int x_31, .int x_32, .int x_33])), (q_1, .inl (k 0, 27101, .inl (fun _ => 0)))] (fun r u => u.1 = 0 ∧ r = (-1)) (fun u => []) := by
  refine zMi_of (own := RX12) (by decide +kernel) rfl (Nat.le_of_ble_eq_true rfl) ?_
  intro p e s m args below meth c A ls C0 hr hlk hin hP hD hS hA hK hN hl
  have hx := C0.1
  have hb := C0.2.1
  have hml := C0.2.2.1
  have hown := C0.2.2.2.1
  have hts := C0.2.2.2.2
  have hl : lv_has ls 4 [(0, .ref q_0), (1, .int x_0), (2, .int x_1), (3, .int x_2)] := hl
  have hP : va_P D vwCl [(q_0, .inr (12, [.int x_3, .int x_4, .ref q_1, .ref q_2, .ref q_3, .int x_5, .ref q_4, .ref q_5, .ref q_6, .ref q_7, .ref q_8, .int x_6, .int x_7, .int x_8, .int x_9, .long g_10, .int x_11, .int x_12, .int x_13, .ref q_9, .int x_14, .ref q_10, .ref q_11, .int x_15, .ref q_12, .ref q_13, .int x_16, .int x_17, .ref q_14, .ref q_15, .ref q_16, .ref q_17, .int x_18, .long g_19, .long g_20, .int x_21, .int x_22, .int x_23, .int x_24, .ref q_18, .ref q_19, .int x_25, .int x_26, .int x_27, .int x_28, .ref q_20, .ref q_21, .int x_29, .int x_30, .ref q_22, .ref q_23, .ref q_24, .ref q_25, .int x_31, .int x_32, .int x_33])), (q_1, .inl (k 0, 27101, .inl (fun _ => 0)))] s.heap := hP
  refine lv_aload_n hx hb dX12_stands_0 rfl (lv_at hl 0 rfl) ?_
  refine lv_iconst (v := 0) hx hb dX12_stands_1 (by decide) ?_
  refine va_put (D := D) (ci := 12) (v := .int 0) (ty := .int) (C := RX12) (T := TX12) (N := 56) hx hb hts inX12 tyX12 tyX12_ok nmX12 hown hK hP hD hS 0 rfl rfl 0 (by decide) (hts _ kF_X12_92) (fun _ h9 => h9) rfl (by decide +kernel) rfl rfl (Nat.le_of_ble_eq_true rfl) dX12_stands_2 (fun H locs hP hD hS => ?_)
  have hP : va_P D vwCl [(q_0, .inr (12, [.int 0, .int x_4, .ref q_1, .ref q_2, .ref q_3, .int x_5, .ref q_4, .ref q_5, .ref q_6, .ref q_7, .ref q_8, .int x_6, .int x_7, .int x_8, .int x_9, .long g_10, .int x_11, .int x_12, .int x_13, .ref q_9, .int x_14, .ref q_10, .ref q_11, .int x_15, .ref q_12, .ref q_13, .int x_16, .int x_17, .ref q_14, .ref q_15, .ref q_16, .ref q_17, .int x_18, .long g_19, .long g_20, .int x_21, .int x_22, .int x_23, .int x_24, .ref q_18, .ref q_19, .int x_25, .int x_26, .int x_27, .int x_28, .ref q_20, .ref q_21, .int x_29, .int x_30, .ref q_22, .ref q_23, .ref q_24, .ref q_25, .int x_31, .int x_32, .int x_33])), (q_1, .inl (k 0, 27101, .inl (fun _ => 0)))] H := hP
  have hD : va_D A [(q_0, .inr (12, [.int 0, .int x_4, .ref q_1, .ref q_2, .ref q_3, .int x_5, .ref q_4, .ref q_5, .ref q_6, .ref q_7, .ref q_8, .int x_6, .int x_7, .int x_8, .int x_9, .long g_10, .int x_11, .int x_12, .int x_13, .ref q_9, .int x_14, .ref q_10, .ref q_11, .int x_15, .ref q_12, .ref q_13, .int x_16, .int x_17, .ref q_14, .ref q_15, .ref q_16, .ref q_17, .int x_18, .long g_19, .long g_20, .int x_21, .int x_22, .int x_23, .int x_24, .ref q_18, .ref q_19, .int x_25, .int x_26, .int x_27, .int x_28, .ref q_20, .ref q_21, .int x_29, .int x_30, .ref q_22, .ref q_23, .ref q_24, .ref q_25, .int x_31, .int x_32, .int x_33])), (q_1, .inl (k 0, 27101, .inl (fun _ => 0)))] := hD
  refine lv_aload_n hx hb dX12_stands_5 rfl (lv_at hl 0 rfl) ?_
  refine lv_iload_n hx hb dX12_stands_6 rfl (lv_at hl 1 rfl) ?_
  refine z_bi (wr := []) (z_runV (C := RX12) (As := [.int x_0]) (rest := []) C0 (c_X12_isChild_1 l D k q_0 q_1 q_2 q_3 q_4 q_5 q_6 q_7 q_8 q_9 q_10 q_11 q_12 q_13 q_14 q_15 q_16 q_17 q_18 q_19 q_20 q_21 q_22 q_23 q_24 q_25 x_0 0 x_4 x_5 x_6 x_7 x_8 x_9 g_10 x_11 x_12 x_13 x_14 x_15 x_16 x_17 x_18 g_19 g_20 x_21 x_22 x_23 x_24 x_25 x_26 x_27 x_28 x_29 x_30 x_31 x_32 x_33 _) okV_X12_isChild kM_X12_138 rfl (z_pV (q0 := 0) hK hN hP hD [0, 1] rfl rfl rfl rfl rfl) rfl hl.1 rfl (Nat.le_of_ble_eq_true rfl) dX12_stands_7 rfl) hP hD hS hA [0, 1] [] rfl rfl rfl rfl (fun r1 u1 H locs hw1 hP hD hS => ?_)
  obtain ⟨i1, a1⟩ := u1
  dsimp only at hw1
  obtain ⟨rfl, rfl⟩ := hw1
  have hP : va_P D vwCl [(q_0, .inr (12, [.int 0, .int x_4, .ref q_1, .ref q_2, .ref q_3, .int x_5, .ref q_4, .ref q_5, .ref q_6, .ref q_7, .ref q_8, .int x_6, .int x_7, .int x_8, .int x_9, .long g_10, .int x_11, .int x_12, .int x_13, .ref q_9, .int x_14, .ref q_10, .ref q_11, .int x_15, .ref q_12, .ref q_13, .int x_16, .int x_17, .ref q_14, .ref q_15, .ref q_16, .ref q_17, .int x_18, .long g_19, .long g_20, .int x_21, .int x_22, .int x_23, .int x_24, .ref q_18, .ref q_19, .int x_25, .int x_26, .int x_27, .int x_28, .ref q_20, .ref q_21, .int x_29, .int x_30, .ref q_22, .ref q_23, .ref q_24, .ref q_25, .int x_31, .int x_32, .int x_33])), (q_1, .inl (k 0, 27101, .inl (fun _ => 0)))] H := hP
  have hD : va_D A [(q_0, .inr (12, [.int 0, .int x_4, .ref q_1, .ref q_2, .ref q_3, .int x_5, .ref q_4, .ref q_5, .ref q_6, .ref q_7, .ref q_8, .int x_6, .int x_7, .int x_8, .int x_9, .long g_10, .int x_11, .int x_12, .int x_13, .ref q_9, .int x_14, .ref q_10, .ref q_11, .int x_15, .ref q_12, .ref q_13, .int x_16, .int x_17, .ref q_14, .ref q_15, .ref q_16, .ref q_17, .int x_18, .long g_19, .long g_20, .int x_21, .int x_22, .int x_23, .int x_24, .ref q_18, .ref q_19, .int x_25, .int x_26, .int x_27, .int x_28, .ref q_20, .ref q_21, .int x_29, .int x_30, .ref q_22, .ref q_23, .ref q_24, .ref q_25, .int x_31, .int x_32, .int x_33])), (q_1, .inl (k 0, 27101, .inl (fun _ => 0)))] := hD
  refine lv_if_eq (tgt := 45) hx hb dX12_stands_10 (by decide) (fun _ => ?_) (fun c2 => absurd (by decide) c2)
  refine lv_iconst (v := (-1)) hx hb dX12_stands_45 (by decide) ?_
  exact z_iret C0 hr hlk rfl hK hP hD hS (0, fun _ => 0) ⟨rfl, rfl⟩ [] rfl rfl rfl dX12_stands_46

set_option maxHeartbeats 4000000 in
set_option maxRecDepth 100000 in
theorem c_X11_pay_1 (l : Launch) (D : va_G) (k : Nat → ClassId) (q_0 : Nat) (q_1 : Nat) (q_2 : Nat) (q_3 : Nat) (q_4 : Nat) (q_5 : Nat) (q_6 : Nat) (q_7 : Nat) (q_8 : Nat) (q_9 : Nat) (q_10 : Nat) (q_11 : Nat) (q_12 : Nat) (q_13 : Nat) (q_14 : Nat) (q_15 : Nat) (q_16 : Nat) (q_17 : Nat) (q_18 : Nat) (q_19 : Nat) (q_20 : Nat) (q_21 : Nat) (q_22 : Nat) (q_23 : Nat) (x_0 : Int32) (x_1 : Int32) (x_2 : Int32) (x_3 : Int32) (x_4 : Int32) (x_5 : Int32) : zMi l yX11_pay cX11_pay 9 (some .int) ({ frames := 1, cells := 0, slots := 0, locals := 21 }) D k [.ref q_0, .int x_0, .int x_1, .int x_2] [(q_0, .inr (11, [.ref q_1, .ref q_3, .ref q_4, .ref q_5, .ref q_6, .int x_3])), (q_1, .inr (3, [.ref q_2, .ref q_7, .ref q_8, .ref q_9, .ref q_10, .ref q_11])), (q_2, .inr (6, [.int 0, .ref q_12, .ref q_13, .ref q_14, .ref q_15, .ref q_16, .int x_4, .ref q_17, .int x_5, .ref q_18, .ref q_19, .ref q_20, .ref q_21, .ref q_22, .ref q_23]))] (fun r u => (u.1 = 0 ∧ r = (-1) ∧ ((((x_1 < 0) ∨ (¬ x_1 < 0 ∧ ¬ x_1 < 4))) ∨ (((¬ x_1 < 0 ∧ x_1 < 4)) ∧ ((x_2 < 0) ∨ (¬ x_2 < 0 ∧ ¬ x_2 < 400))))) ∨ (u.1 = 1 ∧ r = (-2) ∧ ((((¬ x_1 < 0 ∧ x_1 < 4)) ∧ ((¬ x_2 < 0 ∧ x_2 < 400)))))) (fun u => []) := by
  refine zMi_of (own := RX11) (by decide +kernel) rfl (Nat.le_of_ble_eq_true rfl) ?_
  intro p e s m args below meth c A ls C0 hr hlk hin hP hD hS hA hK hN hl
  have hx := C0.1
  have hb := C0.2.1
  have hml := C0.2.2.1
  have hown := C0.2.2.2.1
  have hts := C0.2.2.2.2
  have hl : lv_has ls 9 [(0, .ref q_0), (1, .int x_0), (2, .int x_1), (3, .int x_2)] := hl
  have hP : va_P D vwCl [(q_0, .inr (11, [.ref q_1, .ref q_3, .ref q_4, .ref q_5, .ref q_6, .int x_3])), (q_1, .inr (3, [.ref q_2, .ref q_7, .ref q_8, .ref q_9, .ref q_10, .ref q_11])), (q_2, .inr (6, [.int 0, .ref q_12, .ref q_13, .ref q_14, .ref q_15, .ref q_16, .int x_4, .ref q_17, .int x_5, .ref q_18, .ref q_19, .ref q_20, .ref q_21, .ref q_22, .ref q_23]))] s.heap := hP
  refine lv_aload_n hx hb dX11_pay_0 rfl (lv_at hl 0 rfl) ?_
  refine va_get (D := D) (ci := 11) (v := .ref q_1) (C := RX11) (T := TX11) (N := 6) hx hb hts inX11 hown hK hP 0 rfl rfl 0 (by decide) (hts _ kF_X11_12) (fun _ h9 => h9) rfl dX11_pay_1 ?_
  refine va_get (D := D) (ci := 3) (v := .ref q_10) (C := RX3) (T := TX3) (N := 6) hx hb hts inX3 hown hK hP 1 rfl rfl 4 (by decide) (hts _ kF_X11_230) (fun _ h9 => h9) rfl dX11_pay_4 ?_
  refine lv_astore (lv' := [(4, .ref q_10), (0, .ref q_0), (1, .int x_0), (2, .int x_1), (3, .int x_2)]) hx hb dX11_pay_7 hl (by decide) rfl (fun ls hl => ?_)
  refine lv_iload_n hx hb dX11_pay_9 rfl (lv_at hl 3 rfl) ?_
  refine z_bi0 (z_runS (As := [.int x_1]) (rest := []) C0 (c_X11_isNoStep_1 l D k x_1 _) okS_X11_isNoStep kM_X11_220 rfl (z_p0 hK hN) rfl hl.1 rfl (Nat.le_of_ble_eq_true rfl) dX11_pay_10 rfl) hP hS hA (fun r1 u1 H locs hw1 hP hS => ?_)
  obtain ⟨i1, a1⟩ := u1
  dsimp only at hw1
  rcases hw1 with ⟨rfl, rfl, c1⟩ | ⟨rfl, rfl, c1⟩
  · refine lv_if_ne (tgt := 23) hx hb dX11_pay_13 (by decide) (fun _ => ?_) (fun c2 => absurd c2 (by decide))
    refine lv_aload_n hx hb dX11_pay_23 rfl (lv_at hl 1 rfl) ?_
    refine lv_iconst (v := (-1)) hx hb dX11_pay_24 (by decide) ?_
    refine z_bi (wr := [(q_1, .inr (3, [.ref q_2, .ref q_7, .ref q_8, .ref q_9, .ref q_10, .ref q_11])), (q_2, .inr (6, [.int 0, .ref q_12, .ref q_13, .ref q_14, .ref q_15, .ref q_16, .int x_4, .ref q_17, .int x_5, .ref q_18, .ref q_19, .ref q_20, .ref q_21, .ref q_22, .ref q_23]))]) (z_runV (C := RX11) (As := [.int (-1)]) (rest := []) C0 (c_X11_answer_1 l D k q_0 q_1 q_3 q_4 q_5 q_6 x_3 _) okV_X11_answer kM_X11_55 rfl (z_pV (q0 := 0) hK hN hP hD [0] rfl rfl rfl rfl rfl) rfl hl.1 rfl (Nat.le_of_ble_eq_true rfl) dX11_pay_25 rfl) hP hD hS hA [0] [1, 2] rfl rfl rfl rfl (fun r3 u3 H locs hw3 hP hD hS => ?_)
    obtain ⟨i3, a3⟩ := u3
    dsimp only at hw3
    obtain ⟨rfl, rfl⟩ := hw3
    have hP : va_P D vwCl [(q_1, .inr (3, [.ref q_2, .ref q_7, .ref q_8, .ref q_9, .ref q_10, .ref q_11])), (q_2, .inr (6, [.int 0, .ref q_12, .ref q_13, .ref q_14, .ref q_15, .ref q_16, .int x_4, .ref q_17, .int x_5, .ref q_18, .ref q_19, .ref q_20, .ref q_21, .ref q_22, .ref q_23])), (q_0, .inr (11, [.ref q_1, .ref q_3, .ref q_4, .ref q_5, .ref q_6, .int (-1)]))] H := hP
    have hD : va_D A [(q_1, .inr (3, [.ref q_2, .ref q_7, .ref q_8, .ref q_9, .ref q_10, .ref q_11])), (q_2, .inr (6, [.int 0, .ref q_12, .ref q_13, .ref q_14, .ref q_15, .ref q_16, .int x_4, .ref q_17, .int x_5, .ref q_18, .ref q_19, .ref q_20, .ref q_21, .ref q_22, .ref q_23])), (q_0, .inr (11, [.ref q_1, .ref q_3, .ref q_4, .ref q_5, .ref q_6, .int (-1)]))] := hD
    exact z_iret C0 hr hlk rfl hK hP hD hS (0, fun _ => 0) (Or.inl ⟨rfl, rfl, (Or.inl c1)⟩) [] rfl rfl rfl dX11_pay_28
  · refine lv_if_ne (tgt := 23) hx hb dX11_pay_13 (by decide) (fun c4 => absurd (by decide) c4) (fun _ => ?_)
    refine lv_iload_n hx hb dX11_pay_16 rfl (lv_at hl 4 rfl) ?_
    refine z_bi0 (z_runS (As := [.int x_2]) (rest := []) C0 (c_X11_isNoDay_1 l D k x_2 _) okS_X11_isNoDay kM_X11_72 rfl (z_p0 hK hN) rfl hl.1 rfl (Nat.le_of_ble_eq_true rfl) dX11_pay_17 rfl) hP hS hA (fun r5 u5 H locs hw5 hP hS => ?_)
    obtain ⟨i5, a5⟩ := u5
    dsimp only at hw5
    rcases hw5 with ⟨rfl, rfl, c5⟩ | ⟨rfl, rfl, c5⟩
    · refine lv_if_eq (tgt := 29) hx hb dX11_pay_20 (by decide) (fun c6 => absurd c6 (by decide)) (fun _ => ?_)
      refine lv_aload_n hx hb dX11_pay_23 rfl (lv_at hl 1 rfl) ?_
      refine lv_iconst (v := (-1)) hx hb dX11_pay_24 (by decide) ?_
      refine z_bi (wr := [(q_1, .inr (3, [.ref q_2, .ref q_7, .ref q_8, .ref q_9, .ref q_10, .ref q_11])), (q_2, .inr (6, [.int 0, .ref q_12, .ref q_13, .ref q_14, .ref q_15, .ref q_16, .int x_4, .ref q_17, .int x_5, .ref q_18, .ref q_19, .ref q_20, .ref q_21, .ref q_22, .ref q_23]))]) (z_runV (C := RX11) (As := [.int (-1)]) (rest := []) C0 (c_X11_answer_1 l D k q_0 q_1 q_3 q_4 q_5 q_6 x_3 _) okV_X11_answer kM_X11_55 rfl (z_pV (q0 := 0) hK hN hP hD [0] rfl rfl rfl rfl rfl) rfl hl.1 rfl (Nat.le_of_ble_eq_true rfl) dX11_pay_25 rfl) hP hD hS hA [0] [1, 2] rfl rfl rfl rfl (fun r7 u7 H locs hw7 hP hD hS => ?_)
      obtain ⟨i7, a7⟩ := u7
      dsimp only at hw7
      obtain ⟨rfl, rfl⟩ := hw7
      have hP : va_P D vwCl [(q_1, .inr (3, [.ref q_2, .ref q_7, .ref q_8, .ref q_9, .ref q_10, .ref q_11])), (q_2, .inr (6, [.int 0, .ref q_12, .ref q_13, .ref q_14, .ref q_15, .ref q_16, .int x_4, .ref q_17, .int x_5, .ref q_18, .ref q_19, .ref q_20, .ref q_21, .ref q_22, .ref q_23])), (q_0, .inr (11, [.ref q_1, .ref q_3, .ref q_4, .ref q_5, .ref q_6, .int (-1)]))] H := hP
      have hD : va_D A [(q_1, .inr (3, [.ref q_2, .ref q_7, .ref q_8, .ref q_9, .ref q_10, .ref q_11])), (q_2, .inr (6, [.int 0, .ref q_12, .ref q_13, .ref q_14, .ref q_15, .ref q_16, .int x_4, .ref q_17, .int x_5, .ref q_18, .ref q_19, .ref q_20, .ref q_21, .ref q_22, .ref q_23])), (q_0, .inr (11, [.ref q_1, .ref q_3, .ref q_4, .ref q_5, .ref q_6, .int (-1)]))] := hD
      exact z_iret C0 hr hlk rfl hK hP hD hS (0, fun _ => 0) (Or.inl ⟨rfl, rfl, (Or.inr (⟨c1, c5⟩))⟩) [] rfl rfl rfl dX11_pay_28
    · refine lv_if_eq (tgt := 29) hx hb dX11_pay_20 (by decide) (fun _ => ?_) (fun c8 => absurd (by decide) c8)
      refine lv_aload_n hx hb dX11_pay_29 rfl (lv_at hl 1 rfl) ?_
      refine va_get (D := D) (ci := 11) (v := .ref q_1) (C := RX11) (T := TX11) (N := 6) hx hb hts inX11 hown hK hP 0 rfl rfl 0 (by decide) (hts _ kF_X11_12) (fun _ h9 => h9) rfl dX11_pay_30 ?_
      refine va_get (D := D) (ci := 3) (v := .ref q_2) (C := RX3) (T := TX3) (N := 6) hx hb hts inX3 hown hK hP 1 rfl rfl 0 (by decide) (hts _ kF_X11_43) (fun _ h9 => h9) rfl dX11_pay_33 ?_
      refine lv_iload_n hx hb dX11_pay_36 rfl (lv_at hl 2 rfl) ?_
      refine z_bi (wr := [(q_0, .inr (11, [.ref q_1, .ref q_3, .ref q_4, .ref q_5, .ref q_6, .int x_3])), (q_1, .inr (3, [.ref q_2, .ref q_7, .ref q_8, .ref q_9, .ref q_10, .ref q_11]))]) (z_runV (C := RX6) (As := [.int x_0]) (rest := []) C0 (c_X6_isNoChild_1 l D k q_2 q_12 q_13 q_14 q_15 q_16 q_17 q_18 q_19 q_20 q_21 q_22 q_23 x_0 x_4 x_5 _) okV_X6_isNoChild kM_X11_90 rfl (z_pV (q0 := 2) hK hN hP hD [2] rfl rfl rfl rfl rfl) rfl hl.1 rfl (Nat.le_of_ble_eq_true rfl) dX11_pay_37 rfl) hP hD hS hA [2] [0, 1] rfl rfl rfl rfl (fun r9 u9 H locs hw9 hP hD hS => ?_)
      obtain ⟨i9, a9⟩ := u9
      dsimp only at hw9
      obtain ⟨rfl, rfl⟩ := hw9
      have hP : va_P D vwCl [(q_0, .inr (11, [.ref q_1, .ref q_3, .ref q_4, .ref q_5, .ref q_6, .int x_3])), (q_1, .inr (3, [.ref q_2, .ref q_7, .ref q_8, .ref q_9, .ref q_10, .ref q_11])), (q_2, .inr (6, [.int 0, .ref q_12, .ref q_13, .ref q_14, .ref q_15, .ref q_16, .int x_4, .ref q_17, .int x_5, .ref q_18, .ref q_19, .ref q_20, .ref q_21, .ref q_22, .ref q_23]))] H := hP
      have hD : va_D A [(q_0, .inr (11, [.ref q_1, .ref q_3, .ref q_4, .ref q_5, .ref q_6, .int x_3])), (q_1, .inr (3, [.ref q_2, .ref q_7, .ref q_8, .ref q_9, .ref q_10, .ref q_11])), (q_2, .inr (6, [.int 0, .ref q_12, .ref q_13, .ref q_14, .ref q_15, .ref q_16, .int x_4, .ref q_17, .int x_5, .ref q_18, .ref q_19, .ref q_20, .ref q_21, .ref q_22, .ref q_23]))] := hD
      refine lv_if_eq (tgt := 50) hx hb dX11_pay_40 (by decide) (fun c10 => absurd c10 (by decide)) (fun _ => ?_)
      refine lv_aload_n hx hb dX11_pay_43 rfl (lv_at hl 1 rfl) ?_
      refine lv_bipush (v := (-2)) hx hb dX11_pay_44 (by decide) ?_
      refine z_bi (wr := [(q_1, .inr (3, [.ref q_2, .ref q_7, .ref q_8, .ref q_9, .ref q_10, .ref q_11])), (q_2, .inr (6, [.int 0, .ref q_12, .ref q_13, .ref q_14, .ref q_15, .ref q_16, .int x_4, .ref q_17, .int x_5, .ref q_18, .ref q_19, .ref q_20, .ref q_21, .ref q_22, .ref q_23]))]) (z_runV (C := RX11) (As := [.int (-2)]) (rest := []) C0 (c_X11_answer_3 l D k q_0 q_1 q_3 q_4 q_5 q_6 x_3 _) okV_X11_answer kM_X11_55 rfl (z_pV (q0 := 0) hK hN hP hD [0] rfl rfl rfl rfl rfl) rfl hl.1 rfl (Nat.le_of_ble_eq_true rfl) dX11_pay_46 rfl) hP hD hS hA [0] [1, 2] rfl rfl rfl rfl (fun r11 u11 H locs hw11 hP hD hS => ?_)
      obtain ⟨i11, a11⟩ := u11
      dsimp only at hw11
      obtain ⟨rfl, rfl⟩ := hw11
      have hP : va_P D vwCl [(q_1, .inr (3, [.ref q_2, .ref q_7, .ref q_8, .ref q_9, .ref q_10, .ref q_11])), (q_2, .inr (6, [.int 0, .ref q_12, .ref q_13, .ref q_14, .ref q_15, .ref q_16, .int x_4, .ref q_17, .int x_5, .ref q_18, .ref q_19, .ref q_20, .ref q_21, .ref q_22, .ref q_23])), (q_0, .inr (11, [.ref q_1, .ref q_3, .ref q_4, .ref q_5, .ref q_6, .int (-2)]))] H := hP
      have hD : va_D A [(q_1, .inr (3, [.ref q_2, .ref q_7, .ref q_8, .ref q_9, .ref q_10, .ref q_11])), (q_2, .inr (6, [.int 0, .ref q_12, .ref q_13, .ref q_14, .ref q_15, .ref q_16, .int x_4, .ref q_17, .int x_5, .ref q_18, .ref q_19, .ref q_20, .ref q_21, .ref q_22, .ref q_23])), (q_0, .inr (11, [.ref q_1, .ref q_3, .ref q_4, .ref q_5, .ref q_6, .int (-2)]))] := hD
      exact z_iret C0 hr hlk rfl hK hP hD hS (1, fun _ => 0) (Or.inr (⟨rfl, rfl, ⟨c1, c5⟩⟩)) [] rfl rfl rfl dX11_pay_49

set_option maxHeartbeats 4000000 in
set_option maxRecDepth 100000 in
theorem c_X12_pay_1 (l : Launch) (D : va_G) (k : Nat → ClassId) (q_0 : Nat) (q_1 : Nat) (q_2 : Nat) (q_3 : Nat) (q_4 : Nat) (q_5 : Nat) (q_6 : Nat) (q_7 : Nat) (q_8 : Nat) (q_9 : Nat) (q_10 : Nat) (q_11 : Nat) (q_12 : Nat) (q_13 : Nat) (q_14 : Nat) (q_15 : Nat) (q_16 : Nat) (q_17 : Nat) (q_18 : Nat) (q_19 : Nat) (q_20 : Nat) (q_21 : Nat) (q_22 : Nat) (q_23 : Nat) (q_24 : Nat) (q_25 : Nat) (x_0 : Int32) (x_1 : Int32) (x_2 : Int32) (x_3 : Int32) (x_4 : Int32) (x_5 : Int32) (x_6 : Int32) (x_7 : Int32) (x_8 : Int32) (x_9 : Int32) (g_10 : Int64) (x_11 : Int32) (x_12 : Int32) (x_13 : Int32) (x_14 : Int32) (x_15 : Int32) (x_16 : Int32) (x_17 : Int32) (x_18 : Int32) (g_19 : Int64) (g_20 : Int64) (x_21 : Int32) (x_22 : Int32) (x_23 : Int32) (x_24 : Int32) (x_25 : Int32) (x_26 : Int32) (x_27 : Int32) (x_28 : Int32) (x_29 : Int32) (x_30 : Int32) (x_31 : Int32) (x_32 : Int32) (x_33 : Int32) : zMi l yX12_pay cX12_pay 7 (some .int) ({ frames := 2, cells := 0, slots := 0, locals := 46 }) D k [.ref q_0, .int x_0, .int x_1, .int x_2] [(q_0, .inr (12, [.int x_3, .int x_4, .ref q_1, .ref q_2, .ref q_3, .int x_5, .ref q_4, .ref q_5, .ref q_6, .ref q_7, .ref q_8, .int x_6, .int x_7, .int x_8, .int x_9, .long g_10, .int x_11, .int x_12, .int x_13, .ref q_9, .int x_14, .ref q_10, .ref q_11, .int x_15, .ref q_12, .ref q_13, .int x_16, .int x_17, .ref q_14, .ref q_15, .ref q_16, .ref q_17, .int x_18, .long g_19, .long g_20, .int x_21, .int x_22, .int x_23, .int x_24, .ref q_18, .ref q_19, .int x_25, .int x_26, .int x_27, .int x_28, .ref q_20, .ref q_21, .int x_29, .int x_30, .ref q_22, .ref q_23, .ref q_24, .ref q_25, .int x_31, .int x_32, .int x_33])), (q_1, .inl (k 0, 27101, .inl (fun _ => 0)))] (fun r u => (u.1 = 0 ∧ r = (-1) ∧ (((((Int32.toInt64 x_1) < 0) ∨ (¬ (Int32.toInt64 x_1) < 0 ∧ (3 : Int64) < (Int32.toInt64 x_1)))) ∨ (((¬ (Int32.toInt64 x_1) < 0 ∧ ¬ (3 : Int64) < (Int32.toInt64 x_1))) ∧ (((Int32.toInt64 x_2) < 0) ∨ (¬ (Int32.toInt64 x_2) < 0 ∧ (399 : Int64) < (Int32.toInt64 x_2)))))) ∨ (u.1 = 1 ∧ r = (-2) ∧ ((((¬ (Int32.toInt64 x_1) < 0 ∧ ¬ (3 : Int64) < (Int32.toInt64 x_1))) ∧ ((¬ (Int32.toInt64 x_2) < 0 ∧ ¬ (399 : Int64) < (Int32.toInt64 x_2))))))) (fun u => []) := by
  refine zMi_of (own := RX12) (by decide +kernel) rfl (Nat.le_of_ble_eq_true rfl) ?_
  intro p e s m args below meth c A ls C0 hr hlk hin hP hD hS hA hK hN hl
  have hx := C0.1
  have hb := C0.2.1
  have hml := C0.2.2.1
  have hown := C0.2.2.2.1
  have hts := C0.2.2.2.2
  have hl : lv_has ls 7 [(0, .ref q_0), (1, .int x_0), (2, .int x_1), (3, .int x_2)] := hl
  have hP : va_P D vwCl [(q_0, .inr (12, [.int x_3, .int x_4, .ref q_1, .ref q_2, .ref q_3, .int x_5, .ref q_4, .ref q_5, .ref q_6, .ref q_7, .ref q_8, .int x_6, .int x_7, .int x_8, .int x_9, .long g_10, .int x_11, .int x_12, .int x_13, .ref q_9, .int x_14, .ref q_10, .ref q_11, .int x_15, .ref q_12, .ref q_13, .int x_16, .int x_17, .ref q_14, .ref q_15, .ref q_16, .ref q_17, .int x_18, .long g_19, .long g_20, .int x_21, .int x_22, .int x_23, .int x_24, .ref q_18, .ref q_19, .int x_25, .int x_26, .int x_27, .int x_28, .ref q_20, .ref q_21, .int x_29, .int x_30, .ref q_22, .ref q_23, .ref q_24, .ref q_25, .int x_31, .int x_32, .int x_33])), (q_1, .inl (k 0, 27101, .inl (fun _ => 0)))] s.heap := hP
  refine lv_aload_n hx hb dX12_pay_0 rfl (lv_at hl 0 rfl) ?_
  refine lv_iconst (v := 0) hx hb dX12_pay_1 (by decide) ?_
  refine va_put (D := D) (ci := 12) (v := .int 0) (ty := .int) (C := RX12) (T := TX12) (N := 56) hx hb hts inX12 tyX12 tyX12_ok nmX12 hown hK hP hD hS 0 rfl rfl 0 (by decide) (hts _ kF_X12_92) (fun _ h9 => h9) rfl (by decide +kernel) rfl rfl (Nat.le_of_ble_eq_true rfl) dX12_pay_2 (fun H locs hP hD hS => ?_)
  have hP : va_P D vwCl [(q_0, .inr (12, [.int 0, .int x_4, .ref q_1, .ref q_2, .ref q_3, .int x_5, .ref q_4, .ref q_5, .ref q_6, .ref q_7, .ref q_8, .int x_6, .int x_7, .int x_8, .int x_9, .long g_10, .int x_11, .int x_12, .int x_13, .ref q_9, .int x_14, .ref q_10, .ref q_11, .int x_15, .ref q_12, .ref q_13, .int x_16, .int x_17, .ref q_14, .ref q_15, .ref q_16, .ref q_17, .int x_18, .long g_19, .long g_20, .int x_21, .int x_22, .int x_23, .int x_24, .ref q_18, .ref q_19, .int x_25, .int x_26, .int x_27, .int x_28, .ref q_20, .ref q_21, .int x_29, .int x_30, .ref q_22, .ref q_23, .ref q_24, .ref q_25, .int x_31, .int x_32, .int x_33])), (q_1, .inl (k 0, 27101, .inl (fun _ => 0)))] H := hP
  have hD : va_D A [(q_0, .inr (12, [.int 0, .int x_4, .ref q_1, .ref q_2, .ref q_3, .int x_5, .ref q_4, .ref q_5, .ref q_6, .ref q_7, .ref q_8, .int x_6, .int x_7, .int x_8, .int x_9, .long g_10, .int x_11, .int x_12, .int x_13, .ref q_9, .int x_14, .ref q_10, .ref q_11, .int x_15, .ref q_12, .ref q_13, .int x_16, .int x_17, .ref q_14, .ref q_15, .ref q_16, .ref q_17, .int x_18, .long g_19, .long g_20, .int x_21, .int x_22, .int x_23, .int x_24, .ref q_18, .ref q_19, .int x_25, .int x_26, .int x_27, .int x_28, .ref q_20, .ref q_21, .int x_29, .int x_30, .ref q_22, .ref q_23, .ref q_24, .ref q_25, .int x_31, .int x_32, .int x_33])), (q_1, .inl (k 0, 27101, .inl (fun _ => 0)))] := hD
  refine lv_iload_n hx hb dX12_pay_5 rfl (lv_at hl 2 rfl) ?_
  refine z_bi0 (z_runS (As := [.int x_1]) (rest := []) C0 (c_X12_isStep_1 l D k x_1 _) okS_X12_isStep kM_X12_460 rfl (z_p0 hK hN) rfl hl.1 rfl (Nat.le_of_ble_eq_true rfl) dX12_pay_6 rfl) hP hS hA (fun r1 u1 H locs hw1 hP hS => ?_)
  obtain ⟨i1, a1⟩ := u1
  dsimp only at hw1
  rcases hw1 with ⟨rfl, rfl, c1⟩ | ⟨rfl, rfl, c1⟩
  · refine lv_if_eq (tgt := 19) hx hb dX12_pay_9 (by decide) (fun _ => ?_) (fun c2 => absurd (by decide) c2)
    refine lv_aload_n hx hb dX12_pay_19 rfl (lv_at hl 0 rfl) ?_
    refine lv_iconst (v := (-1)) hx hb dX12_pay_20 (by decide) ?_
    refine z_bi (wr := [(q_1, .inl (k 0, 27101, .inl (fun _ => 0)))]) (z_runV (C := RX12) (As := [.int (-1)]) (rest := []) C0 (c_X12_told_1 l D k q_0 q_1 q_2 q_3 q_4 q_5 q_6 q_7 q_8 q_9 q_10 q_11 q_12 q_13 q_14 q_15 q_16 q_17 q_18 q_19 q_20 q_21 q_22 q_23 q_24 q_25 0 x_4 x_5 x_6 x_7 x_8 x_9 g_10 x_11 x_12 x_13 x_14 x_15 x_16 x_17 x_18 g_19 g_20 x_21 x_22 x_23 x_24 x_25 x_26 x_27 x_28 x_29 x_30 x_31 x_32 x_33 _) okV_X12_told kM_X12_106 rfl (z_pV (q0 := 0) hK hN hP hD [0] rfl rfl rfl rfl rfl) rfl hl.1 rfl (Nat.le_of_ble_eq_true rfl) dX12_pay_21 rfl) hP hD hS hA [0] [1] rfl rfl rfl rfl (fun r3 u3 H locs hw3 hP hD hS => ?_)
    obtain ⟨i3, a3⟩ := u3
    dsimp only at hw3
    obtain ⟨rfl, rfl⟩ := hw3
    have hP : va_P D vwCl [(q_1, .inl (k 0, 27101, .inl (fun _ => 0))), (q_0, .inr (12, [.int 0, .int (-1), .ref q_1, .ref q_2, .ref q_3, .int x_5, .ref q_4, .ref q_5, .ref q_6, .ref q_7, .ref q_8, .int x_6, .int x_7, .int x_8, .int x_9, .long g_10, .int x_11, .int x_12, .int x_13, .ref q_9, .int x_14, .ref q_10, .ref q_11, .int x_15, .ref q_12, .ref q_13, .int x_16, .int x_17, .ref q_14, .ref q_15, .ref q_16, .ref q_17, .int x_18, .long g_19, .long g_20, .int x_21, .int x_22, .int x_23, .int x_24, .ref q_18, .ref q_19, .int x_25, .int x_26, .int x_27, .int x_28, .ref q_20, .ref q_21, .int x_29, .int x_30, .ref q_22, .ref q_23, .ref q_24, .ref q_25, .int x_31, .int x_32, .int x_33]))] H := hP
    have hD : va_D A [(q_1, .inl (k 0, 27101, .inl (fun _ => 0))), (q_0, .inr (12, [.int 0, .int (-1), .ref q_1, .ref q_2, .ref q_3, .int x_5, .ref q_4, .ref q_5, .ref q_6, .ref q_7, .ref q_8, .int x_6, .int x_7, .int x_8, .int x_9, .long g_10, .int x_11, .int x_12, .int x_13, .ref q_9, .int x_14, .ref q_10, .ref q_11, .int x_15, .ref q_12, .ref q_13, .int x_16, .int x_17, .ref q_14, .ref q_15, .ref q_16, .ref q_17, .int x_18, .long g_19, .long g_20, .int x_21, .int x_22, .int x_23, .int x_24, .ref q_18, .ref q_19, .int x_25, .int x_26, .int x_27, .int x_28, .ref q_20, .ref q_21, .int x_29, .int x_30, .ref q_22, .ref q_23, .ref q_24, .ref q_25, .int x_31, .int x_32, .int x_33]))] := hD
    exact z_iret C0 hr hlk rfl hK hP hD hS (0, fun _ => 0) (Or.inl ⟨rfl, rfl, (Or.inl c1)⟩) [] rfl rfl rfl dX12_pay_24
  · refine lv_if_eq (tgt := 19) hx hb dX12_pay_9 (by decide) (fun c4 => absurd c4 (by decide)) (fun _ => ?_)
    refine lv_iload_n hx hb dX12_pay_12 rfl (lv_at hl 3 rfl) ?_
    refine z_bi0 (z_runS (As := [.int x_2]) (rest := []) C0 (c_X12_isDay_1 l D k x_2 _) okS_X12_isDay kM_X12_127 rfl (z_p0 hK hN) rfl hl.1 rfl (Nat.le_of_ble_eq_true rfl) dX12_pay_13 rfl) hP hS hA (fun r5 u5 H locs hw5 hP hS => ?_)
    obtain ⟨i5, a5⟩ := u5
    dsimp only at hw5
    rcases hw5 with ⟨rfl, rfl, c5⟩ | ⟨rfl, rfl, c5⟩
    · refine lv_if_ne (tgt := 25) hx hb dX12_pay_16 (by decide) (fun c6 => absurd (by decide) c6) (fun _ => ?_)
      refine lv_aload_n hx hb dX12_pay_19 rfl (lv_at hl 0 rfl) ?_
      refine lv_iconst (v := (-1)) hx hb dX12_pay_20 (by decide) ?_
      refine z_bi (wr := [(q_1, .inl (k 0, 27101, .inl (fun _ => 0)))]) (z_runV (C := RX12) (As := [.int (-1)]) (rest := []) C0 (c_X12_told_1 l D k q_0 q_1 q_2 q_3 q_4 q_5 q_6 q_7 q_8 q_9 q_10 q_11 q_12 q_13 q_14 q_15 q_16 q_17 q_18 q_19 q_20 q_21 q_22 q_23 q_24 q_25 0 x_4 x_5 x_6 x_7 x_8 x_9 g_10 x_11 x_12 x_13 x_14 x_15 x_16 x_17 x_18 g_19 g_20 x_21 x_22 x_23 x_24 x_25 x_26 x_27 x_28 x_29 x_30 x_31 x_32 x_33 _) okV_X12_told kM_X12_106 rfl (z_pV (q0 := 0) hK hN hP hD [0] rfl rfl rfl rfl rfl) rfl hl.1 rfl (Nat.le_of_ble_eq_true rfl) dX12_pay_21 rfl) hP hD hS hA [0] [1] rfl rfl rfl rfl (fun r7 u7 H locs hw7 hP hD hS => ?_)
      obtain ⟨i7, a7⟩ := u7
      dsimp only at hw7
      obtain ⟨rfl, rfl⟩ := hw7
      have hP : va_P D vwCl [(q_1, .inl (k 0, 27101, .inl (fun _ => 0))), (q_0, .inr (12, [.int 0, .int (-1), .ref q_1, .ref q_2, .ref q_3, .int x_5, .ref q_4, .ref q_5, .ref q_6, .ref q_7, .ref q_8, .int x_6, .int x_7, .int x_8, .int x_9, .long g_10, .int x_11, .int x_12, .int x_13, .ref q_9, .int x_14, .ref q_10, .ref q_11, .int x_15, .ref q_12, .ref q_13, .int x_16, .int x_17, .ref q_14, .ref q_15, .ref q_16, .ref q_17, .int x_18, .long g_19, .long g_20, .int x_21, .int x_22, .int x_23, .int x_24, .ref q_18, .ref q_19, .int x_25, .int x_26, .int x_27, .int x_28, .ref q_20, .ref q_21, .int x_29, .int x_30, .ref q_22, .ref q_23, .ref q_24, .ref q_25, .int x_31, .int x_32, .int x_33]))] H := hP
      have hD : va_D A [(q_1, .inl (k 0, 27101, .inl (fun _ => 0))), (q_0, .inr (12, [.int 0, .int (-1), .ref q_1, .ref q_2, .ref q_3, .int x_5, .ref q_4, .ref q_5, .ref q_6, .ref q_7, .ref q_8, .int x_6, .int x_7, .int x_8, .int x_9, .long g_10, .int x_11, .int x_12, .int x_13, .ref q_9, .int x_14, .ref q_10, .ref q_11, .int x_15, .ref q_12, .ref q_13, .int x_16, .int x_17, .ref q_14, .ref q_15, .ref q_16, .ref q_17, .int x_18, .long g_19, .long g_20, .int x_21, .int x_22, .int x_23, .int x_24, .ref q_18, .ref q_19, .int x_25, .int x_26, .int x_27, .int x_28, .ref q_20, .ref q_21, .int x_29, .int x_30, .ref q_22, .ref q_23, .ref q_24, .ref q_25, .int x_31, .int x_32, .int x_33]))] := hD
      exact z_iret C0 hr hlk rfl hK hP hD hS (0, fun _ => 0) (Or.inl ⟨rfl, rfl, (Or.inr (⟨c1, c5⟩))⟩) [] rfl rfl rfl dX12_pay_24
    · refine lv_if_ne (tgt := 25) hx hb dX12_pay_16 (by decide) (fun _ => ?_) (fun c8 => absurd c8 (by decide))
      refine lv_aload_n hx hb dX12_pay_25 rfl (lv_at hl 0 rfl) ?_
      refine lv_iload_n hx hb dX12_pay_26 rfl (lv_at hl 1 rfl) ?_
      refine z_bi (wr := []) (z_runV (C := RX12) (As := [.int x_0]) (rest := []) C0 (c_X12_isChild_1 l D k q_0 q_1 q_2 q_3 q_4 q_5 q_6 q_7 q_8 q_9 q_10 q_11 q_12 q_13 q_14 q_15 q_16 q_17 q_18 q_19 q_20 q_21 q_22 q_23 q_24 q_25 x_0 0 x_4 x_5 x_6 x_7 x_8 x_9 g_10 x_11 x_12 x_13 x_14 x_15 x_16 x_17 x_18 g_19 g_20 x_21 x_22 x_23 x_24 x_25 x_26 x_27 x_28 x_29 x_30 x_31 x_32 x_33 _) okV_X12_isChild kM_X12_138 rfl (z_pV (q0 := 0) hK hN hP hD [0, 1] rfl rfl rfl rfl rfl) rfl hl.1 rfl (Nat.le_of_ble_eq_true rfl) dX12_pay_27 rfl) hP hD hS hA [0, 1] [] rfl rfl rfl rfl (fun r9 u9 H locs hw9 hP hD hS => ?_)
      obtain ⟨i9, a9⟩ := u9
      dsimp only at hw9
      obtain ⟨rfl, rfl⟩ := hw9
      have hP : va_P D vwCl [(q_0, .inr (12, [.int 0, .int x_4, .ref q_1, .ref q_2, .ref q_3, .int x_5, .ref q_4, .ref q_5, .ref q_6, .ref q_7, .ref q_8, .int x_6, .int x_7, .int x_8, .int x_9, .long g_10, .int x_11, .int x_12, .int x_13, .ref q_9, .int x_14, .ref q_10, .ref q_11, .int x_15, .ref q_12, .ref q_13, .int x_16, .int x_17, .ref q_14, .ref q_15, .ref q_16, .ref q_17, .int x_18, .long g_19, .long g_20, .int x_21, .int x_22, .int x_23, .int x_24, .ref q_18, .ref q_19, .int x_25, .int x_26, .int x_27, .int x_28, .ref q_20, .ref q_21, .int x_29, .int x_30, .ref q_22, .ref q_23, .ref q_24, .ref q_25, .int x_31, .int x_32, .int x_33])), (q_1, .inl (k 0, 27101, .inl (fun _ => 0)))] H := hP
      have hD : va_D A [(q_0, .inr (12, [.int 0, .int x_4, .ref q_1, .ref q_2, .ref q_3, .int x_5, .ref q_4, .ref q_5, .ref q_6, .ref q_7, .ref q_8, .int x_6, .int x_7, .int x_8, .int x_9, .long g_10, .int x_11, .int x_12, .int x_13, .ref q_9, .int x_14, .ref q_10, .ref q_11, .int x_15, .ref q_12, .ref q_13, .int x_16, .int x_17, .ref q_14, .ref q_15, .ref q_16, .ref q_17, .int x_18, .long g_19, .long g_20, .int x_21, .int x_22, .int x_23, .int x_24, .ref q_18, .ref q_19, .int x_25, .int x_26, .int x_27, .int x_28, .ref q_20, .ref q_21, .int x_29, .int x_30, .ref q_22, .ref q_23, .ref q_24, .ref q_25, .int x_31, .int x_32, .int x_33])), (q_1, .inl (k 0, 27101, .inl (fun _ => 0)))] := hD
      refine lv_if_ne (tgt := 40) hx hb dX12_pay_30 (by decide) (fun c10 => absurd (by decide) c10) (fun _ => ?_)
      refine lv_aload_n hx hb dX12_pay_33 rfl (lv_at hl 0 rfl) ?_
      refine lv_bipush (v := (-2)) hx hb dX12_pay_34 (by decide) ?_
      refine z_bi (wr := [(q_1, .inl (k 0, 27101, .inl (fun _ => 0)))]) (z_runV (C := RX12) (As := [.int (-2)]) (rest := []) C0 (c_X12_told_3 l D k q_0 q_1 q_2 q_3 q_4 q_5 q_6 q_7 q_8 q_9 q_10 q_11 q_12 q_13 q_14 q_15 q_16 q_17 q_18 q_19 q_20 q_21 q_22 q_23 q_24 q_25 0 x_4 x_5 x_6 x_7 x_8 x_9 g_10 x_11 x_12 x_13 x_14 x_15 x_16 x_17 x_18 g_19 g_20 x_21 x_22 x_23 x_24 x_25 x_26 x_27 x_28 x_29 x_30 x_31 x_32 x_33 _) okV_X12_told kM_X12_106 rfl (z_pV (q0 := 0) hK hN hP hD [0] rfl rfl rfl rfl rfl) rfl hl.1 rfl (Nat.le_of_ble_eq_true rfl) dX12_pay_36 rfl) hP hD hS hA [0] [1] rfl rfl rfl rfl (fun r11 u11 H locs hw11 hP hD hS => ?_)
      obtain ⟨i11, a11⟩ := u11
      dsimp only at hw11
      obtain ⟨rfl, rfl⟩ := hw11
      have hP : va_P D vwCl [(q_1, .inl (k 0, 27101, .inl (fun _ => 0))), (q_0, .inr (12, [.int 0, .int (-2), .ref q_1, .ref q_2, .ref q_3, .int x_5, .ref q_4, .ref q_5, .ref q_6, .ref q_7, .ref q_8, .int x_6, .int x_7, .int x_8, .int x_9, .long g_10, .int x_11, .int x_12, .int x_13, .ref q_9, .int x_14, .ref q_10, .ref q_11, .int x_15, .ref q_12, .ref q_13, .int x_16, .int x_17, .ref q_14, .ref q_15, .ref q_16, .ref q_17, .int x_18, .long g_19, .long g_20, .int x_21, .int x_22, .int x_23, .int x_24, .ref q_18, .ref q_19, .int x_25, .int x_26, .int x_27, .int x_28, .ref q_20, .ref q_21, .int x_29, .int x_30, .ref q_22, .ref q_23, .ref q_24, .ref q_25, .int x_31, .int x_32, .int x_33]))] H := hP
      have hD : va_D A [(q_1, .inl (k 0, 27101, .inl (fun _ => 0))), (q_0, .inr (12, [.int 0, .int (-2), .ref q_1, .ref q_2, .ref q_3, .int x_5, .ref q_4, .ref q_5, .ref q_6, .ref q_7, .ref q_8, .int x_6, .int x_7, .int x_8, .int x_9, .long g_10, .int x_11, .int x_12, .int x_13, .ref q_9, .int x_14, .ref q_10, .ref q_11, .int x_15, .ref q_12, .ref q_13, .int x_16, .int x_17, .ref q_14, .ref q_15, .ref q_16, .ref q_17, .int x_18, .long g_19, .long g_20, .int x_21, .int x_22, .int x_23, .int x_24, .ref q_18, .ref q_19, .int x_25, .int x_26, .int x_27, .int x_28, .ref q_20, .ref q_21, .int x_29, .int x_30, .ref q_22, .ref q_23, .ref q_24, .ref q_25, .int x_31, .int x_32, .int x_33]))] := hD
      exact z_iret C0 hr hlk rfl hK hP hD hS (1, fun _ => 0) (Or.inr (⟨rfl, rfl, ⟨c1, c5⟩⟩)) [] rfl rfl rfl dX12_pay_39

set_option maxHeartbeats 4000000 in
set_option maxRecDepth 100000 in
theorem c_X11_fine_1 (l : Launch) (D : va_G) (k : Nat → ClassId) (q_0 : Nat) (q_1 : Nat) (q_2 : Nat) (q_3 : Nat) (q_4 : Nat) (q_5 : Nat) (q_6 : Nat) (q_7 : Nat) (q_8 : Nat) (q_9 : Nat) (q_10 : Nat) (q_11 : Nat) (q_12 : Nat) (q_13 : Nat) (q_14 : Nat) (q_15 : Nat) (q_16 : Nat) (q_17 : Nat) (q_18 : Nat) (q_19 : Nat) (q_20 : Nat) (q_21 : Nat) (q_22 : Nat) (q_23 : Nat) (x_0 : Int32) (x_1 : Int32) (x_2 : Int32) (x_3 : Int32) (x_4 : Int32) (x_5 : Int32) (x_6 : Int32) : zMi l yX11_fine cX11_fine 10 (some .int) ({ frames := 1, cells := 0, slots := 0, locals := 22 }) D k [.ref q_0, .int x_0, .int x_1, .int x_2, .int x_3] [(q_0, .inr (11, [.ref q_1, .ref q_3, .ref q_4, .ref q_5, .ref q_6, .int x_4])), (q_1, .inr (3, [.ref q_2, .ref q_7, .ref q_8, .ref q_9, .ref q_10, .ref q_11])), (q_2, .inr (6, [.int 0, .ref q_12, .ref q_13, .ref q_14, .ref q_15, .ref q_16, .int x_5, .ref q_17, .int x_6, .ref q_18, .ref q_19, .ref q_20, .ref q_21, .ref q_22, .ref q_23]))] (fun r u => u.1 = 0 ∧ r = (-1)) (fun u => []) := by
  refine zMi_of (own := RX11) (by decide +kernel) rfl (Nat.le_of_ble_eq_true rfl) ?_
  intro p e s m args below meth c A ls C0 hr hlk hin hP hD hS hA hK hN hl
  have hx := C0.1
  have hb := C0.2.1
  have hml := C0.2.2.1
  have hown := C0.2.2.2.1
  have hts := C0.2.2.2.2
  have hl : lv_has ls 10 [(0, .ref q_0), (1, .int x_0), (2, .int x_1), (3, .int x_2), (4, .int x_3)] := hl
  have hP : va_P D vwCl [(q_0, .inr (11, [.ref q_1, .ref q_3, .ref q_4, .ref q_5, .ref q_6, .int x_4])), (q_1, .inr (3, [.ref q_2, .ref q_7, .ref q_8, .ref q_9, .ref q_10, .ref q_11])), (q_2, .inr (6, [.int 0, .ref q_12, .ref q_13, .ref q_14, .ref q_15, .ref q_16, .int x_5, .ref q_17, .int x_6, .ref q_18, .ref q_19, .ref q_20, .ref q_21, .ref q_22, .ref q_23]))] s.heap := hP
  refine lv_iload_n hx hb dX11_fine_0 rfl (lv_at hl 2 rfl) ?_
  refine z_bi0 (z_runS (As := [.int x_1]) (rest := []) C0 (c_X11_isNoStep_1 l D k x_1 _) okS_X11_isNoStep kM_X11_220 rfl (z_p0 hK hN) rfl hl.1 rfl (Nat.le_of_ble_eq_true rfl) dX11_fine_1 rfl) hP hS hA (fun r1 u1 H locs hw1 hP hS => ?_)
  obtain ⟨i1, a1⟩ := u1
  dsimp only at hw1
  rcases hw1 with ⟨rfl, rfl, c1⟩ | ⟨rfl, rfl, c1⟩
  · refine lv_if_ne (tgt := 38) hx hb dX11_fine_4 (by decide) (fun _ => ?_) (fun c2 => absurd c2 (by decide))
    refine lv_iconst (v := (-1)) hx hb dX11_fine_38 (by decide) ?_
    exact z_iret C0 hr hlk rfl hK hP hD hS (0, fun _ => 0) ⟨rfl, rfl⟩ [] rfl rfl rfl dX11_fine_39
  · refine lv_if_ne (tgt := 38) hx hb dX11_fine_4 (by decide) (fun c3 => absurd (by decide) c3) (fun _ => ?_)
    refine lv_iload_n hx hb dX11_fine_7 rfl (lv_at hl 3 rfl) ?_
    refine z_bi0 (z_runS (As := [.int x_2]) (rest := []) C0 (c_X11_isNoDay_1 l D k x_2 _) okS_X11_isNoDay kM_X11_72 rfl (z_p0 hK hN) rfl hl.1 rfl (Nat.le_of_ble_eq_true rfl) dX11_fine_8 rfl) hP hS hA (fun r4 u4 H locs hw4 hP hS => ?_)
    obtain ⟨i4, a4⟩ := u4
    dsimp only at hw4
    rcases hw4 with ⟨rfl, rfl, c4⟩ | ⟨rfl, rfl, c4⟩
    · refine lv_if_ne (tgt := 38) hx hb dX11_fine_11 (by decide) (fun _ => ?_) (fun c5 => absurd c5 (by decide))
      refine lv_iconst (v := (-1)) hx hb dX11_fine_38 (by decide) ?_
      exact z_iret C0 hr hlk rfl hK hP hD hS (0, fun _ => 0) ⟨rfl, rfl⟩ [] rfl rfl rfl dX11_fine_39
    · refine lv_if_ne (tgt := 38) hx hb dX11_fine_11 (by decide) (fun c6 => absurd (by decide) c6) (fun _ => ?_)
      refine lv_iload hx hb dX11_fine_14 (lv_at hl 4 rfl) ?_
      refine lv_iconst (v := 0) hx hb dX11_fine_16 (by decide) ?_
      refine lv_iconst (v := 2) hx hb dX11_fine_17 (by decide) ?_
      refine z_bi0 (z_runS (As := [.int x_3, .int 0, .int 2]) (rest := []) C0 (c_X11_isOutside_1 l D k x_3 0 2 _) okS_X11_isOutside kM_X11_47 rfl (z_p0 hK hN) rfl hl.1 rfl (Nat.le_of_ble_eq_true rfl) dX11_fine_18 rfl) hP hS hA (fun r7 u7 H locs hw7 hP hS => ?_)
      obtain ⟨i7, a7⟩ := u7
      dsimp only at hw7
      rcases hw7 with ⟨rfl, rfl, c7⟩ | ⟨rfl, rfl, c7⟩
      · refine lv_if_ne (tgt := 38) hx hb dX11_fine_21 (by decide) (fun _ => ?_) (fun c8 => absurd c8 (by decide))
        refine lv_iconst (v := (-1)) hx hb dX11_fine_38 (by decide) ?_
        exact z_iret C0 hr hlk rfl hK hP hD hS (0, fun _ => 0) ⟨rfl, rfl⟩ [] rfl rfl rfl dX11_fine_39
      · refine lv_if_ne (tgt := 38) hx hb dX11_fine_21 (by decide) (fun c9 => absurd (by decide) c9) (fun _ => ?_)
        refine lv_aload_n hx hb dX11_fine_24 rfl (lv_at hl 0 rfl) ?_
        refine va_get (D := D) (ci := 11) (v := .ref q_1) (C := RX11) (T := TX11) (N := 6) hx hb hts inX11 hown hK hP 0 rfl rfl 0 (by decide) (hts _ kF_X11_12) (fun _ h9 => h9) rfl dX11_fine_25 ?_
        refine va_get (D := D) (ci := 3) (v := .ref q_2) (C := RX3) (T := TX3) (N := 6) hx hb hts inX3 hown hK hP 1 rfl rfl 0 (by decide) (hts _ kF_X11_43) (fun _ h9 => h9) rfl dX11_fine_28 ?_
        refine lv_iload_n hx hb dX11_fine_31 rfl (lv_at hl 1 rfl) ?_
        refine z_bi (wr := [(q_0, .inr (11, [.ref q_1, .ref q_3, .ref q_4, .ref q_5, .ref q_6, .int x_4])), (q_1, .inr (3, [.ref q_2, .ref q_7, .ref q_8, .ref q_9, .ref q_10, .ref q_11]))]) (z_runV (C := RX6) (As := [.int x_0]) (rest := []) C0 (c_X6_isNoChild_1 l D k q_2 q_12 q_13 q_14 q_15 q_16 q_17 q_18 q_19 q_20 q_21 q_22 q_23 x_0 x_5 x_6 _) okV_X6_isNoChild kM_X11_90 rfl (z_pV (q0 := 2) hK hN hP hD [2] rfl rfl rfl rfl rfl) rfl hl.1 rfl (Nat.le_of_ble_eq_true rfl) dX11_fine_32 rfl) hP hD hS hA [2] [0, 1] rfl rfl rfl rfl (fun r10 u10 H locs hw10 hP hD hS => ?_)
        obtain ⟨i10, a10⟩ := u10
        dsimp only at hw10
        obtain ⟨rfl, rfl⟩ := hw10
        have hP : va_P D vwCl [(q_0, .inr (11, [.ref q_1, .ref q_3, .ref q_4, .ref q_5, .ref q_6, .int x_4])), (q_1, .inr (3, [.ref q_2, .ref q_7, .ref q_8, .ref q_9, .ref q_10, .ref q_11])), (q_2, .inr (6, [.int 0, .ref q_12, .ref q_13, .ref q_14, .ref q_15, .ref q_16, .int x_5, .ref q_17, .int x_6, .ref q_18, .ref q_19, .ref q_20, .ref q_21, .ref q_22, .ref q_23]))] H := hP
        have hD : va_D A [(q_0, .inr (11, [.ref q_1, .ref q_3, .ref q_4, .ref q_5, .ref q_6, .int x_4])), (q_1, .inr (3, [.ref q_2, .ref q_7, .ref q_8, .ref q_9, .ref q_10, .ref q_11])), (q_2, .inr (6, [.int 0, .ref q_12, .ref q_13, .ref q_14, .ref q_15, .ref q_16, .int x_5, .ref q_17, .int x_6, .ref q_18, .ref q_19, .ref q_20, .ref q_21, .ref q_22, .ref q_23]))] := hD
        refine lv_if_eq (tgt := 40) hx hb dX11_fine_35 (by decide) (fun c11 => absurd c11 (by decide)) (fun _ => ?_)
        refine lv_iconst (v := (-1)) hx hb dX11_fine_38 (by decide) ?_
        exact z_iret C0 hr hlk rfl hK hP hD hS (0, fun _ => 0) ⟨rfl, rfl⟩ [] rfl rfl rfl dX11_fine_39

set_option maxHeartbeats 4000000 in
set_option maxRecDepth 100000 in
theorem c_X12_fine_1 (l : Launch) (D : va_G) (k : Nat → ClassId) (q_0 : Nat) (q_1 : Nat) (q_2 : Nat) (q_3 : Nat) (q_4 : Nat) (q_5 : Nat) (q_6 : Nat) (q_7 : Nat) (q_8 : Nat) (q_9 : Nat) (q_10 : Nat) (q_11 : Nat) (q_12 : Nat) (q_13 : Nat) (q_14 : Nat) (q_15 : Nat) (q_16 : Nat) (q_17 : Nat) (q_18 : Nat) (q_19 : Nat) (q_20 : Nat) (q_21 : Nat) (q_22 : Nat) (q_23 : Nat) (q_24 : Nat) (q_25 : Nat) (x_0 : Int32) (x_1 : Int32) (x_2 : Int32) (x_3 : Int32) (x_4 : Int32) (x_5 : Int32) (x_6 : Int32) (x_7 : Int32) (x_8 : Int32) (x_9 : Int32) (x_10 : Int32) (g_11 : Int64) (x_12 : Int32) (x_13 : Int32) (x_14 : Int32) (x_15 : Int32) (x_16 : Int32) (x_17 : Int32) (x_18 : Int32) (x_19 : Int32) (g_20 : Int64) (g_21 : Int64) (x_22 : Int32) (x_23 : Int32) (x_24 : Int32) (x_25 : Int32) (x_26 : Int32) (x_27 : Int32) (x_28 : Int32) (x_29 : Int32) (x_30 : Int32) (x_31 : Int32) (x_32 : Int32) (x_33 : Int32) (x_34 : Int32) : zMi l yX12_fine cX12_fine 8 (some .int) ({ frames := 2, cells := 0, slots := 0, locals := 46 }) D k [.ref q_0, .int x_0, .int x_1, .int x_2, .int x_3] [(q_0, .inr (12, [.int x_4, .int x_5, .ref q_1, .ref q_2, .ref q_3, .int x_6, .ref q_4, .ref q_5, .ref q_6, .ref q_7, .ref q_8, .int x_7, .int x_8, .int x_9, .int x_10, .long g_11, .int x_12, .int x_13, .int x_14, .ref q_9, .int x_15, .ref q_10, .ref q_11, .int x_16, .ref q_12, .ref q_13, .int x_17, .int x_18, .ref q_14, .ref q_15, .ref q_16, .ref q_17, .int x_19, .long g_20, .long g_21, .int x_22, .int x_23, .int x_24, .int x_25, .ref q_18, .ref q_19, .int x_26, .int x_27, .int x_28, .int x_29, .ref q_20, .ref q_21, .int x_30, .int x_31, .ref q_22, .ref q_23, .ref q_24, .ref q_25, .int x_32, .int x_33, .int x_34])), (q_1, .inl (k 0, 27101, .inl (fun _ => 0)))] (fun r u => u.1 = 0 ∧ r = (-1)) (fun u => []) := by
  refine zMi_of (own := RX12) (by decide +kernel) rfl (Nat.le_of_ble_eq_true rfl) ?_
  intro p e s m args below meth c A ls C0 hr hlk hin hP hD hS hA hK hN hl
  have hx := C0.1
  have hb := C0.2.1
  have hml := C0.2.2.1
  have hown := C0.2.2.2.1
  have hts := C0.2.2.2.2
  have hl : lv_has ls 8 [(0, .ref q_0), (1, .int x_0), (2, .int x_1), (3, .int x_2), (4, .int x_3)] := hl
  have hP : va_P D vwCl [(q_0, .inr (12, [.int x_4, .int x_5, .ref q_1, .ref q_2, .ref q_3, .int x_6, .ref q_4, .ref q_5, .ref q_6, .ref q_7, .ref q_8, .int x_7, .int x_8, .int x_9, .int x_10, .long g_11, .int x_12, .int x_13, .int x_14, .ref q_9, .int x_15, .ref q_10, .ref q_11, .int x_16, .ref q_12, .ref q_13, .int x_17, .int x_18, .ref q_14, .ref q_15, .ref q_16, .ref q_17, .int x_19, .long g_20, .long g_21, .int x_22, .int x_23, .int x_24, .int x_25, .ref q_18, .ref q_19, .int x_26, .int x_27, .int x_28, .int x_29, .ref q_20, .ref q_21, .int x_30, .int x_31, .ref q_22, .ref q_23, .ref q_24, .ref q_25, .int x_32, .int x_33, .int x_34])), (q_1, .inl (k 0, 27101, .inl (fun _ => 0)))] s.heap := hP
  refine lv_aload_n hx hb dX12_fine_0 rfl (lv_at hl 0 rfl) ?_
  refine lv_iconst (v := 0) hx hb dX12_fine_1 (by decide) ?_
  refine va_put (D := D) (ci := 12) (v := .int 0) (ty := .int) (C := RX12) (T := TX12) (N := 56) hx hb hts inX12 tyX12 tyX12_ok nmX12 hown hK hP hD hS 0 rfl rfl 0 (by decide) (hts _ kF_X12_92) (fun _ h9 => h9) rfl (by decide +kernel) rfl rfl (Nat.le_of_ble_eq_true rfl) dX12_fine_2 (fun H locs hP hD hS => ?_)
  have hP : va_P D vwCl [(q_0, .inr (12, [.int 0, .int x_5, .ref q_1, .ref q_2, .ref q_3, .int x_6, .ref q_4, .ref q_5, .ref q_6, .ref q_7, .ref q_8, .int x_7, .int x_8, .int x_9, .int x_10, .long g_11, .int x_12, .int x_13, .int x_14, .ref q_9, .int x_15, .ref q_10, .ref q_11, .int x_16, .ref q_12, .ref q_13, .int x_17, .int x_18, .ref q_14, .ref q_15, .ref q_16, .ref q_17, .int x_19, .long g_20, .long g_21, .int x_22, .int x_23, .int x_24, .int x_25, .ref q_18, .ref q_19, .int x_26, .int x_27, .int x_28, .int x_29, .ref q_20, .ref q_21, .int x_30, .int x_31, .ref q_22, .ref q_23, .ref q_24, .ref q_25, .int x_32, .int x_33, .int x_34])), (q_1, .inl (k 0, 27101, .inl (fun _ => 0)))] H := hP
  have hD : va_D A [(q_0, .inr (12, [.int 0, .int x_5, .ref q_1, .ref q_2, .ref q_3, .int x_6, .ref q_4, .ref q_5, .ref q_6, .ref q_7, .ref q_8, .int x_7, .int x_8, .int x_9, .int x_10, .long g_11, .int x_12, .int x_13, .int x_14, .ref q_9, .int x_15, .ref q_10, .ref q_11, .int x_16, .ref q_12, .ref q_13, .int x_17, .int x_18, .ref q_14, .ref q_15, .ref q_16, .ref q_17, .int x_19, .long g_20, .long g_21, .int x_22, .int x_23, .int x_24, .int x_25, .ref q_18, .ref q_19, .int x_26, .int x_27, .int x_28, .int x_29, .ref q_20, .ref q_21, .int x_30, .int x_31, .ref q_22, .ref q_23, .ref q_24, .ref q_25, .int x_32, .int x_33, .int x_34])), (q_1, .inl (k 0, 27101, .inl (fun _ => 0)))] := hD
  refine lv_aload_n hx hb dX12_fine_5 rfl (lv_at hl 0 rfl) ?_
  refine lv_iload_n hx hb dX12_fine_6 rfl (lv_at hl 1 rfl) ?_
  refine z_bi (wr := []) (z_runV (C := RX12) (As := [.int x_0]) (rest := []) C0 (c_X12_isChild_1 l D k q_0 q_1 q_2 q_3 q_4 q_5 q_6 q_7 q_8 q_9 q_10 q_11 q_12 q_13 q_14 q_15 q_16 q_17 q_18 q_19 q_20 q_21 q_22 q_23 q_24 q_25 x_0 0 x_5 x_6 x_7 x_8 x_9 x_10 g_11 x_12 x_13 x_14 x_15 x_16 x_17 x_18 x_19 g_20 g_21 x_22 x_23 x_24 x_25 x_26 x_27 x_28 x_29 x_30 x_31 x_32 x_33 x_34 _) okV_X12_isChild kM_X12_138 rfl (z_pV (q0 := 0) hK hN hP hD [0, 1] rfl rfl rfl rfl rfl) rfl hl.1 rfl (Nat.le_of_ble_eq_true rfl) dX12_fine_7 rfl) hP hD hS hA [0, 1] [] rfl rfl rfl rfl (fun r1 u1 H locs hw1 hP hD hS => ?_)
  obtain ⟨i1, a1⟩ := u1
  dsimp only at hw1
  obtain ⟨rfl, rfl⟩ := hw1
  have hP : va_P D vwCl [(q_0, .inr (12, [.int 0, .int x_5, .ref q_1, .ref q_2, .ref q_3, .int x_6, .ref q_4, .ref q_5, .ref q_6, .ref q_7, .ref q_8, .int x_7, .int x_8, .int x_9, .int x_10, .long g_11, .int x_12, .int x_13, .int x_14, .ref q_9, .int x_15, .ref q_10, .ref q_11, .int x_16, .ref q_12, .ref q_13, .int x_17, .int x_18, .ref q_14, .ref q_15, .ref q_16, .ref q_17, .int x_19, .long g_20, .long g_21, .int x_22, .int x_23, .int x_24, .int x_25, .ref q_18, .ref q_19, .int x_26, .int x_27, .int x_28, .int x_29, .ref q_20, .ref q_21, .int x_30, .int x_31, .ref q_22, .ref q_23, .ref q_24, .ref q_25, .int x_32, .int x_33, .int x_34])), (q_1, .inl (k 0, 27101, .inl (fun _ => 0)))] H := hP
  have hD : va_D A [(q_0, .inr (12, [.int 0, .int x_5, .ref q_1, .ref q_2, .ref q_3, .int x_6, .ref q_4, .ref q_5, .ref q_6, .ref q_7, .ref q_8, .int x_7, .int x_8, .int x_9, .int x_10, .long g_11, .int x_12, .int x_13, .int x_14, .ref q_9, .int x_15, .ref q_10, .ref q_11, .int x_16, .ref q_12, .ref q_13, .int x_17, .int x_18, .ref q_14, .ref q_15, .ref q_16, .ref q_17, .int x_19, .long g_20, .long g_21, .int x_22, .int x_23, .int x_24, .int x_25, .ref q_18, .ref q_19, .int x_26, .int x_27, .int x_28, .int x_29, .ref q_20, .ref q_21, .int x_30, .int x_31, .ref q_22, .ref q_23, .ref q_24, .ref q_25, .int x_32, .int x_33, .int x_34])), (q_1, .inl (k 0, 27101, .inl (fun _ => 0)))] := hD
  refine lv_if_eq (tgt := 60) hx hb dX12_fine_10 (by decide) (fun _ => ?_) (fun c2 => absurd (by decide) c2)
  refine lv_iconst (v := (-1)) hx hb dX12_fine_60 (by decide) ?_
  exact z_iret C0 hr hlk rfl hK hP hD hS (0, fun _ => 0) ⟨rfl, rfl⟩ [] rfl rfl rfl dX12_fine_61

set_option maxHeartbeats 4000000 in
set_option maxRecDepth 100000 in
theorem c_X11_off_1 (l : Launch) (D : va_G) (k : Nat → ClassId) (q_0 : Nat) (q_1 : Nat) (q_2 : Nat) (q_3 : Nat) (q_4 : Nat) (q_5 : Nat) (q_6 : Nat) (q_7 : Nat) (q_8 : Nat) (q_9 : Nat) (q_10 : Nat) (q_11 : Nat) (q_12 : Nat) (q_13 : Nat) (q_14 : Nat) (q_15 : Nat) (q_16 : Nat) (q_17 : Nat) (q_18 : Nat) (q_19 : Nat) (q_20 : Nat) (q_21 : Nat) (q_22 : Nat) (q_23 : Nat) (x_0 : Int32) (x_1 : Int32) (x_2 : Int32) (x_3 : Int32) (x_4 : Int32) (x_5 : Int32) : zMi l yX11_off cX11_off 4 (some .int) ({ frames := 1, cells := 0, slots := 0, locals := 21 }) D k [.ref q_0, .int x_0, .int x_1, .int x_2] [(q_0, .inr (11, [.ref q_1, .ref q_3, .ref q_4, .ref q_5, .ref q_6, .int x_3])), (q_1, .inr (3, [.ref q_2, .ref q_7, .ref q_8, .ref q_9, .ref q_10, .ref q_11])), (q_2, .inr (6, [.int 0, .ref q_12, .ref q_13, .ref q_14, .ref q_15, .ref q_16, .int x_4, .ref q_17, .int x_5, .ref q_18, .ref q_19, .ref q_20, .ref q_21, .ref q_22, .ref q_23]))] (fun r u => u.1 = 0 ∧ r = (-1)) (fun u => []) := by
  refine zMi_of (own := RX11) (by decide +kernel) rfl (Nat.le_of_ble_eq_true rfl) ?_
  intro p e s m args below meth c A ls C0 hr hlk hin hP hD hS hA hK hN hl
  have hx := C0.1
  have hb := C0.2.1
  have hml := C0.2.2.1
  have hown := C0.2.2.2.1
  have hts := C0.2.2.2.2
  have hl : lv_has ls 4 [(0, .ref q_0), (1, .int x_0), (2, .int x_1), (3, .int x_2)] := hl
  have hP : va_P D vwCl [(q_0, .inr (11, [.ref q_1, .ref q_3, .ref q_4, .ref q_5, .ref q_6, .int x_3])), (q_1, .inr (3, [.ref q_2, .ref q_7, .ref q_8, .ref q_9, .ref q_10, .ref q_11])), (q_2, .inr (6, [.int 0, .ref q_12, .ref q_13, .ref q_14, .ref q_15, .ref q_16, .int x_4, .ref q_17, .int x_5, .ref q_18, .ref q_19, .ref q_20, .ref q_21, .ref q_22, .ref q_23]))] s.heap := hP
  refine lv_iload_n hx hb dX11_off_0 rfl (lv_at hl 2 rfl) ?_
  refine z_bi0 (z_runS (As := [.int x_1]) (rest := []) C0 (c_X11_isNoDay_1 l D k x_1 _) okS_X11_isNoDay kM_X11_72 rfl (z_p0 hK hN) rfl hl.1 rfl (Nat.le_of_ble_eq_true rfl) dX11_off_1 rfl) hP hS hA (fun r1 u1 H locs hw1 hP hS => ?_)
  obtain ⟨i1, a1⟩ := u1
  dsimp only at hw1
  rcases hw1 with ⟨rfl, rfl, c1⟩ | ⟨rfl, rfl, c1⟩
  · refine lv_if_ne (tgt := 28) hx hb dX11_off_4 (by decide) (fun _ => ?_) (fun c2 => absurd c2 (by decide))
    refine lv_iconst (v := (-1)) hx hb dX11_off_28 (by decide) ?_
    exact z_iret C0 hr hlk rfl hK hP hD hS (0, fun _ => 0) ⟨rfl, rfl⟩ [] rfl rfl rfl dX11_off_29
  · refine lv_if_ne (tgt := 28) hx hb dX11_off_4 (by decide) (fun c3 => absurd (by decide) c3) (fun _ => ?_)
    refine lv_iload_n hx hb dX11_off_7 rfl (lv_at hl 3 rfl) ?_
    refine z_bi0 (z_runS (As := [.int x_2]) (rest := []) C0 (c_X11_isNoDay_1 l D k x_2 _) okS_X11_isNoDay kM_X11_72 rfl (z_p0 hK hN) rfl hl.1 rfl (Nat.le_of_ble_eq_true rfl) dX11_off_8 rfl) hP hS hA (fun r4 u4 H locs hw4 hP hS => ?_)
    obtain ⟨i4, a4⟩ := u4
    dsimp only at hw4
    rcases hw4 with ⟨rfl, rfl, c4⟩ | ⟨rfl, rfl, c4⟩
    · refine lv_if_ne (tgt := 28) hx hb dX11_off_11 (by decide) (fun _ => ?_) (fun c5 => absurd c5 (by decide))
      refine lv_iconst (v := (-1)) hx hb dX11_off_28 (by decide) ?_
      exact z_iret C0 hr hlk rfl hK hP hD hS (0, fun _ => 0) ⟨rfl, rfl⟩ [] rfl rfl rfl dX11_off_29
    · refine lv_if_ne (tgt := 28) hx hb dX11_off_11 (by decide) (fun c6 => absurd (by decide) c6) (fun _ => ?_)
      refine lv_aload_n hx hb dX11_off_14 rfl (lv_at hl 0 rfl) ?_
      refine va_get (D := D) (ci := 11) (v := .ref q_1) (C := RX11) (T := TX11) (N := 6) hx hb hts inX11 hown hK hP 0 rfl rfl 0 (by decide) (hts _ kF_X11_12) (fun _ h9 => h9) rfl dX11_off_15 ?_
      refine va_get (D := D) (ci := 3) (v := .ref q_2) (C := RX3) (T := TX3) (N := 6) hx hb hts inX3 hown hK hP 1 rfl rfl 0 (by decide) (hts _ kF_X11_43) (fun _ h9 => h9) rfl dX11_off_18 ?_
      refine lv_iload_n hx hb dX11_off_21 rfl (lv_at hl 1 rfl) ?_
      refine z_bi (wr := [(q_0, .inr (11, [.ref q_1, .ref q_3, .ref q_4, .ref q_5, .ref q_6, .int x_3])), (q_1, .inr (3, [.ref q_2, .ref q_7, .ref q_8, .ref q_9, .ref q_10, .ref q_11]))]) (z_runV (C := RX6) (As := [.int x_0]) (rest := []) C0 (c_X6_isNoChild_1 l D k q_2 q_12 q_13 q_14 q_15 q_16 q_17 q_18 q_19 q_20 q_21 q_22 q_23 x_0 x_4 x_5 _) okV_X6_isNoChild kM_X11_90 rfl (z_pV (q0 := 2) hK hN hP hD [2] rfl rfl rfl rfl rfl) rfl hl.1 rfl (Nat.le_of_ble_eq_true rfl) dX11_off_22 rfl) hP hD hS hA [2] [0, 1] rfl rfl rfl rfl (fun r7 u7 H locs hw7 hP hD hS => ?_)
      obtain ⟨i7, a7⟩ := u7
      dsimp only at hw7
      obtain ⟨rfl, rfl⟩ := hw7
      have hP : va_P D vwCl [(q_0, .inr (11, [.ref q_1, .ref q_3, .ref q_4, .ref q_5, .ref q_6, .int x_3])), (q_1, .inr (3, [.ref q_2, .ref q_7, .ref q_8, .ref q_9, .ref q_10, .ref q_11])), (q_2, .inr (6, [.int 0, .ref q_12, .ref q_13, .ref q_14, .ref q_15, .ref q_16, .int x_4, .ref q_17, .int x_5, .ref q_18, .ref q_19, .ref q_20, .ref q_21, .ref q_22, .ref q_23]))] H := hP
      have hD : va_D A [(q_0, .inr (11, [.ref q_1, .ref q_3, .ref q_4, .ref q_5, .ref q_6, .int x_3])), (q_1, .inr (3, [.ref q_2, .ref q_7, .ref q_8, .ref q_9, .ref q_10, .ref q_11])), (q_2, .inr (6, [.int 0, .ref q_12, .ref q_13, .ref q_14, .ref q_15, .ref q_16, .int x_4, .ref q_17, .int x_5, .ref q_18, .ref q_19, .ref q_20, .ref q_21, .ref q_22, .ref q_23]))] := hD
      refine lv_if_eq (tgt := 30) hx hb dX11_off_25 (by decide) (fun c8 => absurd c8 (by decide)) (fun _ => ?_)
      refine lv_iconst (v := (-1)) hx hb dX11_off_28 (by decide) ?_
      exact z_iret C0 hr hlk rfl hK hP hD hS (0, fun _ => 0) ⟨rfl, rfl⟩ [] rfl rfl rfl dX11_off_29

set_option maxHeartbeats 4000000 in
set_option maxRecDepth 100000 in
theorem c_X12_off_1 (l : Launch) (D : va_G) (k : Nat → ClassId) (q_0 : Nat) (q_1 : Nat) (q_2 : Nat) (q_3 : Nat) (q_4 : Nat) (q_5 : Nat) (q_6 : Nat) (q_7 : Nat) (q_8 : Nat) (q_9 : Nat) (q_10 : Nat) (q_11 : Nat) (q_12 : Nat) (q_13 : Nat) (q_14 : Nat) (q_15 : Nat) (q_16 : Nat) (q_17 : Nat) (q_18 : Nat) (q_19 : Nat) (q_20 : Nat) (q_21 : Nat) (q_22 : Nat) (q_23 : Nat) (q_24 : Nat) (q_25 : Nat) (x_0 : Int32) (x_1 : Int32) (x_2 : Int32) (x_3 : Int32) (x_4 : Int32) (x_5 : Int32) (x_6 : Int32) (x_7 : Int32) (x_8 : Int32) (x_9 : Int32) (g_10 : Int64) (x_11 : Int32) (x_12 : Int32) (x_13 : Int32) (x_14 : Int32) (x_15 : Int32) (x_16 : Int32) (x_17 : Int32) (x_18 : Int32) (g_19 : Int64) (g_20 : Int64) (x_21 : Int32) (x_22 : Int32) (x_23 : Int32) (x_24 : Int32) (x_25 : Int32) (x_26 : Int32) (x_27 : Int32) (x_28 : Int32) (x_29 : Int32) (x_30 : Int32) (x_31 : Int32) (x_32 : Int32) (x_33 : Int32) : zMi l yX12_off cX12_off 4 (some .int) ({ frames := 2, cells := 0, slots := 0, locals := 46 }) D k [.ref q_0, .int x_0, .int x_1, .int x_2] [(q_0, .inr (12, [.int x_3, .int x_4, .ref q_1, .ref q_2, .ref q_3, .int x_5, .ref q_4, .ref q_5, .ref q_6, .ref q_7, .ref q_8, .int x_6, .int x_7, .int x_8, .int x_9, .long g_10, .int x_11, .int x_12, .int x_13, .ref q_9, .int x_14, .ref q_10, .ref q_11, .int x_15, .ref q_12, .ref q_13, .int x_16, .int x_17, .ref q_14, .ref q_15, .ref q_16, .ref q_17, .int x_18, .long g_19, .long g_20, .int x_21, .int x_22, .int x_23, .int x_24, .ref q_18, .ref q_19, .int x_25, .int x_26, .int x_27, .int x_28, .ref q_20, .ref q_21, .int x_29, .int x_30, .ref q_22, .ref q_23, .ref q_24, .ref q_25, .int x_31, .int x_32, .int x_33])), (q_1, .inl (k 0, 27101, .inl (fun _ => 0)))] (fun r u => u.1 = 0 ∧ r = (-1)) (fun u => []) := by
  refine zMi_of (own := RX12) (by decide +kernel) rfl (Nat.le_of_ble_eq_true rfl) ?_
  intro p e s m args below meth c A ls C0 hr hlk hin hP hD hS hA hK hN hl
  have hx := C0.1
  have hb := C0.2.1
  have hml := C0.2.2.1
  have hown := C0.2.2.2.1
  have hts := C0.2.2.2.2
  have hl : lv_has ls 4 [(0, .ref q_0), (1, .int x_0), (2, .int x_1), (3, .int x_2)] := hl
  have hP : va_P D vwCl [(q_0, .inr (12, [.int x_3, .int x_4, .ref q_1, .ref q_2, .ref q_3, .int x_5, .ref q_4, .ref q_5, .ref q_6, .ref q_7, .ref q_8, .int x_6, .int x_7, .int x_8, .int x_9, .long g_10, .int x_11, .int x_12, .int x_13, .ref q_9, .int x_14, .ref q_10, .ref q_11, .int x_15, .ref q_12, .ref q_13, .int x_16, .int x_17, .ref q_14, .ref q_15, .ref q_16, .ref q_17, .int x_18, .long g_19, .long g_20, .int x_21, .int x_22, .int x_23, .int x_24, .ref q_18, .ref q_19, .int x_25, .int x_26, .int x_27, .int x_28, .ref q_20, .ref q_21, .int x_29, .int x_30, .ref q_22, .ref q_23, .ref q_24, .ref q_25, .int x_31, .int x_32, .int x_33])), (q_1, .inl (k 0, 27101, .inl (fun _ => 0)))] s.heap := hP
  refine lv_aload_n hx hb dX12_off_0 rfl (lv_at hl 0 rfl) ?_
  refine lv_iconst (v := 0) hx hb dX12_off_1 (by decide) ?_
  refine va_put (D := D) (ci := 12) (v := .int 0) (ty := .int) (C := RX12) (T := TX12) (N := 56) hx hb hts inX12 tyX12 tyX12_ok nmX12 hown hK hP hD hS 0 rfl rfl 0 (by decide) (hts _ kF_X12_92) (fun _ h9 => h9) rfl (by decide +kernel) rfl rfl (Nat.le_of_ble_eq_true rfl) dX12_off_2 (fun H locs hP hD hS => ?_)
  have hP : va_P D vwCl [(q_0, .inr (12, [.int 0, .int x_4, .ref q_1, .ref q_2, .ref q_3, .int x_5, .ref q_4, .ref q_5, .ref q_6, .ref q_7, .ref q_8, .int x_6, .int x_7, .int x_8, .int x_9, .long g_10, .int x_11, .int x_12, .int x_13, .ref q_9, .int x_14, .ref q_10, .ref q_11, .int x_15, .ref q_12, .ref q_13, .int x_16, .int x_17, .ref q_14, .ref q_15, .ref q_16, .ref q_17, .int x_18, .long g_19, .long g_20, .int x_21, .int x_22, .int x_23, .int x_24, .ref q_18, .ref q_19, .int x_25, .int x_26, .int x_27, .int x_28, .ref q_20, .ref q_21, .int x_29, .int x_30, .ref q_22, .ref q_23, .ref q_24, .ref q_25, .int x_31, .int x_32, .int x_33])), (q_1, .inl (k 0, 27101, .inl (fun _ => 0)))] H := hP
  have hD : va_D A [(q_0, .inr (12, [.int 0, .int x_4, .ref q_1, .ref q_2, .ref q_3, .int x_5, .ref q_4, .ref q_5, .ref q_6, .ref q_7, .ref q_8, .int x_6, .int x_7, .int x_8, .int x_9, .long g_10, .int x_11, .int x_12, .int x_13, .ref q_9, .int x_14, .ref q_10, .ref q_11, .int x_15, .ref q_12, .ref q_13, .int x_16, .int x_17, .ref q_14, .ref q_15, .ref q_16, .ref q_17, .int x_18, .long g_19, .long g_20, .int x_21, .int x_22, .int x_23, .int x_24, .ref q_18, .ref q_19, .int x_25, .int x_26, .int x_27, .int x_28, .ref q_20, .ref q_21, .int x_29, .int x_30, .ref q_22, .ref q_23, .ref q_24, .ref q_25, .int x_31, .int x_32, .int x_33])), (q_1, .inl (k 0, 27101, .inl (fun _ => 0)))] := hD
  refine lv_aload_n hx hb dX12_off_5 rfl (lv_at hl 0 rfl) ?_
  refine lv_iload_n hx hb dX12_off_6 rfl (lv_at hl 1 rfl) ?_
  refine z_bi (wr := []) (z_runV (C := RX12) (As := [.int x_0]) (rest := []) C0 (c_X12_isChild_1 l D k q_0 q_1 q_2 q_3 q_4 q_5 q_6 q_7 q_8 q_9 q_10 q_11 q_12 q_13 q_14 q_15 q_16 q_17 q_18 q_19 q_20 q_21 q_22 q_23 q_24 q_25 x_0 0 x_4 x_5 x_6 x_7 x_8 x_9 g_10 x_11 x_12 x_13 x_14 x_15 x_16 x_17 x_18 g_19 g_20 x_21 x_22 x_23 x_24 x_25 x_26 x_27 x_28 x_29 x_30 x_31 x_32 x_33 _) okV_X12_isChild kM_X12_138 rfl (z_pV (q0 := 0) hK hN hP hD [0, 1] rfl rfl rfl rfl rfl) rfl hl.1 rfl (Nat.le_of_ble_eq_true rfl) dX12_off_7 rfl) hP hD hS hA [0, 1] [] rfl rfl rfl rfl (fun r1 u1 H locs hw1 hP hD hS => ?_)
  obtain ⟨i1, a1⟩ := u1
  dsimp only at hw1
  obtain ⟨rfl, rfl⟩ := hw1
  have hP : va_P D vwCl [(q_0, .inr (12, [.int 0, .int x_4, .ref q_1, .ref q_2, .ref q_3, .int x_5, .ref q_4, .ref q_5, .ref q_6, .ref q_7, .ref q_8, .int x_6, .int x_7, .int x_8, .int x_9, .long g_10, .int x_11, .int x_12, .int x_13, .ref q_9, .int x_14, .ref q_10, .ref q_11, .int x_15, .ref q_12, .ref q_13, .int x_16, .int x_17, .ref q_14, .ref q_15, .ref q_16, .ref q_17, .int x_18, .long g_19, .long g_20, .int x_21, .int x_22, .int x_23, .int x_24, .ref q_18, .ref q_19, .int x_25, .int x_26, .int x_27, .int x_28, .ref q_20, .ref q_21, .int x_29, .int x_30, .ref q_22, .ref q_23, .ref q_24, .ref q_25, .int x_31, .int x_32, .int x_33])), (q_1, .inl (k 0, 27101, .inl (fun _ => 0)))] H := hP
  have hD : va_D A [(q_0, .inr (12, [.int 0, .int x_4, .ref q_1, .ref q_2, .ref q_3, .int x_5, .ref q_4, .ref q_5, .ref q_6, .ref q_7, .ref q_8, .int x_6, .int x_7, .int x_8, .int x_9, .long g_10, .int x_11, .int x_12, .int x_13, .ref q_9, .int x_14, .ref q_10, .ref q_11, .int x_15, .ref q_12, .ref q_13, .int x_16, .int x_17, .ref q_14, .ref q_15, .ref q_16, .ref q_17, .int x_18, .long g_19, .long g_20, .int x_21, .int x_22, .int x_23, .int x_24, .ref q_18, .ref q_19, .int x_25, .int x_26, .int x_27, .int x_28, .ref q_20, .ref q_21, .int x_29, .int x_30, .ref q_22, .ref q_23, .ref q_24, .ref q_25, .int x_31, .int x_32, .int x_33])), (q_1, .inl (k 0, 27101, .inl (fun _ => 0)))] := hD
  refine lv_if_eq (tgt := 27) hx hb dX12_off_10 (by decide) (fun _ => ?_) (fun c2 => absurd (by decide) c2)
  refine lv_iconst (v := (-1)) hx hb dX12_off_27 (by decide) ?_
  exact z_iret C0 hr hlk rfl hK hP hD hS (0, fun _ => 0) ⟨rfl, rfl⟩ [] rfl rfl rfl dX12_off_28

set_option maxHeartbeats 4000000 in
set_option maxRecDepth 100000 in
theorem c_X11_rolls_1 (l : Launch) (D : va_G) (k : Nat → ClassId) (q_0 : Nat) (q_1 : Nat) (q_2 : Nat) (q_3 : Nat) (q_4 : Nat) (q_5 : Nat) (q_6 : Nat) (q_7 : Nat) (q_8 : Nat) (q_9 : Nat) (q_10 : Nat) (q_11 : Nat) (q_12 : Nat) (q_13 : Nat) (q_14 : Nat) (q_15 : Nat) (q_16 : Nat) (q_17 : Nat) (q_18 : Nat) (q_19 : Nat) (q_20 : Nat) (q_21 : Nat) (q_22 : Nat) (q_23 : Nat) (x_0 : Int32) (x_1 : Int32) (x_2 : Int32) (x_3 : Int32) (x_4 : Int32) (x_5 : Int32) : zMi l yX11_rolls cX11_rolls 6 (some .int) ({ frames := 1, cells := 0, slots := 0, locals := 22 }) D k [.ref q_0, .int x_0, .int x_1, .int x_2] [(q_0, .inr (11, [.ref q_1, .ref q_3, .ref q_4, .ref q_5, .ref q_6, .int x_3])), (q_1, .inr (3, [.ref q_2, .ref q_7, .ref q_8, .ref q_9, .ref q_10, .ref q_11])), (q_2, .inr (6, [.int 0, .ref q_12, .ref q_13, .ref q_14, .ref q_15, .ref q_16, .int x_4, .ref q_17, .int x_5, .ref q_18, .ref q_19, .ref q_20, .ref q_21, .ref q_22, .ref q_23]))] (fun r u => (u.1 = 0 ∧ r = (-1) ∧ ((((x_0 < 0) ∨ (¬ x_0 < 0 ∧ ¬ x_0 < 400))) ∨ (((¬ x_0 < 0 ∧ x_0 < 400)) ∧ ((x_1 < 0) ∨ (¬ x_1 < 0 ∧ ¬ x_1 ≤ 2))) ∨ (((¬ x_0 < 0 ∧ x_0 < 400)) ∧ ((¬ x_1 < 0 ∧ x_1 ≤ 2)) ∧ ¬ x_2 = (-1)))) ∨ (u.1 = 1 ∧ r = 0 ∧ ((((¬ x_0 < 0 ∧ x_0 < 400)) ∧ ((¬ x_1 < 0 ∧ x_1 ≤ 2)) ∧ x_2 = (-1))))) (fun u => []) := by
  refine zMi_of (own := RX11) (by decide +kernel) rfl (Nat.le_of_ble_eq_true rfl) ?_
  intro p e s m args below meth c A ls C0 hr hlk hin hP hD hS hA hK hN hl
  have hx := C0.1
  have hb := C0.2.1
  have hml := C0.2.2.1
  have hown := C0.2.2.2.1
  have hts := C0.2.2.2.2
  have hl : lv_has ls 6 [(0, .ref q_0), (1, .int x_0), (2, .int x_1), (3, .int x_2)] := hl
  have hP : va_P D vwCl [(q_0, .inr (11, [.ref q_1, .ref q_3, .ref q_4, .ref q_5, .ref q_6, .int x_3])), (q_1, .inr (3, [.ref q_2, .ref q_7, .ref q_8, .ref q_9, .ref q_10, .ref q_11])), (q_2, .inr (6, [.int 0, .ref q_12, .ref q_13, .ref q_14, .ref q_15, .ref q_16, .int x_4, .ref q_17, .int x_5, .ref q_18, .ref q_19, .ref q_20, .ref q_21, .ref q_22, .ref q_23]))] s.heap := hP
  refine lv_iload_n hx hb dX11_rolls_0 rfl (lv_at hl 1 rfl) ?_
  refine z_bi0 (z_runS (As := [.int x_0]) (rest := []) C0 (c_X11_isNoDay_1 l D k x_0 _) okS_X11_isNoDay kM_X11_72 rfl (z_p0 hK hN) rfl hl.1 rfl (Nat.le_of_ble_eq_true rfl) dX11_rolls_1 rfl) hP hS hA (fun r1 u1 H locs hw1 hP hS => ?_)
  obtain ⟨i1, a1⟩ := u1
  dsimp only at hw1
  rcases hw1 with ⟨rfl, rfl, c1⟩ | ⟨rfl, rfl, c1⟩
  · refine lv_if_ne (tgt := 16) hx hb dX11_rolls_4 (by decide) (fun _ => ?_) (fun c2 => absurd c2 (by decide))
    refine lv_iconst (v := (-1)) hx hb dX11_rolls_16 (by decide) ?_
    exact z_iret C0 hr hlk rfl hK hP hD hS (0, fun _ => 0) (Or.inl ⟨rfl, rfl, (Or.inl c1)⟩) [] rfl rfl rfl dX11_rolls_17
  · refine lv_if_ne (tgt := 16) hx hb dX11_rolls_4 (by decide) (fun c3 => absurd (by decide) c3) (fun _ => ?_)
    refine lv_iload_n hx hb dX11_rolls_7 rfl (lv_at hl 2 rfl) ?_
    refine lv_iconst (v := 0) hx hb dX11_rolls_8 (by decide) ?_
    refine lv_iconst (v := 2) hx hb dX11_rolls_9 (by decide) ?_
    refine z_bi0 (z_runS (As := [.int x_1, .int 0, .int 2]) (rest := []) C0 (c_X11_isOutside_1 l D k x_1 0 2 _) okS_X11_isOutside kM_X11_47 rfl (z_p0 hK hN) rfl hl.1 rfl (Nat.le_of_ble_eq_true rfl) dX11_rolls_10 rfl) hP hS hA (fun r4 u4 H locs hw4 hP hS => ?_)
    obtain ⟨i4, a4⟩ := u4
    dsimp only at hw4
    rcases hw4 with ⟨rfl, rfl, c4⟩ | ⟨rfl, rfl, c4⟩
    · refine lv_if_eq (tgt := 18) hx hb dX11_rolls_13 (by decide) (fun c5 => absurd c5 (by decide)) (fun _ => ?_)
      refine lv_iconst (v := (-1)) hx hb dX11_rolls_16 (by decide) ?_
      exact z_iret C0 hr hlk rfl hK hP hD hS (0, fun _ => 0) (Or.inl ⟨rfl, rfl, (Or.inr (Or.inl (⟨c1, c4⟩)))⟩) [] rfl rfl rfl dX11_rolls_17
    · refine lv_if_eq (tgt := 18) hx hb dX11_rolls_13 (by decide) (fun _ => ?_) (fun c6 => absurd (by decide) c6)
      refine lv_iconst (v := 0) hx hb dX11_rolls_18 (by decide) ?_
      refine lv_istore (lv' := [(4, .int 0), (0, .ref q_0), (1, .int x_0), (2, .int x_1), (3, .int x_2)]) hx hb dX11_rolls_19 hl (by decide) rfl (fun ls hl => ?_)
      refine lv_iconst (v := 0) hx hb dX11_rolls_21 (by decide) ?_
      refine lv_istore (lv' := [(5, .int 0), (4, .int 0), (0, .ref q_0), (1, .int x_0), (2, .int x_1), (3, .int x_2)]) hx hb dX11_rolls_22 hl (by decide) rfl (fun ls hl => ?_)
      refine lv_iload hx hb dX11_rolls_24 (lv_at hl 0 rfl) ?_
      refine lv_aload_n hx hb dX11_rolls_26 rfl (lv_at hl 2 rfl) ?_
      refine va_get (D := D) (ci := 11) (v := .ref q_1) (C := RX11) (T := TX11) (N := 6) hx hb hts inX11 hown hK hP 0 rfl rfl 0 (by decide) (hts _ kF_X11_12) (fun _ h9 => h9) rfl dX11_rolls_27 ?_
      refine va_get (D := D) (ci := 3) (v := .ref q_2) (C := RX3) (T := TX3) (N := 6) hx hb hts inX3 hown hK hP 1 rfl rfl 0 (by decide) (hts _ kF_X11_43) (fun _ h9 => h9) rfl dX11_rolls_30 ?_
      refine va_get (D := D) (ci := 6) (v := .int 0) (C := RX6) (T := TX6) (N := 15) hx hb hts inX6 hown hK hP 2 rfl rfl 0 (by decide) (hts _ kF_X11_59) (fun _ h9 => h9) rfl dX11_rolls_33 ?_
      refine lv_icmp_ge (tgt := 71) hx hb dX11_rolls_36 (by decide) (fun _ => ?_) (fun c7 => absurd (by decide) c7)
      refine lv_iload_n hx hb dX11_rolls_71 rfl (lv_at hl 5 rfl) ?_
      refine lv_iconst (v := (-1)) hx hb dX11_rolls_72 (by decide) ?_
      refine lv_icmp_ne (tgt := 81) hx hb dX11_rolls_73 (by decide) (fun c8 => ?_) (fun c8 => ?_)
      · refine lv_iconst (v := (-1)) hx hb dX11_rolls_81 (by decide) ?_
        exact z_iret C0 hr hlk rfl hK hP hD hS (0, fun _ => 0) (Or.inl ⟨rfl, rfl, (Or.inr (Or.inr (⟨c1, c4, c8⟩)))⟩) [] rfl rfl rfl dX11_rolls_82
      · refine lv_iload hx hb dX11_rolls_76 (lv_at hl 1 rfl) ?_
        refine lv_goto (tgt := 82) hx hb dX11_rolls_78 (by decide) ?_
        exact z_iret C0 hr hlk rfl hK hP hD hS (1, fun _ => 0) (Or.inr (⟨rfl, rfl, ⟨c1, c4, c8⟩⟩)) [] rfl rfl rfl dX11_rolls_82

set_option maxHeartbeats 4000000 in
set_option maxRecDepth 100000 in
theorem c_X12_rolls_1 (l : Launch) (D : va_G) (k : Nat → ClassId) (q_0 : Nat) (q_1 : Nat) (q_2 : Nat) (q_3 : Nat) (q_4 : Nat) (q_5 : Nat) (q_6 : Nat) (q_7 : Nat) (q_8 : Nat) (q_9 : Nat) (q_10 : Nat) (q_11 : Nat) (q_12 : Nat) (q_13 : Nat) (q_14 : Nat) (q_15 : Nat) (q_16 : Nat) (q_17 : Nat) (q_18 : Nat) (q_19 : Nat) (q_20 : Nat) (q_21 : Nat) (q_22 : Nat) (q_23 : Nat) (q_24 : Nat) (q_25 : Nat) (x_0 : Int32) (x_1 : Int32) (x_2 : Int32) (x_3 : Int32) (x_4 : Int32) (x_5 : Int32) (x_6 : Int32) (x_7 : Int32) (x_8 : Int32) (x_9 : Int32) (g_10 : Int64) (x_11 : Int32) (x_12 : Int32) (x_13 : Int32) (x_14 : Int32) (x_15 : Int32) (x_16 : Int32) (x_17 : Int32) (x_18 : Int32) (g_19 : Int64) (g_20 : Int64) (x_21 : Int32) (x_22 : Int32) (x_23 : Int32) (x_24 : Int32) (x_25 : Int32) (x_26 : Int32) (x_27 : Int32) (x_28 : Int32) (x_29 : Int32) (x_30 : Int32) (x_31 : Int32) (x_32 : Int32) (x_33 : Int32) : zMi l yX12_rolls cX12_rolls 8 (some .int) ({ frames := 2, cells := 0, slots := 0, locals := 45 }) D k [.ref q_0, .int x_0, .int x_1, .int x_2] [(q_0, .inr (12, [.int x_3, .int x_4, .ref q_1, .ref q_2, .ref q_3, .int x_5, .ref q_4, .ref q_5, .ref q_6, .ref q_7, .ref q_8, .int x_6, .int x_7, .int x_8, .int x_9, .long g_10, .int x_11, .int x_12, .int x_13, .ref q_9, .int x_14, .ref q_10, .ref q_11, .int x_15, .ref q_12, .ref q_13, .int x_16, .int x_17, .ref q_14, .ref q_15, .ref q_16, .ref q_17, .int x_18, .long g_19, .long g_20, .int x_21, .int x_22, .int x_23, .int x_24, .ref q_18, .ref q_19, .int x_25, .int x_26, .int x_27, .int x_28, .ref q_20, .ref q_21, .int x_29, .int x_30, .ref q_22, .ref q_23, .ref q_24, .ref q_25, .int x_31, .int x_32, .int x_33])), (q_1, .inl (k 0, 27101, .inl (fun _ => 0)))] (fun r u => (u.1 = 0 ∧ r = (-1) ∧ (((((Int32.toInt64 x_0) < 0) ∨ (¬ (Int32.toInt64 x_0) < 0 ∧ (399 : Int64) < (Int32.toInt64 x_0)))) ∨ (((¬ (Int32.toInt64 x_0) < 0 ∧ ¬ (399 : Int64) < (Int32.toInt64 x_0))) ∧ (((Int32.toInt64 x_1) < 0) ∨ (¬ (Int32.toInt64 x_1) < 0 ∧ (2 : Int64) < (Int32.toInt64 x_1)))) ∨ (((¬ (Int32.toInt64 x_0) < 0 ∧ ¬ (399 : Int64) < (Int32.toInt64 x_0))) ∧ ((¬ (Int32.toInt64 x_1) < 0 ∧ ¬ (2 : Int64) < (Int32.toInt64 x_1))) ∧ ¬ x_2 = (-1)))) ∨ (u.1 = 1 ∧ r = 0 ∧ ((((¬ (Int32.toInt64 x_0) < 0 ∧ ¬ (399 : Int64) < (Int32.toInt64 x_0))) ∧ ((¬ (Int32.toInt64 x_1) < 0 ∧ ¬ (2 : Int64) < (Int32.toInt64 x_1))) ∧ x_2 = (-1))))) (fun u => []) := by
  refine zMi_of (own := RX12) (by decide +kernel) rfl (Nat.le_of_ble_eq_true rfl) ?_
  intro p e s m args below meth c A ls C0 hr hlk hin hP hD hS hA hK hN hl
  have hx := C0.1
  have hb := C0.2.1
  have hml := C0.2.2.1
  have hown := C0.2.2.2.1
  have hts := C0.2.2.2.2
  have hl : lv_has ls 8 [(0, .ref q_0), (1, .int x_0), (2, .int x_1), (3, .int x_2)] := hl
  have hP : va_P D vwCl [(q_0, .inr (12, [.int x_3, .int x_4, .ref q_1, .ref q_2, .ref q_3, .int x_5, .ref q_4, .ref q_5, .ref q_6, .ref q_7, .ref q_8, .int x_6, .int x_7, .int x_8, .int x_9, .long g_10, .int x_11, .int x_12, .int x_13, .ref q_9, .int x_14, .ref q_10, .ref q_11, .int x_15, .ref q_12, .ref q_13, .int x_16, .int x_17, .ref q_14, .ref q_15, .ref q_16, .ref q_17, .int x_18, .long g_19, .long g_20, .int x_21, .int x_22, .int x_23, .int x_24, .ref q_18, .ref q_19, .int x_25, .int x_26, .int x_27, .int x_28, .ref q_20, .ref q_21, .int x_29, .int x_30, .ref q_22, .ref q_23, .ref q_24, .ref q_25, .int x_31, .int x_32, .int x_33])), (q_1, .inl (k 0, 27101, .inl (fun _ => 0)))] s.heap := hP
  refine lv_aload_n hx hb dX12_rolls_0 rfl (lv_at hl 0 rfl) ?_
  refine lv_iconst (v := 0) hx hb dX12_rolls_1 (by decide) ?_
  refine va_put (D := D) (ci := 12) (v := .int 0) (ty := .int) (C := RX12) (T := TX12) (N := 56) hx hb hts inX12 tyX12 tyX12_ok nmX12 hown hK hP hD hS 0 rfl rfl 0 (by decide) (hts _ kF_X12_92) (fun _ h9 => h9) rfl (by decide +kernel) rfl rfl (Nat.le_of_ble_eq_true rfl) dX12_rolls_2 (fun H locs hP hD hS => ?_)
  have hP : va_P D vwCl [(q_0, .inr (12, [.int 0, .int x_4, .ref q_1, .ref q_2, .ref q_3, .int x_5, .ref q_4, .ref q_5, .ref q_6, .ref q_7, .ref q_8, .int x_6, .int x_7, .int x_8, .int x_9, .long g_10, .int x_11, .int x_12, .int x_13, .ref q_9, .int x_14, .ref q_10, .ref q_11, .int x_15, .ref q_12, .ref q_13, .int x_16, .int x_17, .ref q_14, .ref q_15, .ref q_16, .ref q_17, .int x_18, .long g_19, .long g_20, .int x_21, .int x_22, .int x_23, .int x_24, .ref q_18, .ref q_19, .int x_25, .int x_26, .int x_27, .int x_28, .ref q_20, .ref q_21, .int x_29, .int x_30, .ref q_22, .ref q_23, .ref q_24, .ref q_25, .int x_31, .int x_32, .int x_33])), (q_1, .inl (k 0, 27101, .inl (fun _ => 0)))] H := hP
  have hD : va_D A [(q_0, .inr (12, [.int 0, .int x_4, .ref q_1, .ref q_2, .ref q_3, .int x_5, .ref q_4, .ref q_5, .ref q_6, .ref q_7, .ref q_8, .int x_6, .int x_7, .int x_8, .int x_9, .long g_10, .int x_11, .int x_12, .int x_13, .ref q_9, .int x_14, .ref q_10, .ref q_11, .int x_15, .ref q_12, .ref q_13, .int x_16, .int x_17, .ref q_14, .ref q_15, .ref q_16, .ref q_17, .int x_18, .long g_19, .long g_20, .int x_21, .int x_22, .int x_23, .int x_24, .ref q_18, .ref q_19, .int x_25, .int x_26, .int x_27, .int x_28, .ref q_20, .ref q_21, .int x_29, .int x_30, .ref q_22, .ref q_23, .ref q_24, .ref q_25, .int x_31, .int x_32, .int x_33])), (q_1, .inl (k 0, 27101, .inl (fun _ => 0)))] := hD
  refine lv_iload_n hx hb dX12_rolls_5 rfl (lv_at hl 1 rfl) ?_
  refine z_bi0 (z_runS (As := [.int x_0]) (rest := []) C0 (c_X12_isDay_1 l D k x_0 _) okS_X12_isDay kM_X12_127 rfl (z_p0 hK hN) rfl hl.1 rfl (Nat.le_of_ble_eq_true rfl) dX12_rolls_6 rfl) hP hS hA (fun r1 u1 H locs hw1 hP hS => ?_)
  obtain ⟨i1, a1⟩ := u1
  dsimp only at hw1
  rcases hw1 with ⟨rfl, rfl, c1⟩ | ⟨rfl, rfl, c1⟩
  · refine lv_if_eq (tgt := 24) hx hb dX12_rolls_9 (by decide) (fun _ => ?_) (fun c2 => absurd (by decide) c2)
    refine lv_iconst (v := (-1)) hx hb dX12_rolls_24 (by decide) ?_
    exact z_iret C0 hr hlk rfl hK hP hD hS (0, fun _ => 0) (Or.inl ⟨rfl, rfl, (Or.inl c1)⟩) [] rfl rfl rfl dX12_rolls_25
  · refine lv_if_eq (tgt := 24) hx hb dX12_rolls_9 (by decide) (fun c3 => absurd c3 (by decide)) (fun _ => ?_)
    refine lv_iload_n hx hb dX12_rolls_12 rfl (lv_at hl 2 rfl) ?_
    refine lv_i2l (v := (Int32.toInt64 x_1)) hx hb dX12_rolls_13 rfl ?_
    refine lv_lconst (v := 0) hx hb dX12_rolls_14 (by decide) ?_
    refine lv_ldc2 hx hb hown (hts _ kL_X12_484) dX12_rolls_15 ?_
    refine z_bi0 (z_runS (As := [.long (Int32.toInt64 x_1), .long 0, .long 2]) (rest := []) C0 (c_X12_in_1 l D k (Int32.toInt64 x_1) 0 2 _) okS_X12_in kM_X12_100 rfl (z_p0 hK hN) rfl hl.1 rfl (Nat.le_of_ble_eq_true rfl) dX12_rolls_18 rfl) hP hS hA (fun r4 u4 H locs hw4 hP hS => ?_)
    obtain ⟨i4, a4⟩ := u4
    dsimp only at hw4
    rcases hw4 with ⟨rfl, rfl, c4⟩ | ⟨rfl, rfl, c4⟩
    · refine lv_if_ne (tgt := 26) hx hb dX12_rolls_21 (by decide) (fun c5 => absurd (by decide) c5) (fun _ => ?_)
      refine lv_iconst (v := (-1)) hx hb dX12_rolls_24 (by decide) ?_
      exact z_iret C0 hr hlk rfl hK hP hD hS (0, fun _ => 0) (Or.inl ⟨rfl, rfl, (Or.inr (Or.inl (⟨c1, c4⟩)))⟩) [] rfl rfl rfl dX12_rolls_25
    · refine lv_if_ne (tgt := 26) hx hb dX12_rolls_21 (by decide) (fun _ => ?_) (fun c6 => absurd c6 (by decide))
      refine lv_iconst (v := 0) hx hb dX12_rolls_26 (by decide) ?_
      refine lv_istore (lv' := [(4, .int 0), (0, .ref q_0), (1, .int x_0), (2, .int x_1), (3, .int x_2)]) hx hb dX12_rolls_27 hl (by decide) rfl (fun ls hl => ?_)
      refine lv_iconst (v := (-1)) hx hb dX12_rolls_29 (by decide) ?_
      refine lv_istore (lv' := [(5, .int (-1)), (4, .int 0), (0, .ref q_0), (1, .int x_0), (2, .int x_1), (3, .int x_2)]) hx hb dX12_rolls_30 hl (by decide) rfl (fun ls hl => ?_)
      refine lv_iconst (v := 0) hx hb dX12_rolls_32 (by decide) ?_
      refine lv_istore (lv' := [(6, .int 0), (5, .int (-1)), (4, .int 0), (0, .ref q_0), (1, .int x_0), (2, .int x_1), (3, .int x_2)]) hx hb dX12_rolls_33 hl (by decide) rfl (fun ls hl => ?_)
      refine lv_iload hx hb dX12_rolls_35 (lv_at hl 0 rfl) ?_
      refine lv_aload_n hx hb dX12_rolls_37 rfl (lv_at hl 3 rfl) ?_
      refine va_get (D := D) (ci := 12) (v := .ref q_1) (C := RX12) (T := TX12) (N := 56) hx hb hts inX12 hown hK hP 0 rfl rfl 2 (by decide) (hts _ kF_X12_7) (fun _ h9 => h9) rfl dX12_rolls_38 ?_
      refine lv_iconst (v := 0) hx hb dX12_rolls_41 (by decide) ?_
      refine va_iald hx hb hK hP 1 0 rfl rfl (by unfold vp_in; decide) dX12_rolls_42 ?_
      refine lv_toc (v := 0) rfl ?_
      refine lv_icmp_ge (tgt := 166) hx hb dX12_rolls_43 (by decide) (fun _ => ?_) (fun c7 => absurd (by decide) c7)
      refine lv_iload_n hx hb dX12_rolls_166 rfl (lv_at hl 6 rfl) ?_
      refine lv_iconst (v := (-1)) hx hb dX12_rolls_167 (by decide) ?_
      refine lv_icmp_ne (tgt := 176) hx hb dX12_rolls_168 (by decide) (fun c8 => ?_) (fun c8 => ?_)
      · refine lv_iload hx hb dX12_rolls_176 (lv_at hl 1 rfl) ?_
        exact z_iret C0 hr hlk rfl hK hP hD hS (0, fun _ => 0) (Or.inl ⟨rfl, rfl, (Or.inr (Or.inr (⟨c1, c4, c8⟩)))⟩) [] rfl rfl rfl dX12_rolls_178
      · refine lv_iload hx hb dX12_rolls_171 (lv_at hl 2 rfl) ?_
        refine lv_goto (tgt := 178) hx hb dX12_rolls_173 (by decide) ?_
        exact z_iret C0 hr hlk rfl hK hP hD hS (1, fun _ => 0) (Or.inr (⟨rfl, rfl, ⟨c1, c4, c8⟩⟩)) [] rfl rfl rfl dX12_rolls_178

set_option maxHeartbeats 4000000 in
set_option maxRecDepth 100000 in
theorem c_X11_seen_1 (l : Launch) (D : va_G) (k : Nat → ClassId) (q_0 : Nat) (q_1 : Nat) (q_2 : Nat) (q_3 : Nat) (q_4 : Nat) (q_5 : Nat) (q_6 : Nat) (q_7 : Nat) (q_8 : Nat) (q_9 : Nat) (q_10 : Nat) (q_11 : Nat) (q_12 : Nat) (q_13 : Nat) (q_14 : Nat) (q_15 : Nat) (q_16 : Nat) (q_17 : Nat) (q_18 : Nat) (q_19 : Nat) (q_20 : Nat) (q_21 : Nat) (q_22 : Nat) (q_23 : Nat) (x_0 : Int32) (x_1 : Int32) (x_2 : Int32) (x_3 : Int32) (x_4 : Int32) (x_5 : Int32) : zMi l yX11_seen cX11_seen 4 (some .int) ({ frames := 1, cells := 0, slots := 0, locals := 21 }) D k [.ref q_0, .int x_0, .int x_1, .int x_2] [(q_0, .inr (11, [.ref q_1, .ref q_3, .ref q_4, .ref q_5, .ref q_6, .int x_3])), (q_1, .inr (3, [.ref q_2, .ref q_7, .ref q_8, .ref q_9, .ref q_10, .ref q_11])), (q_2, .inr (6, [.int 0, .ref q_12, .ref q_13, .ref q_14, .ref q_15, .ref q_16, .int x_4, .ref q_17, .int x_5, .ref q_18, .ref q_19, .ref q_20, .ref q_21, .ref q_22, .ref q_23]))] (fun r u => u.1 = 0 ∧ r = (-1)) (fun u => []) := by
  refine zMi_of (own := RX11) (by decide +kernel) rfl (Nat.le_of_ble_eq_true rfl) ?_
  intro p e s m args below meth c A ls C0 hr hlk hin hP hD hS hA hK hN hl
  have hx := C0.1
  have hb := C0.2.1
  have hml := C0.2.2.1
  have hown := C0.2.2.2.1
  have hts := C0.2.2.2.2
  have hl : lv_has ls 4 [(0, .ref q_0), (1, .int x_0), (2, .int x_1), (3, .int x_2)] := hl
  have hP : va_P D vwCl [(q_0, .inr (11, [.ref q_1, .ref q_3, .ref q_4, .ref q_5, .ref q_6, .int x_3])), (q_1, .inr (3, [.ref q_2, .ref q_7, .ref q_8, .ref q_9, .ref q_10, .ref q_11])), (q_2, .inr (6, [.int 0, .ref q_12, .ref q_13, .ref q_14, .ref q_15, .ref q_16, .int x_4, .ref q_17, .int x_5, .ref q_18, .ref q_19, .ref q_20, .ref q_21, .ref q_22, .ref q_23]))] s.heap := hP
  refine lv_iload_n hx hb dX11_seen_0 rfl (lv_at hl 2 rfl) ?_
  refine z_bi0 (z_runS (As := [.int x_1]) (rest := []) C0 (c_X11_isNoDay_1 l D k x_1 _) okS_X11_isNoDay kM_X11_72 rfl (z_p0 hK hN) rfl hl.1 rfl (Nat.le_of_ble_eq_true rfl) dX11_seen_1 rfl) hP hS hA (fun r1 u1 H locs hw1 hP hS => ?_)
  obtain ⟨i1, a1⟩ := u1
  dsimp only at hw1
  rcases hw1 with ⟨rfl, rfl, c1⟩ | ⟨rfl, rfl, c1⟩
  · refine lv_if_ne (tgt := 28) hx hb dX11_seen_4 (by decide) (fun _ => ?_) (fun c2 => absurd c2 (by decide))
    refine lv_iconst (v := (-1)) hx hb dX11_seen_28 (by decide) ?_
    exact z_iret C0 hr hlk rfl hK hP hD hS (0, fun _ => 0) ⟨rfl, rfl⟩ [] rfl rfl rfl dX11_seen_29
  · refine lv_if_ne (tgt := 28) hx hb dX11_seen_4 (by decide) (fun c3 => absurd (by decide) c3) (fun _ => ?_)
    refine lv_iload_n hx hb dX11_seen_7 rfl (lv_at hl 3 rfl) ?_
    refine z_bi0 (z_runS (As := [.int x_2]) (rest := []) C0 (c_X11_isNoDay_1 l D k x_2 _) okS_X11_isNoDay kM_X11_72 rfl (z_p0 hK hN) rfl hl.1 rfl (Nat.le_of_ble_eq_true rfl) dX11_seen_8 rfl) hP hS hA (fun r4 u4 H locs hw4 hP hS => ?_)
    obtain ⟨i4, a4⟩ := u4
    dsimp only at hw4
    rcases hw4 with ⟨rfl, rfl, c4⟩ | ⟨rfl, rfl, c4⟩
    · refine lv_if_ne (tgt := 28) hx hb dX11_seen_11 (by decide) (fun _ => ?_) (fun c5 => absurd c5 (by decide))
      refine lv_iconst (v := (-1)) hx hb dX11_seen_28 (by decide) ?_
      exact z_iret C0 hr hlk rfl hK hP hD hS (0, fun _ => 0) ⟨rfl, rfl⟩ [] rfl rfl rfl dX11_seen_29
    · refine lv_if_ne (tgt := 28) hx hb dX11_seen_11 (by decide) (fun c6 => absurd (by decide) c6) (fun _ => ?_)
      refine lv_aload_n hx hb dX11_seen_14 rfl (lv_at hl 0 rfl) ?_
      refine va_get (D := D) (ci := 11) (v := .ref q_1) (C := RX11) (T := TX11) (N := 6) hx hb hts inX11 hown hK hP 0 rfl rfl 0 (by decide) (hts _ kF_X11_12) (fun _ h9 => h9) rfl dX11_seen_15 ?_
      refine va_get (D := D) (ci := 3) (v := .ref q_2) (C := RX3) (T := TX3) (N := 6) hx hb hts inX3 hown hK hP 1 rfl rfl 0 (by decide) (hts _ kF_X11_43) (fun _ h9 => h9) rfl dX11_seen_18 ?_
      refine lv_iload_n hx hb dX11_seen_21 rfl (lv_at hl 1 rfl) ?_
      refine z_bi (wr := [(q_0, .inr (11, [.ref q_1, .ref q_3, .ref q_4, .ref q_5, .ref q_6, .int x_3])), (q_1, .inr (3, [.ref q_2, .ref q_7, .ref q_8, .ref q_9, .ref q_10, .ref q_11]))]) (z_runV (C := RX6) (As := [.int x_0]) (rest := []) C0 (c_X6_isNoChild_1 l D k q_2 q_12 q_13 q_14 q_15 q_16 q_17 q_18 q_19 q_20 q_21 q_22 q_23 x_0 x_4 x_5 _) okV_X6_isNoChild kM_X11_90 rfl (z_pV (q0 := 2) hK hN hP hD [2] rfl rfl rfl rfl rfl) rfl hl.1 rfl (Nat.le_of_ble_eq_true rfl) dX11_seen_22 rfl) hP hD hS hA [2] [0, 1] rfl rfl rfl rfl (fun r7 u7 H locs hw7 hP hD hS => ?_)
      obtain ⟨i7, a7⟩ := u7
      dsimp only at hw7
      obtain ⟨rfl, rfl⟩ := hw7
      have hP : va_P D vwCl [(q_0, .inr (11, [.ref q_1, .ref q_3, .ref q_4, .ref q_5, .ref q_6, .int x_3])), (q_1, .inr (3, [.ref q_2, .ref q_7, .ref q_8, .ref q_9, .ref q_10, .ref q_11])), (q_2, .inr (6, [.int 0, .ref q_12, .ref q_13, .ref q_14, .ref q_15, .ref q_16, .int x_4, .ref q_17, .int x_5, .ref q_18, .ref q_19, .ref q_20, .ref q_21, .ref q_22, .ref q_23]))] H := hP
      have hD : va_D A [(q_0, .inr (11, [.ref q_1, .ref q_3, .ref q_4, .ref q_5, .ref q_6, .int x_3])), (q_1, .inr (3, [.ref q_2, .ref q_7, .ref q_8, .ref q_9, .ref q_10, .ref q_11])), (q_2, .inr (6, [.int 0, .ref q_12, .ref q_13, .ref q_14, .ref q_15, .ref q_16, .int x_4, .ref q_17, .int x_5, .ref q_18, .ref q_19, .ref q_20, .ref q_21, .ref q_22, .ref q_23]))] := hD
      refine lv_if_eq (tgt := 30) hx hb dX11_seen_25 (by decide) (fun c8 => absurd c8 (by decide)) (fun _ => ?_)
      refine lv_iconst (v := (-1)) hx hb dX11_seen_28 (by decide) ?_
      exact z_iret C0 hr hlk rfl hK hP hD hS (0, fun _ => 0) ⟨rfl, rfl⟩ [] rfl rfl rfl dX11_seen_29

set_option maxHeartbeats 4000000 in
set_option maxRecDepth 100000 in
theorem c_X12_seen_1 (l : Launch) (D : va_G) (k : Nat → ClassId) (q_0 : Nat) (q_1 : Nat) (q_2 : Nat) (q_3 : Nat) (q_4 : Nat) (q_5 : Nat) (q_6 : Nat) (q_7 : Nat) (q_8 : Nat) (q_9 : Nat) (q_10 : Nat) (q_11 : Nat) (q_12 : Nat) (q_13 : Nat) (q_14 : Nat) (q_15 : Nat) (q_16 : Nat) (q_17 : Nat) (q_18 : Nat) (q_19 : Nat) (q_20 : Nat) (q_21 : Nat) (q_22 : Nat) (q_23 : Nat) (q_24 : Nat) (q_25 : Nat) (x_0 : Int32) (x_1 : Int32) (x_2 : Int32) (x_3 : Int32) (x_4 : Int32) (x_5 : Int32) (x_6 : Int32) (x_7 : Int32) (x_8 : Int32) (x_9 : Int32) (g_10 : Int64) (x_11 : Int32) (x_12 : Int32) (x_13 : Int32) (x_14 : Int32) (x_15 : Int32) (x_16 : Int32) (x_17 : Int32) (x_18 : Int32) (g_19 : Int64) (g_20 : Int64) (x_21 : Int32) (x_22 : Int32) (x_23 : Int32) (x_24 : Int32) (x_25 : Int32) (x_26 : Int32) (x_27 : Int32) (x_28 : Int32) (x_29 : Int32) (x_30 : Int32) (x_31 : Int32) (x_32 : Int32) (x_33 : Int32) : zMi l yX12_seen cX12_seen 8 (some .int) ({ frames := 2, cells := 0, slots := 0, locals := 46 }) D k [.ref q_0, .int x_0, .int x_1, .int x_2] [(q_0, .inr (12, [.int x_3, .int x_4, .ref q_1, .ref q_2, .ref q_3, .int x_5, .ref q_4, .ref q_5, .ref q_6, .ref q_7, .ref q_8, .int x_6, .int x_7, .int x_8, .int x_9, .long g_10, .int x_11, .int x_12, .int x_13, .ref q_9, .int x_14, .ref q_10, .ref q_11, .int x_15, .ref q_12, .ref q_13, .int x_16, .int x_17, .ref q_14, .ref q_15, .ref q_16, .ref q_17, .int x_18, .long g_19, .long g_20, .int x_21, .int x_22, .int x_23, .int x_24, .ref q_18, .ref q_19, .int x_25, .int x_26, .int x_27, .int x_28, .ref q_20, .ref q_21, .int x_29, .int x_30, .ref q_22, .ref q_23, .ref q_24, .ref q_25, .int x_31, .int x_32, .int x_33])), (q_1, .inl (k 0, 27101, .inl (fun _ => 0)))] (fun r u => u.1 = 0 ∧ r = (-1)) (fun u => []) := by
  refine zMi_of (own := RX12) (by decide +kernel) rfl (Nat.le_of_ble_eq_true rfl) ?_
  intro p e s m args below meth c A ls C0 hr hlk hin hP hD hS hA hK hN hl
  have hx := C0.1
  have hb := C0.2.1
  have hml := C0.2.2.1
  have hown := C0.2.2.2.1
  have hts := C0.2.2.2.2
  have hl : lv_has ls 8 [(0, .ref q_0), (1, .int x_0), (2, .int x_1), (3, .int x_2)] := hl
  have hP : va_P D vwCl [(q_0, .inr (12, [.int x_3, .int x_4, .ref q_1, .ref q_2, .ref q_3, .int x_5, .ref q_4, .ref q_5, .ref q_6, .ref q_7, .ref q_8, .int x_6, .int x_7, .int x_8, .int x_9, .long g_10, .int x_11, .int x_12, .int x_13, .ref q_9, .int x_14, .ref q_10, .ref q_11, .int x_15, .ref q_12, .ref q_13, .int x_16, .int x_17, .ref q_14, .ref q_15, .ref q_16, .ref q_17, .int x_18, .long g_19, .long g_20, .int x_21, .int x_22, .int x_23, .int x_24, .ref q_18, .ref q_19, .int x_25, .int x_26, .int x_27, .int x_28, .ref q_20, .ref q_21, .int x_29, .int x_30, .ref q_22, .ref q_23, .ref q_24, .ref q_25, .int x_31, .int x_32, .int x_33])), (q_1, .inl (k 0, 27101, .inl (fun _ => 0)))] s.heap := hP
  refine lv_aload_n hx hb dX12_seen_0 rfl (lv_at hl 0 rfl) ?_
  refine lv_iconst (v := 0) hx hb dX12_seen_1 (by decide) ?_
  refine va_put (D := D) (ci := 12) (v := .int 0) (ty := .int) (C := RX12) (T := TX12) (N := 56) hx hb hts inX12 tyX12 tyX12_ok nmX12 hown hK hP hD hS 0 rfl rfl 0 (by decide) (hts _ kF_X12_92) (fun _ h9 => h9) rfl (by decide +kernel) rfl rfl (Nat.le_of_ble_eq_true rfl) dX12_seen_2 (fun H locs hP hD hS => ?_)
  have hP : va_P D vwCl [(q_0, .inr (12, [.int 0, .int x_4, .ref q_1, .ref q_2, .ref q_3, .int x_5, .ref q_4, .ref q_5, .ref q_6, .ref q_7, .ref q_8, .int x_6, .int x_7, .int x_8, .int x_9, .long g_10, .int x_11, .int x_12, .int x_13, .ref q_9, .int x_14, .ref q_10, .ref q_11, .int x_15, .ref q_12, .ref q_13, .int x_16, .int x_17, .ref q_14, .ref q_15, .ref q_16, .ref q_17, .int x_18, .long g_19, .long g_20, .int x_21, .int x_22, .int x_23, .int x_24, .ref q_18, .ref q_19, .int x_25, .int x_26, .int x_27, .int x_28, .ref q_20, .ref q_21, .int x_29, .int x_30, .ref q_22, .ref q_23, .ref q_24, .ref q_25, .int x_31, .int x_32, .int x_33])), (q_1, .inl (k 0, 27101, .inl (fun _ => 0)))] H := hP
  have hD : va_D A [(q_0, .inr (12, [.int 0, .int x_4, .ref q_1, .ref q_2, .ref q_3, .int x_5, .ref q_4, .ref q_5, .ref q_6, .ref q_7, .ref q_8, .int x_6, .int x_7, .int x_8, .int x_9, .long g_10, .int x_11, .int x_12, .int x_13, .ref q_9, .int x_14, .ref q_10, .ref q_11, .int x_15, .ref q_12, .ref q_13, .int x_16, .int x_17, .ref q_14, .ref q_15, .ref q_16, .ref q_17, .int x_18, .long g_19, .long g_20, .int x_21, .int x_22, .int x_23, .int x_24, .ref q_18, .ref q_19, .int x_25, .int x_26, .int x_27, .int x_28, .ref q_20, .ref q_21, .int x_29, .int x_30, .ref q_22, .ref q_23, .ref q_24, .ref q_25, .int x_31, .int x_32, .int x_33])), (q_1, .inl (k 0, 27101, .inl (fun _ => 0)))] := hD
  refine lv_aload_n hx hb dX12_seen_5 rfl (lv_at hl 0 rfl) ?_
  refine lv_iload_n hx hb dX12_seen_6 rfl (lv_at hl 1 rfl) ?_
  refine z_bi (wr := []) (z_runV (C := RX12) (As := [.int x_0]) (rest := []) C0 (c_X12_isChild_1 l D k q_0 q_1 q_2 q_3 q_4 q_5 q_6 q_7 q_8 q_9 q_10 q_11 q_12 q_13 q_14 q_15 q_16 q_17 q_18 q_19 q_20 q_21 q_22 q_23 q_24 q_25 x_0 0 x_4 x_5 x_6 x_7 x_8 x_9 g_10 x_11 x_12 x_13 x_14 x_15 x_16 x_17 x_18 g_19 g_20 x_21 x_22 x_23 x_24 x_25 x_26 x_27 x_28 x_29 x_30 x_31 x_32 x_33 _) okV_X12_isChild kM_X12_138 rfl (z_pV (q0 := 0) hK hN hP hD [0, 1] rfl rfl rfl rfl rfl) rfl hl.1 rfl (Nat.le_of_ble_eq_true rfl) dX12_seen_7 rfl) hP hD hS hA [0, 1] [] rfl rfl rfl rfl (fun r1 u1 H locs hw1 hP hD hS => ?_)
  obtain ⟨i1, a1⟩ := u1
  dsimp only at hw1
  obtain ⟨rfl, rfl⟩ := hw1
  have hP : va_P D vwCl [(q_0, .inr (12, [.int 0, .int x_4, .ref q_1, .ref q_2, .ref q_3, .int x_5, .ref q_4, .ref q_5, .ref q_6, .ref q_7, .ref q_8, .int x_6, .int x_7, .int x_8, .int x_9, .long g_10, .int x_11, .int x_12, .int x_13, .ref q_9, .int x_14, .ref q_10, .ref q_11, .int x_15, .ref q_12, .ref q_13, .int x_16, .int x_17, .ref q_14, .ref q_15, .ref q_16, .ref q_17, .int x_18, .long g_19, .long g_20, .int x_21, .int x_22, .int x_23, .int x_24, .ref q_18, .ref q_19, .int x_25, .int x_26, .int x_27, .int x_28, .ref q_20, .ref q_21, .int x_29, .int x_30, .ref q_22, .ref q_23, .ref q_24, .ref q_25, .int x_31, .int x_32, .int x_33])), (q_1, .inl (k 0, 27101, .inl (fun _ => 0)))] H := hP
  have hD : va_D A [(q_0, .inr (12, [.int 0, .int x_4, .ref q_1, .ref q_2, .ref q_3, .int x_5, .ref q_4, .ref q_5, .ref q_6, .ref q_7, .ref q_8, .int x_6, .int x_7, .int x_8, .int x_9, .long g_10, .int x_11, .int x_12, .int x_13, .ref q_9, .int x_14, .ref q_10, .ref q_11, .int x_15, .ref q_12, .ref q_13, .int x_16, .int x_17, .ref q_14, .ref q_15, .ref q_16, .ref q_17, .int x_18, .long g_19, .long g_20, .int x_21, .int x_22, .int x_23, .int x_24, .ref q_18, .ref q_19, .int x_25, .int x_26, .int x_27, .int x_28, .ref q_20, .ref q_21, .int x_29, .int x_30, .ref q_22, .ref q_23, .ref q_24, .ref q_25, .int x_31, .int x_32, .int x_33])), (q_1, .inl (k 0, 27101, .inl (fun _ => 0)))] := hD
  refine lv_if_eq (tgt := 27) hx hb dX12_seen_10 (by decide) (fun _ => ?_) (fun c2 => absurd (by decide) c2)
  refine lv_iconst (v := (-1)) hx hb dX12_seen_27 (by decide) ?_
  exact z_iret C0 hr hlk rfl hK hP hD hS (0, fun _ => 0) ⟨rfl, rfl⟩ [] rfl rfl rfl dX12_seen_28

set_option maxHeartbeats 4000000 in
set_option maxRecDepth 100000 in
theorem c_X11_areNoFigures_1 (l : Launch) (D : va_G) (k : Nat → ClassId) (x_0 : Int32) : zMi l yX11_areNoFigures cX11_areNoFigures 1 (some .boolean) ({ frames := 1, cells := 0, slots := 0, locals := 22 }) D k [.int x_0] [] (fun r u => (u.1 = 0 ∧ r = 1 ∧ ((((x_0 < 0) ∨ (¬ x_0 < 0 ∧ ¬ x_0 ≤ 99999999))))) ∨ (u.1 = 1 ∧ r = 0 ∧ ((((¬ x_0 < 0 ∧ x_0 ≤ 99999999)))))) (fun u => []) := by
  refine zMi_of (own := RX11) (by decide +kernel) rfl (Nat.le_of_ble_eq_true rfl) ?_
  intro p e s m args below meth c A ls C0 hr hlk hin hP hD hS hA hK hN hl
  have hx := C0.1
  have hb := C0.2.1
  have hml := C0.2.2.1
  have hown := C0.2.2.2.1
  have hts := C0.2.2.2.2
  have hl : lv_has ls 1 [(0, .int x_0)] := hl
  have hP : va_P D vwCl [] s.heap := hP
  refine lv_iload_n hx hb dX11_areNoFigures_0 rfl (lv_at hl 0 rfl) ?_
  refine lv_iconst (v := 0) hx hb dX11_areNoFigures_1 (by decide) ?_
  refine lv_ldcw hx hb hown (hts _ kK_X11_389) dX11_areNoFigures_2 ?_
  refine z_bi0 (z_runS (As := [.int x_0, .int 0, .int 99999999]) (rest := []) C0 (c_X11_isOutside_1 l D k x_0 0 99999999 _) okS_X11_isOutside kM_X11_47 rfl (z_p0 hK hN) rfl hl.1 rfl (Nat.le_of_ble_eq_true rfl) dX11_areNoFigures_5 rfl) hP hS hA (fun r1 u1 H locs hw1 hP hS => ?_)
  obtain ⟨i1, a1⟩ := u1
  dsimp only at hw1
  rcases hw1 with ⟨rfl, rfl, c1⟩ | ⟨rfl, rfl, c1⟩
  · exact z_iret C0 hr hlk rfl hK hP hD hS (0, fun _ => 0) (Or.inl ⟨rfl, rfl, c1⟩) [] rfl rfl rfl dX11_areNoFigures_8
  · exact z_iret C0 hr hlk rfl hK hP hD hS (1, fun _ => 0) (Or.inr (⟨rfl, rfl, c1⟩)) [] rfl rfl rfl dX11_areNoFigures_8

set_option maxHeartbeats 4000000 in
set_option maxRecDepth 100000 in
theorem c_X11_record_1 (l : Launch) (D : va_G) (k : Nat → ClassId) (q_0 : Nat) (q_1 : Nat) (q_2 : Nat) (q_3 : Nat) (q_4 : Nat) (q_5 : Nat) (q_6 : Nat) (q_7 : Nat) (q_8 : Nat) (q_9 : Nat) (q_10 : Nat) (q_11 : Nat) (q_12 : Nat) (q_13 : Nat) (q_14 : Nat) (q_15 : Nat) (q_16 : Nat) (q_17 : Nat) (q_18 : Nat) (q_19 : Nat) (q_20 : Nat) (x_0 : Int32) (x_1 : Int32) (x_2 : Int32) (x_3 : Int32) (x_4 : Int32) (f_0 : Nat → Int32) : zMi l yX11_record cX11_record 3 (some .int) ({ frames := 2, cells := 0, slots := 0, locals := 42 }) D k [.ref q_0, .int x_0] [(q_0, .inr (11, [.ref q_1, .ref q_4, .ref q_5, .ref q_6, .ref q_7, .int x_1])), (q_1, .inr (3, [.ref q_8, .ref q_9, .ref q_10, .ref q_11, .ref q_12, .ref q_2])), (q_2, .inr (4, [.int 0, .ref q_3, .int x_2, .ref q_13, .ref q_14, .int x_3, .ref q_15, .ref q_16, .ref q_17, .int x_4, .ref q_18, .ref q_19, .ref q_20])), (q_3, .inl (k 0, 6, .inl f_0))] (fun r u => (u.1 = 0 ∧ r = (-1) ∧ ((((x_0 < 0) ∨ (¬ x_0 < 0 ∧ ¬ x_0 ≤ 99999999))))) ∨ (u.1 = 1 ∧ r = 1 ∧ ((((¬ x_0 < 0 ∧ x_0 ≤ 99999999)))))) (fun u => []) := by
  refine zMi_of (own := RX11) (by decide +kernel) rfl (Nat.le_of_ble_eq_true rfl) ?_
  intro p e s m args below meth c A ls C0 hr hlk hin hP hD hS hA hK hN hl
  have hx := C0.1
  have hb := C0.2.1
  have hml := C0.2.2.1
  have hown := C0.2.2.2.1
  have hts := C0.2.2.2.2
  have hl : lv_has ls 3 [(0, .ref q_0), (1, .int x_0)] := hl
  have hP : va_P D vwCl [(q_0, .inr (11, [.ref q_1, .ref q_4, .ref q_5, .ref q_6, .ref q_7, .int x_1])), (q_1, .inr (3, [.ref q_8, .ref q_9, .ref q_10, .ref q_11, .ref q_12, .ref q_2])), (q_2, .inr (4, [.int 0, .ref q_3, .int x_2, .ref q_13, .ref q_14, .int x_3, .ref q_15, .ref q_16, .ref q_17, .int x_4, .ref q_18, .ref q_19, .ref q_20])), (q_3, .inl (k 0, 6, .inl f_0))] s.heap := hP
  refine lv_aload_n hx hb dX11_record_0 rfl (lv_at hl 0 rfl) ?_
  refine va_get (D := D) (ci := 11) (v := .ref q_1) (C := RX11) (T := TX11) (N := 6) hx hb hts inX11 hown hK hP 0 rfl rfl 0 (by decide) (hts _ kF_X11_12) (fun _ h9 => h9) rfl dX11_record_1 ?_
  refine va_get (D := D) (ci := 3) (v := .ref q_2) (C := RX3) (T := TX3) (N := 6) hx hb hts inX3 hown hK hP 1 rfl rfl 5 (by decide) (hts _ kF_X11_263) (fun _ h9 => h9) rfl dX11_record_4 ?_
  refine lv_astore_n (lv' := [(2, .ref q_2), (0, .ref q_0), (1, .int x_0)]) hx hb dX11_record_7 rfl hl (by decide) rfl (fun ls hl => ?_)
  refine lv_iload_n hx hb dX11_record_8 rfl (lv_at hl 2 rfl) ?_
  refine z_bi0 (z_runS (As := [.int x_0]) (rest := []) C0 (c_X11_areNoFigures_1 l D k x_0 _) okS_X11_areNoFigures kM_X11_267 rfl (z_p0 hK hN) rfl hl.1 rfl (Nat.le_of_ble_eq_true rfl) dX11_record_9 rfl) hP hS hA (fun r1 u1 H locs hw1 hP hS => ?_)
  obtain ⟨i1, a1⟩ := u1
  dsimp only at hw1
  rcases hw1 with ⟨rfl, rfl, c1⟩ | ⟨rfl, rfl, c1⟩
  · refine lv_if_eq (tgt := 21) hx hb dX11_record_12 (by decide) (fun c2 => absurd c2 (by decide)) (fun _ => ?_)
    refine lv_aload_n hx hb dX11_record_15 rfl (lv_at hl 1 rfl) ?_
    refine lv_iconst (v := (-1)) hx hb dX11_record_16 (by decide) ?_
    refine z_bi (wr := [(q_1, .inr (3, [.ref q_8, .ref q_9, .ref q_10, .ref q_11, .ref q_12, .ref q_2])), (q_2, .inr (4, [.int 0, .ref q_3, .int x_2, .ref q_13, .ref q_14, .int x_3, .ref q_15, .ref q_16, .ref q_17, .int x_4, .ref q_18, .ref q_19, .ref q_20])), (q_3, .inl (k 0, 6, .inl f_0))]) (z_runV (C := RX11) (As := [.int (-1)]) (rest := []) C0 (c_X11_answer_1 l D k q_0 q_1 q_4 q_5 q_6 q_7 x_1 _) okV_X11_answer kM_X11_55 rfl (z_pV (q0 := 0) hK hN hP hD [0] rfl rfl rfl rfl rfl) rfl hl.1 rfl (Nat.le_of_ble_eq_true rfl) dX11_record_17 rfl) hP hD hS hA [0] [1, 2, 3] rfl rfl rfl rfl (fun r3 u3 H locs hw3 hP hD hS => ?_)
    obtain ⟨i3, a3⟩ := u3
    dsimp only at hw3
    obtain ⟨rfl, rfl⟩ := hw3
    have hP : va_P D vwCl [(q_1, .inr (3, [.ref q_8, .ref q_9, .ref q_10, .ref q_11, .ref q_12, .ref q_2])), (q_2, .inr (4, [.int 0, .ref q_3, .int x_2, .ref q_13, .ref q_14, .int x_3, .ref q_15, .ref q_16, .ref q_17, .int x_4, .ref q_18, .ref q_19, .ref q_20])), (q_3, .inl (k 0, 6, .inl f_0)), (q_0, .inr (11, [.ref q_1, .ref q_4, .ref q_5, .ref q_6, .ref q_7, .int (-1)]))] H := hP
    have hD : va_D A [(q_1, .inr (3, [.ref q_8, .ref q_9, .ref q_10, .ref q_11, .ref q_12, .ref q_2])), (q_2, .inr (4, [.int 0, .ref q_3, .int x_2, .ref q_13, .ref q_14, .int x_3, .ref q_15, .ref q_16, .ref q_17, .int x_4, .ref q_18, .ref q_19, .ref q_20])), (q_3, .inl (k 0, 6, .inl f_0)), (q_0, .inr (11, [.ref q_1, .ref q_4, .ref q_5, .ref q_6, .ref q_7, .int (-1)]))] := hD
    exact z_iret C0 hr hlk rfl hK hP hD hS (0, fun _ => 0) (Or.inl ⟨rfl, rfl, c1⟩) [] rfl rfl rfl dX11_record_20
  · refine lv_if_eq (tgt := 21) hx hb dX11_record_12 (by decide) (fun _ => ?_) (fun c4 => absurd (by decide) c4)
    refine lv_aload_n hx hb dX11_record_21 rfl (lv_at hl 0 rfl) ?_
    refine va_get (D := D) (ci := 4) (v := .int 0) (C := RX4) (T := TX4) (N := 13) hx hb hts inX4 hown hK hP 2 rfl rfl 0 (by decide) (hts _ kF_X11_270) (fun _ h9 => h9) rfl dX11_record_22 ?_
    refine lv_bipush (v := 6) hx hb dX11_record_25 (by decide) ?_
    refine lv_icmp_lt (tgt := 37) hx hb dX11_record_27 (by decide) (fun _ => ?_) (fun c5 => absurd (by decide) c5)
    refine lv_aload_n hx hb dX11_record_37 rfl (lv_at hl 0 rfl) ?_
    refine va_get (D := D) (ci := 4) (v := .ref q_3) (C := RX4) (T := TX4) (N := 13) hx hb hts inX4 hown hK hP 2 rfl rfl 1 (by decide) (hts _ kF_X11_275) (fun _ h9 => h9) rfl dX11_record_38 ?_
    refine lv_aload_n hx hb dX11_record_41 rfl (lv_at hl 0 rfl) ?_
    refine va_get (D := D) (ci := 4) (v := .int 0) (C := RX4) (T := TX4) (N := 13) hx hb hts inX4 hown hK hP 2 rfl rfl 0 (by decide) (hts _ kF_X11_270) (fun _ h9 => h9) rfl dX11_record_42 ?_
    refine lv_iload_n hx hb dX11_record_45 rfl (lv_at hl 2 rfl) ?_
    refine va_iast hx hb hK hP hD hS 3 0 rfl rfl (by unfold vp_in; decide) dX11_record_46 (fun H locs hP hD hS => ?_)
    have hP : va_P D vwCl [(q_0, .inr (11, [.ref q_1, .ref q_4, .ref q_5, .ref q_6, .ref q_7, .int x_1])), (q_1, .inr (3, [.ref q_8, .ref q_9, .ref q_10, .ref q_11, .ref q_12, .ref q_2])), (q_2, .inr (4, [.int 0, .ref q_3, .int x_2, .ref q_13, .ref q_14, .int x_3, .ref q_15, .ref q_16, .ref q_17, .int x_4, .ref q_18, .ref q_19, .ref q_20])), (q_3, .inl (k 0, 6, .inl (upd f_0 0 x_0)))] H := hP
    have hD : va_D A [(q_0, .inr (11, [.ref q_1, .ref q_4, .ref q_5, .ref q_6, .ref q_7, .int x_1])), (q_1, .inr (3, [.ref q_8, .ref q_9, .ref q_10, .ref q_11, .ref q_12, .ref q_2])), (q_2, .inr (4, [.int 0, .ref q_3, .int x_2, .ref q_13, .ref q_14, .int x_3, .ref q_15, .ref q_16, .ref q_17, .int x_4, .ref q_18, .ref q_19, .ref q_20])), (q_3, .inl (k 0, 6, .inl (upd f_0 0 x_0)))] := hD
    refine lv_aload_n hx hb dX11_record_47 rfl (lv_at hl 0 rfl) ?_
    refine lv_dup hx hb dX11_record_48 rfl ?_
    refine va_get (D := D) (ci := 4) (v := .int 0) (C := RX4) (T := TX4) (N := 13) hx hb hts inX4 hown hK hP 2 rfl rfl 0 (by decide) (hts _ kF_X11_270) (fun _ h9 => h9) rfl dX11_record_49 ?_
    refine lv_iconst (v := 1) hx hb dX11_record_52 (by decide) ?_
    refine lv_iadd hx hb dX11_record_53 ?_
    refine lv_toc (v := 1) (by decide) ?_
    refine va_put (D := D) (ci := 4) (v := .int 1) (ty := .int) (C := RX4) (T := TX4) (N := 13) hx hb hts inX4 tyX4 tyX4_ok nmX4 hown hK hP hD hS 2 rfl rfl 0 (by decide) (hts _ kF_X11_270) (fun _ h9 => h9) rfl (by decide +kernel) rfl rfl (Nat.le_of_ble_eq_true rfl) dX11_record_54 (fun H locs hP hD hS => ?_)
    have hP : va_P D vwCl [(q_0, .inr (11, [.ref q_1, .ref q_4, .ref q_5, .ref q_6, .ref q_7, .int x_1])), (q_1, .inr (3, [.ref q_8, .ref q_9, .ref q_10, .ref q_11, .ref q_12, .ref q_2])), (q_2, .inr (4, [.int 1, .ref q_3, .int x_2, .ref q_13, .ref q_14, .int x_3, .ref q_15, .ref q_16, .ref q_17, .int x_4, .ref q_18, .ref q_19, .ref q_20])), (q_3, .inl (k 0, 6, .inl (upd f_0 0 x_0)))] H := hP
    have hD : va_D A [(q_0, .inr (11, [.ref q_1, .ref q_4, .ref q_5, .ref q_6, .ref q_7, .int x_1])), (q_1, .inr (3, [.ref q_8, .ref q_9, .ref q_10, .ref q_11, .ref q_12, .ref q_2])), (q_2, .inr (4, [.int 1, .ref q_3, .int x_2, .ref q_13, .ref q_14, .int x_3, .ref q_15, .ref q_16, .ref q_17, .int x_4, .ref q_18, .ref q_19, .ref q_20])), (q_3, .inl (k 0, 6, .inl (upd f_0 0 x_0)))] := hD
    refine lv_aload_n hx hb dX11_record_57 rfl (lv_at hl 1 rfl) ?_
    refine lv_aload_n hx hb dX11_record_58 rfl (lv_at hl 0 rfl) ?_
    refine va_get (D := D) (ci := 4) (v := .int 1) (C := RX4) (T := TX4) (N := 13) hx hb hts inX4 hown hK hP 2 rfl rfl 0 (by decide) (hts _ kF_X11_270) (fun _ h9 => h9) rfl dX11_record_59 ?_
    refine z_bi (wr := [(q_1, .inr (3, [.ref q_8, .ref q_9, .ref q_10, .ref q_11, .ref q_12, .ref q_2])), (q_2, .inr (4, [.int 1, .ref q_3, .int x_2, .ref q_13, .ref q_14, .int x_3, .ref q_15, .ref q_16, .ref q_17, .int x_4, .ref q_18, .ref q_19, .ref q_20])), (q_3, .inl (k 0, 6, .inl (upd f_0 0 x_0)))]) (z_runV (C := RX11) (As := [.int 1]) (rest := []) C0 (c_X11_answer_4 l D k q_0 q_1 q_4 q_5 q_6 q_7 x_1 _) okV_X11_answer kM_X11_55 rfl (z_pV (q0 := 0) hK hN hP hD [0] rfl rfl rfl rfl rfl) rfl hl.1 rfl (Nat.le_of_ble_eq_true rfl) dX11_record_62 rfl) hP hD hS hA [0] [1, 2, 3] rfl rfl rfl rfl (fun r6 u6 H locs hw6 hP hD hS => ?_)
    obtain ⟨i6, a6⟩ := u6
    dsimp only at hw6
    obtain ⟨rfl, rfl⟩ := hw6
    have hP : va_P D vwCl [(q_1, .inr (3, [.ref q_8, .ref q_9, .ref q_10, .ref q_11, .ref q_12, .ref q_2])), (q_2, .inr (4, [.int 1, .ref q_3, .int x_2, .ref q_13, .ref q_14, .int x_3, .ref q_15, .ref q_16, .ref q_17, .int x_4, .ref q_18, .ref q_19, .ref q_20])), (q_3, .inl (k 0, 6, .inl (upd f_0 0 x_0))), (q_0, .inr (11, [.ref q_1, .ref q_4, .ref q_5, .ref q_6, .ref q_7, .int 0]))] H := hP
    have hD : va_D A [(q_1, .inr (3, [.ref q_8, .ref q_9, .ref q_10, .ref q_11, .ref q_12, .ref q_2])), (q_2, .inr (4, [.int 1, .ref q_3, .int x_2, .ref q_13, .ref q_14, .int x_3, .ref q_15, .ref q_16, .ref q_17, .int x_4, .ref q_18, .ref q_19, .ref q_20])), (q_3, .inl (k 0, 6, .inl (upd f_0 0 x_0))), (q_0, .inr (11, [.ref q_1, .ref q_4, .ref q_5, .ref q_6, .ref q_7, .int 0]))] := hD
    exact z_iret C0 hr hlk rfl hK hP hD hS (1, fun _ => 0) (Or.inr (⟨rfl, rfl, c1⟩)) [] rfl rfl rfl dX11_record_65

set_option maxHeartbeats 4000000 in
set_option maxRecDepth 100000 in
theorem c_X12_record_1 (l : Launch) (D : va_G) (k : Nat → ClassId) (q_0 : Nat) (q_1 : Nat) (q_2 : Nat) (q_3 : Nat) (q_4 : Nat) (q_5 : Nat) (q_6 : Nat) (q_7 : Nat) (q_8 : Nat) (q_9 : Nat) (q_10 : Nat) (q_11 : Nat) (q_12 : Nat) (q_13 : Nat) (q_14 : Nat) (q_15 : Nat) (q_16 : Nat) (q_17 : Nat) (q_18 : Nat) (q_19 : Nat) (q_20 : Nat) (q_21 : Nat) (q_22 : Nat) (q_23 : Nat) (q_24 : Nat) (q_25 : Nat) (x_0 : Int32) (x_1 : Int32) (x_2 : Int32) (x_3 : Int32) (x_4 : Int32) (x_5 : Int32) (x_6 : Int32) (x_7 : Int32) (g_8 : Int64) (x_9 : Int32) (x_10 : Int32) (x_11 : Int32) (x_12 : Int32) (x_13 : Int32) (x_14 : Int32) (x_15 : Int32) (x_16 : Int32) (g_17 : Int64) (g_18 : Int64) (x_19 : Int32) (x_20 : Int32) (x_21 : Int32) (x_22 : Int32) (x_23 : Int32) (x_24 : Int32) (x_25 : Int32) (x_26 : Int32) (x_27 : Int32) (x_28 : Int32) (x_29 : Int32) (x_30 : Int32) (x_31 : Int32) : zMi l yX12_record cX12_record 2 (some .int) ({ frames := 1, cells := 0, slots := 0, locals := 25 }) D k [.ref q_0, .int x_0] [(q_0, .inr (12, [.int x_1, .int x_2, .ref q_1, .ref q_2, .ref q_3, .int x_3, .ref q_4, .ref q_5, .ref q_6, .ref q_7, .ref q_8, .int x_4, .int x_5, .int x_6, .int x_7, .long g_8, .int x_9, .int x_10, .int x_11, .ref q_9, .int x_12, .ref q_10, .ref q_11, .int x_13, .ref q_12, .ref q_13, .int x_14, .int x_15, .ref q_14, .ref q_15, .ref q_16, .ref q_17, .int x_16, .long g_17, .long g_18, .int x_19, .int x_20, .int x_21, .int x_22, .ref q_18, .ref q_19, .int x_23, .int x_24, .int x_25, .int x_26, .ref q_20, .ref q_21, .int x_27, .int x_28, .ref q_22, .ref q_23, .ref q_24, .ref q_25, .int x_29, .int x_30, .int x_31])), (q_1, .inl (k 0, 27101, .inl (fun _ => 0)))] (fun r u => (u.1 = 0 ∧ r = (-1) ∧ (((((Int32.toInt64 x_0) < 0) ∨ (¬ (Int32.toInt64 x_0) < 0 ∧ (99999999 : Int64) < (Int32.toInt64 x_0)))))) ∨ (u.1 = 1 ∧ r = 1 ∧ ((((¬ (Int32.toInt64 x_0) < 0 ∧ ¬ (99999999 : Int64) < (Int32.toInt64 x_0))))))) (fun u => []) := by
  refine zMi_of (own := RX12) (by decide +kernel) rfl (Nat.le_of_ble_eq_true rfl) ?_
  intro p e s m args below meth c A ls C0 hr hlk hin hP hD hS hA hK hN hl
  have hx := C0.1
  have hb := C0.2.1
  have hml := C0.2.2.1
  have hown := C0.2.2.2.1
  have hts := C0.2.2.2.2
  have hl : lv_has ls 2 [(0, .ref q_0), (1, .int x_0)] := hl
  have hP : va_P D vwCl [(q_0, .inr (12, [.int x_1, .int x_2, .ref q_1, .ref q_2, .ref q_3, .int x_3, .ref q_4, .ref q_5, .ref q_6, .ref q_7, .ref q_8, .int x_4, .int x_5, .int x_6, .int x_7, .long g_8, .int x_9, .int x_10, .int x_11, .ref q_9, .int x_12, .ref q_10, .ref q_11, .int x_13, .ref q_12, .ref q_13, .int x_14, .int x_15, .ref q_14, .ref q_15, .ref q_16, .ref q_17, .int x_16, .long g_17, .long g_18, .int x_19, .int x_20, .int x_21, .int x_22, .ref q_18, .ref q_19, .int x_23, .int x_24, .int x_25, .int x_26, .ref q_20, .ref q_21, .int x_27, .int x_28, .ref q_22, .ref q_23, .ref q_24, .ref q_25, .int x_29, .int x_30, .int x_31])), (q_1, .inl (k 0, 27101, .inl (fun _ => 0)))] s.heap := hP
  refine lv_aload_n hx hb dX12_record_0 rfl (lv_at hl 0 rfl) ?_
  refine lv_iconst (v := 0) hx hb dX12_record_1 (by decide) ?_
  refine va_put (D := D) (ci := 12) (v := .int 0) (ty := .int) (C := RX12) (T := TX12) (N := 56) hx hb hts inX12 tyX12 tyX12_ok nmX12 hown hK hP hD hS 0 rfl rfl 0 (by decide) (hts _ kF_X12_92) (fun _ h9 => h9) rfl (by decide +kernel) rfl rfl (Nat.le_of_ble_eq_true rfl) dX12_record_2 (fun H locs hP hD hS => ?_)
  have hP : va_P D vwCl [(q_0, .inr (12, [.int 0, .int x_2, .ref q_1, .ref q_2, .ref q_3, .int x_3, .ref q_4, .ref q_5, .ref q_6, .ref q_7, .ref q_8, .int x_4, .int x_5, .int x_6, .int x_7, .long g_8, .int x_9, .int x_10, .int x_11, .ref q_9, .int x_12, .ref q_10, .ref q_11, .int x_13, .ref q_12, .ref q_13, .int x_14, .int x_15, .ref q_14, .ref q_15, .ref q_16, .ref q_17, .int x_16, .long g_17, .long g_18, .int x_19, .int x_20, .int x_21, .int x_22, .ref q_18, .ref q_19, .int x_23, .int x_24, .int x_25, .int x_26, .ref q_20, .ref q_21, .int x_27, .int x_28, .ref q_22, .ref q_23, .ref q_24, .ref q_25, .int x_29, .int x_30, .int x_31])), (q_1, .inl (k 0, 27101, .inl (fun _ => 0)))] H := hP
  have hD : va_D A [(q_0, .inr (12, [.int 0, .int x_2, .ref q_1, .ref q_2, .ref q_3, .int x_3, .ref q_4, .ref q_5, .ref q_6, .ref q_7, .ref q_8, .int x_4, .int x_5, .int x_6, .int x_7, .long g_8, .int x_9, .int x_10, .int x_11, .ref q_9, .int x_12, .ref q_10, .ref q_11, .int x_13, .ref q_12, .ref q_13, .int x_14, .int x_15, .ref q_14, .ref q_15, .ref q_16, .ref q_17, .int x_16, .long g_17, .long g_18, .int x_19, .int x_20, .int x_21, .int x_22, .ref q_18, .ref q_19, .int x_23, .int x_24, .int x_25, .int x_26, .ref q_20, .ref q_21, .int x_27, .int x_28, .ref q_22, .ref q_23, .ref q_24, .ref q_25, .int x_29, .int x_30, .int x_31])), (q_1, .inl (k 0, 27101, .inl (fun _ => 0)))] := hD
  refine lv_iload_n hx hb dX12_record_5 rfl (lv_at hl 1 rfl) ?_
  refine lv_i2l (v := (Int32.toInt64 x_0)) hx hb dX12_record_6 rfl ?_
  refine lv_lconst (v := 0) hx hb dX12_record_7 (by decide) ?_
  refine lv_ldc2 hx hb hown (hts _ kL_X12_496) dX12_record_8 ?_
  refine z_bi0 (z_runS (As := [.long (Int32.toInt64 x_0), .long 0, .long 99999999]) (rest := []) C0 (c_X12_in_1 l D k (Int32.toInt64 x_0) 0 99999999 _) okS_X12_in kM_X12_100 rfl (z_p0 hK hN) rfl hl.1 rfl (Nat.le_of_ble_eq_true rfl) dX12_record_11 rfl) hP hS hA (fun r1 u1 H locs hw1 hP hS => ?_)
  obtain ⟨i1, a1⟩ := u1
  dsimp only at hw1
  rcases hw1 with ⟨rfl, rfl, c1⟩ | ⟨rfl, rfl, c1⟩
  · refine lv_if_ne (tgt := 23) hx hb dX12_record_14 (by decide) (fun c2 => absurd (by decide) c2) (fun _ => ?_)
    refine lv_aload_n hx hb dX12_record_17 rfl (lv_at hl 0 rfl) ?_
    refine lv_iconst (v := (-1)) hx hb dX12_record_18 (by decide) ?_
    refine z_bi (wr := [(q_1, .inl (k 0, 27101, .inl (fun _ => 0)))]) (z_runV (C := RX12) (As := [.int (-1)]) (rest := []) C0 (c_X12_told_1 l D k q_0 q_1 q_2 q_3 q_4 q_5 q_6 q_7 q_8 q_9 q_10 q_11 q_12 q_13 q_14 q_15 q_16 q_17 q_18 q_19 q_20 q_21 q_22 q_23 q_24 q_25 0 x_2 x_3 x_4 x_5 x_6 x_7 g_8 x_9 x_10 x_11 x_12 x_13 x_14 x_15 x_16 g_17 g_18 x_19 x_20 x_21 x_22 x_23 x_24 x_25 x_26 x_27 x_28 x_29 x_30 x_31 _) okV_X12_told kM_X12_106 rfl (z_pV (q0 := 0) hK hN hP hD [0] rfl rfl rfl rfl rfl) rfl hl.1 rfl (Nat.le_of_ble_eq_true rfl) dX12_record_19 rfl) hP hD hS hA [0] [1] rfl rfl rfl rfl (fun r3 u3 H locs hw3 hP hD hS => ?_)
    obtain ⟨i3, a3⟩ := u3
    dsimp only at hw3
    obtain ⟨rfl, rfl⟩ := hw3
    have hP : va_P D vwCl [(q_1, .inl (k 0, 27101, .inl (fun _ => 0))), (q_0, .inr (12, [.int 0, .int (-1), .ref q_1, .ref q_2, .ref q_3, .int x_3, .ref q_4, .ref q_5, .ref q_6, .ref q_7, .ref q_8, .int x_4, .int x_5, .int x_6, .int x_7, .long g_8, .int x_9, .int x_10, .int x_11, .ref q_9, .int x_12, .ref q_10, .ref q_11, .int x_13, .ref q_12, .ref q_13, .int x_14, .int x_15, .ref q_14, .ref q_15, .ref q_16, .ref q_17, .int x_16, .long g_17, .long g_18, .int x_19, .int x_20, .int x_21, .int x_22, .ref q_18, .ref q_19, .int x_23, .int x_24, .int x_25, .int x_26, .ref q_20, .ref q_21, .int x_27, .int x_28, .ref q_22, .ref q_23, .ref q_24, .ref q_25, .int x_29, .int x_30, .int x_31]))] H := hP
    have hD : va_D A [(q_1, .inl (k 0, 27101, .inl (fun _ => 0))), (q_0, .inr (12, [.int 0, .int (-1), .ref q_1, .ref q_2, .ref q_3, .int x_3, .ref q_4, .ref q_5, .ref q_6, .ref q_7, .ref q_8, .int x_4, .int x_5, .int x_6, .int x_7, .long g_8, .int x_9, .int x_10, .int x_11, .ref q_9, .int x_12, .ref q_10, .ref q_11, .int x_13, .ref q_12, .ref q_13, .int x_14, .int x_15, .ref q_14, .ref q_15, .ref q_16, .ref q_17, .int x_16, .long g_17, .long g_18, .int x_19, .int x_20, .int x_21, .int x_22, .ref q_18, .ref q_19, .int x_23, .int x_24, .int x_25, .int x_26, .ref q_20, .ref q_21, .int x_27, .int x_28, .ref q_22, .ref q_23, .ref q_24, .ref q_25, .int x_29, .int x_30, .int x_31]))] := hD
    exact z_iret C0 hr hlk rfl hK hP hD hS (0, fun _ => 0) (Or.inl ⟨rfl, rfl, c1⟩) [] rfl rfl rfl dX12_record_22
  · refine lv_if_ne (tgt := 23) hx hb dX12_record_14 (by decide) (fun _ => ?_) (fun c4 => absurd c4 (by decide))
    refine lv_aload_n hx hb dX12_record_23 rfl (lv_at hl 0 rfl) ?_
    refine va_get (D := D) (ci := 12) (v := .ref q_1) (C := RX12) (T := TX12) (N := 56) hx hb hts inX12 hown hK hP 0 rfl rfl 2 (by decide) (hts _ kF_X12_7) (fun _ h9 => h9) rfl dX12_record_24 ?_
    refine lv_iconst (v := 5) hx hb dX12_record_27 (by decide) ?_
    refine va_iald hx hb hK hP 1 0 rfl rfl (by unfold vp_in; decide) dX12_record_28 ?_
    refine lv_toc (v := 0) rfl ?_
    refine lv_bipush (v := 6) hx hb dX12_record_29 (by decide) ?_
    refine lv_icmp_ne (tgt := 41) hx hb dX12_record_31 (by decide) (fun _ => ?_) (fun c5 => absurd c5 (by decide))
    refine lv_aload_n hx hb dX12_record_41 rfl (lv_at hl 0 rfl) ?_
    refine va_get (D := D) (ci := 12) (v := .ref q_1) (C := RX12) (T := TX12) (N := 56) hx hb hts inX12 hown hK hP 0 rfl rfl 2 (by decide) (hts _ kF_X12_7) (fun _ h9 => h9) rfl dX12_record_42 ?_
    refine lv_sipush (v := 6980) hx hb dX12_record_45 (by decide) ?_
    refine lv_aload_n hx hb dX12_record_48 rfl (lv_at hl 0 rfl) ?_
    refine va_get (D := D) (ci := 12) (v := .ref q_1) (C := RX12) (T := TX12) (N := 56) hx hb hts inX12 hown hK hP 0 rfl rfl 2 (by decide) (hts _ kF_X12_7) (fun _ h9 => h9) rfl dX12_record_49 ?_
    refine lv_iconst (v := 5) hx hb dX12_record_52 (by decide) ?_
    refine va_iald hx hb hK hP 1 0 rfl rfl (by unfold vp_in; decide) dX12_record_53 ?_
    refine lv_toc (v := 0) rfl ?_
    refine lv_iadd hx hb dX12_record_54 ?_
    refine lv_toc (v := 6980) (by decide) ?_
    refine lv_iload_n hx hb dX12_record_55 rfl (lv_at hl 1 rfl) ?_
    refine va_iast hx hb hK hP hD hS 1 0 rfl rfl (by unfold vp_in; decide) dX12_record_56 (fun H locs hP hD hS => ?_)
    have hP : va_P D vwCl [(q_0, .inr (12, [.int 0, .int x_2, .ref q_1, .ref q_2, .ref q_3, .int x_3, .ref q_4, .ref q_5, .ref q_6, .ref q_7, .ref q_8, .int x_4, .int x_5, .int x_6, .int x_7, .long g_8, .int x_9, .int x_10, .int x_11, .ref q_9, .int x_12, .ref q_10, .ref q_11, .int x_13, .ref q_12, .ref q_13, .int x_14, .int x_15, .ref q_14, .ref q_15, .ref q_16, .ref q_17, .int x_16, .long g_17, .long g_18, .int x_19, .int x_20, .int x_21, .int x_22, .ref q_18, .ref q_19, .int x_23, .int x_24, .int x_25, .int x_26, .ref q_20, .ref q_21, .int x_27, .int x_28, .ref q_22, .ref q_23, .ref q_24, .ref q_25, .int x_29, .int x_30, .int x_31])), (q_1, .inl (k 0, 27101, .inl (upd (fun _ => 0) 6980 x_0)))] H := hP
    have hD : va_D A [(q_0, .inr (12, [.int 0, .int x_2, .ref q_1, .ref q_2, .ref q_3, .int x_3, .ref q_4, .ref q_5, .ref q_6, .ref q_7, .ref q_8, .int x_4, .int x_5, .int x_6, .int x_7, .long g_8, .int x_9, .int x_10, .int x_11, .ref q_9, .int x_12, .ref q_10, .ref q_11, .int x_13, .ref q_12, .ref q_13, .int x_14, .int x_15, .ref q_14, .ref q_15, .ref q_16, .ref q_17, .int x_16, .long g_17, .long g_18, .int x_19, .int x_20, .int x_21, .int x_22, .ref q_18, .ref q_19, .int x_23, .int x_24, .int x_25, .int x_26, .ref q_20, .ref q_21, .int x_27, .int x_28, .ref q_22, .ref q_23, .ref q_24, .ref q_25, .int x_29, .int x_30, .int x_31])), (q_1, .inl (k 0, 27101, .inl (upd (fun _ => 0) 6980 x_0)))] := hD
    refine lv_aload_n hx hb dX12_record_57 rfl (lv_at hl 0 rfl) ?_
    refine va_get (D := D) (ci := 12) (v := .ref q_1) (C := RX12) (T := TX12) (N := 56) hx hb hts inX12 hown hK hP 0 rfl rfl 2 (by decide) (hts _ kF_X12_7) (fun _ h9 => h9) rfl dX12_record_58 ?_
    refine lv_iconst (v := 5) hx hb dX12_record_61 (by decide) ?_
    refine lv_dup2_11 hx hb dX12_record_62 rfl rfl ?_
    refine va_iald hx hb hK hP 1 0 rfl rfl (by unfold vp_in; decide) dX12_record_63 ?_
    refine lv_toc (v := 0) rfl ?_
    refine lv_iconst (v := 1) hx hb dX12_record_64 (by decide) ?_
    refine lv_iadd hx hb dX12_record_65 ?_
    refine lv_toc (v := 1) (by decide) ?_
    refine va_iast hx hb hK hP hD hS 1 0 rfl rfl (by unfold vp_in; decide) dX12_record_66 (fun H locs hP hD hS => ?_)
    have hP : va_P D vwCl [(q_0, .inr (12, [.int 0, .int x_2, .ref q_1, .ref q_2, .ref q_3, .int x_3, .ref q_4, .ref q_5, .ref q_6, .ref q_7, .ref q_8, .int x_4, .int x_5, .int x_6, .int x_7, .long g_8, .int x_9, .int x_10, .int x_11, .ref q_9, .int x_12, .ref q_10, .ref q_11, .int x_13, .ref q_12, .ref q_13, .int x_14, .int x_15, .ref q_14, .ref q_15, .ref q_16, .ref q_17, .int x_16, .long g_17, .long g_18, .int x_19, .int x_20, .int x_21, .int x_22, .ref q_18, .ref q_19, .int x_23, .int x_24, .int x_25, .int x_26, .ref q_20, .ref q_21, .int x_27, .int x_28, .ref q_22, .ref q_23, .ref q_24, .ref q_25, .int x_29, .int x_30, .int x_31])), (q_1, .inl (k 0, 27101, .inl (upd (upd (fun _ => 0) 6980 x_0) 5 1)))] H := hP
    have hD : va_D A [(q_0, .inr (12, [.int 0, .int x_2, .ref q_1, .ref q_2, .ref q_3, .int x_3, .ref q_4, .ref q_5, .ref q_6, .ref q_7, .ref q_8, .int x_4, .int x_5, .int x_6, .int x_7, .long g_8, .int x_9, .int x_10, .int x_11, .ref q_9, .int x_12, .ref q_10, .ref q_11, .int x_13, .ref q_12, .ref q_13, .int x_14, .int x_15, .ref q_14, .ref q_15, .ref q_16, .ref q_17, .int x_16, .long g_17, .long g_18, .int x_19, .int x_20, .int x_21, .int x_22, .ref q_18, .ref q_19, .int x_23, .int x_24, .int x_25, .int x_26, .ref q_20, .ref q_21, .int x_27, .int x_28, .ref q_22, .ref q_23, .ref q_24, .ref q_25, .int x_29, .int x_30, .int x_31])), (q_1, .inl (k 0, 27101, .inl (upd (upd (fun _ => 0) 6980 x_0) 5 1)))] := hD
    refine lv_aload_n hx hb dX12_record_67 rfl (lv_at hl 0 rfl) ?_
    refine lv_aload_n hx hb dX12_record_68 rfl (lv_at hl 0 rfl) ?_
    refine va_get (D := D) (ci := 12) (v := .ref q_1) (C := RX12) (T := TX12) (N := 56) hx hb hts inX12 hown hK hP 0 rfl rfl 2 (by decide) (hts _ kF_X12_7) (fun _ h9 => h9) rfl dX12_record_69 ?_
    refine lv_iconst (v := 5) hx hb dX12_record_72 (by decide) ?_
    refine va_iald hx hb hK hP 1 0 rfl rfl (by unfold vp_in; decide) dX12_record_73 ?_
    refine lv_toc (v := 1) rfl ?_
    refine z_bi (wr := [(q_1, .inl (k 0, 27101, .inl (upd (upd (fun _ => 0) 6980 x_0) 5 1)))]) (z_runV (C := RX12) (As := [.int 1]) (rest := []) C0 (c_X12_told_4 l D k q_0 q_1 q_2 q_3 q_4 q_5 q_6 q_7 q_8 q_9 q_10 q_11 q_12 q_13 q_14 q_15 q_16 q_17 q_18 q_19 q_20 q_21 q_22 q_23 q_24 q_25 0 x_2 x_3 x_4 x_5 x_6 x_7 g_8 x_9 x_10 x_11 x_12 x_13 x_14 x_15 x_16 g_17 g_18 x_19 x_20 x_21 x_22 x_23 x_24 x_25 x_26 x_27 x_28 x_29 x_30 x_31 _) okV_X12_told kM_X12_106 rfl (z_pV (q0 := 0) hK hN hP hD [0] rfl rfl rfl rfl rfl) rfl hl.1 rfl (Nat.le_of_ble_eq_true rfl) dX12_record_74 rfl) hP hD hS hA [0] [1] rfl rfl rfl rfl (fun r6 u6 H locs hw6 hP hD hS => ?_)
    obtain ⟨i6, a6⟩ := u6
    dsimp only at hw6
    obtain ⟨rfl, rfl⟩ := hw6
    have hP : va_P D vwCl [(q_1, .inl (k 0, 27101, .inl (upd (upd (fun _ => 0) 6980 x_0) 5 1))), (q_0, .inr (12, [.int 0, .int 0, .ref q_1, .ref q_2, .ref q_3, .int x_3, .ref q_4, .ref q_5, .ref q_6, .ref q_7, .ref q_8, .int x_4, .int x_5, .int x_6, .int x_7, .long g_8, .int x_9, .int x_10, .int x_11, .ref q_9, .int x_12, .ref q_10, .ref q_11, .int x_13, .ref q_12, .ref q_13, .int x_14, .int x_15, .ref q_14, .ref q_15, .ref q_16, .ref q_17, .int x_16, .long g_17, .long g_18, .int x_19, .int x_20, .int x_21, .int x_22, .ref q_18, .ref q_19, .int x_23, .int x_24, .int x_25, .int x_26, .ref q_20, .ref q_21, .int x_27, .int x_28, .ref q_22, .ref q_23, .ref q_24, .ref q_25, .int x_29, .int x_30, .int x_31]))] H := hP
    have hD : va_D A [(q_1, .inl (k 0, 27101, .inl (upd (upd (fun _ => 0) 6980 x_0) 5 1))), (q_0, .inr (12, [.int 0, .int 0, .ref q_1, .ref q_2, .ref q_3, .int x_3, .ref q_4, .ref q_5, .ref q_6, .ref q_7, .ref q_8, .int x_4, .int x_5, .int x_6, .int x_7, .long g_8, .int x_9, .int x_10, .int x_11, .ref q_9, .int x_12, .ref q_10, .ref q_11, .int x_13, .ref q_12, .ref q_13, .int x_14, .int x_15, .ref q_14, .ref q_15, .ref q_16, .ref q_17, .int x_16, .long g_17, .long g_18, .int x_19, .int x_20, .int x_21, .int x_22, .ref q_18, .ref q_19, .int x_23, .int x_24, .int x_25, .int x_26, .ref q_20, .ref q_21, .int x_27, .int x_28, .ref q_22, .ref q_23, .ref q_24, .ref q_25, .int x_29, .int x_30, .int x_31]))] := hD
    exact z_iret C0 hr hlk rfl hK hP hD hS (1, fun _ => 0) (Or.inr (⟨rfl, rfl, c1⟩)) [] rfl rfl rfl dX12_record_77

set_option maxHeartbeats 4000000 in
set_option maxRecDepth 100000 in
theorem c_X11_missing_1 (l : Launch) (D : va_G) (k : Nat → ClassId) (q_0 : Nat) (q_1 : Nat) (q_2 : Nat) (q_3 : Nat) (q_4 : Nat) (q_5 : Nat) (q_6 : Nat) (q_7 : Nat) (q_8 : Nat) (q_9 : Nat) (q_10 : Nat) (q_11 : Nat) (q_12 : Nat) (q_13 : Nat) (q_14 : Nat) (q_15 : Nat) (q_16 : Nat) (q_17 : Nat) (q_18 : Nat) (q_19 : Nat) (q_20 : Nat) (q_21 : Nat) (q_22 : Nat) (q_23 : Nat) (x_0 : Int32) (x_1 : Int32) (x_2 : Int32) (x_3 : Int32) (x_4 : Int32) : zMi l yX11_missing cX11_missing 4 (some .int) ({ frames := 2, cells := 0, slots := 0, locals := 42 }) D k [.ref q_0, .int x_0, .int x_1] [(q_0, .inr (11, [.ref q_1, .ref q_3, .ref q_4, .ref q_5, .ref q_6, .int x_2])), (q_1, .inr (3, [.ref q_2, .ref q_7, .ref q_8, .ref q_9, .ref q_10, .ref q_11])), (q_2, .inr (6, [.int 0, .ref q_12, .ref q_13, .ref q_14, .ref q_15, .ref q_16, .int x_3, .ref q_17, .int x_4, .ref q_18, .ref q_19, .ref q_20, .ref q_21, .ref q_22, .ref q_23]))] (fun r u => (u.1 = 0 ∧ r = (-1) ∧ ((((x_1 < 0) ∨ (¬ x_1 < 0 ∧ ¬ x_1 ≤ 99999999))))) ∨ (u.1 = 1 ∧ r = (-2) ∧ ((((¬ x_1 < 0 ∧ x_1 ≤ 99999999)))))) (fun u => []) := by
  refine zMi_of (own := RX11) (by decide +kernel) rfl (Nat.le_of_ble_eq_true rfl) ?_
  intro p e s m args below meth c A ls C0 hr hlk hin hP hD hS hA hK hN hl
  have hx := C0.1
  have hb := C0.2.1
  have hml := C0.2.2.1
  have hown := C0.2.2.2.1
  have hts := C0.2.2.2.2
  have hl : lv_has ls 4 [(0, .ref q_0), (1, .int x_0), (2, .int x_1)] := hl
  have hP : va_P D vwCl [(q_0, .inr (11, [.ref q_1, .ref q_3, .ref q_4, .ref q_5, .ref q_6, .int x_2])), (q_1, .inr (3, [.ref q_2, .ref q_7, .ref q_8, .ref q_9, .ref q_10, .ref q_11])), (q_2, .inr (6, [.int 0, .ref q_12, .ref q_13, .ref q_14, .ref q_15, .ref q_16, .int x_3, .ref q_17, .int x_4, .ref q_18, .ref q_19, .ref q_20, .ref q_21, .ref q_22, .ref q_23]))] s.heap := hP
  refine lv_aload_n hx hb dX11_missing_0 rfl (lv_at hl 0 rfl) ?_
  refine va_get (D := D) (ci := 11) (v := .ref q_1) (C := RX11) (T := TX11) (N := 6) hx hb hts inX11 hown hK hP 0 rfl rfl 0 (by decide) (hts _ kF_X11_12) (fun _ h9 => h9) rfl dX11_missing_1 ?_
  refine va_get (D := D) (ci := 3) (v := .ref q_11) (C := RX3) (T := TX3) (N := 6) hx hb hts inX3 hown hK hP 1 rfl rfl 5 (by decide) (hts _ kF_X11_263) (fun _ h9 => h9) rfl dX11_missing_4 ?_
  refine lv_astore_n (lv' := [(3, .ref q_11), (0, .ref q_0), (1, .int x_0), (2, .int x_1)]) hx hb dX11_missing_7 rfl hl (by decide) rfl (fun ls hl => ?_)
  refine lv_iload_n hx hb dX11_missing_8 rfl (lv_at hl 3 rfl) ?_
  refine z_bi0 (z_runS (As := [.int x_1]) (rest := []) C0 (c_X11_areNoFigures_1 l D k x_1 _) okS_X11_areNoFigures kM_X11_267 rfl (z_p0 hK hN) rfl hl.1 rfl (Nat.le_of_ble_eq_true rfl) dX11_missing_9 rfl) hP hS hA (fun r1 u1 H locs hw1 hP hS => ?_)
  obtain ⟨i1, a1⟩ := u1
  dsimp only at hw1
  rcases hw1 with ⟨rfl, rfl, c1⟩ | ⟨rfl, rfl, c1⟩
  · refine lv_if_eq (tgt := 21) hx hb dX11_missing_12 (by decide) (fun c2 => absurd c2 (by decide)) (fun _ => ?_)
    refine lv_aload_n hx hb dX11_missing_15 rfl (lv_at hl 1 rfl) ?_
    refine lv_iconst (v := (-1)) hx hb dX11_missing_16 (by decide) ?_
    refine z_bi (wr := [(q_1, .inr (3, [.ref q_2, .ref q_7, .ref q_8, .ref q_9, .ref q_10, .ref q_11])), (q_2, .inr (6, [.int 0, .ref q_12, .ref q_13, .ref q_14, .ref q_15, .ref q_16, .int x_3, .ref q_17, .int x_4, .ref q_18, .ref q_19, .ref q_20, .ref q_21, .ref q_22, .ref q_23]))]) (z_runV (C := RX11) (As := [.int (-1)]) (rest := []) C0 (c_X11_answer_1 l D k q_0 q_1 q_3 q_4 q_5 q_6 x_2 _) okV_X11_answer kM_X11_55 rfl (z_pV (q0 := 0) hK hN hP hD [0] rfl rfl rfl rfl rfl) rfl hl.1 rfl (Nat.le_of_ble_eq_true rfl) dX11_missing_17 rfl) hP hD hS hA [0] [1, 2] rfl rfl rfl rfl (fun r3 u3 H locs hw3 hP hD hS => ?_)
    obtain ⟨i3, a3⟩ := u3
    dsimp only at hw3
    obtain ⟨rfl, rfl⟩ := hw3
    have hP : va_P D vwCl [(q_1, .inr (3, [.ref q_2, .ref q_7, .ref q_8, .ref q_9, .ref q_10, .ref q_11])), (q_2, .inr (6, [.int 0, .ref q_12, .ref q_13, .ref q_14, .ref q_15, .ref q_16, .int x_3, .ref q_17, .int x_4, .ref q_18, .ref q_19, .ref q_20, .ref q_21, .ref q_22, .ref q_23])), (q_0, .inr (11, [.ref q_1, .ref q_3, .ref q_4, .ref q_5, .ref q_6, .int (-1)]))] H := hP
    have hD : va_D A [(q_1, .inr (3, [.ref q_2, .ref q_7, .ref q_8, .ref q_9, .ref q_10, .ref q_11])), (q_2, .inr (6, [.int 0, .ref q_12, .ref q_13, .ref q_14, .ref q_15, .ref q_16, .int x_3, .ref q_17, .int x_4, .ref q_18, .ref q_19, .ref q_20, .ref q_21, .ref q_22, .ref q_23])), (q_0, .inr (11, [.ref q_1, .ref q_3, .ref q_4, .ref q_5, .ref q_6, .int (-1)]))] := hD
    exact z_iret C0 hr hlk rfl hK hP hD hS (0, fun _ => 0) (Or.inl ⟨rfl, rfl, c1⟩) [] rfl rfl rfl dX11_missing_20
  · refine lv_if_eq (tgt := 21) hx hb dX11_missing_12 (by decide) (fun _ => ?_) (fun c4 => absurd (by decide) c4)
    refine lv_aload_n hx hb dX11_missing_21 rfl (lv_at hl 1 rfl) ?_
    refine va_get (D := D) (ci := 11) (v := .ref q_1) (C := RX11) (T := TX11) (N := 6) hx hb hts inX11 hown hK hP 0 rfl rfl 0 (by decide) (hts _ kF_X11_12) (fun _ h9 => h9) rfl dX11_missing_22 ?_
    refine va_get (D := D) (ci := 3) (v := .ref q_2) (C := RX3) (T := TX3) (N := 6) hx hb hts inX3 hown hK hP 1 rfl rfl 0 (by decide) (hts _ kF_X11_43) (fun _ h9 => h9) rfl dX11_missing_25 ?_
    refine lv_iload_n hx hb dX11_missing_28 rfl (lv_at hl 2 rfl) ?_
    refine z_bi (wr := [(q_0, .inr (11, [.ref q_1, .ref q_3, .ref q_4, .ref q_5, .ref q_6, .int x_2])), (q_1, .inr (3, [.ref q_2, .ref q_7, .ref q_8, .ref q_9, .ref q_10, .ref q_11]))]) (z_runV (C := RX6) (As := [.int x_0]) (rest := []) C0 (c_X6_isNoChild_1 l D k q_2 q_12 q_13 q_14 q_15 q_16 q_17 q_18 q_19 q_20 q_21 q_22 q_23 x_0 x_3 x_4 _) okV_X6_isNoChild kM_X11_90 rfl (z_pV (q0 := 2) hK hN hP hD [2] rfl rfl rfl rfl rfl) rfl hl.1 rfl (Nat.le_of_ble_eq_true rfl) dX11_missing_29 rfl) hP hD hS hA [2] [0, 1] rfl rfl rfl rfl (fun r5 u5 H locs hw5 hP hD hS => ?_)
    obtain ⟨i5, a5⟩ := u5
    dsimp only at hw5
    obtain ⟨rfl, rfl⟩ := hw5
    have hP : va_P D vwCl [(q_0, .inr (11, [.ref q_1, .ref q_3, .ref q_4, .ref q_5, .ref q_6, .int x_2])), (q_1, .inr (3, [.ref q_2, .ref q_7, .ref q_8, .ref q_9, .ref q_10, .ref q_11])), (q_2, .inr (6, [.int 0, .ref q_12, .ref q_13, .ref q_14, .ref q_15, .ref q_16, .int x_3, .ref q_17, .int x_4, .ref q_18, .ref q_19, .ref q_20, .ref q_21, .ref q_22, .ref q_23]))] H := hP
    have hD : va_D A [(q_0, .inr (11, [.ref q_1, .ref q_3, .ref q_4, .ref q_5, .ref q_6, .int x_2])), (q_1, .inr (3, [.ref q_2, .ref q_7, .ref q_8, .ref q_9, .ref q_10, .ref q_11])), (q_2, .inr (6, [.int 0, .ref q_12, .ref q_13, .ref q_14, .ref q_15, .ref q_16, .int x_3, .ref q_17, .int x_4, .ref q_18, .ref q_19, .ref q_20, .ref q_21, .ref q_22, .ref q_23]))] := hD
    refine lv_if_eq (tgt := 42) hx hb dX11_missing_32 (by decide) (fun c6 => absurd c6 (by decide)) (fun _ => ?_)
    refine lv_aload_n hx hb dX11_missing_35 rfl (lv_at hl 1 rfl) ?_
    refine lv_bipush (v := (-2)) hx hb dX11_missing_36 (by decide) ?_
    refine z_bi (wr := [(q_1, .inr (3, [.ref q_2, .ref q_7, .ref q_8, .ref q_9, .ref q_10, .ref q_11])), (q_2, .inr (6, [.int 0, .ref q_12, .ref q_13, .ref q_14, .ref q_15, .ref q_16, .int x_3, .ref q_17, .int x_4, .ref q_18, .ref q_19, .ref q_20, .ref q_21, .ref q_22, .ref q_23]))]) (z_runV (C := RX11) (As := [.int (-2)]) (rest := []) C0 (c_X11_answer_3 l D k q_0 q_1 q_3 q_4 q_5 q_6 x_2 _) okV_X11_answer kM_X11_55 rfl (z_pV (q0 := 0) hK hN hP hD [0] rfl rfl rfl rfl rfl) rfl hl.1 rfl (Nat.le_of_ble_eq_true rfl) dX11_missing_38 rfl) hP hD hS hA [0] [1, 2] rfl rfl rfl rfl (fun r7 u7 H locs hw7 hP hD hS => ?_)
    obtain ⟨i7, a7⟩ := u7
    dsimp only at hw7
    obtain ⟨rfl, rfl⟩ := hw7
    have hP : va_P D vwCl [(q_1, .inr (3, [.ref q_2, .ref q_7, .ref q_8, .ref q_9, .ref q_10, .ref q_11])), (q_2, .inr (6, [.int 0, .ref q_12, .ref q_13, .ref q_14, .ref q_15, .ref q_16, .int x_3, .ref q_17, .int x_4, .ref q_18, .ref q_19, .ref q_20, .ref q_21, .ref q_22, .ref q_23])), (q_0, .inr (11, [.ref q_1, .ref q_3, .ref q_4, .ref q_5, .ref q_6, .int (-2)]))] H := hP
    have hD : va_D A [(q_1, .inr (3, [.ref q_2, .ref q_7, .ref q_8, .ref q_9, .ref q_10, .ref q_11])), (q_2, .inr (6, [.int 0, .ref q_12, .ref q_13, .ref q_14, .ref q_15, .ref q_16, .int x_3, .ref q_17, .int x_4, .ref q_18, .ref q_19, .ref q_20, .ref q_21, .ref q_22, .ref q_23])), (q_0, .inr (11, [.ref q_1, .ref q_3, .ref q_4, .ref q_5, .ref q_6, .int (-2)]))] := hD
    exact z_iret C0 hr hlk rfl hK hP hD hS (1, fun _ => 0) (Or.inr (⟨rfl, rfl, c1⟩)) [] rfl rfl rfl dX11_missing_41

set_option maxHeartbeats 4000000 in
set_option maxRecDepth 100000 in
theorem c_X12_missing_1 (l : Launch) (D : va_G) (k : Nat → ClassId) (q_0 : Nat) (q_1 : Nat) (q_2 : Nat) (q_3 : Nat) (q_4 : Nat) (q_5 : Nat) (q_6 : Nat) (q_7 : Nat) (q_8 : Nat) (q_9 : Nat) (q_10 : Nat) (q_11 : Nat) (q_12 : Nat) (q_13 : Nat) (q_14 : Nat) (q_15 : Nat) (q_16 : Nat) (q_17 : Nat) (q_18 : Nat) (q_19 : Nat) (q_20 : Nat) (q_21 : Nat) (q_22 : Nat) (q_23 : Nat) (q_24 : Nat) (q_25 : Nat) (x_0 : Int32) (x_1 : Int32) (x_2 : Int32) (x_3 : Int32) (x_4 : Int32) (x_5 : Int32) (x_6 : Int32) (x_7 : Int32) (x_8 : Int32) (g_9 : Int64) (x_10 : Int32) (x_11 : Int32) (x_12 : Int32) (x_13 : Int32) (x_14 : Int32) (x_15 : Int32) (x_16 : Int32) (x_17 : Int32) (g_18 : Int64) (g_19 : Int64) (x_20 : Int32) (x_21 : Int32) (x_22 : Int32) (x_23 : Int32) (x_24 : Int32) (x_25 : Int32) (x_26 : Int32) (x_27 : Int32) (x_28 : Int32) (x_29 : Int32) (x_30 : Int32) (x_31 : Int32) (x_32 : Int32) : zMi l yX12_missing cX12_missing 4 (some .int) ({ frames := 2, cells := 0, slots := 0, locals := 46 }) D k [.ref q_0, .int x_0, .int x_1] [(q_0, .inr (12, [.int x_2, .int x_3, .ref q_1, .ref q_2, .ref q_3, .int x_4, .ref q_4, .ref q_5, .ref q_6, .ref q_7, .ref q_8, .int x_5, .int x_6, .int x_7, .int x_8, .long g_9, .int x_10, .int x_11, .int x_12, .ref q_9, .int x_13, .ref q_10, .ref q_11, .int x_14, .ref q_12, .ref q_13, .int x_15, .int x_16, .ref q_14, .ref q_15, .ref q_16, .ref q_17, .int x_17, .long g_18, .long g_19, .int x_20, .int x_21, .int x_22, .int x_23, .ref q_18, .ref q_19, .int x_24, .int x_25, .int x_26, .int x_27, .ref q_20, .ref q_21, .int x_28, .int x_29, .ref q_22, .ref q_23, .ref q_24, .ref q_25, .int x_30, .int x_31, .int x_32])), (q_1, .inl (k 0, 27101, .inl (fun _ => 0)))] (fun r u => (u.1 = 0 ∧ r = (-1) ∧ (((((Int32.toInt64 x_1) < 0) ∨ (¬ (Int32.toInt64 x_1) < 0 ∧ (99999999 : Int64) < (Int32.toInt64 x_1)))))) ∨ (u.1 = 1 ∧ r = (-2) ∧ ((((¬ (Int32.toInt64 x_1) < 0 ∧ ¬ (99999999 : Int64) < (Int32.toInt64 x_1))))))) (fun u => []) := by
  refine zMi_of (own := RX12) (by decide +kernel) rfl (Nat.le_of_ble_eq_true rfl) ?_
  intro p e s m args below meth c A ls C0 hr hlk hin hP hD hS hA hK hN hl
  have hx := C0.1
  have hb := C0.2.1
  have hml := C0.2.2.1
  have hown := C0.2.2.2.1
  have hts := C0.2.2.2.2
  have hl : lv_has ls 4 [(0, .ref q_0), (1, .int x_0), (2, .int x_1)] := hl
  have hP : va_P D vwCl [(q_0, .inr (12, [.int x_2, .int x_3, .ref q_1, .ref q_2, .ref q_3, .int x_4, .ref q_4, .ref q_5, .ref q_6, .ref q_7, .ref q_8, .int x_5, .int x_6, .int x_7, .int x_8, .long g_9, .int x_10, .int x_11, .int x_12, .ref q_9, .int x_13, .ref q_10, .ref q_11, .int x_14, .ref q_12, .ref q_13, .int x_15, .int x_16, .ref q_14, .ref q_15, .ref q_16, .ref q_17, .int x_17, .long g_18, .long g_19, .int x_20, .int x_21, .int x_22, .int x_23, .ref q_18, .ref q_19, .int x_24, .int x_25, .int x_26, .int x_27, .ref q_20, .ref q_21, .int x_28, .int x_29, .ref q_22, .ref q_23, .ref q_24, .ref q_25, .int x_30, .int x_31, .int x_32])), (q_1, .inl (k 0, 27101, .inl (fun _ => 0)))] s.heap := hP
  refine lv_aload_n hx hb dX12_missing_0 rfl (lv_at hl 0 rfl) ?_
  refine lv_iconst (v := 0) hx hb dX12_missing_1 (by decide) ?_
  refine va_put (D := D) (ci := 12) (v := .int 0) (ty := .int) (C := RX12) (T := TX12) (N := 56) hx hb hts inX12 tyX12 tyX12_ok nmX12 hown hK hP hD hS 0 rfl rfl 0 (by decide) (hts _ kF_X12_92) (fun _ h9 => h9) rfl (by decide +kernel) rfl rfl (Nat.le_of_ble_eq_true rfl) dX12_missing_2 (fun H locs hP hD hS => ?_)
  have hP : va_P D vwCl [(q_0, .inr (12, [.int 0, .int x_3, .ref q_1, .ref q_2, .ref q_3, .int x_4, .ref q_4, .ref q_5, .ref q_6, .ref q_7, .ref q_8, .int x_5, .int x_6, .int x_7, .int x_8, .long g_9, .int x_10, .int x_11, .int x_12, .ref q_9, .int x_13, .ref q_10, .ref q_11, .int x_14, .ref q_12, .ref q_13, .int x_15, .int x_16, .ref q_14, .ref q_15, .ref q_16, .ref q_17, .int x_17, .long g_18, .long g_19, .int x_20, .int x_21, .int x_22, .int x_23, .ref q_18, .ref q_19, .int x_24, .int x_25, .int x_26, .int x_27, .ref q_20, .ref q_21, .int x_28, .int x_29, .ref q_22, .ref q_23, .ref q_24, .ref q_25, .int x_30, .int x_31, .int x_32])), (q_1, .inl (k 0, 27101, .inl (fun _ => 0)))] H := hP
  have hD : va_D A [(q_0, .inr (12, [.int 0, .int x_3, .ref q_1, .ref q_2, .ref q_3, .int x_4, .ref q_4, .ref q_5, .ref q_6, .ref q_7, .ref q_8, .int x_5, .int x_6, .int x_7, .int x_8, .long g_9, .int x_10, .int x_11, .int x_12, .ref q_9, .int x_13, .ref q_10, .ref q_11, .int x_14, .ref q_12, .ref q_13, .int x_15, .int x_16, .ref q_14, .ref q_15, .ref q_16, .ref q_17, .int x_17, .long g_18, .long g_19, .int x_20, .int x_21, .int x_22, .int x_23, .ref q_18, .ref q_19, .int x_24, .int x_25, .int x_26, .int x_27, .ref q_20, .ref q_21, .int x_28, .int x_29, .ref q_22, .ref q_23, .ref q_24, .ref q_25, .int x_30, .int x_31, .int x_32])), (q_1, .inl (k 0, 27101, .inl (fun _ => 0)))] := hD
  refine lv_iload_n hx hb dX12_missing_5 rfl (lv_at hl 2 rfl) ?_
  refine lv_i2l (v := (Int32.toInt64 x_1)) hx hb dX12_missing_6 rfl ?_
  refine lv_lconst (v := 0) hx hb dX12_missing_7 (by decide) ?_
  refine lv_ldc2 hx hb hown (hts _ kL_X12_496) dX12_missing_8 ?_
  refine z_bi0 (z_runS (As := [.long (Int32.toInt64 x_1), .long 0, .long 99999999]) (rest := []) C0 (c_X12_in_1 l D k (Int32.toInt64 x_1) 0 99999999 _) okS_X12_in kM_X12_100 rfl (z_p0 hK hN) rfl hl.1 rfl (Nat.le_of_ble_eq_true rfl) dX12_missing_11 rfl) hP hS hA (fun r1 u1 H locs hw1 hP hS => ?_)
  obtain ⟨i1, a1⟩ := u1
  dsimp only at hw1
  rcases hw1 with ⟨rfl, rfl, c1⟩ | ⟨rfl, rfl, c1⟩
  · refine lv_if_ne (tgt := 23) hx hb dX12_missing_14 (by decide) (fun c2 => absurd (by decide) c2) (fun _ => ?_)
    refine lv_aload_n hx hb dX12_missing_17 rfl (lv_at hl 0 rfl) ?_
    refine lv_iconst (v := (-1)) hx hb dX12_missing_18 (by decide) ?_
    refine z_bi (wr := [(q_1, .inl (k 0, 27101, .inl (fun _ => 0)))]) (z_runV (C := RX12) (As := [.int (-1)]) (rest := []) C0 (c_X12_told_1 l D k q_0 q_1 q_2 q_3 q_4 q_5 q_6 q_7 q_8 q_9 q_10 q_11 q_12 q_13 q_14 q_15 q_16 q_17 q_18 q_19 q_20 q_21 q_22 q_23 q_24 q_25 0 x_3 x_4 x_5 x_6 x_7 x_8 g_9 x_10 x_11 x_12 x_13 x_14 x_15 x_16 x_17 g_18 g_19 x_20 x_21 x_22 x_23 x_24 x_25 x_26 x_27 x_28 x_29 x_30 x_31 x_32 _) okV_X12_told kM_X12_106 rfl (z_pV (q0 := 0) hK hN hP hD [0] rfl rfl rfl rfl rfl) rfl hl.1 rfl (Nat.le_of_ble_eq_true rfl) dX12_missing_19 rfl) hP hD hS hA [0] [1] rfl rfl rfl rfl (fun r3 u3 H locs hw3 hP hD hS => ?_)
    obtain ⟨i3, a3⟩ := u3
    dsimp only at hw3
    obtain ⟨rfl, rfl⟩ := hw3
    have hP : va_P D vwCl [(q_1, .inl (k 0, 27101, .inl (fun _ => 0))), (q_0, .inr (12, [.int 0, .int (-1), .ref q_1, .ref q_2, .ref q_3, .int x_4, .ref q_4, .ref q_5, .ref q_6, .ref q_7, .ref q_8, .int x_5, .int x_6, .int x_7, .int x_8, .long g_9, .int x_10, .int x_11, .int x_12, .ref q_9, .int x_13, .ref q_10, .ref q_11, .int x_14, .ref q_12, .ref q_13, .int x_15, .int x_16, .ref q_14, .ref q_15, .ref q_16, .ref q_17, .int x_17, .long g_18, .long g_19, .int x_20, .int x_21, .int x_22, .int x_23, .ref q_18, .ref q_19, .int x_24, .int x_25, .int x_26, .int x_27, .ref q_20, .ref q_21, .int x_28, .int x_29, .ref q_22, .ref q_23, .ref q_24, .ref q_25, .int x_30, .int x_31, .int x_32]))] H := hP
    have hD : va_D A [(q_1, .inl (k 0, 27101, .inl (fun _ => 0))), (q_0, .inr (12, [.int 0, .int (-1), .ref q_1, .ref q_2, .ref q_3, .int x_4, .ref q_4, .ref q_5, .ref q_6, .ref q_7, .ref q_8, .int x_5, .int x_6, .int x_7, .int x_8, .long g_9, .int x_10, .int x_11, .int x_12, .ref q_9, .int x_13, .ref q_10, .ref q_11, .int x_14, .ref q_12, .ref q_13, .int x_15, .int x_16, .ref q_14, .ref q_15, .ref q_16, .ref q_17, .int x_17, .long g_18, .long g_19, .int x_20, .int x_21, .int x_22, .int x_23, .ref q_18, .ref q_19, .int x_24, .int x_25, .int x_26, .int x_27, .ref q_20, .ref q_21, .int x_28, .int x_29, .ref q_22, .ref q_23, .ref q_24, .ref q_25, .int x_30, .int x_31, .int x_32]))] := hD
    exact z_iret C0 hr hlk rfl hK hP hD hS (0, fun _ => 0) (Or.inl ⟨rfl, rfl, c1⟩) [] rfl rfl rfl dX12_missing_22
  · refine lv_if_ne (tgt := 23) hx hb dX12_missing_14 (by decide) (fun _ => ?_) (fun c4 => absurd c4 (by decide))
    refine lv_aload_n hx hb dX12_missing_23 rfl (lv_at hl 0 rfl) ?_
    refine lv_iload_n hx hb dX12_missing_24 rfl (lv_at hl 1 rfl) ?_
    refine z_bi (wr := []) (z_runV (C := RX12) (As := [.int x_0]) (rest := []) C0 (c_X12_isChild_1 l D k q_0 q_1 q_2 q_3 q_4 q_5 q_6 q_7 q_8 q_9 q_10 q_11 q_12 q_13 q_14 q_15 q_16 q_17 q_18 q_19 q_20 q_21 q_22 q_23 q_24 q_25 x_0 0 x_3 x_4 x_5 x_6 x_7 x_8 g_9 x_10 x_11 x_12 x_13 x_14 x_15 x_16 x_17 g_18 g_19 x_20 x_21 x_22 x_23 x_24 x_25 x_26 x_27 x_28 x_29 x_30 x_31 x_32 _) okV_X12_isChild kM_X12_138 rfl (z_pV (q0 := 0) hK hN hP hD [0, 1] rfl rfl rfl rfl rfl) rfl hl.1 rfl (Nat.le_of_ble_eq_true rfl) dX12_missing_25 rfl) hP hD hS hA [0, 1] [] rfl rfl rfl rfl (fun r5 u5 H locs hw5 hP hD hS => ?_)
    obtain ⟨i5, a5⟩ := u5
    dsimp only at hw5
    obtain ⟨rfl, rfl⟩ := hw5
    have hP : va_P D vwCl [(q_0, .inr (12, [.int 0, .int x_3, .ref q_1, .ref q_2, .ref q_3, .int x_4, .ref q_4, .ref q_5, .ref q_6, .ref q_7, .ref q_8, .int x_5, .int x_6, .int x_7, .int x_8, .long g_9, .int x_10, .int x_11, .int x_12, .ref q_9, .int x_13, .ref q_10, .ref q_11, .int x_14, .ref q_12, .ref q_13, .int x_15, .int x_16, .ref q_14, .ref q_15, .ref q_16, .ref q_17, .int x_17, .long g_18, .long g_19, .int x_20, .int x_21, .int x_22, .int x_23, .ref q_18, .ref q_19, .int x_24, .int x_25, .int x_26, .int x_27, .ref q_20, .ref q_21, .int x_28, .int x_29, .ref q_22, .ref q_23, .ref q_24, .ref q_25, .int x_30, .int x_31, .int x_32])), (q_1, .inl (k 0, 27101, .inl (fun _ => 0)))] H := hP
    have hD : va_D A [(q_0, .inr (12, [.int 0, .int x_3, .ref q_1, .ref q_2, .ref q_3, .int x_4, .ref q_4, .ref q_5, .ref q_6, .ref q_7, .ref q_8, .int x_5, .int x_6, .int x_7, .int x_8, .long g_9, .int x_10, .int x_11, .int x_12, .ref q_9, .int x_13, .ref q_10, .ref q_11, .int x_14, .ref q_12, .ref q_13, .int x_15, .int x_16, .ref q_14, .ref q_15, .ref q_16, .ref q_17, .int x_17, .long g_18, .long g_19, .int x_20, .int x_21, .int x_22, .int x_23, .ref q_18, .ref q_19, .int x_24, .int x_25, .int x_26, .int x_27, .ref q_20, .ref q_21, .int x_28, .int x_29, .ref q_22, .ref q_23, .ref q_24, .ref q_25, .int x_30, .int x_31, .int x_32])), (q_1, .inl (k 0, 27101, .inl (fun _ => 0)))] := hD
    refine lv_if_ne (tgt := 38) hx hb dX12_missing_28 (by decide) (fun c6 => absurd (by decide) c6) (fun _ => ?_)
    refine lv_aload_n hx hb dX12_missing_31 rfl (lv_at hl 0 rfl) ?_
    refine lv_bipush (v := (-2)) hx hb dX12_missing_32 (by decide) ?_
    refine z_bi (wr := [(q_1, .inl (k 0, 27101, .inl (fun _ => 0)))]) (z_runV (C := RX12) (As := [.int (-2)]) (rest := []) C0 (c_X12_told_3 l D k q_0 q_1 q_2 q_3 q_4 q_5 q_6 q_7 q_8 q_9 q_10 q_11 q_12 q_13 q_14 q_15 q_16 q_17 q_18 q_19 q_20 q_21 q_22 q_23 q_24 q_25 0 x_3 x_4 x_5 x_6 x_7 x_8 g_9 x_10 x_11 x_12 x_13 x_14 x_15 x_16 x_17 g_18 g_19 x_20 x_21 x_22 x_23 x_24 x_25 x_26 x_27 x_28 x_29 x_30 x_31 x_32 _) okV_X12_told kM_X12_106 rfl (z_pV (q0 := 0) hK hN hP hD [0] rfl rfl rfl rfl rfl) rfl hl.1 rfl (Nat.le_of_ble_eq_true rfl) dX12_missing_34 rfl) hP hD hS hA [0] [1] rfl rfl rfl rfl (fun r7 u7 H locs hw7 hP hD hS => ?_)
    obtain ⟨i7, a7⟩ := u7
    dsimp only at hw7
    obtain ⟨rfl, rfl⟩ := hw7
    have hP : va_P D vwCl [(q_1, .inl (k 0, 27101, .inl (fun _ => 0))), (q_0, .inr (12, [.int 0, .int (-2), .ref q_1, .ref q_2, .ref q_3, .int x_4, .ref q_4, .ref q_5, .ref q_6, .ref q_7, .ref q_8, .int x_5, .int x_6, .int x_7, .int x_8, .long g_9, .int x_10, .int x_11, .int x_12, .ref q_9, .int x_13, .ref q_10, .ref q_11, .int x_14, .ref q_12, .ref q_13, .int x_15, .int x_16, .ref q_14, .ref q_15, .ref q_16, .ref q_17, .int x_17, .long g_18, .long g_19, .int x_20, .int x_21, .int x_22, .int x_23, .ref q_18, .ref q_19, .int x_24, .int x_25, .int x_26, .int x_27, .ref q_20, .ref q_21, .int x_28, .int x_29, .ref q_22, .ref q_23, .ref q_24, .ref q_25, .int x_30, .int x_31, .int x_32]))] H := hP
    have hD : va_D A [(q_1, .inl (k 0, 27101, .inl (fun _ => 0))), (q_0, .inr (12, [.int 0, .int (-2), .ref q_1, .ref q_2, .ref q_3, .int x_4, .ref q_4, .ref q_5, .ref q_6, .ref q_7, .ref q_8, .int x_5, .int x_6, .int x_7, .int x_8, .long g_9, .int x_10, .int x_11, .int x_12, .ref q_9, .int x_13, .ref q_10, .ref q_11, .int x_14, .ref q_12, .ref q_13, .int x_15, .int x_16, .ref q_14, .ref q_15, .ref q_16, .ref q_17, .int x_17, .long g_18, .long g_19, .int x_20, .int x_21, .int x_22, .int x_23, .ref q_18, .ref q_19, .int x_24, .int x_25, .int x_26, .int x_27, .ref q_20, .ref q_21, .int x_28, .int x_29, .ref q_22, .ref q_23, .ref q_24, .ref q_25, .int x_30, .int x_31, .int x_32]))] := hD
    exact z_iret C0 hr hlk rfl hK hP hD hS (1, fun _ => 0) (Or.inr (⟨rfl, rfl, c1⟩)) [] rfl rfl rfl dX12_missing_37

set_option maxHeartbeats 4000000 in
set_option maxRecDepth 100000 in
theorem c_X2_noteLikeness_1 (l : Launch) (D : va_G) (k : Nat → ClassId) (q_0 : Nat) (q_1 : Nat) (q_2 : Nat) (q_3 : Nat) (q_4 : Nat) (q_5 : Nat) (q_6 : Nat) (q_7 : Nat) (q_8 : Nat) (q_9 : Nat) (q_10 : Nat) (q_11 : Nat) (q_12 : Nat) (q_13 : Nat) (q_14 : Nat) (q_15 : Nat) (q_16 : Nat) (q_17 : Nat) (q_18 : Nat) (x_0 : Int32) (x_1 : Int32) (x_2 : Int32) (x_3 : Int32) (x_4 : Int32) (x_5 : Int32) (x_6 : Int32) (x_7 : Int32) (x_8 : Int32) : zMv l yX2_noteLikeness cX2_noteLikeness 5 none ({ frames := 0, cells := 0, slots := 0, locals := 0 }) D k [.ref q_0, .int x_0] [(q_0, .inr (2, [.ref q_2, .ref q_1, .ref q_3, .int x_1, .int x_2, .ref q_4, .ref q_5, .ref q_6, .int x_3, .int x_4, .int x_5, .ref q_7, .ref q_8, .ref q_9])), (q_1, .inr (4, [.int x_6, .ref q_10, .int 0, .ref q_11, .ref q_12, .int x_7, .ref q_13, .ref q_14, .ref q_15, .int x_8, .ref q_16, .ref q_17, .ref q_18]))] (fun u => u.1 = 0) (fun u => [(q_0, .inr (2, [.ref q_2, .ref q_1, .ref q_3, .int x_1, .int x_2, .ref q_4, .ref q_5, .ref q_6, .int x_3, .int x_4, .int x_5, .ref q_7, .ref q_8, .ref q_9])), (q_1, .inr (4, [.int x_6, .ref q_10, .int 0, .ref q_11, .ref q_12, .int x_7, .ref q_13, .ref q_14, .ref q_15, .int x_8, .ref q_16, .ref q_17, .ref q_18]))]) := by
  refine zMv_of (own := RX2) (by decide +kernel) rfl (Nat.le_of_ble_eq_true rfl) ?_
  intro p e s m args below meth c A ls C0 hr hlk hin hP hD hS hA hK hN hl
  have hx := C0.1
  have hb := C0.2.1
  have hml := C0.2.2.1
  have hown := C0.2.2.2.1
  have hts := C0.2.2.2.2
  have hl : lv_has ls 5 [(0, .ref q_0), (1, .int x_0)] := hl
  have hP : va_P D vwCl [(q_0, .inr (2, [.ref q_2, .ref q_1, .ref q_3, .int x_1, .int x_2, .ref q_4, .ref q_5, .ref q_6, .int x_3, .int x_4, .int x_5, .ref q_7, .ref q_8, .ref q_9])), (q_1, .inr (4, [.int x_6, .ref q_10, .int 0, .ref q_11, .ref q_12, .int x_7, .ref q_13, .ref q_14, .ref q_15, .int x_8, .ref q_16, .ref q_17, .ref q_18]))] s.heap := hP
  refine lv_iconst (v := 0) hx hb dX2_noteLikeness_0 (by decide) ?_
  refine lv_istore_n (lv' := [(2, .int 0), (0, .ref q_0), (1, .int x_0)]) hx hb dX2_noteLikeness_1 rfl hl (by decide) rfl (fun ls hl => ?_)
  refine lv_iload_n hx hb dX2_noteLikeness_2 rfl (lv_at hl 0 rfl) ?_
  refine lv_aload_n hx hb dX2_noteLikeness_3 rfl (lv_at hl 1 rfl) ?_
  refine va_get (D := D) (ci := 2) (v := .ref q_1) (C := RX2) (T := TX2) (N := 14) hx hb hts inX2 hown hK hP 0 rfl rfl 1 (by decide) (hts _ kF_X2_48) (fun _ h9 => h9) rfl dX2_noteLikeness_4 ?_
  refine va_get (D := D) (ci := 4) (v := .int 0) (C := RX4) (T := TX4) (N := 13) hx hb hts inX4 hown hK hP 1 rfl rfl 2 (by decide) (hts _ kF_X2_58) (fun _ h9 => h9) rfl dX2_noteLikeness_7 ?_
  refine lv_icmp_ge (tgt := 84) hx hb dX2_noteLikeness_10 (by decide) (fun _ => ?_) (fun c1 => absurd (by decide) c1)
  exact z_vret C0 hr hlk hK hP hD hS (0, fun _ => 0) rfl [0, 1] rfl rfl rfl dX2_noteLikeness_84

set_option maxHeartbeats 4000000 in
set_option maxRecDepth 100000 in
theorem c_X2_keepFirstBest_1 (l : Launch) (D : va_G) (k : Nat → ClassId) (q_0 : Nat) (q_1 : Nat) (q_2 : Nat) (q_3 : Nat) (q_4 : Nat) (q_5 : Nat) (q_6 : Nat) (q_7 : Nat) (q_8 : Nat) (q_9 : Nat) (q_10 : Nat) (q_11 : Nat) (q_12 : Nat) (q_13 : Nat) (q_14 : Nat) (q_15 : Nat) (q_16 : Nat) (q_17 : Nat) (q_18 : Nat) (x_0 : Int32) (x_1 : Int32) (x_2 : Int32) (x_3 : Int32) (x_4 : Int32) (x_5 : Int32) (x_6 : Int32) (x_7 : Int32) : zMv l yX2_keepFirstBest cX2_keepFirstBest 4 none ({ frames := 0, cells := 0, slots := 0, locals := 0 }) D k [.ref q_0] [(q_0, .inr (2, [.ref q_3, .ref q_1, .ref q_4, .int x_0, .int x_1, .ref q_5, .ref q_6, .ref q_2, .int x_2, .int x_3, .int x_4, .ref q_7, .ref q_8, .ref q_9])), (q_1, .inr (4, [.int x_5, .ref q_10, .int 0, .ref q_11, .ref q_12, .int x_6, .ref q_13, .ref q_14, .ref q_15, .int x_7, .ref q_16, .ref q_17, .ref q_18])), (q_2, .inl (k 0, 448, .inl (upd (fun _ => 0) 0 1)))] (fun u => u.1 = 0) (fun u => [(q_0, .inr (2, [.ref q_3, .ref q_1, .ref q_4, .int 0, .int 1, .ref q_5, .ref q_6, .ref q_2, .int x_2, .int x_3, .int x_4, .ref q_7, .ref q_8, .ref q_9])), (q_1, .inr (4, [.int x_5, .ref q_10, .int 0, .ref q_11, .ref q_12, .int x_6, .ref q_13, .ref q_14, .ref q_15, .int x_7, .ref q_16, .ref q_17, .ref q_18])), (q_2, .inl (k 0, 448, .inl (upd (fun _ => 0) 0 1)))]) := by
  refine zMv_of (own := RX2) (by decide +kernel) rfl (Nat.le_of_ble_eq_true rfl) ?_
  intro p e s m args below meth c A ls C0 hr hlk hin hP hD hS hA hK hN hl
  have hx := C0.1
  have hb := C0.2.1
  have hml := C0.2.2.1
  have hown := C0.2.2.2.1
  have hts := C0.2.2.2.2
  have hl : lv_has ls 4 [(0, .ref q_0)] := hl
  have hP : va_P D vwCl [(q_0, .inr (2, [.ref q_3, .ref q_1, .ref q_4, .int x_0, .int x_1, .ref q_5, .ref q_6, .ref q_2, .int x_2, .int x_3, .int x_4, .ref q_7, .ref q_8, .ref q_9])), (q_1, .inr (4, [.int x_5, .ref q_10, .int 0, .ref q_11, .ref q_12, .int x_6, .ref q_13, .ref q_14, .ref q_15, .int x_7, .ref q_16, .ref q_17, .ref q_18])), (q_2, .inl (k 0, 448, .inl (upd (fun _ => 0) 0 1)))] s.heap := hP
  refine lv_iconst (v := 0) hx hb dX2_keepFirstBest_0 (by decide) ?_
  refine lv_istore_n (lv' := [(1, .int 0), (0, .ref q_0)]) hx hb dX2_keepFirstBest_1 rfl hl (by decide) rfl (fun ls hl => ?_)
  refine lv_iconst (v := 0) hx hb dX2_keepFirstBest_2 (by decide) ?_
  refine lv_istore_n (lv' := [(2, .int 0), (1, .int 0), (0, .ref q_0)]) hx hb dX2_keepFirstBest_3 rfl hl (by decide) rfl (fun ls hl => ?_)
  refine lv_iload_n hx hb dX2_keepFirstBest_4 rfl (lv_at hl 0 rfl) ?_
  refine lv_aload_n hx hb dX2_keepFirstBest_5 rfl (lv_at hl 2 rfl) ?_
  refine va_get (D := D) (ci := 2) (v := .ref q_1) (C := RX2) (T := TX2) (N := 14) hx hb hts inX2 hown hK hP 0 rfl rfl 1 (by decide) (hts _ kF_X2_48) (fun _ h9 => h9) rfl dX2_keepFirstBest_6 ?_
  refine va_get (D := D) (ci := 4) (v := .int 0) (C := RX4) (T := TX4) (N := 13) hx hb hts inX4 hown hK hP 1 rfl rfl 2 (by decide) (hts _ kF_X2_58) (fun _ h9 => h9) rfl dX2_keepFirstBest_9 ?_
  refine lv_icmp_ge (tgt := 110) hx hb dX2_keepFirstBest_12 (by decide) (fun _ => ?_) (fun c1 => absurd (by decide) c1)
  refine lv_aload_n hx hb dX2_keepFirstBest_110 rfl (lv_at hl 2 rfl) ?_
  refine lv_aload_n hx hb dX2_keepFirstBest_111 rfl (lv_at hl 2 rfl) ?_
  refine va_get (D := D) (ci := 2) (v := .ref q_1) (C := RX2) (T := TX2) (N := 14) hx hb hts inX2 hown hK hP 0 rfl rfl 1 (by decide) (hts _ kF_X2_48) (fun _ h9 => h9) rfl dX2_keepFirstBest_112 ?_
  refine va_get (D := D) (ci := 4) (v := .int 0) (C := RX4) (T := TX4) (N := 13) hx hb hts inX4 hown hK hP 1 rfl rfl 2 (by decide) (hts _ kF_X2_58) (fun _ h9 => h9) rfl dX2_keepFirstBest_115 ?_
  refine va_put (D := D) (ci := 2) (v := .int 0) (ty := .int) (C := RX2) (T := TX2) (N := 14) hx hb hts inX2 tyX2 tyX2_ok nmX2 hown hK hP hD hS 0 rfl rfl 3 (by decide) (hts _ kF_X2_82) (fun _ h9 => h9) rfl (by decide +kernel) rfl rfl (Nat.le_of_ble_eq_true rfl) dX2_keepFirstBest_118 (fun H locs hP hD hS => ?_)
  have hP : va_P D vwCl [(q_0, .inr (2, [.ref q_3, .ref q_1, .ref q_4, .int 0, .int x_1, .ref q_5, .ref q_6, .ref q_2, .int x_2, .int x_3, .int x_4, .ref q_7, .ref q_8, .ref q_9])), (q_1, .inr (4, [.int x_5, .ref q_10, .int 0, .ref q_11, .ref q_12, .int x_6, .ref q_13, .ref q_14, .ref q_15, .int x_7, .ref q_16, .ref q_17, .ref q_18])), (q_2, .inl (k 0, 448, .inl (upd (fun _ => 0) 0 1)))] H := hP
  have hD : va_D A [(q_0, .inr (2, [.ref q_3, .ref q_1, .ref q_4, .int 0, .int x_1, .ref q_5, .ref q_6, .ref q_2, .int x_2, .int x_3, .int x_4, .ref q_7, .ref q_8, .ref q_9])), (q_1, .inr (4, [.int x_5, .ref q_10, .int 0, .ref q_11, .ref q_12, .int x_6, .ref q_13, .ref q_14, .ref q_15, .int x_7, .ref q_16, .ref q_17, .ref q_18])), (q_2, .inl (k 0, 448, .inl (upd (fun _ => 0) 0 1)))] := hD
  refine lv_aload_n hx hb dX2_keepFirstBest_121 rfl (lv_at hl 2 rfl) ?_
  refine lv_aload_n hx hb dX2_keepFirstBest_122 rfl (lv_at hl 2 rfl) ?_
  refine va_get (D := D) (ci := 2) (v := .ref q_2) (C := RX2) (T := TX2) (N := 14) hx hb hts inX2 hown hK hP 0 rfl rfl 7 (by decide) (hts _ kF_X2_25) (fun _ h9 => h9) rfl dX2_keepFirstBest_123 ?_
  refine lv_iconst (v := 0) hx hb dX2_keepFirstBest_126 (by decide) ?_
  refine va_iald hx hb hK hP 2 0 rfl rfl (by unfold vp_in; decide) dX2_keepFirstBest_127 ?_
  refine lv_toc (v := 1) rfl ?_
  refine va_put (D := D) (ci := 2) (v := .int 1) (ty := .int) (C := RX2) (T := TX2) (N := 14) hx hb hts inX2 tyX2 tyX2_ok nmX2 hown hK hP hD hS 0 rfl rfl 4 (by decide) (hts _ kF_X2_15) (fun _ h9 => h9) rfl (by decide +kernel) rfl rfl (Nat.le_of_ble_eq_true rfl) dX2_keepFirstBest_128 (fun H locs hP hD hS => ?_)
  have hP : va_P D vwCl [(q_0, .inr (2, [.ref q_3, .ref q_1, .ref q_4, .int 0, .int 1, .ref q_5, .ref q_6, .ref q_2, .int x_2, .int x_3, .int x_4, .ref q_7, .ref q_8, .ref q_9])), (q_1, .inr (4, [.int x_5, .ref q_10, .int 0, .ref q_11, .ref q_12, .int x_6, .ref q_13, .ref q_14, .ref q_15, .int x_7, .ref q_16, .ref q_17, .ref q_18])), (q_2, .inl (k 0, 448, .inl (upd (fun _ => 0) 0 1)))] H := hP
  have hD : va_D A [(q_0, .inr (2, [.ref q_3, .ref q_1, .ref q_4, .int 0, .int 1, .ref q_5, .ref q_6, .ref q_2, .int x_2, .int x_3, .int x_4, .ref q_7, .ref q_8, .ref q_9])), (q_1, .inr (4, [.int x_5, .ref q_10, .int 0, .ref q_11, .ref q_12, .int x_6, .ref q_13, .ref q_14, .ref q_15, .int x_7, .ref q_16, .ref q_17, .ref q_18])), (q_2, .inl (k 0, 448, .inl (upd (fun _ => 0) 0 1)))] := hD
  exact z_vret C0 hr hlk hK hP hD hS (0, fun _ => 0) rfl [0, 1, 2] rfl rfl rfl dX2_keepFirstBest_131

set_option maxHeartbeats 4000000 in
set_option maxRecDepth 100000 in
theorem c_X2_bestJoin_1 (l : Launch) (D : va_G) (k : Nat → ClassId) (q_0 : Nat) (q_1 : Nat) (q_2 : Nat) (q_3 : Nat) (q_4 : Nat) (q_5 : Nat) (q_6 : Nat) (q_7 : Nat) (q_8 : Nat) (q_9 : Nat) (q_10 : Nat) (q_11 : Nat) (q_12 : Nat) (q_13 : Nat) (q_14 : Nat) (q_15 : Nat) (q_16 : Nat) (q_17 : Nat) (q_18 : Nat) (x_0 : Int32) (x_1 : Int32) (x_2 : Int32) (x_3 : Int32) (x_4 : Int32) (x_5 : Int32) (x_6 : Int32) (x_7 : Int32) : zMi l yX2_bestJoin cX2_bestJoin 5 (some .int) ({ frames := 1, cells := 0, slots := 0, locals := 24 }) D k [.ref q_0, .int x_0] [(q_0, .inr (2, [.ref q_4, .ref q_1, .ref q_5, .int x_1, .int x_2, .ref q_6, .ref q_2, .ref q_3, .int x_3, .int x_4, .int x_5, .ref q_7, .ref q_8, .ref q_9])), (q_1, .inr (4, [.int 0, .ref q_10, .int 0, .ref q_11, .ref q_12, .int x_6, .ref q_13, .ref q_14, .ref q_15, .int x_7, .ref q_16, .ref q_17, .ref q_18])), (q_2, .inl (k 0, 448, .inl (fun _ => 0))), (q_3, .inl (k 0, 448, .inl (fun _ => 0)))] (fun r u => u.1 = 0 ∧ r = 0) (fun u => [(q_0, .inr (2, [.ref q_4, .ref q_1, .ref q_5, .int 0, .int 1, .ref q_6, .ref q_2, .ref q_3, .int x_3, .int x_4, .int x_5, .ref q_7, .ref q_8, .ref q_9])), (q_1, .inr (4, [.int 0, .ref q_10, .int 0, .ref q_11, .ref q_12, .int x_6, .ref q_13, .ref q_14, .ref q_15, .int x_7, .ref q_16, .ref q_17, .ref q_18])), (q_2, .inl (k 0, 448, .inl (upd (fun _ => 0) 0 0))), (q_3, .inl (k 0, 448, .inl (upd (fun _ => 0) 0 1)))]) := by
  refine zMi_of (own := RX2) (by decide +kernel) rfl (Nat.le_of_ble_eq_true rfl) ?_
  intro p e s m args below meth c A ls C0 hr hlk hin hP hD hS hA hK hN hl
  have hx := C0.1
  have hb := C0.2.1
  have hml := C0.2.2.1
  have hown := C0.2.2.2.1
  have hts := C0.2.2.2.2
  have hl : lv_has ls 5 [(0, .ref q_0), (1, .int x_0)] := hl
  have hP : va_P D vwCl [(q_0, .inr (2, [.ref q_4, .ref q_1, .ref q_5, .int x_1, .int x_2, .ref q_6, .ref q_2, .ref q_3, .int x_3, .int x_4, .int x_5, .ref q_7, .ref q_8, .ref q_9])), (q_1, .inr (4, [.int 0, .ref q_10, .int 0, .ref q_11, .ref q_12, .int x_6, .ref q_13, .ref q_14, .ref q_15, .int x_7, .ref q_16, .ref q_17, .ref q_18])), (q_2, .inl (k 0, 448, .inl (fun _ => 0))), (q_3, .inl (k 0, 448, .inl (fun _ => 0)))] s.heap := hP
  refine lv_iconst (v := 1) hx hb dX2_bestJoin_0 (by decide) ?_
  refine lv_aload_n hx hb dX2_bestJoin_1 rfl (lv_at hl 0 rfl) ?_
  refine va_get (D := D) (ci := 2) (v := .ref q_1) (C := RX2) (T := TX2) (N := 14) hx hb hts inX2 hown hK hP 0 rfl rfl 1 (by decide) (hts _ kF_X2_48) (fun _ h9 => h9) rfl dX2_bestJoin_2 ?_
  refine va_get (D := D) (ci := 4) (v := .int 0) (C := RX4) (T := TX4) (N := 13) hx hb hts inX4 hown hK hP 1 rfl rfl 0 (by decide) (hts _ kF_X2_49) (fun _ h9 => h9) rfl dX2_bestJoin_5 ?_
  refine lv_ishl hx hb dX2_bestJoin_8 ?_
  refine lv_toc (v := 1) (by decide) ?_
  refine lv_istore_n (lv' := [(2, .int 1), (0, .ref q_0), (1, .int x_0)]) hx hb dX2_bestJoin_9 rfl hl (by decide) rfl (fun ls hl => ?_)
  refine lv_aload_n hx hb dX2_bestJoin_10 rfl (lv_at hl 1 rfl) ?_
  refine lv_iload_n hx hb dX2_bestJoin_11 rfl (lv_at hl 2 rfl) ?_
  refine z_bv (wr := [(q_2, .inl (k 0, 448, .inl (fun _ => 0))), (q_3, .inl (k 0, 448, .inl (fun _ => 0)))]) (z_runV (C := RX2) (As := [.int x_0]) (rest := []) C0 (c_X2_noteLikeness_1 l D k q_0 q_1 q_4 q_5 q_6 q_2 q_3 q_7 q_8 q_9 q_10 q_11 q_12 q_13 q_14 q_15 q_16 q_17 q_18 x_0 x_1 x_2 x_3 x_4 x_5 0 x_6 x_7 _) okV_X2_noteLikeness kM_X2_54 rfl (z_pV (q0 := 0) hK hN hP hD [0, 1] rfl rfl rfl rfl rfl) rfl hl.1 rfl (Nat.le_of_ble_eq_true rfl) dX2_bestJoin_12 rfl) hP hD hS hA [0, 1] [2, 3] rfl rfl rfl rfl (fun u1 H locs hw1 hP hD hS => ?_)
  obtain ⟨i1, a1⟩ := u1
  dsimp only at hw1
  obtain rfl := hw1
  have hP : va_P D vwCl [(q_2, .inl (k 0, 448, .inl (fun _ => 0))), (q_3, .inl (k 0, 448, .inl (fun _ => 0))), (q_0, .inr (2, [.ref q_4, .ref q_1, .ref q_5, .int x_1, .int x_2, .ref q_6, .ref q_2, .ref q_3, .int x_3, .int x_4, .int x_5, .ref q_7, .ref q_8, .ref q_9])), (q_1, .inr (4, [.int 0, .ref q_10, .int 0, .ref q_11, .ref q_12, .int x_6, .ref q_13, .ref q_14, .ref q_15, .int x_7, .ref q_16, .ref q_17, .ref q_18]))] H := hP
  have hD : va_D A [(q_2, .inl (k 0, 448, .inl (fun _ => 0))), (q_3, .inl (k 0, 448, .inl (fun _ => 0))), (q_0, .inr (2, [.ref q_4, .ref q_1, .ref q_5, .int x_1, .int x_2, .ref q_6, .ref q_2, .ref q_3, .int x_3, .int x_4, .int x_5, .ref q_7, .ref q_8, .ref q_9])), (q_1, .inr (4, [.int 0, .ref q_10, .int 0, .ref q_11, .ref q_12, .int x_6, .ref q_13, .ref q_14, .ref q_15, .int x_7, .ref q_16, .ref q_17, .ref q_18]))] := hD
  refine lv_iconst (v := 0) hx hb dX2_bestJoin_15 (by decide) ?_
  refine lv_istore_n (lv' := [(3, .int 0), (2, .int 1), (0, .ref q_0), (1, .int x_0)]) hx hb dX2_bestJoin_16 rfl hl (by decide) rfl (fun ls hl => ?_)
  refine lv_iload_n hx hb dX2_bestJoin_17 rfl (lv_at hl 0 rfl) ?_
  refine lv_iload_n hx hb dX2_bestJoin_18 rfl (lv_at hl 1 rfl) ?_
  refine lv_icmp_ge (tgt := 64) hx hb dX2_bestJoin_19 (by decide) (fun c2 => absurd c2 (by decide)) (fun _ => ?_)
  refine lv_aload_n hx hb dX2_bestJoin_22 rfl (lv_at hl 2 rfl) ?_
  refine va_get (D := D) (ci := 2) (v := .ref q_2) (C := RX2) (T := TX2) (N := 14) hx hb hts inX2 hown hK hP 2 rfl rfl 6 (by decide) (hts _ kF_X2_22) (fun _ h9 => h9) rfl dX2_bestJoin_23 ?_
  refine lv_aload_n hx hb dX2_bestJoin_26 rfl (lv_at hl 2 rfl) ?_
  refine va_get (D := D) (ci := 2) (v := .ref q_1) (C := RX2) (T := TX2) (N := 14) hx hb hts inX2 hown hK hP 2 rfl rfl 1 (by decide) (hts _ kF_X2_48) (fun _ h9 => h9) rfl dX2_bestJoin_27 ?_
  refine va_get (D := D) (ci := 4) (v := .int 0) (C := RX4) (T := TX4) (N := 13) hx hb hts inX4 hown hK hP 3 rfl rfl 2 (by decide) (hts _ kF_X2_58) (fun _ h9 => h9) rfl dX2_bestJoin_30 ?_
  refine lv_bipush (v := 64) hx hb dX2_bestJoin_33 (by decide) ?_
  refine lv_imul hx hb dX2_bestJoin_35 ?_
  refine lv_toc (v := 0) (by decide) ?_
  refine lv_iload_n hx hb dX2_bestJoin_36 rfl (lv_at hl 0 rfl) ?_
  refine lv_iadd hx hb dX2_bestJoin_37 ?_
  refine lv_toc (v := 0) (by decide) ?_
  refine lv_iconst (v := 0) hx hb dX2_bestJoin_38 (by decide) ?_
  refine va_iast hx hb hK hP hD hS 0 0 rfl rfl (by unfold vp_in; decide) dX2_bestJoin_39 (fun H locs hP hD hS => ?_)
  have hP : va_P D vwCl [(q_2, .inl (k 0, 448, .inl (upd (fun _ => 0) 0 0))), (q_3, .inl (k 0, 448, .inl (fun _ => 0))), (q_0, .inr (2, [.ref q_4, .ref q_1, .ref q_5, .int x_1, .int x_2, .ref q_6, .ref q_2, .ref q_3, .int x_3, .int x_4, .int x_5, .ref q_7, .ref q_8, .ref q_9])), (q_1, .inr (4, [.int 0, .ref q_10, .int 0, .ref q_11, .ref q_12, .int x_6, .ref q_13, .ref q_14, .ref q_15, .int x_7, .ref q_16, .ref q_17, .ref q_18]))] H := hP
  have hD : va_D A [(q_2, .inl (k 0, 448, .inl (upd (fun _ => 0) 0 0))), (q_3, .inl (k 0, 448, .inl (fun _ => 0))), (q_0, .inr (2, [.ref q_4, .ref q_1, .ref q_5, .int x_1, .int x_2, .ref q_6, .ref q_2, .ref q_3, .int x_3, .int x_4, .int x_5, .ref q_7, .ref q_8, .ref q_9])), (q_1, .inr (4, [.int 0, .ref q_10, .int 0, .ref q_11, .ref q_12, .int x_6, .ref q_13, .ref q_14, .ref q_15, .int x_7, .ref q_16, .ref q_17, .ref q_18]))] := hD
  refine lv_aload_n hx hb dX2_bestJoin_40 rfl (lv_at hl 2 rfl) ?_
  refine va_get (D := D) (ci := 2) (v := .ref q_3) (C := RX2) (T := TX2) (N := 14) hx hb hts inX2 hown hK hP 2 rfl rfl 7 (by decide) (hts _ kF_X2_25) (fun _ h9 => h9) rfl dX2_bestJoin_41 ?_
  refine lv_aload_n hx hb dX2_bestJoin_44 rfl (lv_at hl 2 rfl) ?_
  refine va_get (D := D) (ci := 2) (v := .ref q_1) (C := RX2) (T := TX2) (N := 14) hx hb hts inX2 hown hK hP 2 rfl rfl 1 (by decide) (hts _ kF_X2_48) (fun _ h9 => h9) rfl dX2_bestJoin_45 ?_
  refine va_get (D := D) (ci := 4) (v := .int 0) (C := RX4) (T := TX4) (N := 13) hx hb hts inX4 hown hK hP 3 rfl rfl 2 (by decide) (hts _ kF_X2_58) (fun _ h9 => h9) rfl dX2_bestJoin_48 ?_
  refine lv_bipush (v := 64) hx hb dX2_bestJoin_51 (by decide) ?_
  refine lv_imul hx hb dX2_bestJoin_53 ?_
  refine lv_toc (v := 0) (by decide) ?_
  refine lv_iload_n hx hb dX2_bestJoin_54 rfl (lv_at hl 0 rfl) ?_
  refine lv_iadd hx hb dX2_bestJoin_55 ?_
  refine lv_toc (v := 0) (by decide) ?_
  refine lv_iconst (v := 1) hx hb dX2_bestJoin_56 (by decide) ?_
  refine va_iast hx hb hK hP hD hS 1 0 rfl rfl (by unfold vp_in; decide) dX2_bestJoin_57 (fun H locs hP hD hS => ?_)
  have hP : va_P D vwCl [(q_2, .inl (k 0, 448, .inl (upd (fun _ => 0) 0 0))), (q_3, .inl (k 0, 448, .inl (upd (fun _ => 0) 0 1))), (q_0, .inr (2, [.ref q_4, .ref q_1, .ref q_5, .int x_1, .int x_2, .ref q_6, .ref q_2, .ref q_3, .int x_3, .int x_4, .int x_5, .ref q_7, .ref q_8, .ref q_9])), (q_1, .inr (4, [.int 0, .ref q_10, .int 0, .ref q_11, .ref q_12, .int x_6, .ref q_13, .ref q_14, .ref q_15, .int x_7, .ref q_16, .ref q_17, .ref q_18]))] H := hP
  have hD : va_D A [(q_2, .inl (k 0, 448, .inl (upd (fun _ => 0) 0 0))), (q_3, .inl (k 0, 448, .inl (upd (fun _ => 0) 0 1))), (q_0, .inr (2, [.ref q_4, .ref q_1, .ref q_5, .int x_1, .int x_2, .ref q_6, .ref q_2, .ref q_3, .int x_3, .int x_4, .int x_5, .ref q_7, .ref q_8, .ref q_9])), (q_1, .inr (4, [.int 0, .ref q_10, .int 0, .ref q_11, .ref q_12, .int x_6, .ref q_13, .ref q_14, .ref q_15, .int x_7, .ref q_16, .ref q_17, .ref q_18]))] := hD
  refine lv_iinc (v := 1) (lv' := [(3, .int 1), (2, .int 1), (0, .ref q_0), (1, .int x_0)]) hx hb dX2_bestJoin_58 hl (k := 0) rfl (by decide) (by decide) rfl (fun ls hl => ?_)
  refine lv_goto (tgt := 17) hx hb dX2_bestJoin_61 (by decide) ?_
  refine lv_iload_n hx hb dX2_bestJoin_17 rfl (lv_at hl 0 rfl) ?_
  refine lv_iload_n hx hb dX2_bestJoin_18 rfl (lv_at hl 1 rfl) ?_
  refine lv_icmp_ge (tgt := 64) hx hb dX2_bestJoin_19 (by decide) (fun _ => ?_) (fun c3 => absurd (by decide) c3)
  refine lv_aload_n hx hb dX2_bestJoin_64 rfl (lv_at hl 2 rfl) ?_
  refine va_get (D := D) (ci := 2) (v := .ref q_1) (C := RX2) (T := TX2) (N := 14) hx hb hts inX2 hown hK hP 2 rfl rfl 1 (by decide) (hts _ kF_X2_48) (fun _ h9 => h9) rfl dX2_bestJoin_65 ?_
  refine va_get (D := D) (ci := 4) (v := .int 0) (C := RX4) (T := TX4) (N := 13) hx hb hts inX4 hown hK hP 3 rfl rfl 2 (by decide) (hts _ kF_X2_58) (fun _ h9 => h9) rfl dX2_bestJoin_68 ?_
  refine lv_iconst (v := 1) hx hb dX2_bestJoin_71 (by decide) ?_
  refine lv_isub hx hb dX2_bestJoin_72 ?_
  refine lv_toc (v := (-1)) (by decide) ?_
  refine lv_istore_n (lv' := [(3, .int (-1)), (2, .int 1), (0, .ref q_0), (1, .int x_0)]) hx hb dX2_bestJoin_73 rfl hl (by decide) rfl (fun ls hl => ?_)
  refine lv_iload_n hx hb dX2_bestJoin_74 rfl (lv_at hl 0 rfl) ?_
  refine lv_if_lt (tgt := 106) hx hb dX2_bestJoin_75 (by decide) (fun _ => ?_) (fun c4 => absurd (by decide) c4)
  refine lv_aload_n hx hb dX2_bestJoin_106 rfl (lv_at hl 2 rfl) ?_
  refine z_bv (wr := [(q_2, .inl (k 0, 448, .inl (upd (fun _ => 0) 0 0)))]) (z_runV (C := RX2) (As := []) (rest := []) C0 (c_X2_keepFirstBest_1 l D k q_0 q_1 q_3 q_4 q_5 q_6 q_2 q_7 q_8 q_9 q_10 q_11 q_12 q_13 q_14 q_15 q_16 q_17 q_18 x_1 x_2 x_3 x_4 x_5 0 x_6 x_7 _) okV_X2_keepFirstBest kM_X2_65 rfl (z_pV (q0 := 2) hK hN hP hD [2, 3, 1] rfl rfl rfl rfl rfl) rfl hl.1 rfl (Nat.le_of_ble_eq_true rfl) dX2_bestJoin_107 rfl) hP hD hS hA [2, 3, 1] [0] rfl rfl rfl rfl (fun u5 H locs hw5 hP hD hS => ?_)
  obtain ⟨i5, a5⟩ := u5
  dsimp only at hw5
  obtain rfl := hw5
  have hP : va_P D vwCl [(q_2, .inl (k 0, 448, .inl (upd (fun _ => 0) 0 0))), (q_0, .inr (2, [.ref q_4, .ref q_1, .ref q_5, .int 0, .int 1, .ref q_6, .ref q_2, .ref q_3, .int x_3, .int x_4, .int x_5, .ref q_7, .ref q_8, .ref q_9])), (q_1, .inr (4, [.int 0, .ref q_10, .int 0, .ref q_11, .ref q_12, .int x_6, .ref q_13, .ref q_14, .ref q_15, .int x_7, .ref q_16, .ref q_17, .ref q_18])), (q_3, .inl (k 0, 448, .inl (upd (fun _ => 0) 0 1)))] H := hP
  have hD : va_D A [(q_2, .inl (k 0, 448, .inl (upd (fun _ => 0) 0 0))), (q_0, .inr (2, [.ref q_4, .ref q_1, .ref q_5, .int 0, .int 1, .ref q_6, .ref q_2, .ref q_3, .int x_3, .int x_4, .int x_5, .ref q_7, .ref q_8, .ref q_9])), (q_1, .inr (4, [.int 0, .ref q_10, .int 0, .ref q_11, .ref q_12, .int x_6, .ref q_13, .ref q_14, .ref q_15, .int x_7, .ref q_16, .ref q_17, .ref q_18])), (q_3, .inl (k 0, 448, .inl (upd (fun _ => 0) 0 1)))] := hD
  refine lv_aload_n hx hb dX2_bestJoin_110 rfl (lv_at hl 2 rfl) ?_
  refine va_get (D := D) (ci := 2) (v := .ref q_2) (C := RX2) (T := TX2) (N := 14) hx hb hts inX2 hown hK hP 1 rfl rfl 6 (by decide) (hts _ kF_X2_22) (fun _ h9 => h9) rfl dX2_bestJoin_111 ?_
  refine lv_iconst (v := 0) hx hb dX2_bestJoin_114 (by decide) ?_
  refine va_iald hx hb hK hP 0 0 rfl rfl (by unfold vp_in; decide) dX2_bestJoin_115 ?_
  refine lv_toc (v := 0) rfl ?_
  refine lv_bipush (v := 8) hx hb dX2_bestJoin_116 (by decide) ?_
  refine lv_idiv hx hb dX2_bestJoin_118 (by decide) ?_
  refine lv_toc (v := 0) (by decide) ?_
  exact z_iret C0 hr hlk rfl hK hP hD hS (0, fun _ => 0) ⟨rfl, rfl⟩ [1, 2, 0, 3] rfl rfl rfl dX2_bestJoin_119

set_option maxHeartbeats 4000000 in
set_option maxRecDepth 100000 in
theorem c_X11_join_1 (l : Launch) (D : va_G) (k : Nat → ClassId) (q_0 : Nat) (q_1 : Nat) (q_2 : Nat) (q_3 : Nat) (q_4 : Nat) (q_5 : Nat) (q_6 : Nat) (q_7 : Nat) (q_8 : Nat) (q_9 : Nat) (q_10 : Nat) (q_11 : Nat) (q_12 : Nat) (q_13 : Nat) (q_14 : Nat) (q_15 : Nat) (q_16 : Nat) (q_17 : Nat) (q_18 : Nat) (q_19 : Nat) (q_20 : Nat) (q_21 : Nat) (q_22 : Nat) (q_23 : Nat) (x_0 : Int32) (x_1 : Int32) (x_2 : Int32) (x_3 : Int32) (x_4 : Int32) (x_5 : Int32) (x_6 : Int32) (x_7 : Int32) (x_8 : Int32) : zMi l yX11_join cX11_join 2 (some .int) ({ frames := 2, cells := 0, slots := 0, locals := 48 }) D k [.ref q_0, .int x_0] [(q_0, .inr (11, [.ref q_5, .ref q_6, .ref q_7, .ref q_8, .ref q_1, .int x_1])), (q_1, .inr (2, [.ref q_9, .ref q_2, .ref q_10, .int x_2, .int x_3, .ref q_11, .ref q_3, .ref q_4, .int x_4, .int x_5, .int x_6, .ref q_12, .ref q_13, .ref q_14])), (q_2, .inr (4, [.int 0, .ref q_15, .int 0, .ref q_16, .ref q_17, .int x_7, .ref q_18, .ref q_19, .ref q_20, .int x_8, .ref q_21, .ref q_22, .ref q_23])), (q_3, .inl (k 0, 448, .inl (fun _ => 0))), (q_4, .inl (k 0, 448, .inl (fun _ => 0)))] (fun r u => (u.1 = 0 ∧ r = (-1) ∧ ((((x_0 < 0) ∨ (¬ x_0 < 0 ∧ ¬ x_0 ≤ 8))))) ∨ (u.1 = 1 ∧ r = 0 ∧ ((((¬ x_0 < 0 ∧ x_0 ≤ 8)))))) (fun u => []) := by
  refine zMi_of (own := RX11) (by decide +kernel) rfl (Nat.le_of_ble_eq_true rfl) ?_
  intro p e s m args below meth c A ls C0 hr hlk hin hP hD hS hA hK hN hl
  have hx := C0.1
  have hb := C0.2.1
  have hml := C0.2.2.1
  have hown := C0.2.2.2.1
  have hts := C0.2.2.2.2
  have hl : lv_has ls 2 [(0, .ref q_0), (1, .int x_0)] := hl
  have hP : va_P D vwCl [(q_0, .inr (11, [.ref q_5, .ref q_6, .ref q_7, .ref q_8, .ref q_1, .int x_1])), (q_1, .inr (2, [.ref q_9, .ref q_2, .ref q_10, .int x_2, .int x_3, .ref q_11, .ref q_3, .ref q_4, .int x_4, .int x_5, .int x_6, .ref q_12, .ref q_13, .ref q_14])), (q_2, .inr (4, [.int 0, .ref q_15, .int 0, .ref q_16, .ref q_17, .int x_7, .ref q_18, .ref q_19, .ref q_20, .int x_8, .ref q_21, .ref q_22, .ref q_23])), (q_3, .inl (k 0, 448, .inl (fun _ => 0))), (q_4, .inl (k 0, 448, .inl (fun _ => 0)))] s.heap := hP
  refine lv_iload_n hx hb dX11_join_0 rfl (lv_at hl 1 rfl) ?_
  refine lv_iconst (v := 0) hx hb dX11_join_1 (by decide) ?_
  refine lv_bipush (v := 8) hx hb dX11_join_2 (by decide) ?_
  refine z_bi0 (z_runS (As := [.int x_0, .int 0, .int 8]) (rest := []) C0 (c_X11_isOutside_1 l D k x_0 0 8 _) okS_X11_isOutside kM_X11_47 rfl (z_p0 hK hN) rfl hl.1 rfl (Nat.le_of_ble_eq_true rfl) dX11_join_4 rfl) hP hS hA (fun r1 u1 H locs hw1 hP hS => ?_)
  obtain ⟨i1, a1⟩ := u1
  dsimp only at hw1
  rcases hw1 with ⟨rfl, rfl, c1⟩ | ⟨rfl, rfl, c1⟩
  · refine lv_if_eq (tgt := 12) hx hb dX11_join_7 (by decide) (fun c2 => absurd c2 (by decide)) (fun _ => ?_)
    refine lv_iconst (v := (-1)) hx hb dX11_join_10 (by decide) ?_
    exact z_iret C0 hr hlk rfl hK hP hD hS (0, fun _ => 0) (Or.inl ⟨rfl, rfl, c1⟩) [] rfl rfl rfl dX11_join_11
  · refine lv_if_eq (tgt := 12) hx hb dX11_join_7 (by decide) (fun _ => ?_) (fun c3 => absurd (by decide) c3)
    refine lv_aload_n hx hb dX11_join_12 rfl (lv_at hl 0 rfl) ?_
    refine va_get (D := D) (ci := 11) (v := .ref q_1) (C := RX11) (T := TX11) (N := 6) hx hb hts inX11 hown hK hP 0 rfl rfl 4 (by decide) (hts _ kF_X11_39) (fun _ h9 => h9) rfl dX11_join_13 ?_
    refine lv_iload_n hx hb dX11_join_16 rfl (lv_at hl 1 rfl) ?_
    refine z_bi (wr := [(q_0, .inr (11, [.ref q_5, .ref q_6, .ref q_7, .ref q_8, .ref q_1, .int x_1]))]) (z_runV (C := RX2) (As := [.int x_0]) (rest := []) C0 (c_X2_bestJoin_1 l D k q_1 q_2 q_3 q_4 q_9 q_10 q_11 q_12 q_13 q_14 q_15 q_16 q_17 q_18 q_19 q_20 q_21 q_22 q_23 x_0 x_2 x_3 x_4 x_5 x_6 x_7 x_8 _) okV_X2_bestJoin kM_X11_291 rfl (z_pV (q0 := 1) hK hN hP hD [1, 2, 3, 4] rfl rfl rfl rfl rfl) rfl hl.1 rfl (Nat.le_of_ble_eq_true rfl) dX11_join_17 rfl) hP hD hS hA [1, 2, 3, 4] [0] rfl rfl rfl rfl (fun r4 u4 H locs hw4 hP hD hS => ?_)
    obtain ⟨i4, a4⟩ := u4
    dsimp only at hw4
    obtain ⟨rfl, rfl⟩ := hw4
    have hP : va_P D vwCl [(q_0, .inr (11, [.ref q_5, .ref q_6, .ref q_7, .ref q_8, .ref q_1, .int x_1])), (q_1, .inr (2, [.ref q_9, .ref q_2, .ref q_10, .int 0, .int 1, .ref q_11, .ref q_3, .ref q_4, .int x_4, .int x_5, .int x_6, .ref q_12, .ref q_13, .ref q_14])), (q_2, .inr (4, [.int 0, .ref q_15, .int 0, .ref q_16, .ref q_17, .int x_7, .ref q_18, .ref q_19, .ref q_20, .int x_8, .ref q_21, .ref q_22, .ref q_23])), (q_3, .inl (k 0, 448, .inl (upd (fun _ => 0) 0 0))), (q_4, .inl (k 0, 448, .inl (upd (fun _ => 0) 0 1)))] H := hP
    have hD : va_D A [(q_0, .inr (11, [.ref q_5, .ref q_6, .ref q_7, .ref q_8, .ref q_1, .int x_1])), (q_1, .inr (2, [.ref q_9, .ref q_2, .ref q_10, .int 0, .int 1, .ref q_11, .ref q_3, .ref q_4, .int x_4, .int x_5, .int x_6, .ref q_12, .ref q_13, .ref q_14])), (q_2, .inr (4, [.int 0, .ref q_15, .int 0, .ref q_16, .ref q_17, .int x_7, .ref q_18, .ref q_19, .ref q_20, .int x_8, .ref q_21, .ref q_22, .ref q_23])), (q_3, .inl (k 0, 448, .inl (upd (fun _ => 0) 0 0))), (q_4, .inl (k 0, 448, .inl (upd (fun _ => 0) 0 1)))] := hD
    exact z_iret C0 hr hlk rfl hK hP hD hS (1, fun _ => 0) (Or.inr (⟨rfl, rfl, c1⟩)) [] rfl rfl rfl dX11_join_20

set_option maxHeartbeats 4000000 in
set_option maxRecDepth 100000 in
theorem c_X12_isJoin_1 (l : Launch) (D : va_G) (k : Nat → ClassId) (q_0 : Nat) (q_1 : Nat) (q_2 : Nat) (q_3 : Nat) (q_4 : Nat) (q_5 : Nat) (q_6 : Nat) (q_7 : Nat) (q_8 : Nat) (q_9 : Nat) (q_10 : Nat) (q_11 : Nat) (q_12 : Nat) (q_13 : Nat) (q_14 : Nat) (q_15 : Nat) (q_16 : Nat) (q_17 : Nat) (q_18 : Nat) (q_19 : Nat) (q_20 : Nat) (q_21 : Nat) (q_22 : Nat) (q_23 : Nat) (q_24 : Nat) (q_25 : Nat) (x_0 : Int32) (x_1 : Int32) (x_2 : Int32) (x_3 : Int32) (x_4 : Int32) (x_5 : Int32) (x_6 : Int32) (x_7 : Int32) (g_8 : Int64) (x_9 : Int32) (x_10 : Int32) (x_11 : Int32) (x_12 : Int32) (x_13 : Int32) (x_14 : Int32) (x_15 : Int32) (x_16 : Int32) (g_17 : Int64) (g_18 : Int64) (x_19 : Int32) (x_20 : Int32) (x_21 : Int32) (x_22 : Int32) (x_23 : Int32) (x_24 : Int32) (x_25 : Int32) (x_26 : Int32) (x_27 : Int32) (x_28 : Int32) (x_29 : Int32) (x_30 : Int32) (x_31 : Int32) : zMi l yX12_isJoin cX12_isJoin 5 (some .boolean) ({ frames := 0, cells := 0, slots := 0, locals := 0 }) D k [.ref q_0, .int x_0] [(q_0, .inr (12, [.int x_1, .int x_2, .ref q_1, .ref q_2, .ref q_3, .int x_3, .ref q_4, .ref q_5, .ref q_6, .ref q_7, .ref q_8, .int x_4, .int x_5, .int x_6, .int x_7, .long g_8, .int x_9, .int x_10, .int x_11, .ref q_9, .int x_12, .ref q_10, .ref q_11, .int x_13, .ref q_12, .ref q_13, .int x_14, .int x_15, .ref q_14, .ref q_15, .ref q_16, .ref q_17, .int x_16, .long g_17, .long g_18, .int x_19, .int x_20, .int x_21, .int x_22, .ref q_18, .ref q_19, .int x_23, .int x_24, .int x_25, .int x_26, .ref q_20, .ref q_21, .int x_27, .int x_28, .ref q_22, .ref q_23, .ref q_24, .ref q_25, .int x_29, .int x_30, .int x_31])), (q_1, .inl (k 0, 27101, .inl (fun _ => 0)))] (fun r u => u.1 = 0 ∧ r = 1) (fun u => [(q_0, .inr (12, [.int x_1, .int x_2, .ref q_1, .ref q_2, .ref q_3, .int x_3, .ref q_4, .ref q_5, .ref q_6, .ref q_7, .ref q_8, .int x_4, .int x_5, .int x_6, .int x_7, .long g_8, .int x_9, .int x_10, .int x_11, .ref q_9, .int x_12, .ref q_10, .ref q_11, .int x_13, .ref q_12, .ref q_13, .int x_14, .int x_15, .ref q_14, .ref q_15, .ref q_16, .ref q_17, .int x_16, .long g_17, .long g_18, .int x_19, .int x_20, .int x_21, .int x_22, .ref q_18, .ref q_19, .int x_23, .int x_24, .int x_25, .int x_26, .ref q_20, .ref q_21, .int 0, .int 0, .ref q_22, .ref q_23, .ref q_24, .ref q_25, .int x_29, .int x_30, .int x_31])), (q_1, .inl (k 0, 27101, .inl (fun _ => 0)))]) := by
  refine zMi_of (own := RX12) (by decide +kernel) rfl (Nat.le_of_ble_eq_true rfl) ?_
  intro p e s m args below meth c A ls C0 hr hlk hin hP hD hS hA hK hN hl
  have hx := C0.1
  have hb := C0.2.1
  have hml := C0.2.2.1
  have hown := C0.2.2.2.1
  have hts := C0.2.2.2.2
  have hl : lv_has ls 5 [(0, .ref q_0), (1, .int x_0)] := hl
  have hP : va_P D vwCl [(q_0, .inr (12, [.int x_1, .int x_2, .ref q_1, .ref q_2, .ref q_3, .int x_3, .ref q_4, .ref q_5, .ref q_6, .ref q_7, .ref q_8, .int x_4, .int x_5, .int x_6, .int x_7, .long g_8, .int x_9, .int x_10, .int x_11, .ref q_9, .int x_12, .ref q_10, .ref q_11, .int x_13, .ref q_12, .ref q_13, .int x_14, .int x_15, .ref q_14, .ref q_15, .ref q_16, .ref q_17, .int x_16, .long g_17, .long g_18, .int x_19, .int x_20, .int x_21, .int x_22, .ref q_18, .ref q_19, .int x_23, .int x_24, .int x_25, .int x_26, .ref q_20, .ref q_21, .int x_27, .int x_28, .ref q_22, .ref q_23, .ref q_24, .ref q_25, .int x_29, .int x_30, .int x_31])), (q_1, .inl (k 0, 27101, .inl (fun _ => 0)))] s.heap := hP
  refine lv_aload_n hx hb dX12_isJoin_0 rfl (lv_at hl 0 rfl) ?_
  refine lv_iconst (v := 0) hx hb dX12_isJoin_1 (by decide) ?_
  refine va_put (D := D) (ci := 12) (v := .int 0) (ty := .int) (C := RX12) (T := TX12) (N := 56) hx hb hts inX12 tyX12 tyX12_ok nmX12 hown hK hP hD hS 0 rfl rfl 47 (by decide) (hts _ kF_X12_498) (fun _ h9 => h9) rfl (by decide +kernel) rfl rfl (Nat.le_of_ble_eq_true rfl) dX12_isJoin_2 (fun H locs hP hD hS => ?_)
  have hP : va_P D vwCl [(q_0, .inr (12, [.int x_1, .int x_2, .ref q_1, .ref q_2, .ref q_3, .int x_3, .ref q_4, .ref q_5, .ref q_6, .ref q_7, .ref q_8, .int x_4, .int x_5, .int x_6, .int x_7, .long g_8, .int x_9, .int x_10, .int x_11, .ref q_9, .int x_12, .ref q_10, .ref q_11, .int x_13, .ref q_12, .ref q_13, .int x_14, .int x_15, .ref q_14, .ref q_15, .ref q_16, .ref q_17, .int x_16, .long g_17, .long g_18, .int x_19, .int x_20, .int x_21, .int x_22, .ref q_18, .ref q_19, .int x_23, .int x_24, .int x_25, .int x_26, .ref q_20, .ref q_21, .int 0, .int x_28, .ref q_22, .ref q_23, .ref q_24, .ref q_25, .int x_29, .int x_30, .int x_31])), (q_1, .inl (k 0, 27101, .inl (fun _ => 0)))] H := hP
  have hD : va_D A [(q_0, .inr (12, [.int x_1, .int x_2, .ref q_1, .ref q_2, .ref q_3, .int x_3, .ref q_4, .ref q_5, .ref q_6, .ref q_7, .ref q_8, .int x_4, .int x_5, .int x_6, .int x_7, .long g_8, .int x_9, .int x_10, .int x_11, .ref q_9, .int x_12, .ref q_10, .ref q_11, .int x_13, .ref q_12, .ref q_13, .int x_14, .int x_15, .ref q_14, .ref q_15, .ref q_16, .ref q_17, .int x_16, .long g_17, .long g_18, .int x_19, .int x_20, .int x_21, .int x_22, .ref q_18, .ref q_19, .int x_23, .int x_24, .int x_25, .int x_26, .ref q_20, .ref q_21, .int 0, .int x_28, .ref q_22, .ref q_23, .ref q_24, .ref q_25, .int x_29, .int x_30, .int x_31])), (q_1, .inl (k 0, 27101, .inl (fun _ => 0)))] := hD
  refine lv_aload_n hx hb dX12_isJoin_5 rfl (lv_at hl 0 rfl) ?_
  refine lv_iconst (v := 0) hx hb dX12_isJoin_6 (by decide) ?_
  refine va_put (D := D) (ci := 12) (v := .int 0) (ty := .int) (C := RX12) (T := TX12) (N := 56) hx hb hts inX12 tyX12 tyX12_ok nmX12 hown hK hP hD hS 0 rfl rfl 48 (by decide) (hts _ kF_X12_501) (fun _ h9 => h9) rfl (by decide +kernel) rfl rfl (Nat.le_of_ble_eq_true rfl) dX12_isJoin_7 (fun H locs hP hD hS => ?_)
  have hP : va_P D vwCl [(q_0, .inr (12, [.int x_1, .int x_2, .ref q_1, .ref q_2, .ref q_3, .int x_3, .ref q_4, .ref q_5, .ref q_6, .ref q_7, .ref q_8, .int x_4, .int x_5, .int x_6, .int x_7, .long g_8, .int x_9, .int x_10, .int x_11, .ref q_9, .int x_12, .ref q_10, .ref q_11, .int x_13, .ref q_12, .ref q_13, .int x_14, .int x_15, .ref q_14, .ref q_15, .ref q_16, .ref q_17, .int x_16, .long g_17, .long g_18, .int x_19, .int x_20, .int x_21, .int x_22, .ref q_18, .ref q_19, .int x_23, .int x_24, .int x_25, .int x_26, .ref q_20, .ref q_21, .int 0, .int 0, .ref q_22, .ref q_23, .ref q_24, .ref q_25, .int x_29, .int x_30, .int x_31])), (q_1, .inl (k 0, 27101, .inl (fun _ => 0)))] H := hP
  have hD : va_D A [(q_0, .inr (12, [.int x_1, .int x_2, .ref q_1, .ref q_2, .ref q_3, .int x_3, .ref q_4, .ref q_5, .ref q_6, .ref q_7, .ref q_8, .int x_4, .int x_5, .int x_6, .int x_7, .long g_8, .int x_9, .int x_10, .int x_11, .ref q_9, .int x_12, .ref q_10, .ref q_11, .int x_13, .ref q_12, .ref q_13, .int x_14, .int x_15, .ref q_14, .ref q_15, .ref q_16, .ref q_17, .int x_16, .long g_17, .long g_18, .int x_19, .int x_20, .int x_21, .int x_22, .ref q_18, .ref q_19, .int x_23, .int x_24, .int x_25, .int x_26, .ref q_20, .ref q_21, .int 0, .int 0, .ref q_22, .ref q_23, .ref q_24, .ref q_25, .int x_29, .int x_30, .int x_31])), (q_1, .inl (k 0, 27101, .inl (fun _ => 0)))] := hD
  refine lv_iconst (v := 0) hx hb dX12_isJoin_10 (by decide) ?_
  refine lv_istore_n (lv' := [(2, .int 0), (0, .ref q_0), (1, .int x_0)]) hx hb dX12_isJoin_11 rfl hl (by decide) rfl (fun ls hl => ?_)
  refine lv_iconst (v := 0) hx hb dX12_isJoin_12 (by decide) ?_
  refine lv_istore_n (lv' := [(3, .int 0), (2, .int 0), (0, .ref q_0), (1, .int x_0)]) hx hb dX12_isJoin_13 rfl hl (by decide) rfl (fun ls hl => ?_)
  refine lv_iload_n hx hb dX12_isJoin_14 rfl (lv_at hl 0 rfl) ?_
  refine lv_aload_n hx hb dX12_isJoin_15 rfl (lv_at hl 2 rfl) ?_
  refine va_get (D := D) (ci := 12) (v := .ref q_1) (C := RX12) (T := TX12) (N := 56) hx hb hts inX12 hown hK hP 0 rfl rfl 2 (by decide) (hts _ kF_X12_7) (fun _ h9 => h9) rfl dX12_isJoin_16 ?_
  refine lv_bipush (v := 6) hx hb dX12_isJoin_19 (by decide) ?_
  refine va_iald hx hb hK hP 1 0 rfl rfl (by unfold vp_in; decide) dX12_isJoin_21 ?_
  refine lv_toc (v := 0) rfl ?_
  refine lv_icmp_ge (tgt := 112) hx hb dX12_isJoin_22 (by decide) (fun _ => ?_) (fun c1 => absurd (by decide) c1)
  refine lv_iconst (v := 1) hx hb dX12_isJoin_112 (by decide) ?_
  exact z_iret C0 hr hlk rfl hK hP hD hS (0, fun _ => 0) ⟨rfl, rfl⟩ [0, 1] rfl rfl rfl dX12_isJoin_113
